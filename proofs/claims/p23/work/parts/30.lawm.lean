/-! ===== the law's methods, laid by wip/p23/gen/lawm23.py ===== -/
theorem RiW_sh {cI cJ : ClassId} {a : Nat → Nat} (r r2 : RiS) : (RiW cI cJ a r).map Prod.fst = (RiW cI cJ a r2).map Prod.fst := rfl
theorem gz_pO_sh {cs : List (Prop × String)} {v0 : Option Value} {W2 W0 : va_W} (h : W2.map Prod.fst = W0.map Prod.fst) : ∀ v W1, gz_pO cs v0 W2 v W1 → W1.map Prod.fst = W0.map Prod.fst := fun v W1 q => by rw [q.2.2]; exact h
/-- the law's numbers of the exceptions -/
def gz_kN (E : String) : Int := if E = xIO then -2000000001 else if E = xIA then -2000000002 else -2000000003
theorem gz_kN_O : gz_kN xIO = -2000000001 := if_pos rfl
theorem gz_kN_A : gz_kN xIA = -2000000002 := (if_neg (by decide)).trans (if_pos rfl)
theorem gz_kN_S : gz_kN xIS = -2000000003 := (if_neg (by decide)).trans (if_neg (by decide))
theorem clL_machine_13 : Cond.classLink RL 13 xIO ∈ wsL_machine := by decide +kernel
theorem knL_machine_15 : Cond.constant RL 15 (zI (-2000000001)) ∈ wsL_machine := by decide +kernel
theorem clL_machine_16 : Cond.classLink RL 16 xIA ∈ wsL_machine := by decide +kernel
theorem knL_machine_18 : Cond.constant RL 18 (zI (-2000000002)) ∈ wsL_machine := by decide +kernel
theorem clL_machine_19 : Cond.classLink RL 19 xIS ∈ wsL_machine := by decide +kernel
theorem knL_machine_21 : Cond.constant RL 21 (zI (-2000000003)) ∈ wsL_machine := by decide +kernel
set_option maxHeartbeats 4000000 in
set_option maxRecDepth 100000 in
theorem ctL_machine (l : Launch) (hfl : l.stackTraces = false) (D : va_G) (cI cJ cZ : ClassId) (a : Nat → Nat) (r : RiS) (p0 p1 : Int) (hr : RiI r) (h0 : -2147483648 ≤ p0 ∧ p0 < 2147483648) (h1 : -2147483648 ≤ p1 ∧ p1 < 2147483648) : gz_G l yL_machine wsL_machine { frames := 8, cells := 1, slots := 6, locals := 200 } D cI cJ cZ [.ref (a 0), vI p0, vI p1] (RiW cI cJ a r) (gz_pWG gz_kN (cd_machine r p0 p1) (some (vI (Mc_n (Pl_mc (Ri_P r))))) (RiW cI cJ a (Ri_tell r 0 p0 p1 0 0)) (RiW cI cJ a r)) 1 6 := by
  refine gh_ofH (cc := cL_machine) (maxL := 4) (own := RL) hfl (by decide) rfl rfl (Nat.le_of_ble_eq_true rfl) (lv0 := [(0, .ref (a 0)), (1, vI p0), (2, vI p1)]) rfl ?_
  intro p e s m args below meth c A Q htab F FX NC Z
  refine gz_aload_n (pc := 0) F dL_machine_0 rfl 0 rfl ?_
  refine gz_iload_n (pc := 1) F dL_machine_1 rfl 1 rfl ?_
  refine gz_iload_n (pc := 2) F dL_machine_2 rfl 2 rfl ?_
  refine gz_callVXb (pc := 3) (n := 2) (As := [vI p0, vI p1]) (rest := []) (bytes := cX8_machine) (maxL := 4) (ret := some .int) F FX (cx_X8_machine l hfl D cI cJ cZ a r p0 p1 hr h0 h1) gL_machine_X8_machine rfl ⟨rfl, rfl⟩ (by decide +kernel) ⟨Nat.le_of_ble_eq_true rfl, Nat.le_of_ble_eq_true rfl⟩ rfl [] [] ((List.append_nil _).symm) 8 rfl rfl rfl (Nat.le_of_ble_eq_true rfl) (by decide) (gz_pO_sh (RiW_sh _ _)) dL_machine_3 (fun v W1 hv => ?_) (fun E hE => ?_)
  · obtain ⟨hok, hv, hW⟩ := hv
    subst hv; subst hW
    refine gh_in ?_
    refine gh_eqw (ws2 := RiW cI cJ a (Ri_tell r 0 p0 p1 0 0)) (List.append_nil _) ?_
    exact Z _ _ 6 _ _ dL_machine_6 rfl (Or.inl ⟨hok, rfl, rfl, rfl⟩)
  · have hin : E ∈ [xIO, xIA, xIS] := gz_px_in hE
    have h3 : E = xIO ∨ E = xIA ∨ E = xIS := (show ∀ E ∈ [xIO, xIA, xIS], E = xIO ∨ E = xIA ∨ E = xIS by decide) E hin
    rcases h3 with rfl | rfl | rfl
    · refine gh_catch (pc := 3) F NC FX.2.1 htab [] ⟨0, 6, 7, 13⟩ [⟨0, 6, 11, 16⟩, ⟨0, 6, 15, 19⟩] rfl (by decide) (fun z hz => absurd hz List.not_mem_nil) (by decide) (by decide) clL_machine_13 (fun q => ?_)
      refine gh_astore_n (pc := 7) (lv2 := [(3, .ref q), (0, .ref (a 0)), (1, vI p0), (2, vI p1)]) F dL_machine_7 rfl (by decide) rfl ?_
      refine gh_ldc (pc := 8) (v := (-2000000001)) F knL_machine_15 dL_machine_8 ?_
      exact Z _ _ 10 _ _ dL_machine_10 rfl (Or.inr ⟨_, hE, by rw [gz_kN_O], rfl, rfl⟩)
    · refine gh_catch (pc := 3) F NC FX.2.1 htab [⟨0, 6, 7, 13⟩] ⟨0, 6, 11, 16⟩ [⟨0, 6, 15, 19⟩] rfl (by decide) (fun z hz => by
        have hz := List.mem_singleton.mp hz
        subst hz
        exact ⟨by decide, xIO, clL_machine_13, by decide⟩) (by decide) (by decide) clL_machine_16 (fun q => ?_)
      refine gh_astore_n (pc := 11) (lv2 := [(3, .ref q), (0, .ref (a 0)), (1, vI p0), (2, vI p1)]) F dL_machine_11 rfl (by decide) rfl ?_
      refine gh_ldc (pc := 12) (v := (-2000000002)) F knL_machine_18 dL_machine_12 ?_
      exact Z _ _ 14 _ _ dL_machine_14 rfl (Or.inr ⟨_, hE, by rw [gz_kN_A], rfl, rfl⟩)
    · refine gh_catch (pc := 3) F NC FX.2.1 htab [⟨0, 6, 7, 13⟩, ⟨0, 6, 11, 16⟩] ⟨0, 6, 15, 19⟩ [] rfl (by decide) (fun z hz => by
        rcases List.mem_cons.mp hz with hz | hz
        · subst hz
          exact ⟨by decide, xIO, clL_machine_13, by decide⟩
        · have hz := List.mem_singleton.mp hz
          subst hz
          exact ⟨by decide, xIA, clL_machine_16, by decide⟩) (by decide) (by decide) clL_machine_19 (fun q => ?_)
      refine gh_astore_n (pc := 15) (lv2 := [(3, .ref q), (0, .ref (a 0)), (1, vI p0), (2, vI p1)]) F dL_machine_15 rfl (by decide) rfl ?_
      refine gh_ldc (pc := 16) (v := (-2000000003)) F knL_machine_21 dL_machine_16 ?_
      exact Z _ _ 18 _ _ dL_machine_18 rfl (Or.inr ⟨_, hE, by rw [gz_kN_S], rfl, rfl⟩)

theorem clL_leave_13 : Cond.classLink RL 13 xIO ∈ wsL_leave := by decide +kernel
theorem knL_leave_15 : Cond.constant RL 15 (zI (-2000000001)) ∈ wsL_leave := by decide +kernel
theorem clL_leave_16 : Cond.classLink RL 16 xIA ∈ wsL_leave := by decide +kernel
theorem knL_leave_18 : Cond.constant RL 18 (zI (-2000000002)) ∈ wsL_leave := by decide +kernel
theorem clL_leave_19 : Cond.classLink RL 19 xIS ∈ wsL_leave := by decide +kernel
theorem knL_leave_21 : Cond.constant RL 21 (zI (-2000000003)) ∈ wsL_leave := by decide +kernel
set_option maxHeartbeats 4000000 in
set_option maxRecDepth 100000 in
theorem ctL_leave (l : Launch) (hfl : l.stackTraces = false) (D : va_G) (cI cJ cZ : ClassId) (a : Nat → Nat) (r : RiS) (p0 p1 p2 : Int) (hr : RiI r) (h0 : -2147483648 ≤ p0 ∧ p0 < 2147483648) (h1 : -2147483648 ≤ p1 ∧ p1 < 2147483648) (h2 : -2147483648 ≤ p2 ∧ p2 < 2147483648) : gz_G l yL_leave wsL_leave { frames := 8, cells := 1, slots := 6, locals := 200 } D cI cJ cZ [.ref (a 0), vI p0, vI p1, vI p2] (RiW cI cJ a r) (gz_pWG gz_kN (cd_leave r p0 p1 p2) (some (vI 0)) (RiW cI cJ a (Ri_tell r 1 p0 p1 p2 0)) (RiW cI cJ a r)) 1 6 := by
  refine gh_ofH (cc := cL_leave) (maxL := 5) (own := RL) hfl (by decide) rfl rfl (Nat.le_of_ble_eq_true rfl) (lv0 := [(0, .ref (a 0)), (1, vI p0), (2, vI p1), (3, vI p2)]) rfl ?_
  intro p e s m args below meth c A Q htab F FX NC Z
  refine gz_aload_n (pc := 0) F dL_leave_0 rfl 0 rfl ?_
  refine gz_iload_n (pc := 1) F dL_leave_1 rfl 1 rfl ?_
  refine gz_iload_n (pc := 2) F dL_leave_2 rfl 2 rfl ?_
  refine gz_iload_n (pc := 3) F dL_leave_3 rfl 3 rfl ?_
  refine gz_callVXb (pc := 4) (n := 3) (As := [vI p0, vI p1, vI p2]) (rest := []) (bytes := cX8_leave) (maxL := 5) (ret := none) F FX (cx_X8_leave l hfl D cI cJ cZ a r p0 p1 p2 hr h0 h1 h2) gL_leave_X8_leave rfl ⟨rfl, rfl⟩ (by decide +kernel) ⟨Nat.le_of_ble_eq_true rfl, Nat.le_of_ble_eq_true rfl⟩ rfl [] [] ((List.append_nil _).symm) 8 rfl rfl rfl (Nat.le_of_ble_eq_true rfl) (by decide) (gz_pO_sh (RiW_sh _ _)) dL_leave_4 (fun v W1 hv => ?_) (fun E hE => ?_)
  · obtain ⟨hok, hv, hW⟩ := hv
    subst hv; subst hW
    refine gh_in ?_
    refine gh_eqw (ws2 := RiW cI cJ a (Ri_tell r 1 p0 p1 p2 0)) (List.append_nil _) ?_
    refine gh_const (pc := 7) F dL_leave_7 ?_
    exact Z _ _ 8 _ _ dL_leave_8 rfl (Or.inl ⟨hok, rfl, rfl, rfl⟩)
  · have hin : E ∈ [xIO, xIA, xIA, xIS] := gz_px_in hE
    have h3 : E = xIO ∨ E = xIA ∨ E = xIS := (show ∀ E ∈ [xIO, xIA, xIA, xIS], E = xIO ∨ E = xIA ∨ E = xIS by decide) E hin
    rcases h3 with rfl | rfl | rfl
    · refine gh_catch (pc := 4) F NC FX.2.1 htab [] ⟨0, 8, 9, 13⟩ [⟨0, 8, 14, 16⟩, ⟨0, 8, 19, 19⟩] rfl (by decide) (fun z hz => absurd hz List.not_mem_nil) (by decide) (by decide) clL_leave_13 (fun q => ?_)
      refine gh_astore (pc := 9) (lv2 := [(4, .ref q), (0, .ref (a 0)), (1, vI p0), (2, vI p1), (3, vI p2)]) F dL_leave_9 (by decide) rfl ?_
      refine gh_ldc (pc := 11) (v := (-2000000001)) F knL_leave_15 dL_leave_11 ?_
      exact Z _ _ 13 _ _ dL_leave_13 rfl (Or.inr ⟨_, hE, by rw [gz_kN_O], rfl, rfl⟩)
    · refine gh_catch (pc := 4) F NC FX.2.1 htab [⟨0, 8, 9, 13⟩] ⟨0, 8, 14, 16⟩ [⟨0, 8, 19, 19⟩] rfl (by decide) (fun z hz => by
        have hz := List.mem_singleton.mp hz
        subst hz
        exact ⟨by decide, xIO, clL_leave_13, by decide⟩) (by decide) (by decide) clL_leave_16 (fun q => ?_)
      refine gh_astore (pc := 14) (lv2 := [(4, .ref q), (0, .ref (a 0)), (1, vI p0), (2, vI p1), (3, vI p2)]) F dL_leave_14 (by decide) rfl ?_
      refine gh_ldc (pc := 16) (v := (-2000000002)) F knL_leave_18 dL_leave_16 ?_
      exact Z _ _ 18 _ _ dL_leave_18 rfl (Or.inr ⟨_, hE, by rw [gz_kN_A], rfl, rfl⟩)
    · refine gh_catch (pc := 4) F NC FX.2.1 htab [⟨0, 8, 9, 13⟩, ⟨0, 8, 14, 16⟩] ⟨0, 8, 19, 19⟩ [] rfl (by decide) (fun z hz => by
        rcases List.mem_cons.mp hz with hz | hz
        · subst hz
          exact ⟨by decide, xIO, clL_leave_13, by decide⟩
        · have hz := List.mem_singleton.mp hz
          subst hz
          exact ⟨by decide, xIA, clL_leave_16, by decide⟩) (by decide) (by decide) clL_leave_19 (fun q => ?_)
      refine gh_astore (pc := 19) (lv2 := [(4, .ref q), (0, .ref (a 0)), (1, vI p0), (2, vI p1), (3, vI p2)]) F dL_leave_19 (by decide) rfl ?_
      refine gh_ldc (pc := 21) (v := (-2000000003)) F knL_leave_21 dL_leave_21 ?_
      exact Z _ _ 23 _ _ dL_leave_23 rfl (Or.inr ⟨_, hE, by rw [gz_kN_S], rfl, rfl⟩)

theorem clL_lend_13 : Cond.classLink RL 13 xIO ∈ wsL_lend := by decide +kernel
theorem knL_lend_15 : Cond.constant RL 15 (zI (-2000000001)) ∈ wsL_lend := by decide +kernel
theorem clL_lend_16 : Cond.classLink RL 16 xIA ∈ wsL_lend := by decide +kernel
theorem knL_lend_18 : Cond.constant RL 18 (zI (-2000000002)) ∈ wsL_lend := by decide +kernel
theorem clL_lend_19 : Cond.classLink RL 19 xIS ∈ wsL_lend := by decide +kernel
theorem knL_lend_21 : Cond.constant RL 21 (zI (-2000000003)) ∈ wsL_lend := by decide +kernel
set_option maxHeartbeats 4000000 in
set_option maxRecDepth 100000 in
theorem ctL_lend (l : Launch) (hfl : l.stackTraces = false) (D : va_G) (cI cJ cZ : ClassId) (a : Nat → Nat) (r : RiS) (p0 p1 p2 p3 : Int) (hr : RiI r) (h0 : -2147483648 ≤ p0 ∧ p0 < 2147483648) (h1 : -2147483648 ≤ p1 ∧ p1 < 2147483648) (h2 : -2147483648 ≤ p2 ∧ p2 < 2147483648) (h3 : -2147483648 ≤ p3 ∧ p3 < 2147483648) : gz_G l yL_lend wsL_lend { frames := 8, cells := 1, slots := 6, locals := 200 } D cI cJ cZ [.ref (a 0), vI p0, vI p1, vI p2, vI p3] (RiW cI cJ a r) (gz_pWG gz_kN (cd_lend r p0 p1 p2 p3) (some (vI 0)) (RiW cI cJ a (Ri_tell r 2 p0 p1 p2 p3)) (RiW cI cJ a r)) 1 6 := by
  refine gh_ofH (cc := cL_lend) (maxL := 6) (own := RL) hfl (by decide) rfl rfl (Nat.le_of_ble_eq_true rfl) (lv0 := [(0, .ref (a 0)), (1, vI p0), (2, vI p1), (3, vI p2), (4, vI p3)]) rfl ?_
  intro p e s m args below meth c A Q htab F FX NC Z
  refine gz_aload_n (pc := 0) F dL_lend_0 rfl 0 rfl ?_
  refine gz_iload_n (pc := 1) F dL_lend_1 rfl 1 rfl ?_
  refine gz_iload_n (pc := 2) F dL_lend_2 rfl 2 rfl ?_
  refine gz_iload_n (pc := 3) F dL_lend_3 rfl 3 rfl ?_
  refine gz_iload (pc := 4) F dL_lend_4 4 rfl ?_
  refine gz_callVXb (pc := 6) (n := 4) (As := [vI p0, vI p1, vI p2, vI p3]) (rest := []) (bytes := cX8_lend) (maxL := 5) (ret := none) F FX (cx_X8_lend l hfl D cI cJ cZ a r p0 p1 p2 p3 hr h0 h1 h2 h3) gL_lend_X8_lend rfl ⟨rfl, rfl⟩ (by decide +kernel) ⟨Nat.le_of_ble_eq_true rfl, Nat.le_of_ble_eq_true rfl⟩ rfl [] [] ((List.append_nil _).symm) 8 rfl rfl rfl (Nat.le_of_ble_eq_true rfl) (by decide) (gz_pO_sh (RiW_sh _ _)) dL_lend_6 (fun v W1 hv => ?_) (fun E hE => ?_)
  · obtain ⟨hok, hv, hW⟩ := hv
    subst hv; subst hW
    refine gh_in ?_
    refine gh_eqw (ws2 := RiW cI cJ a (Ri_tell r 2 p0 p1 p2 p3)) (List.append_nil _) ?_
    refine gh_const (pc := 9) F dL_lend_9 ?_
    exact Z _ _ 10 _ _ dL_lend_10 rfl (Or.inl ⟨hok, rfl, rfl, rfl⟩)
  · have hin : E ∈ [xIO, xIO, xIA, xIA, xIS] := gz_px_in hE
    have h3 : E = xIO ∨ E = xIA ∨ E = xIS := (show ∀ E ∈ [xIO, xIO, xIA, xIA, xIS], E = xIO ∨ E = xIA ∨ E = xIS by decide) E hin
    rcases h3 with rfl | rfl | rfl
    · refine gh_catch (pc := 6) F NC FX.2.1 htab [] ⟨0, 10, 11, 13⟩ [⟨0, 10, 16, 16⟩, ⟨0, 10, 21, 19⟩] rfl (by decide) (fun z hz => absurd hz List.not_mem_nil) (by decide) (by decide) clL_lend_13 (fun q => ?_)
      refine gh_astore (pc := 11) (lv2 := [(5, .ref q), (0, .ref (a 0)), (1, vI p0), (2, vI p1), (3, vI p2), (4, vI p3)]) F dL_lend_11 (by decide) rfl ?_
      refine gh_ldc (pc := 13) (v := (-2000000001)) F knL_lend_15 dL_lend_13 ?_
      exact Z _ _ 15 _ _ dL_lend_15 rfl (Or.inr ⟨_, hE, by rw [gz_kN_O], rfl, rfl⟩)
    · refine gh_catch (pc := 6) F NC FX.2.1 htab [⟨0, 10, 11, 13⟩] ⟨0, 10, 16, 16⟩ [⟨0, 10, 21, 19⟩] rfl (by decide) (fun z hz => by
        have hz := List.mem_singleton.mp hz
        subst hz
        exact ⟨by decide, xIO, clL_lend_13, by decide⟩) (by decide) (by decide) clL_lend_16 (fun q => ?_)
      refine gh_astore (pc := 16) (lv2 := [(5, .ref q), (0, .ref (a 0)), (1, vI p0), (2, vI p1), (3, vI p2), (4, vI p3)]) F dL_lend_16 (by decide) rfl ?_
      refine gh_ldc (pc := 18) (v := (-2000000002)) F knL_lend_18 dL_lend_18 ?_
      exact Z _ _ 20 _ _ dL_lend_20 rfl (Or.inr ⟨_, hE, by rw [gz_kN_A], rfl, rfl⟩)
    · refine gh_catch (pc := 6) F NC FX.2.1 htab [⟨0, 10, 11, 13⟩, ⟨0, 10, 16, 16⟩] ⟨0, 10, 21, 19⟩ [] rfl (by decide) (fun z hz => by
        rcases List.mem_cons.mp hz with hz | hz
        · subst hz
          exact ⟨by decide, xIO, clL_lend_13, by decide⟩
        · have hz := List.mem_singleton.mp hz
          subst hz
          exact ⟨by decide, xIA, clL_lend_16, by decide⟩) (by decide) (by decide) clL_lend_19 (fun q => ?_)
      refine gh_astore (pc := 21) (lv2 := [(5, .ref q), (0, .ref (a 0)), (1, vI p0), (2, vI p1), (3, vI p2), (4, vI p3)]) F dL_lend_21 (by decide) rfl ?_
      refine gh_ldc (pc := 23) (v := (-2000000003)) F knL_lend_21 dL_lend_23 ?_
      exact Z _ _ 25 _ _ dL_lend_25 rfl (Or.inr ⟨_, hE, by rw [gz_kN_S], rfl, rfl⟩)

theorem clL_breakDown_13 : Cond.classLink RL 13 xIO ∈ wsL_breakDown := by decide +kernel
theorem knL_breakDown_15 : Cond.constant RL 15 (zI (-2000000001)) ∈ wsL_breakDown := by decide +kernel
theorem clL_breakDown_16 : Cond.classLink RL 16 xIA ∈ wsL_breakDown := by decide +kernel
theorem knL_breakDown_18 : Cond.constant RL 18 (zI (-2000000002)) ∈ wsL_breakDown := by decide +kernel
set_option maxHeartbeats 4000000 in
set_option maxRecDepth 100000 in
theorem ctL_breakDown (l : Launch) (hfl : l.stackTraces = false) (D : va_G) (cI cJ cZ : ClassId) (a : Nat → Nat) (r : RiS) (p0 p1 : Int) (hr : RiI r) (h0 : -2147483648 ≤ p0 ∧ p0 < 2147483648) (h1 : -2147483648 ≤ p1 ∧ p1 < 2147483648) : gz_G l yL_breakDown wsL_breakDown { frames := 8, cells := 1, slots := 6, locals := 200 } D cI cJ cZ [.ref (a 0), vI p0, vI p1] (RiW cI cJ a r) (gz_pWG gz_kN (cd_breakDown r p0 p1) (some (vI ((if 0 < p1 then Mc_ru (Pl_mc (Ri_P r)) p0 else -1)))) (RiW cI cJ a (Ri_tell r 3 p0 p1 0 0)) (RiW cI cJ a r)) 1 6 := by
  refine gh_ofH (cc := cL_breakDown) (maxL := 4) (own := RL) hfl (by decide) rfl rfl (Nat.le_of_ble_eq_true rfl) (lv0 := [(0, .ref (a 0)), (1, vI p0), (2, vI p1)]) rfl ?_
  intro p e s m args below meth c A Q htab F FX NC Z
  refine gz_aload_n (pc := 0) F dL_breakDown_0 rfl 0 rfl ?_
  refine gz_iload_n (pc := 1) F dL_breakDown_1 rfl 1 rfl ?_
  refine gz_iload_n (pc := 2) F dL_breakDown_2 rfl 2 rfl ?_
  refine gz_callVXb (pc := 3) (n := 2) (As := [vI p0, vI p1]) (rest := []) (bytes := cX8_breakDown) (maxL := 4) (ret := some .int) F FX (cx_X8_breakDown l hfl D cI cJ cZ a r p0 p1 hr h0 h1) gL_breakDown_X8_breakDown rfl ⟨rfl, rfl⟩ (by decide +kernel) ⟨Nat.le_of_ble_eq_true rfl, Nat.le_of_ble_eq_true rfl⟩ rfl [] [] ((List.append_nil _).symm) 8 rfl rfl rfl (Nat.le_of_ble_eq_true rfl) (by decide) (gz_pO_sh (RiW_sh _ _)) dL_breakDown_3 (fun v W1 hv => ?_) (fun E hE => ?_)
  · obtain ⟨hok, hv, hW⟩ := hv
    subst hv; subst hW
    refine gh_in ?_
    refine gh_eqw (ws2 := RiW cI cJ a (Ri_tell r 3 p0 p1 0 0)) (List.append_nil _) ?_
    exact Z _ _ 6 _ _ dL_breakDown_6 rfl (Or.inl ⟨hok, rfl, rfl, rfl⟩)
  · have hin : E ∈ [xIO, xIA] := gz_px_in hE
    have h3 : E = xIO ∨ E = xIA := (show ∀ E ∈ [xIO, xIA], E = xIO ∨ E = xIA by decide) E hin
    rcases h3 with rfl | rfl
    · refine gh_catch (pc := 3) F NC FX.2.1 htab [] ⟨0, 6, 7, 13⟩ [⟨0, 6, 11, 16⟩] rfl (by decide) (fun z hz => absurd hz List.not_mem_nil) (by decide) (by decide) clL_breakDown_13 (fun q => ?_)
      refine gh_astore_n (pc := 7) (lv2 := [(3, .ref q), (0, .ref (a 0)), (1, vI p0), (2, vI p1)]) F dL_breakDown_7 rfl (by decide) rfl ?_
      refine gh_ldc (pc := 8) (v := (-2000000001)) F knL_breakDown_15 dL_breakDown_8 ?_
      exact Z _ _ 10 _ _ dL_breakDown_10 rfl (Or.inr ⟨_, hE, by rw [gz_kN_O], rfl, rfl⟩)
    · refine gh_catch (pc := 3) F NC FX.2.1 htab [⟨0, 6, 7, 13⟩] ⟨0, 6, 11, 16⟩ [] rfl (by decide) (fun z hz => by
        have hz := List.mem_singleton.mp hz
        subst hz
        exact ⟨by decide, xIO, clL_breakDown_13, by decide⟩) (by decide) (by decide) clL_breakDown_16 (fun q => ?_)
      refine gh_astore_n (pc := 11) (lv2 := [(3, .ref q), (0, .ref (a 0)), (1, vI p0), (2, vI p1)]) F dL_breakDown_11 rfl (by decide) rfl ?_
      refine gh_ldc (pc := 12) (v := (-2000000002)) F knL_breakDown_18 dL_breakDown_12 ?_
      exact Z _ _ 14 _ _ dL_breakDown_14 rfl (Or.inr ⟨_, hE, by rw [gz_kN_A], rfl, rfl⟩)

theorem clL_meeting_13 : Cond.classLink RL 13 xIO ∈ wsL_meeting := by decide +kernel
theorem knL_meeting_15 : Cond.constant RL 15 (zI (-2000000001)) ∈ wsL_meeting := by decide +kernel
theorem clL_meeting_16 : Cond.classLink RL 16 xIA ∈ wsL_meeting := by decide +kernel
theorem knL_meeting_18 : Cond.constant RL 18 (zI (-2000000002)) ∈ wsL_meeting := by decide +kernel
theorem clL_meeting_19 : Cond.classLink RL 19 xIS ∈ wsL_meeting := by decide +kernel
theorem knL_meeting_21 : Cond.constant RL 21 (zI (-2000000003)) ∈ wsL_meeting := by decide +kernel
set_option maxHeartbeats 4000000 in
set_option maxRecDepth 100000 in
theorem ctL_meeting (l : Launch) (hfl : l.stackTraces = false) (D : va_G) (cI cJ cZ : ClassId) (a : Nat → Nat) (r : RiS) (p0 p1 p2 p3 : Int) (hr : RiI r) (h0 : -2147483648 ≤ p0 ∧ p0 < 2147483648) (h1 : -2147483648 ≤ p1 ∧ p1 < 2147483648) (h2 : -2147483648 ≤ p2 ∧ p2 < 2147483648) (h3 : -2147483648 ≤ p3 ∧ p3 < 2147483648) : gz_G l yL_meeting wsL_meeting { frames := 8, cells := 1, slots := 6, locals := 200 } D cI cJ cZ [.ref (a 0), vI p0, vI p1, vI p2, vI p3] (RiW cI cJ a r) (gz_pWG gz_kN (cd_meeting r p0 p1 p2 p3) (some (vI (Mt_n (Pl_mt (Ri_P r))))) (RiW cI cJ a (Ri_tell r 4 p0 p1 p2 p3)) (RiW cI cJ a r)) 1 6 := by
  refine gh_ofH (cc := cL_meeting) (maxL := 6) (own := RL) hfl (by decide) rfl rfl (Nat.le_of_ble_eq_true rfl) (lv0 := [(0, .ref (a 0)), (1, vI p0), (2, vI p1), (3, vI p2), (4, vI p3)]) rfl ?_
  intro p e s m args below meth c A Q htab F FX NC Z
  refine gz_aload_n (pc := 0) F dL_meeting_0 rfl 0 rfl ?_
  refine gz_iload_n (pc := 1) F dL_meeting_1 rfl 1 rfl ?_
  refine gz_iload_n (pc := 2) F dL_meeting_2 rfl 2 rfl ?_
  refine gz_iload_n (pc := 3) F dL_meeting_3 rfl 3 rfl ?_
  refine gz_iload (pc := 4) F dL_meeting_4 4 rfl ?_
  refine gz_callVXb (pc := 6) (n := 4) (As := [vI p0, vI p1, vI p2, vI p3]) (rest := []) (bytes := cX8_meeting) (maxL := 6) (ret := some .int) F FX (cx_X8_meeting l hfl D cI cJ cZ a r p0 p1 p2 p3 hr h0 h1 h2 h3) gL_meeting_X8_meeting rfl ⟨rfl, rfl⟩ (by decide +kernel) ⟨Nat.le_of_ble_eq_true rfl, Nat.le_of_ble_eq_true rfl⟩ rfl [] [] ((List.append_nil _).symm) 8 rfl rfl rfl (Nat.le_of_ble_eq_true rfl) (by decide) (gz_pO_sh (RiW_sh _ _)) dL_meeting_6 (fun v W1 hv => ?_) (fun E hE => ?_)
  · obtain ⟨hok, hv, hW⟩ := hv
    subst hv; subst hW
    refine gh_in ?_
    refine gh_eqw (ws2 := RiW cI cJ a (Ri_tell r 4 p0 p1 p2 p3)) (List.append_nil _) ?_
    exact Z _ _ 9 _ _ dL_meeting_9 rfl (Or.inl ⟨hok, rfl, rfl, rfl⟩)
  · have hin : E ∈ [xIO, xIA, xIA, xIA, xIA, xIS, xIS] := gz_px_in hE
    have h3 : E = xIO ∨ E = xIA ∨ E = xIS := (show ∀ E ∈ [xIO, xIA, xIA, xIA, xIA, xIS, xIS], E = xIO ∨ E = xIA ∨ E = xIS by decide) E hin
    rcases h3 with rfl | rfl | rfl
    · refine gh_catch (pc := 6) F NC FX.2.1 htab [] ⟨0, 9, 10, 13⟩ [⟨0, 9, 15, 16⟩, ⟨0, 9, 20, 19⟩] rfl (by decide) (fun z hz => absurd hz List.not_mem_nil) (by decide) (by decide) clL_meeting_13 (fun q => ?_)
      refine gh_astore (pc := 10) (lv2 := [(5, .ref q), (0, .ref (a 0)), (1, vI p0), (2, vI p1), (3, vI p2), (4, vI p3)]) F dL_meeting_10 (by decide) rfl ?_
      refine gh_ldc (pc := 12) (v := (-2000000001)) F knL_meeting_15 dL_meeting_12 ?_
      exact Z _ _ 14 _ _ dL_meeting_14 rfl (Or.inr ⟨_, hE, by rw [gz_kN_O], rfl, rfl⟩)
    · refine gh_catch (pc := 6) F NC FX.2.1 htab [⟨0, 9, 10, 13⟩] ⟨0, 9, 15, 16⟩ [⟨0, 9, 20, 19⟩] rfl (by decide) (fun z hz => by
        have hz := List.mem_singleton.mp hz
        subst hz
        exact ⟨by decide, xIO, clL_meeting_13, by decide⟩) (by decide) (by decide) clL_meeting_16 (fun q => ?_)
      refine gh_astore (pc := 15) (lv2 := [(5, .ref q), (0, .ref (a 0)), (1, vI p0), (2, vI p1), (3, vI p2), (4, vI p3)]) F dL_meeting_15 (by decide) rfl ?_
      refine gh_ldc (pc := 17) (v := (-2000000002)) F knL_meeting_18 dL_meeting_17 ?_
      exact Z _ _ 19 _ _ dL_meeting_19 rfl (Or.inr ⟨_, hE, by rw [gz_kN_A], rfl, rfl⟩)
    · refine gh_catch (pc := 6) F NC FX.2.1 htab [⟨0, 9, 10, 13⟩, ⟨0, 9, 15, 16⟩] ⟨0, 9, 20, 19⟩ [] rfl (by decide) (fun z hz => by
        rcases List.mem_cons.mp hz with hz | hz
        · subst hz
          exact ⟨by decide, xIO, clL_meeting_13, by decide⟩
        · have hz := List.mem_singleton.mp hz
          subst hz
          exact ⟨by decide, xIA, clL_meeting_16, by decide⟩) (by decide) (by decide) clL_meeting_19 (fun q => ?_)
      refine gh_astore (pc := 20) (lv2 := [(5, .ref q), (0, .ref (a 0)), (1, vI p0), (2, vI p1), (3, vI p2), (4, vI p3)]) F dL_meeting_20 (by decide) rfl ?_
      refine gh_ldc (pc := 22) (v := (-2000000003)) F knL_meeting_21 dL_meeting_22 ?_
      exact Z _ _ 24 _ _ dL_meeting_24 rfl (Or.inr ⟨_, hE, by rw [gz_kN_S], rfl, rfl⟩)

theorem clL_move_13 : Cond.classLink RL 13 xIO ∈ wsL_move := by decide +kernel
theorem knL_move_15 : Cond.constant RL 15 (zI (-2000000001)) ∈ wsL_move := by decide +kernel
theorem clL_move_16 : Cond.classLink RL 16 xIA ∈ wsL_move := by decide +kernel
theorem knL_move_18 : Cond.constant RL 18 (zI (-2000000002)) ∈ wsL_move := by decide +kernel
theorem clL_move_19 : Cond.classLink RL 19 xIS ∈ wsL_move := by decide +kernel
theorem knL_move_21 : Cond.constant RL 21 (zI (-2000000003)) ∈ wsL_move := by decide +kernel
set_option maxHeartbeats 4000000 in
set_option maxRecDepth 100000 in
theorem ctL_move (l : Launch) (hfl : l.stackTraces = false) (D : va_G) (cI cJ cZ : ClassId) (a : Nat → Nat) (r : RiS) (p0 p1 : Int) (hr : RiI r) (h0 : -2147483648 ≤ p0 ∧ p0 < 2147483648) (h1 : -2147483648 ≤ p1 ∧ p1 < 2147483648) (hL : ∀ k, 0 ≤ k → k < Mt_n (Pl_mt (Ri_P r)) → 1 ≤ Mt_ln (Pl_mt (Ri_P r)) k) : gz_G l yL_move wsL_move { frames := 8, cells := 1, slots := 6, locals := 200 } D cI cJ cZ [.ref (a 0), vI p0, vI p1] (RiW cI cJ a r) (gz_pWG gz_kN (cd_move r p0 p1) (some (vI (bz (Pl_can (Ri_P r) p0 p1)))) (RiW cI cJ a (@ite _ (Pl_can (Ri_P r) p0 p1) (Classical.propDecidable _) (Ri_tell r 5 p0 p1 0 0) r)) (RiW cI cJ a r)) 1 6 := by
  refine gh_ofH (cc := cL_move) (maxL := 4) (own := RL) hfl (by decide) rfl rfl (Nat.le_of_ble_eq_true rfl) (lv0 := [(0, .ref (a 0)), (1, vI p0), (2, vI p1)]) rfl ?_
  intro p e s m args below meth c A Q htab F FX NC Z
  refine gz_aload_n (pc := 0) F dL_move_0 rfl 0 rfl ?_
  refine gz_iload_n (pc := 1) F dL_move_1 rfl 1 rfl ?_
  refine gz_iload_n (pc := 2) F dL_move_2 rfl 2 rfl ?_
  refine gz_callVXb (pc := 3) (n := 2) (As := [vI p0, vI p1]) (rest := []) (bytes := cX8_move) (maxL := 4) (ret := some .boolean) F FX (cx_X8_move l hfl D cI cJ cZ a r p0 p1 hr h0 h1 hL) gL_move_X8_move rfl ⟨rfl, rfl⟩ (by decide +kernel) ⟨Nat.le_of_ble_eq_true rfl, Nat.le_of_ble_eq_true rfl⟩ rfl [] [] ((List.append_nil _).symm) 8 rfl rfl rfl (Nat.le_of_ble_eq_true rfl) (by decide) (gz_pO_sh (RiW_sh _ _)) dL_move_3 (fun v W1 hv => ?_) (fun E hE => ?_)
  · obtain ⟨hok, hv, hW⟩ := hv
    subst hv; subst hW
    refine gh_in ?_
    refine gh_eqw (ws2 := RiW cI cJ a (@ite _ (Pl_can (Ri_P r) p0 p1) (Classical.propDecidable _) (Ri_tell r 5 p0 p1 0 0) r)) (List.append_nil _) ?_
    refine gh_if_eq (pc := 6) (tgt := 13) F dL_move_6 (by decide) (by have hq := bz_r (Pl_can (Ri_P r) p0 p1); omega) (fun hb => ?_) (fun hb => ?_)
    · refine gh_const (pc := 13) F dL_move_13 ?_
      exact Z _ _ 14 _ _ dL_move_14 rfl (Or.inl ⟨hok, by rw [hb], rfl, rfl⟩)
    · refine gh_const (pc := 9) F dL_move_9 ?_
      refine gh_goto (pc := 10) (tgt := 14) F dL_move_10 (by decide) ?_
      exact Z _ _ 14 _ _ dL_move_14 rfl (Or.inl ⟨hok, by rw [bz_t (bz_n hb)], rfl, rfl⟩)
  · have hin : E ∈ [xIO, xIA, xIA, xIS] := gz_px_in hE
    have h3 : E = xIO ∨ E = xIA ∨ E = xIS := (show ∀ E ∈ [xIO, xIA, xIA, xIS], E = xIO ∨ E = xIA ∨ E = xIS by decide) E hin
    rcases h3 with rfl | rfl | rfl
    · refine gh_catch (pc := 3) F NC FX.2.1 htab [] ⟨0, 14, 15, 13⟩ [⟨0, 14, 19, 16⟩, ⟨0, 14, 23, 19⟩] rfl (by decide) (fun z hz => absurd hz List.not_mem_nil) (by decide) (by decide) clL_move_13 (fun q => ?_)
      refine gh_astore_n (pc := 15) (lv2 := [(3, .ref q), (0, .ref (a 0)), (1, vI p0), (2, vI p1)]) F dL_move_15 rfl (by decide) rfl ?_
      refine gh_ldc (pc := 16) (v := (-2000000001)) F knL_move_15 dL_move_16 ?_
      exact Z _ _ 18 _ _ dL_move_18 rfl (Or.inr ⟨_, hE, by rw [gz_kN_O], rfl, rfl⟩)
    · refine gh_catch (pc := 3) F NC FX.2.1 htab [⟨0, 14, 15, 13⟩] ⟨0, 14, 19, 16⟩ [⟨0, 14, 23, 19⟩] rfl (by decide) (fun z hz => by
        have hz := List.mem_singleton.mp hz
        subst hz
        exact ⟨by decide, xIO, clL_move_13, by decide⟩) (by decide) (by decide) clL_move_16 (fun q => ?_)
      refine gh_astore_n (pc := 19) (lv2 := [(3, .ref q), (0, .ref (a 0)), (1, vI p0), (2, vI p1)]) F dL_move_19 rfl (by decide) rfl ?_
      refine gh_ldc (pc := 20) (v := (-2000000002)) F knL_move_18 dL_move_20 ?_
      exact Z _ _ 22 _ _ dL_move_22 rfl (Or.inr ⟨_, hE, by rw [gz_kN_A], rfl, rfl⟩)
    · refine gh_catch (pc := 3) F NC FX.2.1 htab [⟨0, 14, 15, 13⟩, ⟨0, 14, 19, 16⟩] ⟨0, 14, 23, 19⟩ [] rfl (by decide) (fun z hz => by
        rcases List.mem_cons.mp hz with hz | hz
        · subst hz
          exact ⟨by decide, xIO, clL_move_13, by decide⟩
        · have hz := List.mem_singleton.mp hz
          subst hz
          exact ⟨by decide, xIA, clL_move_16, by decide⟩) (by decide) (by decide) clL_move_19 (fun q => ?_)
      refine gh_astore_n (pc := 23) (lv2 := [(3, .ref q), (0, .ref (a 0)), (1, vI p0), (2, vI p1)]) F dL_move_23 rfl (by decide) rfl ?_
      refine gh_ldc (pc := 24) (v := (-2000000003)) F knL_move_21 dL_move_24 ?_
      exact Z _ _ 26 _ _ dL_move_26 rfl (Or.inr ⟨_, hE, by rw [gz_kN_S], rfl, rfl⟩)

theorem clL_cancel_13 : Cond.classLink RL 13 xIO ∈ wsL_cancel := by decide +kernel
theorem knL_cancel_15 : Cond.constant RL 15 (zI (-2000000001)) ∈ wsL_cancel := by decide +kernel
theorem clL_cancel_19 : Cond.classLink RL 19 xIS ∈ wsL_cancel := by decide +kernel
theorem knL_cancel_21 : Cond.constant RL 21 (zI (-2000000003)) ∈ wsL_cancel := by decide +kernel
set_option maxHeartbeats 4000000 in
set_option maxRecDepth 100000 in
theorem ctL_cancel (l : Launch) (hfl : l.stackTraces = false) (D : va_G) (cI cJ cZ : ClassId) (a : Nat → Nat) (r : RiS) (p0 : Int) (hr : RiI r) (h0 : -2147483648 ≤ p0 ∧ p0 < 2147483648) : gz_G l yL_cancel wsL_cancel { frames := 8, cells := 1, slots := 6, locals := 200 } D cI cJ cZ [.ref (a 0), vI p0] (RiW cI cJ a r) (gz_pWG gz_kN (cd_cancel r p0) (some (vI 0)) (RiW cI cJ a (Ri_tell r 6 p0 0 0 0)) (RiW cI cJ a r)) 1 6 := by
  refine gh_ofH (cc := cL_cancel) (maxL := 3) (own := RL) hfl (by decide) rfl rfl (Nat.le_of_ble_eq_true rfl) (lv0 := [(0, .ref (a 0)), (1, vI p0)]) rfl ?_
  intro p e s m args below meth c A Q htab F FX NC Z
  refine gz_aload_n (pc := 0) F dL_cancel_0 rfl 0 rfl ?_
  refine gz_iload_n (pc := 1) F dL_cancel_1 rfl 1 rfl ?_
  refine gz_callVXb (pc := 2) (n := 1) (As := [vI p0]) (rest := []) (bytes := cX8_cancel) (maxL := 2) (ret := none) F FX (cx_X8_cancel l hfl D cI cJ cZ a r p0 hr h0) gL_cancel_X8_cancel rfl ⟨rfl, rfl⟩ (by decide +kernel) ⟨Nat.le_of_ble_eq_true rfl, Nat.le_of_ble_eq_true rfl⟩ rfl [] [] ((List.append_nil _).symm) 8 rfl rfl rfl (Nat.le_of_ble_eq_true rfl) (by decide) (gz_pO_sh (RiW_sh _ _)) dL_cancel_2 (fun v W1 hv => ?_) (fun E hE => ?_)
  · obtain ⟨hok, hv, hW⟩ := hv
    subst hv; subst hW
    refine gh_in ?_
    refine gh_eqw (ws2 := RiW cI cJ a (Ri_tell r 6 p0 0 0 0)) (List.append_nil _) ?_
    refine gh_const (pc := 5) F dL_cancel_5 ?_
    exact Z _ _ 6 _ _ dL_cancel_6 rfl (Or.inl ⟨hok, rfl, rfl, rfl⟩)
  · have hin : E ∈ [xIO, xIS] := gz_px_in hE
    have h3 : E = xIO ∨ E = xIS := (show ∀ E ∈ [xIO, xIS], E = xIO ∨ E = xIS by decide) E hin
    rcases h3 with rfl | rfl
    · refine gh_catch (pc := 2) F NC FX.2.1 htab [] ⟨0, 6, 7, 13⟩ [⟨0, 6, 11, 19⟩] rfl (by decide) (fun z hz => absurd hz List.not_mem_nil) (by decide) (by decide) clL_cancel_13 (fun q => ?_)
      refine gh_astore_n (pc := 7) (lv2 := [(2, .ref q), (0, .ref (a 0)), (1, vI p0)]) F dL_cancel_7 rfl (by decide) rfl ?_
      refine gh_ldc (pc := 8) (v := (-2000000001)) F knL_cancel_15 dL_cancel_8 ?_
      exact Z _ _ 10 _ _ dL_cancel_10 rfl (Or.inr ⟨_, hE, by rw [gz_kN_O], rfl, rfl⟩)
    · refine gh_catch (pc := 2) F NC FX.2.1 htab [⟨0, 6, 7, 13⟩] ⟨0, 6, 11, 19⟩ [] rfl (by decide) (fun z hz => by
        have hz := List.mem_singleton.mp hz
        subst hz
        exact ⟨by decide, xIO, clL_cancel_13, by decide⟩) (by decide) (by decide) clL_cancel_19 (fun q => ?_)
      refine gh_astore_n (pc := 11) (lv2 := [(2, .ref q), (0, .ref (a 0)), (1, vI p0)]) F dL_cancel_11 rfl (by decide) rfl ?_
      refine gh_ldc (pc := 12) (v := (-2000000003)) F knL_cancel_21 dL_cancel_12 ?_
      exact Z _ _ 14 _ _ dL_cancel_14 rfl (Or.inr ⟨_, hE, by rw [gz_kN_S], rfl, rfl⟩)

theorem clL_swap_13 : Cond.classLink RL 13 xIO ∈ wsL_swap := by decide +kernel
theorem knL_swap_15 : Cond.constant RL 15 (zI (-2000000001)) ∈ wsL_swap := by decide +kernel
theorem clL_swap_16 : Cond.classLink RL 16 xIA ∈ wsL_swap := by decide +kernel
theorem knL_swap_18 : Cond.constant RL 18 (zI (-2000000002)) ∈ wsL_swap := by decide +kernel
theorem clL_swap_19 : Cond.classLink RL 19 xIS ∈ wsL_swap := by decide +kernel
theorem knL_swap_21 : Cond.constant RL 21 (zI (-2000000003)) ∈ wsL_swap := by decide +kernel
set_option maxHeartbeats 4000000 in
set_option maxRecDepth 100000 in
theorem ctL_swap (l : Launch) (hfl : l.stackTraces = false) (D : va_G) (cI cJ cZ : ClassId) (a : Nat → Nat) (r : RiS) (p0 p1 : Int) (hr : RiI r) (h0 : -2147483648 ≤ p0 ∧ p0 < 2147483648) (h1 : -2147483648 ≤ p1 ∧ p1 < 2147483648) : gz_G l yL_swap wsL_swap { frames := 8, cells := 1, slots := 6, locals := 200 } D cI cJ cZ [.ref (a 0), vI p0, vI p1] (RiW cI cJ a r) (gz_pWG gz_kN (cd_swap r p0 p1) (some (vI (Sw_n (Ri_S r)))) (RiW cI cJ a (Ri_setS r (Sw_add (Ri_S r) p0 (Mt_mv (Pl_mt (Ri_P r)) p0) p1 (Mt_mv (Pl_mt (Ri_P r)) p1)))) (RiW cI cJ a r)) 1 6 := by
  refine gh_ofH (cc := cL_swap) (maxL := 4) (own := RL) hfl (by decide) rfl rfl (Nat.le_of_ble_eq_true rfl) (lv0 := [(0, .ref (a 0)), (1, vI p0), (2, vI p1)]) rfl ?_
  intro p e s m args below meth c A Q htab F FX NC Z
  refine gz_aload_n (pc := 0) F dL_swap_0 rfl 0 rfl ?_
  refine gz_iload_n (pc := 1) F dL_swap_1 rfl 1 rfl ?_
  refine gz_iload_n (pc := 2) F dL_swap_2 rfl 2 rfl ?_
  refine gz_callVXb (pc := 3) (n := 2) (As := [vI p0, vI p1]) (rest := []) (bytes := cX8_swap) (maxL := 4) (ret := some .int) F FX (cx_X8_swap l hfl D cI cJ cZ a r p0 p1 hr h0 h1) gL_swap_X8_swap rfl ⟨rfl, rfl⟩ (by decide +kernel) ⟨Nat.le_of_ble_eq_true rfl, Nat.le_of_ble_eq_true rfl⟩ rfl [] [] ((List.append_nil _).symm) 8 rfl rfl rfl (Nat.le_of_ble_eq_true rfl) (by decide) (gz_pO_sh (RiW_sh _ _)) dL_swap_3 (fun v W1 hv => ?_) (fun E hE => ?_)
  · obtain ⟨hok, hv, hW⟩ := hv
    subst hv; subst hW
    refine gh_in ?_
    refine gh_eqw (ws2 := RiW cI cJ a (Ri_setS r (Sw_add (Ri_S r) p0 (Mt_mv (Pl_mt (Ri_P r)) p0) p1 (Mt_mv (Pl_mt (Ri_P r)) p1)))) (List.append_nil _) ?_
    exact Z _ _ 6 _ _ dL_swap_6 rfl (Or.inl ⟨hok, rfl, rfl, rfl⟩)
  · have hin : E ∈ [xIO, xIO, xIA, xIS, xIS, xIS] := gz_px_in hE
    have h3 : E = xIO ∨ E = xIA ∨ E = xIS := (show ∀ E ∈ [xIO, xIO, xIA, xIS, xIS, xIS], E = xIO ∨ E = xIA ∨ E = xIS by decide) E hin
    rcases h3 with rfl | rfl | rfl
    · refine gh_catch (pc := 3) F NC FX.2.1 htab [] ⟨0, 6, 7, 13⟩ [⟨0, 6, 11, 16⟩, ⟨0, 6, 15, 19⟩] rfl (by decide) (fun z hz => absurd hz List.not_mem_nil) (by decide) (by decide) clL_swap_13 (fun q => ?_)
      refine gh_astore_n (pc := 7) (lv2 := [(3, .ref q), (0, .ref (a 0)), (1, vI p0), (2, vI p1)]) F dL_swap_7 rfl (by decide) rfl ?_
      refine gh_ldc (pc := 8) (v := (-2000000001)) F knL_swap_15 dL_swap_8 ?_
      exact Z _ _ 10 _ _ dL_swap_10 rfl (Or.inr ⟨_, hE, by rw [gz_kN_O], rfl, rfl⟩)
    · refine gh_catch (pc := 3) F NC FX.2.1 htab [⟨0, 6, 7, 13⟩] ⟨0, 6, 11, 16⟩ [⟨0, 6, 15, 19⟩] rfl (by decide) (fun z hz => by
        have hz := List.mem_singleton.mp hz
        subst hz
        exact ⟨by decide, xIO, clL_swap_13, by decide⟩) (by decide) (by decide) clL_swap_16 (fun q => ?_)
      refine gh_astore_n (pc := 11) (lv2 := [(3, .ref q), (0, .ref (a 0)), (1, vI p0), (2, vI p1)]) F dL_swap_11 rfl (by decide) rfl ?_
      refine gh_ldc (pc := 12) (v := (-2000000002)) F knL_swap_18 dL_swap_12 ?_
      exact Z _ _ 14 _ _ dL_swap_14 rfl (Or.inr ⟨_, hE, by rw [gz_kN_A], rfl, rfl⟩)
    · refine gh_catch (pc := 3) F NC FX.2.1 htab [⟨0, 6, 7, 13⟩, ⟨0, 6, 11, 16⟩] ⟨0, 6, 15, 19⟩ [] rfl (by decide) (fun z hz => by
        rcases List.mem_cons.mp hz with hz | hz
        · subst hz
          exact ⟨by decide, xIO, clL_swap_13, by decide⟩
        · have hz := List.mem_singleton.mp hz
          subst hz
          exact ⟨by decide, xIA, clL_swap_16, by decide⟩) (by decide) (by decide) clL_swap_19 (fun q => ?_)
      refine gh_astore_n (pc := 15) (lv2 := [(3, .ref q), (0, .ref (a 0)), (1, vI p0), (2, vI p1)]) F dL_swap_15 rfl (by decide) rfl ?_
      refine gh_ldc (pc := 16) (v := (-2000000003)) F knL_swap_21 dL_swap_16 ?_
      exact Z _ _ 18 _ _ dL_swap_18 rfl (Or.inr ⟨_, hE, by rw [gz_kN_S], rfl, rfl⟩)

theorem clL_agree_13 : Cond.classLink RL 13 xIO ∈ wsL_agree := by decide +kernel
theorem knL_agree_15 : Cond.constant RL 15 (zI (-2000000001)) ∈ wsL_agree := by decide +kernel
theorem clL_agree_19 : Cond.classLink RL 19 xIS ∈ wsL_agree := by decide +kernel
theorem knL_agree_21 : Cond.constant RL 21 (zI (-2000000003)) ∈ wsL_agree := by decide +kernel
set_option maxHeartbeats 4000000 in
set_option maxRecDepth 100000 in
theorem ctL_agree (l : Launch) (hfl : l.stackTraces = false) (D : va_G) (cI cJ cZ : ClassId) (a : Nat → Nat) (r : RiS) (p0 p1 : Int) (hr : RiI r) (h0 : -2147483648 ≤ p0 ∧ p0 < 2147483648) (h1 : -2147483648 ≤ p1 ∧ p1 < 2147483648) (hL : ∀ k, 0 ≤ k → k < Mt_n (Pl_mt (Ri_P r)) → 1 ≤ Mt_ln (Pl_mt (Ri_P r)) k) : gz_G l yL_agree wsL_agree { frames := 8, cells := 1, slots := 6, locals := 200 } D cI cJ cZ [.ref (a 0), vI p0, vI p1] (RiW cI cJ a r) (gz_pWG gz_kN (cd_agree r p0 p1) (some (vI (Sw_st (Ri_S (Ri_agr r p0 p1)) p1))) (RiW cI cJ a (Ri_agr r p0 p1)) (RiW cI cJ a r)) 1 6 := by
  refine gh_ofH (cc := cL_agree) (maxL := 4) (own := RL) hfl (by decide) rfl rfl (Nat.le_of_ble_eq_true rfl) (lv0 := [(0, .ref (a 0)), (1, vI p0), (2, vI p1)]) rfl ?_
  intro p e s m args below meth c A Q htab F FX NC Z
  refine gz_aload_n (pc := 0) F dL_agree_0 rfl 0 rfl ?_
  refine gz_iload_n (pc := 1) F dL_agree_1 rfl 1 rfl ?_
  refine gz_iload_n (pc := 2) F dL_agree_2 rfl 2 rfl ?_
  refine gz_callVXb (pc := 3) (n := 2) (As := [vI p0, vI p1]) (rest := []) (bytes := cX8_agree) (maxL := 4) (ret := some .int) F FX (cx_X8_agree l hfl D cI cJ cZ a r p0 p1 hr h0 h1 hL) gL_agree_X8_agree rfl ⟨rfl, rfl⟩ (by decide +kernel) ⟨Nat.le_of_ble_eq_true rfl, Nat.le_of_ble_eq_true rfl⟩ rfl [] [] ((List.append_nil _).symm) 8 rfl rfl rfl (Nat.le_of_ble_eq_true rfl) (by decide) (gz_pO_sh (RiW_sh _ _)) dL_agree_3 (fun v W1 hv => ?_) (fun E hE => ?_)
  · obtain ⟨hok, hv, hW⟩ := hv
    subst hv; subst hW
    refine gh_in ?_
    refine gh_eqw (ws2 := RiW cI cJ a (Ri_agr r p0 p1)) (List.append_nil _) ?_
    exact Z _ _ 6 _ _ dL_agree_6 rfl (Or.inl ⟨hok, rfl, rfl, rfl⟩)
  · have hin : E ∈ [xIO, xIO, xIS, xIS] := gz_px_in hE
    have h3 : E = xIO ∨ E = xIS := (show ∀ E ∈ [xIO, xIO, xIS, xIS], E = xIO ∨ E = xIS by decide) E hin
    rcases h3 with rfl | rfl
    · refine gh_catch (pc := 3) F NC FX.2.1 htab [] ⟨0, 6, 7, 13⟩ [⟨0, 6, 11, 19⟩] rfl (by decide) (fun z hz => absurd hz List.not_mem_nil) (by decide) (by decide) clL_agree_13 (fun q => ?_)
      refine gh_astore_n (pc := 7) (lv2 := [(3, .ref q), (0, .ref (a 0)), (1, vI p0), (2, vI p1)]) F dL_agree_7 rfl (by decide) rfl ?_
      refine gh_ldc (pc := 8) (v := (-2000000001)) F knL_agree_15 dL_agree_8 ?_
      exact Z _ _ 10 _ _ dL_agree_10 rfl (Or.inr ⟨_, hE, by rw [gz_kN_O], rfl, rfl⟩)
    · refine gh_catch (pc := 3) F NC FX.2.1 htab [⟨0, 6, 7, 13⟩] ⟨0, 6, 11, 19⟩ [] rfl (by decide) (fun z hz => by
        have hz := List.mem_singleton.mp hz
        subst hz
        exact ⟨by decide, xIO, clL_agree_13, by decide⟩) (by decide) (by decide) clL_agree_19 (fun q => ?_)
      refine gh_astore_n (pc := 11) (lv2 := [(3, .ref q), (0, .ref (a 0)), (1, vI p0), (2, vI p1)]) F dL_agree_11 rfl (by decide) rfl ?_
      refine gh_ldc (pc := 12) (v := (-2000000003)) F knL_agree_21 dL_agree_12 ?_
      exact Z _ _ 14 _ _ dL_agree_14 rfl (Or.inr ⟨_, hE, by rw [gz_kN_S], rfl, rfl⟩)

theorem clL_build_16 : Cond.classLink RL 16 xIA ∈ wsL_build := by decide +kernel
theorem knL_build_18 : Cond.constant RL 18 (zI (-2000000002)) ∈ wsL_build := by decide +kernel
theorem clL_build_19 : Cond.classLink RL 19 xIS ∈ wsL_build := by decide +kernel
theorem knL_build_21 : Cond.constant RL 21 (zI (-2000000003)) ∈ wsL_build := by decide +kernel
set_option maxHeartbeats 4000000 in
set_option maxRecDepth 100000 in
theorem ctL_build (l : Launch) (hfl : l.stackTraces = false) (D : va_G) (cI cJ cZ : ClassId) (a : Nat → Nat) (r : RiS) (p0 p1 p2 : Int) (hr : RiI r) (h0 : -2147483648 ≤ p0 ∧ p0 < 2147483648) (h1 : -2147483648 ≤ p1 ∧ p1 < 2147483648) (h2 : -2147483648 ≤ p2 ∧ p2 < 2147483648) : gz_G l yL_build wsL_build { frames := 8, cells := 1, slots := 6, locals := 200 } D cI cJ cZ [.ref (a 0), vI p0, vI p1, vI p2] (RiW cI cJ a r) (gz_pWG gz_kN (cd_build r p0 p1 p2) (some (vI (Bu_n (Pl_bu (Ri_P r))))) (RiW cI cJ a (Ri_tell r 8 p0 p1 p2 0)) (RiW cI cJ a r)) 1 6 := by
  refine gh_ofH (cc := cL_build) (maxL := 5) (own := RL) hfl (by decide) rfl rfl (Nat.le_of_ble_eq_true rfl) (lv0 := [(0, .ref (a 0)), (1, vI p0), (2, vI p1), (3, vI p2)]) rfl ?_
  intro p e s m args below meth c A Q htab F FX NC Z
  refine gz_aload_n (pc := 0) F dL_build_0 rfl 0 rfl ?_
  refine gz_iload_n (pc := 1) F dL_build_1 rfl 1 rfl ?_
  refine gz_iload_n (pc := 2) F dL_build_2 rfl 2 rfl ?_
  refine gz_iload_n (pc := 3) F dL_build_3 rfl 3 rfl ?_
  refine gz_callVXb (pc := 4) (n := 3) (As := [vI p0, vI p1, vI p2]) (rest := []) (bytes := cX8_build) (maxL := 5) (ret := some .int) F FX (cx_X8_build l hfl D cI cJ cZ a r p0 p1 p2 hr h0 h1 h2) gL_build_X8_build rfl ⟨rfl, rfl⟩ (by decide +kernel) ⟨Nat.le_of_ble_eq_true rfl, Nat.le_of_ble_eq_true rfl⟩ rfl [] [] ((List.append_nil _).symm) 8 rfl rfl rfl (Nat.le_of_ble_eq_true rfl) (by decide) (gz_pO_sh (RiW_sh _ _)) dL_build_4 (fun v W1 hv => ?_) (fun E hE => ?_)
  · obtain ⟨hok, hv, hW⟩ := hv
    subst hv; subst hW
    refine gh_in ?_
    refine gh_eqw (ws2 := RiW cI cJ a (Ri_tell r 8 p0 p1 p2 0)) (List.append_nil _) ?_
    exact Z _ _ 7 _ _ dL_build_7 rfl (Or.inl ⟨hok, rfl, rfl, rfl⟩)
  · have hin : E ∈ [xIA, xIA, xIA, xIS] := gz_px_in hE
    have h3 : E = xIA ∨ E = xIS := (show ∀ E ∈ [xIA, xIA, xIA, xIS], E = xIA ∨ E = xIS by decide) E hin
    rcases h3 with rfl | rfl
    · refine gh_catch (pc := 4) F NC FX.2.1 htab [] ⟨0, 7, 8, 16⟩ [⟨0, 7, 13, 19⟩] rfl (by decide) (fun z hz => absurd hz List.not_mem_nil) (by decide) (by decide) clL_build_16 (fun q => ?_)
      refine gh_astore (pc := 8) (lv2 := [(4, .ref q), (0, .ref (a 0)), (1, vI p0), (2, vI p1), (3, vI p2)]) F dL_build_8 (by decide) rfl ?_
      refine gh_ldc (pc := 10) (v := (-2000000002)) F knL_build_18 dL_build_10 ?_
      exact Z _ _ 12 _ _ dL_build_12 rfl (Or.inr ⟨_, hE, by rw [gz_kN_A], rfl, rfl⟩)
    · refine gh_catch (pc := 4) F NC FX.2.1 htab [⟨0, 7, 8, 16⟩] ⟨0, 7, 13, 19⟩ [] rfl (by decide) (fun z hz => by
        have hz := List.mem_singleton.mp hz
        subst hz
        exact ⟨by decide, xIA, clL_build_16, by decide⟩) (by decide) (by decide) clL_build_19 (fun q => ?_)
      refine gh_astore (pc := 13) (lv2 := [(4, .ref q), (0, .ref (a 0)), (1, vI p0), (2, vI p1), (3, vI p2)]) F dL_build_13 (by decide) rfl ?_
      refine gh_ldc (pc := 15) (v := (-2000000003)) F knL_build_21 dL_build_15 ?_
      exact Z _ _ 17 _ _ dL_build_17 rfl (Or.inr ⟨_, hE, by rw [gz_kN_S], rfl, rfl⟩)

theorem clL_urge_13 : Cond.classLink RL 13 xIO ∈ wsL_urge := by decide +kernel
theorem knL_urge_15 : Cond.constant RL 15 (zI (-2000000001)) ∈ wsL_urge := by decide +kernel
theorem clL_urge_16 : Cond.classLink RL 16 xIA ∈ wsL_urge := by decide +kernel
theorem knL_urge_18 : Cond.constant RL 18 (zI (-2000000002)) ∈ wsL_urge := by decide +kernel
theorem clL_urge_19 : Cond.classLink RL 19 xIS ∈ wsL_urge := by decide +kernel
theorem knL_urge_21 : Cond.constant RL 21 (zI (-2000000003)) ∈ wsL_urge := by decide +kernel
set_option maxHeartbeats 4000000 in
set_option maxRecDepth 100000 in
theorem ctL_urge (l : Launch) (hfl : l.stackTraces = false) (D : va_G) (cI cJ cZ : ClassId) (a : Nat → Nat) (r : RiS) (p0 p1 : Int) (hr : RiI r) (h0 : -2147483648 ≤ p0 ∧ p0 < 2147483648) (h1 : -2147483648 ≤ p1 ∧ p1 < 2147483648) : gz_G l yL_urge wsL_urge { frames := 8, cells := 1, slots := 6, locals := 200 } D cI cJ cZ [.ref (a 0), vI p0, vI p1] (RiW cI cJ a r) (gz_pWG gz_kN (cd_urge r p0 p1) (some (vI (Bu_ur (Pl_bu (Ri_P r)) p0))) (RiW cI cJ a (Ri_tell r 9 p0 p1 0 0)) (RiW cI cJ a r)) 1 6 := by
  refine gh_ofH (cc := cL_urge) (maxL := 4) (own := RL) hfl (by decide) rfl rfl (Nat.le_of_ble_eq_true rfl) (lv0 := [(0, .ref (a 0)), (1, vI p0), (2, vI p1)]) rfl ?_
  intro p e s m args below meth c A Q htab F FX NC Z
  refine gz_aload_n (pc := 0) F dL_urge_0 rfl 0 rfl ?_
  refine gz_iload_n (pc := 1) F dL_urge_1 rfl 1 rfl ?_
  refine gz_iload_n (pc := 2) F dL_urge_2 rfl 2 rfl ?_
  refine gz_callVXb (pc := 3) (n := 2) (As := [vI p0, vI p1]) (rest := []) (bytes := cX8_urge) (maxL := 4) (ret := some .int) F FX (cx_X8_urge l hfl D cI cJ cZ a r p0 p1 hr h0 h1) gL_urge_X8_urge rfl ⟨rfl, rfl⟩ (by decide +kernel) ⟨Nat.le_of_ble_eq_true rfl, Nat.le_of_ble_eq_true rfl⟩ rfl [] [] ((List.append_nil _).symm) 8 rfl rfl rfl (Nat.le_of_ble_eq_true rfl) (by decide) (gz_pO_sh (RiW_sh _ _)) dL_urge_3 (fun v W1 hv => ?_) (fun E hE => ?_)
  · obtain ⟨hok, hv, hW⟩ := hv
    subst hv; subst hW
    refine gh_in ?_
    refine gh_eqw (ws2 := RiW cI cJ a (Ri_tell r 9 p0 p1 0 0)) (List.append_nil _) ?_
    exact Z _ _ 6 _ _ dL_urge_6 rfl (Or.inl ⟨hok, rfl, rfl, rfl⟩)
  · have hin : E ∈ [xIO, xIA, xIS] := gz_px_in hE
    have h3 : E = xIO ∨ E = xIA ∨ E = xIS := (show ∀ E ∈ [xIO, xIA, xIS], E = xIO ∨ E = xIA ∨ E = xIS by decide) E hin
    rcases h3 with rfl | rfl | rfl
    · refine gh_catch (pc := 3) F NC FX.2.1 htab [] ⟨0, 6, 7, 13⟩ [⟨0, 6, 11, 16⟩, ⟨0, 6, 15, 19⟩] rfl (by decide) (fun z hz => absurd hz List.not_mem_nil) (by decide) (by decide) clL_urge_13 (fun q => ?_)
      refine gh_astore_n (pc := 7) (lv2 := [(3, .ref q), (0, .ref (a 0)), (1, vI p0), (2, vI p1)]) F dL_urge_7 rfl (by decide) rfl ?_
      refine gh_ldc (pc := 8) (v := (-2000000001)) F knL_urge_15 dL_urge_8 ?_
      exact Z _ _ 10 _ _ dL_urge_10 rfl (Or.inr ⟨_, hE, by rw [gz_kN_O], rfl, rfl⟩)
    · refine gh_catch (pc := 3) F NC FX.2.1 htab [⟨0, 6, 7, 13⟩] ⟨0, 6, 11, 16⟩ [⟨0, 6, 15, 19⟩] rfl (by decide) (fun z hz => by
        have hz := List.mem_singleton.mp hz
        subst hz
        exact ⟨by decide, xIO, clL_urge_13, by decide⟩) (by decide) (by decide) clL_urge_16 (fun q => ?_)
      refine gh_astore_n (pc := 11) (lv2 := [(3, .ref q), (0, .ref (a 0)), (1, vI p0), (2, vI p1)]) F dL_urge_11 rfl (by decide) rfl ?_
      refine gh_ldc (pc := 12) (v := (-2000000002)) F knL_urge_18 dL_urge_12 ?_
      exact Z _ _ 14 _ _ dL_urge_14 rfl (Or.inr ⟨_, hE, by rw [gz_kN_A], rfl, rfl⟩)
    · refine gh_catch (pc := 3) F NC FX.2.1 htab [⟨0, 6, 7, 13⟩, ⟨0, 6, 11, 16⟩] ⟨0, 6, 15, 19⟩ [] rfl (by decide) (fun z hz => by
        rcases List.mem_cons.mp hz with hz | hz
        · subst hz
          exact ⟨by decide, xIO, clL_urge_13, by decide⟩
        · have hz := List.mem_singleton.mp hz
          subst hz
          exact ⟨by decide, xIA, clL_urge_16, by decide⟩) (by decide) (by decide) clL_urge_19 (fun q => ?_)
      refine gh_astore_n (pc := 15) (lv2 := [(3, .ref q), (0, .ref (a 0)), (1, vI p0), (2, vI p1)]) F dL_urge_15 rfl (by decide) rfl ?_
      refine gh_ldc (pc := 16) (v := (-2000000003)) F knL_urge_21 dL_urge_16 ?_
      exact Z _ _ 18 _ _ dL_urge_18 rfl (Or.inr ⟨_, hE, by rw [gz_kN_S], rfl, rfl⟩)

theorem clL_pass_16 : Cond.classLink RL 16 xIA ∈ wsL_pass := by decide +kernel
theorem knL_pass_18 : Cond.constant RL 18 (zI (-2000000002)) ∈ wsL_pass := by decide +kernel
theorem clL_pass_19 : Cond.classLink RL 19 xIS ∈ wsL_pass := by decide +kernel
theorem knL_pass_21 : Cond.constant RL 21 (zI (-2000000003)) ∈ wsL_pass := by decide +kernel
set_option maxHeartbeats 4000000 in
set_option maxRecDepth 100000 in
theorem ctL_pass (l : Launch) (hfl : l.stackTraces = false) (D : va_G) (cI cJ cZ : ClassId) (a : Nat → Nat) (r : RiS) (p0 : Int) (hr : RiI r) (h0 : -2147483648 ≤ p0 ∧ p0 < 2147483648) : gz_G l yL_pass wsL_pass { frames := 8, cells := 1, slots := 6, locals := 200 } D cI cJ cZ [.ref (a 0), vI p0] (RiW cI cJ a r) (gz_pWG gz_kN (cd_pass r p0) (some (vI (Pl_now (Pl_pass (Ri_P r) (Pl_now (Ri_P r) + p0))))) (RiW cI cJ a ((Pl_pass (Ri_P r) (Pl_now (Ri_P r) + p0), Ri_A r, Ri_T r, Ri_S r))) (RiW cI cJ a r)) 1 6 := by
  refine gh_ofH (cc := cL_pass) (maxL := 3) (own := RL) hfl (by decide) rfl rfl (Nat.le_of_ble_eq_true rfl) (lv0 := [(0, .ref (a 0)), (1, vI p0)]) rfl ?_
  intro p e s m args below meth c A Q htab F FX NC Z
  refine gz_aload_n (pc := 0) F dL_pass_0 rfl 0 rfl ?_
  refine gz_iload_n (pc := 1) F dL_pass_1 rfl 1 rfl ?_
  refine gz_callVXb (pc := 2) (n := 1) (As := [vI p0]) (rest := []) (bytes := cX8_pass) (maxL := 2) (ret := some .int) F FX (cx_X8_pass l hfl D cI cJ cZ a r p0 hr h0) gL_pass_X8_pass rfl ⟨rfl, rfl⟩ (by decide +kernel) ⟨Nat.le_of_ble_eq_true rfl, Nat.le_of_ble_eq_true rfl⟩ rfl [] [] ((List.append_nil _).symm) 8 rfl rfl rfl (Nat.le_of_ble_eq_true rfl) (by decide) (gz_pO_sh (RiW_sh _ _)) dL_pass_2 (fun v W1 hv => ?_) (fun E hE => ?_)
  · obtain ⟨hok, hv, hW⟩ := hv
    subst hv; subst hW
    refine gh_in ?_
    refine gh_eqw (ws2 := RiW cI cJ a ((Pl_pass (Ri_P r) (Pl_now (Ri_P r) + p0), Ri_A r, Ri_T r, Ri_S r))) (List.append_nil _) ?_
    exact Z _ _ 5 _ _ dL_pass_5 rfl (Or.inl ⟨hok, rfl, rfl, rfl⟩)
  · have hin : E ∈ [xIA, xIS] := gz_px_in hE
    have h3 : E = xIA ∨ E = xIS := (show ∀ E ∈ [xIA, xIS], E = xIA ∨ E = xIS by decide) E hin
    rcases h3 with rfl | rfl
    · refine gh_catch (pc := 2) F NC FX.2.1 htab [] ⟨0, 5, 6, 16⟩ [⟨0, 5, 10, 19⟩] rfl (by decide) (fun z hz => absurd hz List.not_mem_nil) (by decide) (by decide) clL_pass_16 (fun q => ?_)
      refine gh_astore_n (pc := 6) (lv2 := [(2, .ref q), (0, .ref (a 0)), (1, vI p0)]) F dL_pass_6 rfl (by decide) rfl ?_
      refine gh_ldc (pc := 7) (v := (-2000000002)) F knL_pass_18 dL_pass_7 ?_
      exact Z _ _ 9 _ _ dL_pass_9 rfl (Or.inr ⟨_, hE, by rw [gz_kN_A], rfl, rfl⟩)
    · refine gh_catch (pc := 2) F NC FX.2.1 htab [⟨0, 5, 6, 16⟩] ⟨0, 5, 10, 19⟩ [] rfl (by decide) (fun z hz => by
        have hz := List.mem_singleton.mp hz
        subst hz
        exact ⟨by decide, xIA, clL_pass_16, by decide⟩) (by decide) (by decide) clL_pass_19 (fun q => ?_)
      refine gh_astore_n (pc := 10) (lv2 := [(2, .ref q), (0, .ref (a 0)), (1, vI p0)]) F dL_pass_10 rfl (by decide) rfl ?_
      refine gh_ldc (pc := 11) (v := (-2000000003)) F knL_pass_21 dL_pass_11 ?_
      exact Z _ _ 13 _ _ dL_pass_13 rfl (Or.inr ⟨_, hE, by rw [gz_kN_S], rfl, rfl⟩)

theorem clL_meetingOf_13 : Cond.classLink RL 13 xIO ∈ wsL_meetingOf := by decide +kernel
theorem knL_meetingOf_15 : Cond.constant RL 15 (zI (-2000000001)) ∈ wsL_meetingOf := by decide +kernel
theorem clL_meetingOf_16 : Cond.classLink RL 16 xIA ∈ wsL_meetingOf := by decide +kernel
theorem knL_meetingOf_18 : Cond.constant RL 18 (zI (-2000000002)) ∈ wsL_meetingOf := by decide +kernel
set_option maxHeartbeats 4000000 in
set_option maxRecDepth 100000 in
theorem ctL_meetingOf (l : Launch) (hfl : l.stackTraces = false) (D : va_G) (cI cJ cZ : ClassId) (a : Nat → Nat) (r : RiS) (p0 p1 : Int) (hr : RiI r) (h0 : -2147483648 ≤ p0 ∧ p0 < 2147483648) (h1 : -2147483648 ≤ p1 ∧ p1 < 2147483648) : gz_G l yL_meetingOf wsL_meetingOf { frames := 8, cells := 1, slots := 6, locals := 200 } D cI cJ cZ [.ref (a 0), vI p0, vI p1] (RiW cI cJ a r) (gz_pWG gz_kN (cd_meetingOf r p0 p1) (some (vI ((if p1 = 0 then Mt_st (Pl_mt (Ri_P r)) p0 else if p1 = 1 then Mt_sl (Pl_mt (Ri_P r)) p0 else if p1 = 2 then Mt_ln (Pl_mt (Ri_P r)) p0 else if p1 = 3 then Mt_ma (Pl_mt (Ri_P r)) p0 else Mt_pe (Pl_mt (Ri_P r)) p0)))) (RiW cI cJ a r) (RiW cI cJ a r)) 1 6 := by
  refine gh_ofH (cc := cL_meetingOf) (maxL := 4) (own := RL) hfl (by decide) rfl rfl (Nat.le_of_ble_eq_true rfl) (lv0 := [(0, .ref (a 0)), (1, vI p0), (2, vI p1)]) rfl ?_
  intro p e s m args below meth c A Q htab F FX NC Z
  refine gz_aload_n (pc := 0) F dL_meetingOf_0 rfl 0 rfl ?_
  refine gz_iload_n (pc := 1) F dL_meetingOf_1 rfl 1 rfl ?_
  refine gz_iload_n (pc := 2) F dL_meetingOf_2 rfl 2 rfl ?_
  refine gz_callVXb (pc := 3) (n := 2) (As := [vI p0, vI p1]) (rest := []) (bytes := cX8_meetingOf) (maxL := 3) (ret := some .int) F FX (cx_X8_meetingOf l hfl D cI cJ cZ a r p0 p1 hr h0 h1) gL_meetingOf_X8_meetingOf rfl ⟨rfl, rfl⟩ (by decide +kernel) ⟨Nat.le_of_ble_eq_true rfl, Nat.le_of_ble_eq_true rfl⟩ rfl [] [] ((List.append_nil _).symm) 8 rfl rfl rfl (Nat.le_of_ble_eq_true rfl) (by decide) (gz_pO_sh (RiW_sh _ _)) dL_meetingOf_3 (fun v W1 hv => ?_) (fun E hE => ?_)
  · obtain ⟨hok, hv, hW⟩ := hv
    subst hv; subst hW
    refine gh_in ?_
    refine gh_eqw (ws2 := RiW cI cJ a r) (List.append_nil _) ?_
    exact Z _ _ 6 _ _ dL_meetingOf_6 rfl (Or.inl ⟨hok, rfl, rfl, rfl⟩)
  · have hin : E ∈ [xIO, xIA] := gz_px_in hE
    have h3 : E = xIO ∨ E = xIA := (show ∀ E ∈ [xIO, xIA], E = xIO ∨ E = xIA by decide) E hin
    rcases h3 with rfl | rfl
    · refine gh_catch (pc := 3) F NC FX.2.1 htab [] ⟨0, 6, 7, 13⟩ [⟨0, 6, 11, 16⟩] rfl (by decide) (fun z hz => absurd hz List.not_mem_nil) (by decide) (by decide) clL_meetingOf_13 (fun q => ?_)
      refine gh_astore_n (pc := 7) (lv2 := [(3, .ref q), (0, .ref (a 0)), (1, vI p0), (2, vI p1)]) F dL_meetingOf_7 rfl (by decide) rfl ?_
      refine gh_ldc (pc := 8) (v := (-2000000001)) F knL_meetingOf_15 dL_meetingOf_8 ?_
      exact Z _ _ 10 _ _ dL_meetingOf_10 rfl (Or.inr ⟨_, hE, by rw [gz_kN_O], rfl, rfl⟩)
    · refine gh_catch (pc := 3) F NC FX.2.1 htab [⟨0, 6, 7, 13⟩] ⟨0, 6, 11, 16⟩ [] rfl (by decide) (fun z hz => by
        have hz := List.mem_singleton.mp hz
        subst hz
        exact ⟨by decide, xIO, clL_meetingOf_13, by decide⟩) (by decide) (by decide) clL_meetingOf_16 (fun q => ?_)
      refine gh_astore_n (pc := 11) (lv2 := [(3, .ref q), (0, .ref (a 0)), (1, vI p0), (2, vI p1)]) F dL_meetingOf_11 rfl (by decide) rfl ?_
      refine gh_ldc (pc := 12) (v := (-2000000002)) F knL_meetingOf_18 dL_meetingOf_12 ?_
      exact Z _ _ 14 _ _ dL_meetingOf_14 rfl (Or.inr ⟨_, hE, by rw [gz_kN_A], rfl, rfl⟩)

theorem clL_swapOf_13 : Cond.classLink RL 13 xIO ∈ wsL_swapOf := by decide +kernel
theorem knL_swapOf_15 : Cond.constant RL 15 (zI (-2000000001)) ∈ wsL_swapOf := by decide +kernel
set_option maxHeartbeats 4000000 in
set_option maxRecDepth 100000 in
theorem ctL_swapOf (l : Launch) (hfl : l.stackTraces = false) (D : va_G) (cI cJ cZ : ClassId) (a : Nat → Nat) (r : RiS) (p0 : Int) (hr : RiI r) (h0 : -2147483648 ≤ p0 ∧ p0 < 2147483648) : gz_G l yL_swapOf wsL_swapOf { frames := 8, cells := 1, slots := 6, locals := 200 } D cI cJ cZ [.ref (a 0), vI p0] (RiW cI cJ a r) (gz_pWG gz_kN (cd_swapOf r p0) (some (vI (Sw_st (Ri_S r) p0))) (RiW cI cJ a r) (RiW cI cJ a r)) 1 6 := by
  refine gh_ofH (cc := cL_swapOf) (maxL := 3) (own := RL) hfl (by decide) rfl rfl (Nat.le_of_ble_eq_true rfl) (lv0 := [(0, .ref (a 0)), (1, vI p0)]) rfl ?_
  intro p e s m args below meth c A Q htab F FX NC Z
  refine gz_aload_n (pc := 0) F dL_swapOf_0 rfl 0 rfl ?_
  refine gz_iload_n (pc := 1) F dL_swapOf_1 rfl 1 rfl ?_
  refine gz_callVXb (pc := 2) (n := 1) (As := [vI p0]) (rest := []) (bytes := cX8_swapOf) (maxL := 2) (ret := some .int) F FX (cx_X8_swapOf l hfl D cI cJ cZ a r p0 hr h0) gL_swapOf_X8_swapOf rfl ⟨rfl, rfl⟩ (by decide +kernel) ⟨Nat.le_of_ble_eq_true rfl, Nat.le_of_ble_eq_true rfl⟩ rfl [] [] ((List.append_nil _).symm) 8 rfl rfl rfl (Nat.le_of_ble_eq_true rfl) (by decide) (gz_pO_sh (RiW_sh _ _)) dL_swapOf_2 (fun v W1 hv => ?_) (fun E hE => ?_)
  · obtain ⟨hok, hv, hW⟩ := hv
    subst hv; subst hW
    refine gh_in ?_
    refine gh_eqw (ws2 := RiW cI cJ a r) (List.append_nil _) ?_
    exact Z _ _ 5 _ _ dL_swapOf_5 rfl (Or.inl ⟨hok, rfl, rfl, rfl⟩)
  · have hin : E ∈ [xIO] := gz_px_in hE
    have h3 : E = xIO := (show ∀ E ∈ [xIO], E = xIO by decide) E hin
    rcases h3 with rfl
    refine gh_catch (pc := 2) F NC FX.2.1 htab [] ⟨0, 5, 6, 13⟩ [] rfl (by decide) (fun z hz => absurd hz List.not_mem_nil) (by decide) (by decide) clL_swapOf_13 (fun q => ?_)
    refine gh_astore_n (pc := 6) (lv2 := [(2, .ref q), (0, .ref (a 0)), (1, vI p0)]) F dL_swapOf_6 rfl (by decide) rfl ?_
    refine gh_ldc (pc := 7) (v := (-2000000001)) F knL_swapOf_15 dL_swapOf_7 ?_
    exact Z _ _ 9 _ _ dL_swapOf_9 rfl (Or.inr ⟨_, hE, by rw [gz_kN_O], rfl, rfl⟩)

theorem clL_buildOf_13 : Cond.classLink RL 13 xIO ∈ wsL_buildOf := by decide +kernel
theorem knL_buildOf_15 : Cond.constant RL 15 (zI (-2000000001)) ∈ wsL_buildOf := by decide +kernel
theorem clL_buildOf_16 : Cond.classLink RL 16 xIA ∈ wsL_buildOf := by decide +kernel
theorem knL_buildOf_18 : Cond.constant RL 18 (zI (-2000000002)) ∈ wsL_buildOf := by decide +kernel
set_option maxHeartbeats 4000000 in
set_option maxRecDepth 100000 in
theorem ctL_buildOf (l : Launch) (hfl : l.stackTraces = false) (D : va_G) (cI cJ cZ : ClassId) (a : Nat → Nat) (r : RiS) (p0 p1 : Int) (hr : RiI r) (h0 : -2147483648 ≤ p0 ∧ p0 < 2147483648) (h1 : -2147483648 ≤ p1 ∧ p1 < 2147483648) : gz_G l yL_buildOf wsL_buildOf { frames := 8, cells := 1, slots := 6, locals := 200 } D cI cJ cZ [.ref (a 0), vI p0, vI p1] (RiW cI cJ a r) (gz_pWG gz_kN (cd_buildOf r p0 p1) (some (vI ((if p1 = 0 then Bu_st (Pl_bu (Ri_P r)) p0 else if p1 = 1 then Bu_ma (Pl_bu (Ri_P r)) p0 else if p1 = 2 then Bu_bg (Pl_bu (Ri_P r)) p0 else Bu_ti (Pl_bu (Ri_P r)) p0)))) (RiW cI cJ a r) (RiW cI cJ a r)) 1 6 := by
  refine gh_ofH (cc := cL_buildOf) (maxL := 4) (own := RL) hfl (by decide) rfl rfl (Nat.le_of_ble_eq_true rfl) (lv0 := [(0, .ref (a 0)), (1, vI p0), (2, vI p1)]) rfl ?_
  intro p e s m args below meth c A Q htab F FX NC Z
  refine gz_aload_n (pc := 0) F dL_buildOf_0 rfl 0 rfl ?_
  refine gz_iload_n (pc := 1) F dL_buildOf_1 rfl 1 rfl ?_
  refine gz_iload_n (pc := 2) F dL_buildOf_2 rfl 2 rfl ?_
  refine gz_callVXb (pc := 3) (n := 2) (As := [vI p0, vI p1]) (rest := []) (bytes := cX8_buildOf) (maxL := 3) (ret := some .int) F FX (cx_X8_buildOf l hfl D cI cJ cZ a r p0 p1 hr h0 h1) gL_buildOf_X8_buildOf rfl ⟨rfl, rfl⟩ (by decide +kernel) ⟨Nat.le_of_ble_eq_true rfl, Nat.le_of_ble_eq_true rfl⟩ rfl [] [] ((List.append_nil _).symm) 8 rfl rfl rfl (Nat.le_of_ble_eq_true rfl) (by decide) (gz_pO_sh (RiW_sh _ _)) dL_buildOf_3 (fun v W1 hv => ?_) (fun E hE => ?_)
  · obtain ⟨hok, hv, hW⟩ := hv
    subst hv; subst hW
    refine gh_in ?_
    refine gh_eqw (ws2 := RiW cI cJ a r) (List.append_nil _) ?_
    exact Z _ _ 6 _ _ dL_buildOf_6 rfl (Or.inl ⟨hok, rfl, rfl, rfl⟩)
  · have hin : E ∈ [xIO, xIA] := gz_px_in hE
    have h3 : E = xIO ∨ E = xIA := (show ∀ E ∈ [xIO, xIA], E = xIO ∨ E = xIA by decide) E hin
    rcases h3 with rfl | rfl
    · refine gh_catch (pc := 3) F NC FX.2.1 htab [] ⟨0, 6, 7, 13⟩ [⟨0, 6, 11, 16⟩] rfl (by decide) (fun z hz => absurd hz List.not_mem_nil) (by decide) (by decide) clL_buildOf_13 (fun q => ?_)
      refine gh_astore_n (pc := 7) (lv2 := [(3, .ref q), (0, .ref (a 0)), (1, vI p0), (2, vI p1)]) F dL_buildOf_7 rfl (by decide) rfl ?_
      refine gh_ldc (pc := 8) (v := (-2000000001)) F knL_buildOf_15 dL_buildOf_8 ?_
      exact Z _ _ 10 _ _ dL_buildOf_10 rfl (Or.inr ⟨_, hE, by rw [gz_kN_O], rfl, rfl⟩)
    · refine gh_catch (pc := 3) F NC FX.2.1 htab [⟨0, 6, 7, 13⟩] ⟨0, 6, 11, 16⟩ [] rfl (by decide) (fun z hz => by
        have hz := List.mem_singleton.mp hz
        subst hz
        exact ⟨by decide, xIO, clL_buildOf_13, by decide⟩) (by decide) (by decide) clL_buildOf_16 (fun q => ?_)
      refine gh_astore_n (pc := 11) (lv2 := [(3, .ref q), (0, .ref (a 0)), (1, vI p0), (2, vI p1)]) F dL_buildOf_11 rfl (by decide) rfl ?_
      refine gh_ldc (pc := 12) (v := (-2000000002)) F knL_buildOf_18 dL_buildOf_12 ?_
      exact Z _ _ 14 _ _ dL_buildOf_14 rfl (Or.inr ⟨_, hE, by rw [gz_kN_A], rfl, rfl⟩)

theorem clL_anew_13 : Cond.classLink RL 13 xIO ∈ wsL_anew := by decide +kernel
theorem knL_anew_15 : Cond.constant RL 15 (zI (-2000000001)) ∈ wsL_anew := by decide +kernel
set_option maxHeartbeats 4000000 in
set_option maxRecDepth 100000 in
theorem ctL_anew (l : Launch) (hfl : l.stackTraces = false) (D : va_G) (cI cJ cZ : ClassId) (a : Nat → Nat) (r : RiS) (p0 : Int) (hr : RiI r) (h0 : -2147483648 ≤ p0 ∧ p0 < 2147483648) : gz_G l yL_anew wsL_anew { frames := 8, cells := 1, slots := 6, locals := 200 } D cI cJ cZ [.ref (a 0), vI p0] (RiW cI cJ a r) (gz_pWG gz_kN (cd_beganAnew r p0) (some (vI ((if 0 ≤ p0 ∧ p0 < Bu_n (Pl_bu (Pl_anew (Ri_T r) (Ri_A r) (Pl_now (Ri_P r)))) then Bu_bg (Pl_bu (Pl_anew (Ri_T r) (Ri_A r) (Pl_now (Ri_P r)))) p0 else -1)))) (RiW cI cJ a ((Ri_P r, (Pl_anew (Ri_T r) (Ri_A r) (Pl_now (Ri_P r))), Ri_T r, Ri_S r))) (RiW cI cJ a r)) 1 6 := by
  refine gh_ofH (cc := cL_anew) (maxL := 3) (own := RL) hfl (by decide) rfl rfl (Nat.le_of_ble_eq_true rfl) (lv0 := [(0, .ref (a 0)), (1, vI p0)]) rfl ?_
  intro p e s m args below meth c A Q htab F FX NC Z
  refine gz_aload_n (pc := 0) F dL_anew_0 rfl 0 rfl ?_
  refine gz_iload_n (pc := 1) F dL_anew_1 rfl 1 rfl ?_
  refine gz_callVXb (pc := 2) (n := 1) (As := [vI p0]) (rest := []) (bytes := cX8_beganAnew) (maxL := 2) (ret := some .int) F FX (cx_X8_beganAnew l hfl D cI cJ cZ a r p0 hr h0) gL_anew_X8_beganAnew rfl ⟨rfl, rfl⟩ (by decide +kernel) ⟨Nat.le_of_ble_eq_true rfl, Nat.le_of_ble_eq_true rfl⟩ rfl [] [] ((List.append_nil _).symm) 8 rfl rfl rfl (Nat.le_of_ble_eq_true rfl) (by decide) (gz_pO_sh (RiW_sh _ _)) dL_anew_2 (fun v W1 hv => ?_) (fun E hE => ?_)
  · obtain ⟨hok, hv, hW⟩ := hv
    subst hv; subst hW
    refine gh_in ?_
    refine gh_eqw (ws2 := RiW cI cJ a ((Ri_P r, (Pl_anew (Ri_T r) (Ri_A r) (Pl_now (Ri_P r))), Ri_T r, Ri_S r))) (List.append_nil _) ?_
    exact Z _ _ 5 _ _ dL_anew_5 rfl (Or.inl ⟨hok, rfl, rfl, rfl⟩)
  · have hin : E ∈ [xIO] := gz_px_in hE
    have h3 : E = xIO := (show ∀ E ∈ [xIO], E = xIO by decide) E hin
    rcases h3 with rfl
    refine gh_catch (pc := 2) F NC FX.2.1 htab [] ⟨0, 5, 6, 13⟩ [] rfl (by decide) (fun z hz => absurd hz List.not_mem_nil) (by decide) (by decide) clL_anew_13 (fun q => ?_)
    refine gh_astore_n (pc := 6) (lv2 := [(2, .ref q), (0, .ref (a 0)), (1, vI p0)]) F dL_anew_6 rfl (by decide) rfl ?_
    refine gh_ldc (pc := 7) (v := (-2000000001)) F knL_anew_15 dL_anew_7 ?_
    exact Z _ _ 9 _ _ dL_anew_9 rfl (Or.inr ⟨_, hE, by rw [gz_kN_O], rfl, rfl⟩)

theorem clL_has_13 : Cond.classLink RL 13 xIO ∈ wsL_has := by decide +kernel
theorem knL_has_15 : Cond.constant RL 15 (zI (-2000000001)) ∈ wsL_has := by decide +kernel
theorem clL_has_16 : Cond.classLink RL 16 xIA ∈ wsL_has := by decide +kernel
theorem knL_has_18 : Cond.constant RL 18 (zI (-2000000002)) ∈ wsL_has := by decide +kernel
set_option maxHeartbeats 4000000 in
set_option maxRecDepth 100000 in
theorem ctL_has (l : Launch) (hfl : l.stackTraces = false) (D : va_G) (cI cJ cZ : ClassId) (a : Nat → Nat) (r : RiS) (p0 p1 : Int) (hr : RiI r) (h0 : -2147483648 ≤ p0 ∧ p0 < 2147483648) (h1 : -2147483648 ≤ p1 ∧ p1 < 2147483648) : gz_G l yL_has wsL_has { frames := 8, cells := 1, slots := 6, locals := 200 } D cI cJ cZ [.ref (a 0), vI p0, vI p1] (RiW cI cJ a r) (gz_pWG gz_kN (cd_has r p0 p1) (some (vI (Pl_hold (Ri_P r) p0 p1))) (RiW cI cJ a r) (RiW cI cJ a r)) 1 6 := by
  refine gh_ofH (cc := cL_has) (maxL := 4) (own := RL) hfl (by decide) rfl rfl (Nat.le_of_ble_eq_true rfl) (lv0 := [(0, .ref (a 0)), (1, vI p0), (2, vI p1)]) rfl ?_
  intro p e s m args below meth c A Q htab F FX NC Z
  refine gz_aload_n (pc := 0) F dL_has_0 rfl 0 rfl ?_
  refine gz_iload_n (pc := 1) F dL_has_1 rfl 1 rfl ?_
  refine gz_iload_n (pc := 2) F dL_has_2 rfl 2 rfl ?_
  refine gz_callVXb (pc := 3) (n := 2) (As := [vI p0, vI p1]) (rest := []) (bytes := cX8_has) (maxL := 3) (ret := some .int) F FX (cx_X8_has l hfl D cI cJ cZ a r p0 p1 hr h0 h1) gL_has_X8_has rfl ⟨rfl, rfl⟩ (by decide +kernel) ⟨Nat.le_of_ble_eq_true rfl, Nat.le_of_ble_eq_true rfl⟩ rfl [] [] ((List.append_nil _).symm) 8 rfl rfl rfl (Nat.le_of_ble_eq_true rfl) (by decide) (gz_pO_sh (RiW_sh _ _)) dL_has_3 (fun v W1 hv => ?_) (fun E hE => ?_)
  · obtain ⟨hok, hv, hW⟩ := hv
    subst hv; subst hW
    refine gh_in ?_
    refine gh_eqw (ws2 := RiW cI cJ a r) (List.append_nil _) ?_
    exact Z _ _ 6 _ _ dL_has_6 rfl (Or.inl ⟨hok, rfl, rfl, rfl⟩)
  · have hin : E ∈ [xIO, xIA] := gz_px_in hE
    have h3 : E = xIO ∨ E = xIA := (show ∀ E ∈ [xIO, xIA], E = xIO ∨ E = xIA by decide) E hin
    rcases h3 with rfl | rfl
    · refine gh_catch (pc := 3) F NC FX.2.1 htab [] ⟨0, 6, 7, 13⟩ [⟨0, 6, 11, 16⟩] rfl (by decide) (fun z hz => absurd hz List.not_mem_nil) (by decide) (by decide) clL_has_13 (fun q => ?_)
      refine gh_astore_n (pc := 7) (lv2 := [(3, .ref q), (0, .ref (a 0)), (1, vI p0), (2, vI p1)]) F dL_has_7 rfl (by decide) rfl ?_
      refine gh_ldc (pc := 8) (v := (-2000000001)) F knL_has_15 dL_has_8 ?_
      exact Z _ _ 10 _ _ dL_has_10 rfl (Or.inr ⟨_, hE, by rw [gz_kN_O], rfl, rfl⟩)
    · refine gh_catch (pc := 3) F NC FX.2.1 htab [⟨0, 6, 7, 13⟩] ⟨0, 6, 11, 16⟩ [] rfl (by decide) (fun z hz => by
        have hz := List.mem_singleton.mp hz
        subst hz
        exact ⟨by decide, xIO, clL_has_13, by decide⟩) (by decide) (by decide) clL_has_16 (fun q => ?_)
      refine gh_astore_n (pc := 11) (lv2 := [(3, .ref q), (0, .ref (a 0)), (1, vI p0), (2, vI p1)]) F dL_has_11 rfl (by decide) rfl ?_
      refine gh_ldc (pc := 12) (v := (-2000000002)) F knL_has_18 dL_has_12 ?_
      exact Z _ _ 14 _ _ dL_has_14 rfl (Or.inr ⟨_, hE, by rw [gz_kN_A], rfl, rfl⟩)

theorem clL_isFree_13 : Cond.classLink RL 13 xIO ∈ wsL_isFree := by decide +kernel
theorem knL_isFree_15 : Cond.constant RL 15 (zI (-2000000001)) ∈ wsL_isFree := by decide +kernel
theorem clL_isFree_16 : Cond.classLink RL 16 xIA ∈ wsL_isFree := by decide +kernel
theorem knL_isFree_18 : Cond.constant RL 18 (zI (-2000000002)) ∈ wsL_isFree := by decide +kernel
set_option maxHeartbeats 4000000 in
set_option maxRecDepth 100000 in
theorem ctL_isFree (l : Launch) (hfl : l.stackTraces = false) (D : va_G) (cI cJ cZ : ClassId) (a : Nat → Nat) (r : RiS) (p0 p1 : Int) (hr : RiI r) (h0 : -2147483648 ≤ p0 ∧ p0 < 2147483648) (h1 : -2147483648 ≤ p1 ∧ p1 < 2147483648) : gz_G l yL_isFree wsL_isFree { frames := 8, cells := 1, slots := 6, locals := 200 } D cI cJ cZ [.ref (a 0), vI p0, vI p1] (RiW cI cJ a r) (gz_pWG gz_kN (cd_isFree r p0 p1) (some (vI (bz (¬ (Mt_busy (Pl_mt (Ri_P r)) (Mt_n (Pl_mt (Ri_P r))) p0.toNat p1 1 (-1) ∨ Lv_off (Pl_lv (Ri_P r)) (p0.toNat : Int) p1))))) (RiW cI cJ a r) (RiW cI cJ a r)) 1 6 := by
  refine gh_ofH (cc := cL_isFree) (maxL := 4) (own := RL) hfl (by decide) rfl rfl (Nat.le_of_ble_eq_true rfl) (lv0 := [(0, .ref (a 0)), (1, vI p0), (2, vI p1)]) rfl ?_
  intro p e s m args below meth c A Q htab F FX NC Z
  refine gz_aload_n (pc := 0) F dL_isFree_0 rfl 0 rfl ?_
  refine gz_iload_n (pc := 1) F dL_isFree_1 rfl 1 rfl ?_
  refine gz_iload_n (pc := 2) F dL_isFree_2 rfl 2 rfl ?_
  refine gz_callVXb (pc := 3) (n := 2) (As := [vI p0, vI p1]) (rest := []) (bytes := cX8_isFree) (maxL := 3) (ret := some .boolean) F FX (cx_X8_isFree l hfl D cI cJ cZ a r p0 p1 hr h0 h1) gL_isFree_X8_isFree rfl ⟨rfl, rfl⟩ (by decide +kernel) ⟨Nat.le_of_ble_eq_true rfl, Nat.le_of_ble_eq_true rfl⟩ rfl [] [] ((List.append_nil _).symm) 8 rfl rfl rfl (Nat.le_of_ble_eq_true rfl) (by decide) (gz_pO_sh (RiW_sh _ _)) dL_isFree_3 (fun v W1 hv => ?_) (fun E hE => ?_)
  · obtain ⟨hok, hv, hW⟩ := hv
    subst hv; subst hW
    refine gh_in ?_
    refine gh_eqw (ws2 := RiW cI cJ a r) (List.append_nil _) ?_
    refine gh_if_eq (pc := 6) (tgt := 13) F dL_isFree_6 (by decide) (by have hq := bz_r (¬ (Mt_busy (Pl_mt (Ri_P r)) (Mt_n (Pl_mt (Ri_P r))) p0.toNat p1 1 (-1) ∨ Lv_off (Pl_lv (Ri_P r)) (p0.toNat : Int) p1)); omega) (fun hb => ?_) (fun hb => ?_)
    · refine gh_const (pc := 13) F dL_isFree_13 ?_
      exact Z _ _ 14 _ _ dL_isFree_14 rfl (Or.inl ⟨hok, by rw [hb], rfl, rfl⟩)
    · refine gh_const (pc := 9) F dL_isFree_9 ?_
      refine gh_goto (pc := 10) (tgt := 14) F dL_isFree_10 (by decide) ?_
      exact Z _ _ 14 _ _ dL_isFree_14 rfl (Or.inl ⟨hok, by rw [bz_t (bz_n hb)], rfl, rfl⟩)
  · have hin : E ∈ [xIO, xIA] := gz_px_in hE
    have h3 : E = xIO ∨ E = xIA := (show ∀ E ∈ [xIO, xIA], E = xIO ∨ E = xIA by decide) E hin
    rcases h3 with rfl | rfl
    · refine gh_catch (pc := 3) F NC FX.2.1 htab [] ⟨0, 14, 15, 13⟩ [⟨0, 14, 19, 16⟩] rfl (by decide) (fun z hz => absurd hz List.not_mem_nil) (by decide) (by decide) clL_isFree_13 (fun q => ?_)
      refine gh_astore_n (pc := 15) (lv2 := [(3, .ref q), (0, .ref (a 0)), (1, vI p0), (2, vI p1)]) F dL_isFree_15 rfl (by decide) rfl ?_
      refine gh_ldc (pc := 16) (v := (-2000000001)) F knL_isFree_15 dL_isFree_16 ?_
      exact Z _ _ 18 _ _ dL_isFree_18 rfl (Or.inr ⟨_, hE, by rw [gz_kN_O], rfl, rfl⟩)
    · refine gh_catch (pc := 3) F NC FX.2.1 htab [⟨0, 14, 15, 13⟩] ⟨0, 14, 19, 16⟩ [] rfl (by decide) (fun z hz => by
        have hz := List.mem_singleton.mp hz
        subst hz
        exact ⟨by decide, xIO, clL_isFree_13, by decide⟩) (by decide) (by decide) clL_isFree_16 (fun q => ?_)
      refine gh_astore_n (pc := 19) (lv2 := [(3, .ref q), (0, .ref (a 0)), (1, vI p0), (2, vI p1)]) F dL_isFree_19 rfl (by decide) rfl ?_
      refine gh_ldc (pc := 20) (v := (-2000000002)) F knL_isFree_18 dL_isFree_20 ?_
      exact Z _ _ 22 _ _ dL_isFree_22 rfl (Or.inr ⟨_, hE, by rw [gz_kN_A], rfl, rfl⟩)

theorem clL_diary_13 : Cond.classLink RL 13 xIO ∈ wsL_diary := by decide +kernel
theorem knL_diary_15 : Cond.constant RL 15 (zI (-2000000001)) ∈ wsL_diary := by decide +kernel
theorem clL_diary_16 : Cond.classLink RL 16 xIA ∈ wsL_diary := by decide +kernel
theorem knL_diary_18 : Cond.constant RL 18 (zI (-2000000002)) ∈ wsL_diary := by decide +kernel
set_option maxHeartbeats 4000000 in
set_option maxRecDepth 100000 in
theorem ctL_diary (l : Launch) (hfl : l.stackTraces = false) (D : va_G) (cI cJ cZ : ClassId) (a : Nat → Nat) (r : RiS) (p0 p1 p2 : Int) (hr : RiI r) (h0 : -2147483648 ≤ p0 ∧ p0 < 2147483648) (h1 : -2147483648 ≤ p1 ∧ p1 < 2147483648) (h2 : -2147483648 ≤ p2 ∧ p2 < 2147483648) : gz_G l yL_diary wsL_diary { frames := 8, cells := 1, slots := 6, locals := 200 } D cI cJ cZ [.ref (a 0), vI p0, vI p1, vI p2] (RiW cI cJ a r) (gz_pWG gz_kN (cd_diary r p0 p1 p2) (some (vI (Dy (Ri_dy r p0 p1) p2 8 0))) (RiW cI cJ a r) (RiW cI cJ a r)) 1 6 := by
  refine gh_ofH (cc := cL_diary) (maxL := 5) (own := RL) hfl (by decide) rfl rfl (Nat.le_of_ble_eq_true rfl) (lv0 := [(0, .ref (a 0)), (1, vI p0), (2, vI p1), (3, vI p2)]) rfl ?_
  intro p e s m args below meth c A Q htab F FX NC Z
  refine gz_aload_n (pc := 0) F dL_diary_0 rfl 0 rfl ?_
  refine gz_iload_n (pc := 1) F dL_diary_1 rfl 1 rfl ?_
  refine gz_iload_n (pc := 2) F dL_diary_2 rfl 2 rfl ?_
  refine gz_iload_n (pc := 3) F dL_diary_3 rfl 3 rfl ?_
  refine gz_callVXb (pc := 4) (n := 3) (As := [vI p0, vI p1, vI p2]) (rest := []) (bytes := cX8_diary) (maxL := 7) (ret := some .char) F FX (cx_X8_diary l hfl D cI cJ cZ a r p0 p1 p2 hr h0 h1 h2) gL_diary_X8_diary rfl ⟨rfl, rfl⟩ (by decide +kernel) ⟨Nat.le_of_ble_eq_true rfl, Nat.le_of_ble_eq_true rfl⟩ rfl [] [] ((List.append_nil _).symm) 8 rfl rfl rfl (Nat.le_of_ble_eq_true rfl) (by decide) (gz_pO_sh (RiW_sh _ _)) dL_diary_4 (fun v W1 hv => ?_) (fun E hE => ?_)
  · obtain ⟨hok, hv, hW⟩ := hv
    subst hv; subst hW
    refine gh_in ?_
    refine gh_eqw (ws2 := RiW cI cJ a r) (List.append_nil _) ?_
    exact Z _ _ 7 _ _ dL_diary_7 rfl (Or.inl ⟨hok, rfl, rfl, rfl⟩)
  · have hin : E ∈ [xIO, xIO, xIA] := gz_px_in hE
    have h3 : E = xIO ∨ E = xIA := (show ∀ E ∈ [xIO, xIO, xIA], E = xIO ∨ E = xIA by decide) E hin
    rcases h3 with rfl | rfl
    · refine gh_catch (pc := 4) F NC FX.2.1 htab [] ⟨0, 7, 8, 13⟩ [⟨0, 7, 13, 16⟩] rfl (by decide) (fun z hz => absurd hz List.not_mem_nil) (by decide) (by decide) clL_diary_13 (fun q => ?_)
      refine gh_astore (pc := 8) (lv2 := [(4, .ref q), (0, .ref (a 0)), (1, vI p0), (2, vI p1), (3, vI p2)]) F dL_diary_8 (by decide) rfl ?_
      refine gh_ldc (pc := 10) (v := (-2000000001)) F knL_diary_15 dL_diary_10 ?_
      exact Z _ _ 12 _ _ dL_diary_12 rfl (Or.inr ⟨_, hE, by rw [gz_kN_O], rfl, rfl⟩)
    · refine gh_catch (pc := 4) F NC FX.2.1 htab [⟨0, 7, 8, 13⟩] ⟨0, 7, 13, 16⟩ [] rfl (by decide) (fun z hz => by
        have hz := List.mem_singleton.mp hz
        subst hz
        exact ⟨by decide, xIO, clL_diary_13, by decide⟩) (by decide) (by decide) clL_diary_16 (fun q => ?_)
      refine gh_astore (pc := 13) (lv2 := [(4, .ref q), (0, .ref (a 0)), (1, vI p0), (2, vI p1), (3, vI p2)]) F dL_diary_13 (by decide) rfl ?_
      refine gh_ldc (pc := 15) (v := (-2000000002)) F knL_diary_18 dL_diary_15 ?_
      exact Z _ _ 17 _ _ dL_diary_17 rfl (Or.inr ⟨_, hE, by rw [gz_kN_A], rfl, rfl⟩)
