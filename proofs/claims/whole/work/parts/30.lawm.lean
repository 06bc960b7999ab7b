/-! ===== the law's methods, laid by wip/whole/gen/lawm.py ===== -/
theorem RiW_sh {cI cJ : ClassId} {a : Nat → Nat} (r r2 : RiS) : (RiW cI cJ a r).map Prod.fst = (RiW cI cJ a r2).map Prod.fst := rfl
theorem RiW_out (cI cJ : ClassId) (a : Nat → Nat) (r : RiS) (x : Nat × va_E) : ([] ++ (RiW cI cJ a r ++ [x]))[73]? = some x := rfl
theorem RiW_outset (cI cJ : ClassId) (a : Nat → Nat) (r : RiS) (x y : Nat × va_E) : ([] ++ (RiW cI cJ a r ++ [x])).set 73 y = RiW cI cJ a r ++ [y] := rfl
theorem clL_machine_13 : Cond.classLink RL 13 xIO ∈ wsL_machine := by decide +kernel
theorem clL_machine_15 : Cond.classLink RL 15 xIA ∈ wsL_machine := by decide +kernel
theorem clL_machine_17 : Cond.classLink RL 17 xIS ∈ wsL_machine := by decide +kernel
set_option maxHeartbeats 4000000 in
set_option maxRecDepth 100000 in
theorem ctL_machine (l : Launch) (hfl : l.stackTraces = false) (D : va_G) (cI cJ cZ : ClassId) (a : Nat → Nat) (r : RiS) (o : Nat) (f : Nat → Int64) (p0 p1 : Int) (hr : RiI r) (h0 : -2147483648 ≤ p0 ∧ p0 < 2147483648) (h1 : -2147483648 ≤ p1 ∧ p1 < 2147483648) : gz_Y l yL_machine wsL_machine { frames := 8, cells := 1, slots := 6, locals := 200 } D cI cJ cZ [.ref (a 0), vI p0, vI p1, .ref o] (RiW cI cJ a r ++ [OuC cJ o f]) (gz_pW gz_c3 (cd_machine r p0 p1) (RiW cI cJ a (Ri_tell r 0 p0 p1 0 0) ++ [OuC cJ o (vp_updL f 0 ((zI (Mc_n (Pl_mc (Ri_P r)))).toInt64))]) (RiW cI cJ a r ++ [OuC cJ o f])) := by
  refine gz_ofY (cc := cL_machine) (maxL := 5) (own := RL) hfl (by decide) rfl rfl (Nat.le_of_ble_eq_true rfl) (lv0 := [(0, .ref (a 0)), (1, vI p0), (2, vI p1), (3, .ref o)]) rfl ?_
  intro p e s m args below meth c A Q htab F FX NC Z
  refine gz_aload_n (pc := 0) F dL_machine_0 rfl 3 rfl ?_
  refine gz_const (pc := 1) F dL_machine_1 ?_
  refine gz_aload_n (pc := 2) F dL_machine_2 rfl 0 rfl ?_
  refine gz_iload_n (pc := 3) F dL_machine_3 rfl 1 rfl ?_
  refine gz_iload_n (pc := 4) F dL_machine_4 rfl 2 rfl ?_
  refine gz_callVXb (pc := 5) (n := 2) (As := [vI p0, vI p1]) (rest := [vI 0, .ref o]) (bytes := cX8_machine) (maxL := 4) (ret := some .int) F FX (cx_X8_machine l hfl D cI cJ cZ a r p0 p1 hr h0 h1) gL_machine_X8_machine rfl ⟨rfl, rfl⟩ (by decide +kernel) ⟨Nat.le_of_ble_eq_true rfl, Nat.le_of_ble_eq_true rfl⟩ rfl [] [OuC cJ o f] (rfl) 8 rfl rfl rfl (Nat.le_of_ble_eq_true rfl) (by decide) (gz_pO_sh (RiW_sh _ _)) dL_machine_5 (fun v W1 hv => ?_) (fun E hE => ?_)
  · obtain ⟨hok, hv, hW⟩ := hv
    subst hv; subst hW
    refine gz_i2l (pc := 8) (v := (zI (Mc_n (Pl_mc (Ri_P r)))).toInt64) F dL_machine_8 rfl ?_
    refine gz_last (pc := 9) (j := 0) F 73 (RiW_out _ _ _ _ _) (by decide) (by decide) (ws2 := RiW cI cJ a (Ri_tell r 0 p0 p1 0 0) ++ [OuC cJ o (vp_updL f 0 ((zI (Mc_n (Pl_mc (Ri_P r)))).toInt64))]) (RiW_outset _ _ _ _ _ _) dL_machine_9 ?_
    refine gz_goto (pc := 10) (tgt := 25) F dL_machine_10 (by decide) ?_
    refine gz_const (pc := 25) F dL_machine_25 ?_
    exact Z _ _ 26 _ dL_machine_26 ⟨by rw [gz_cd_ok hok], Or.inl ⟨hok, rfl⟩⟩
  · have hin : E ∈ [xIO, xIA, xIS] := gz_px_in hE
    have hcd := gz_cd_px (c := gz_c3) hE
    have h3 : E = xIO ∨ E = xIA ∨ E = xIS := (show ∀ E ∈ [xIO, xIA, xIS], E = xIO ∨ E = xIA ∨ E = xIS by decide) E hin
    rcases h3 with rfl | rfl | rfl
    · refine gz_catch (pc := 5) F NC FX.2.1 htab [] ⟨0, 10, 13, 13⟩ [⟨0, 10, 17, 15⟩, ⟨0, 10, 21, 17⟩] rfl (by decide) (fun z hz => absurd hz List.not_mem_nil) (by decide) (by decide) clL_machine_13 (fun q => ?_)
      refine gz_astore (pc := 13) (lv2 := [(4, .ref q), (0, .ref (a 0)), (1, vI p0), (2, vI p1), (3, .ref o)]) F dL_machine_13 (by decide) rfl ?_
      refine gz_const (pc := 15) F dL_machine_15 ?_
      exact Z _ _ 16 _ dL_machine_16 ⟨by rw [hcd, gz_c3_O], Or.inr ⟨⟨_, hE⟩, rfl⟩⟩
    · refine gz_catch (pc := 5) F NC FX.2.1 htab [⟨0, 10, 13, 13⟩] ⟨0, 10, 17, 15⟩ [⟨0, 10, 21, 17⟩] rfl (by decide) (fun z hz => by
          have hz := List.mem_singleton.mp hz
          subst hz
          exact ⟨by decide, xIO, clL_machine_13, by decide⟩) (by decide) (by decide) clL_machine_15 (fun q => ?_)
      refine gz_astore (pc := 17) (lv2 := [(4, .ref q), (0, .ref (a 0)), (1, vI p0), (2, vI p1), (3, .ref o)]) F dL_machine_17 (by decide) rfl ?_
      refine gz_const (pc := 19) F dL_machine_19 ?_
      exact Z _ _ 20 _ dL_machine_20 ⟨by rw [hcd, gz_c3_A], Or.inr ⟨⟨_, hE⟩, rfl⟩⟩
    · refine gz_catch (pc := 5) F NC FX.2.1 htab [⟨0, 10, 13, 13⟩, ⟨0, 10, 17, 15⟩] ⟨0, 10, 21, 17⟩ [] rfl (by decide) (fun z hz => by
          rcases List.mem_cons.mp hz with hz | hz
          · subst hz
            exact ⟨by decide, xIO, clL_machine_13, by decide⟩
          · have hz := List.mem_singleton.mp hz
            subst hz
            exact ⟨by decide, xIA, clL_machine_15, by decide⟩) (by decide) (by decide) clL_machine_17 (fun q => ?_)
      refine gz_astore (pc := 21) (lv2 := [(4, .ref q), (0, .ref (a 0)), (1, vI p0), (2, vI p1), (3, .ref o)]) F dL_machine_21 (by decide) rfl ?_
      refine gz_const (pc := 23) F dL_machine_23 ?_
      exact Z _ _ 24 _ dL_machine_24 ⟨by rw [hcd, gz_c3_S], Or.inr ⟨⟨_, hE⟩, rfl⟩⟩

theorem clL_leave_13 : Cond.classLink RL 13 xIO ∈ wsL_leave := by decide +kernel
theorem clL_leave_15 : Cond.classLink RL 15 xIA ∈ wsL_leave := by decide +kernel
theorem clL_leave_17 : Cond.classLink RL 17 xIS ∈ wsL_leave := by decide +kernel
set_option maxHeartbeats 4000000 in
set_option maxRecDepth 100000 in
theorem ctL_leave (l : Launch) (hfl : l.stackTraces = false) (D : va_G) (cI cJ cZ : ClassId) (a : Nat → Nat) (r : RiS) (p0 p1 p2 : Int) (hr : RiI r) (h0 : -2147483648 ≤ p0 ∧ p0 < 2147483648) (h1 : -2147483648 ≤ p1 ∧ p1 < 2147483648) (h2 : -2147483648 ≤ p2 ∧ p2 < 2147483648) : gz_Y l yL_leave wsL_leave { frames := 8, cells := 1, slots := 6, locals := 200 } D cI cJ cZ [.ref (a 0), vI p0, vI p1, vI p2] (RiW cI cJ a r) (gz_pW gz_c3 (cd_leave r p0 p1 p2) (RiW cI cJ a (Ri_tell r 1 p0 p1 p2 0)) (RiW cI cJ a r)) := by
  refine gz_ofY (cc := cL_leave) (maxL := 5) (own := RL) hfl (by decide) rfl rfl (Nat.le_of_ble_eq_true rfl) (lv0 := [(0, .ref (a 0)), (1, vI p0), (2, vI p1), (3, vI p2)]) rfl ?_
  intro p e s m args below meth c A Q htab F FX NC Z
  refine gz_aload_n (pc := 0) F dL_leave_0 rfl 0 rfl ?_
  refine gz_iload_n (pc := 1) F dL_leave_1 rfl 1 rfl ?_
  refine gz_iload_n (pc := 2) F dL_leave_2 rfl 2 rfl ?_
  refine gz_iload_n (pc := 3) F dL_leave_3 rfl 3 rfl ?_
  refine gz_callVXb (pc := 4) (n := 3) (As := [vI p0, vI p1, vI p2]) (rest := []) (bytes := cX8_leave) (maxL := 5) (ret := none) F FX (cx_X8_leave l hfl D cI cJ cZ a r p0 p1 p2 hr h0 h1 h2) gL_leave_X8_leave rfl ⟨rfl, rfl⟩ (by decide +kernel) ⟨Nat.le_of_ble_eq_true rfl, Nat.le_of_ble_eq_true rfl⟩ rfl [] [] ((List.append_nil _).symm) 8 rfl rfl rfl (Nat.le_of_ble_eq_true rfl) (by decide) (gz_pO_sh (RiW_sh _ _)) dL_leave_4 (fun v W1 hv => ?_) (fun E hE => ?_)
  · obtain ⟨hok, hv, hW⟩ := hv
    subst hv; subst hW
    refine gz_eqw (ws2 := RiW cI cJ a (Ri_tell r 1 p0 p1 p2 0)) (List.append_nil _) ?_
    refine gz_goto (pc := 7) (tgt := 22) F dL_leave_7 (by decide) ?_
    refine gz_const (pc := 22) F dL_leave_22 ?_
    exact Z _ _ 23 _ dL_leave_23 ⟨by rw [gz_cd_ok hok], Or.inl ⟨hok, rfl⟩⟩
  · have hin : E ∈ [xIO, xIA, xIA, xIS] := gz_px_in hE
    have hcd := gz_cd_px (c := gz_c3) hE
    have h3 : E = xIO ∨ E = xIA ∨ E = xIS := (show ∀ E ∈ [xIO, xIA, xIA, xIS], E = xIO ∨ E = xIA ∨ E = xIS by decide) E hin
    rcases h3 with rfl | rfl | rfl
    · refine gz_catch (pc := 4) F NC FX.2.1 htab [] ⟨0, 7, 10, 13⟩ [⟨0, 7, 14, 15⟩, ⟨0, 7, 18, 17⟩] rfl (by decide) (fun z hz => absurd hz List.not_mem_nil) (by decide) (by decide) clL_leave_13 (fun q => ?_)
      refine gz_astore (pc := 10) (lv2 := [(4, .ref q), (0, .ref (a 0)), (1, vI p0), (2, vI p1), (3, vI p2)]) F dL_leave_10 (by decide) rfl ?_
      refine gz_const (pc := 12) F dL_leave_12 ?_
      exact Z _ _ 13 _ dL_leave_13 ⟨by rw [hcd, gz_c3_O], Or.inr ⟨⟨_, hE⟩, rfl⟩⟩
    · refine gz_catch (pc := 4) F NC FX.2.1 htab [⟨0, 7, 10, 13⟩] ⟨0, 7, 14, 15⟩ [⟨0, 7, 18, 17⟩] rfl (by decide) (fun z hz => by
          have hz := List.mem_singleton.mp hz
          subst hz
          exact ⟨by decide, xIO, clL_leave_13, by decide⟩) (by decide) (by decide) clL_leave_15 (fun q => ?_)
      refine gz_astore (pc := 14) (lv2 := [(4, .ref q), (0, .ref (a 0)), (1, vI p0), (2, vI p1), (3, vI p2)]) F dL_leave_14 (by decide) rfl ?_
      refine gz_const (pc := 16) F dL_leave_16 ?_
      exact Z _ _ 17 _ dL_leave_17 ⟨by rw [hcd, gz_c3_A], Or.inr ⟨⟨_, hE⟩, rfl⟩⟩
    · refine gz_catch (pc := 4) F NC FX.2.1 htab [⟨0, 7, 10, 13⟩, ⟨0, 7, 14, 15⟩] ⟨0, 7, 18, 17⟩ [] rfl (by decide) (fun z hz => by
          rcases List.mem_cons.mp hz with hz | hz
          · subst hz
            exact ⟨by decide, xIO, clL_leave_13, by decide⟩
          · have hz := List.mem_singleton.mp hz
            subst hz
            exact ⟨by decide, xIA, clL_leave_15, by decide⟩) (by decide) (by decide) clL_leave_17 (fun q => ?_)
      refine gz_astore (pc := 18) (lv2 := [(4, .ref q), (0, .ref (a 0)), (1, vI p0), (2, vI p1), (3, vI p2)]) F dL_leave_18 (by decide) rfl ?_
      refine gz_const (pc := 20) F dL_leave_20 ?_
      exact Z _ _ 21 _ dL_leave_21 ⟨by rw [hcd, gz_c3_S], Or.inr ⟨⟨_, hE⟩, rfl⟩⟩

theorem clL_lend_13 : Cond.classLink RL 13 xIO ∈ wsL_lend := by decide +kernel
theorem clL_lend_15 : Cond.classLink RL 15 xIA ∈ wsL_lend := by decide +kernel
theorem clL_lend_17 : Cond.classLink RL 17 xIS ∈ wsL_lend := by decide +kernel
set_option maxHeartbeats 4000000 in
set_option maxRecDepth 100000 in
theorem ctL_lend (l : Launch) (hfl : l.stackTraces = false) (D : va_G) (cI cJ cZ : ClassId) (a : Nat → Nat) (r : RiS) (p0 p1 p2 p3 : Int) (hr : RiI r) (h0 : -2147483648 ≤ p0 ∧ p0 < 2147483648) (h1 : -2147483648 ≤ p1 ∧ p1 < 2147483648) (h2 : -2147483648 ≤ p2 ∧ p2 < 2147483648) (h3 : -2147483648 ≤ p3 ∧ p3 < 2147483648) : gz_Y l yL_lend wsL_lend { frames := 8, cells := 1, slots := 6, locals := 200 } D cI cJ cZ [.ref (a 0), vI p0, vI p1, vI p2, vI p3] (RiW cI cJ a r) (gz_pW gz_c3 (cd_lend r p0 p1 p2 p3) (RiW cI cJ a (Ri_tell r 2 p0 p1 p2 p3)) (RiW cI cJ a r)) := by
  refine gz_ofY (cc := cL_lend) (maxL := 6) (own := RL) hfl (by decide) rfl rfl (Nat.le_of_ble_eq_true rfl) (lv0 := [(0, .ref (a 0)), (1, vI p0), (2, vI p1), (3, vI p2), (4, vI p3)]) rfl ?_
  intro p e s m args below meth c A Q htab F FX NC Z
  refine gz_aload_n (pc := 0) F dL_lend_0 rfl 0 rfl ?_
  refine gz_iload_n (pc := 1) F dL_lend_1 rfl 1 rfl ?_
  refine gz_iload_n (pc := 2) F dL_lend_2 rfl 2 rfl ?_
  refine gz_iload_n (pc := 3) F dL_lend_3 rfl 3 rfl ?_
  refine gz_iload (pc := 4) F dL_lend_4 4 rfl ?_
  refine gz_callVXb (pc := 6) (n := 4) (As := [vI p0, vI p1, vI p2, vI p3]) (rest := []) (bytes := cX8_lend) (maxL := 5) (ret := none) F FX (cx_X8_lend l hfl D cI cJ cZ a r p0 p1 p2 p3 hr h0 h1 h2 h3) gL_lend_X8_lend rfl ⟨rfl, rfl⟩ (by decide +kernel) ⟨Nat.le_of_ble_eq_true rfl, Nat.le_of_ble_eq_true rfl⟩ rfl [] [] ((List.append_nil _).symm) 8 rfl rfl rfl (Nat.le_of_ble_eq_true rfl) (by decide) (gz_pO_sh (RiW_sh _ _)) dL_lend_6 (fun v W1 hv => ?_) (fun E hE => ?_)
  · obtain ⟨hok, hv, hW⟩ := hv
    subst hv; subst hW
    refine gz_eqw (ws2 := RiW cI cJ a (Ri_tell r 2 p0 p1 p2 p3)) (List.append_nil _) ?_
    refine gz_goto (pc := 9) (tgt := 24) F dL_lend_9 (by decide) ?_
    refine gz_const (pc := 24) F dL_lend_24 ?_
    exact Z _ _ 25 _ dL_lend_25 ⟨by rw [gz_cd_ok hok], Or.inl ⟨hok, rfl⟩⟩
  · have hin : E ∈ [xIO, xIO, xIA, xIA, xIS] := gz_px_in hE
    have hcd := gz_cd_px (c := gz_c3) hE
    have h3 : E = xIO ∨ E = xIA ∨ E = xIS := (show ∀ E ∈ [xIO, xIO, xIA, xIA, xIS], E = xIO ∨ E = xIA ∨ E = xIS by decide) E hin
    rcases h3 with rfl | rfl | rfl
    · refine gz_catch (pc := 6) F NC FX.2.1 htab [] ⟨0, 9, 12, 13⟩ [⟨0, 9, 16, 15⟩, ⟨0, 9, 20, 17⟩] rfl (by decide) (fun z hz => absurd hz List.not_mem_nil) (by decide) (by decide) clL_lend_13 (fun q => ?_)
      refine gz_astore (pc := 12) (lv2 := [(5, .ref q), (0, .ref (a 0)), (1, vI p0), (2, vI p1), (3, vI p2), (4, vI p3)]) F dL_lend_12 (by decide) rfl ?_
      refine gz_const (pc := 14) F dL_lend_14 ?_
      exact Z _ _ 15 _ dL_lend_15 ⟨by rw [hcd, gz_c3_O], Or.inr ⟨⟨_, hE⟩, rfl⟩⟩
    · refine gz_catch (pc := 6) F NC FX.2.1 htab [⟨0, 9, 12, 13⟩] ⟨0, 9, 16, 15⟩ [⟨0, 9, 20, 17⟩] rfl (by decide) (fun z hz => by
          have hz := List.mem_singleton.mp hz
          subst hz
          exact ⟨by decide, xIO, clL_lend_13, by decide⟩) (by decide) (by decide) clL_lend_15 (fun q => ?_)
      refine gz_astore (pc := 16) (lv2 := [(5, .ref q), (0, .ref (a 0)), (1, vI p0), (2, vI p1), (3, vI p2), (4, vI p3)]) F dL_lend_16 (by decide) rfl ?_
      refine gz_const (pc := 18) F dL_lend_18 ?_
      exact Z _ _ 19 _ dL_lend_19 ⟨by rw [hcd, gz_c3_A], Or.inr ⟨⟨_, hE⟩, rfl⟩⟩
    · refine gz_catch (pc := 6) F NC FX.2.1 htab [⟨0, 9, 12, 13⟩, ⟨0, 9, 16, 15⟩] ⟨0, 9, 20, 17⟩ [] rfl (by decide) (fun z hz => by
          rcases List.mem_cons.mp hz with hz | hz
          · subst hz
            exact ⟨by decide, xIO, clL_lend_13, by decide⟩
          · have hz := List.mem_singleton.mp hz
            subst hz
            exact ⟨by decide, xIA, clL_lend_15, by decide⟩) (by decide) (by decide) clL_lend_17 (fun q => ?_)
      refine gz_astore (pc := 20) (lv2 := [(5, .ref q), (0, .ref (a 0)), (1, vI p0), (2, vI p1), (3, vI p2), (4, vI p3)]) F dL_lend_20 (by decide) rfl ?_
      refine gz_const (pc := 22) F dL_lend_22 ?_
      exact Z _ _ 23 _ dL_lend_23 ⟨by rw [hcd, gz_c3_S], Or.inr ⟨⟨_, hE⟩, rfl⟩⟩

theorem clL_breakDown_13 : Cond.classLink RL 13 xIO ∈ wsL_breakDown := by decide +kernel
theorem clL_breakDown_15 : Cond.classLink RL 15 xIA ∈ wsL_breakDown := by decide +kernel
set_option maxHeartbeats 4000000 in
set_option maxRecDepth 100000 in
theorem ctL_breakDown (l : Launch) (hfl : l.stackTraces = false) (D : va_G) (cI cJ cZ : ClassId) (a : Nat → Nat) (r : RiS) (o : Nat) (f : Nat → Int64) (p0 p1 : Int) (hr : RiI r) (h0 : -2147483648 ≤ p0 ∧ p0 < 2147483648) (h1 : -2147483648 ≤ p1 ∧ p1 < 2147483648) : gz_Y l yL_breakDown wsL_breakDown { frames := 8, cells := 1, slots := 6, locals := 200 } D cI cJ cZ [.ref (a 0), vI p0, vI p1, .ref o] (RiW cI cJ a r ++ [OuC cJ o f]) (gz_pW gz_c2 (cd_breakDown r p0 p1) (RiW cI cJ a (Ri_tell r 3 p0 p1 0 0) ++ [OuC cJ o (vp_updL f 0 ((zI ((if 0 < p1 then Mc_ru (Pl_mc (Ri_P r)) p0 else -1))).toInt64))]) (RiW cI cJ a r ++ [OuC cJ o f])) := by
  refine gz_ofY (cc := cL_breakDown) (maxL := 5) (own := RL) hfl (by decide) rfl rfl (Nat.le_of_ble_eq_true rfl) (lv0 := [(0, .ref (a 0)), (1, vI p0), (2, vI p1), (3, .ref o)]) rfl ?_
  intro p e s m args below meth c A Q htab F FX NC Z
  refine gz_aload_n (pc := 0) F dL_breakDown_0 rfl 3 rfl ?_
  refine gz_const (pc := 1) F dL_breakDown_1 ?_
  refine gz_aload_n (pc := 2) F dL_breakDown_2 rfl 0 rfl ?_
  refine gz_iload_n (pc := 3) F dL_breakDown_3 rfl 1 rfl ?_
  refine gz_iload_n (pc := 4) F dL_breakDown_4 rfl 2 rfl ?_
  refine gz_callVXb (pc := 5) (n := 2) (As := [vI p0, vI p1]) (rest := [vI 0, .ref o]) (bytes := cX8_breakDown) (maxL := 4) (ret := some .int) F FX (cx_X8_breakDown l hfl D cI cJ cZ a r p0 p1 hr h0 h1) gL_breakDown_X8_breakDown rfl ⟨rfl, rfl⟩ (by decide +kernel) ⟨Nat.le_of_ble_eq_true rfl, Nat.le_of_ble_eq_true rfl⟩ rfl [] [OuC cJ o f] (rfl) 8 rfl rfl rfl (Nat.le_of_ble_eq_true rfl) (by decide) (gz_pO_sh (RiW_sh _ _)) dL_breakDown_5 (fun v W1 hv => ?_) (fun E hE => ?_)
  · obtain ⟨hok, hv, hW⟩ := hv
    subst hv; subst hW
    refine gz_i2l (pc := 8) (v := (zI ((if 0 < p1 then Mc_ru (Pl_mc (Ri_P r)) p0 else -1))).toInt64) F dL_breakDown_8 rfl ?_
    refine gz_last (pc := 9) (j := 0) F 73 (RiW_out _ _ _ _ _) (by decide) (by decide) (ws2 := RiW cI cJ a (Ri_tell r 3 p0 p1 0 0) ++ [OuC cJ o (vp_updL f 0 ((zI ((if 0 < p1 then Mc_ru (Pl_mc (Ri_P r)) p0 else -1))).toInt64))]) (RiW_outset _ _ _ _ _ _) dL_breakDown_9 ?_
    refine gz_goto (pc := 10) (tgt := 21) F dL_breakDown_10 (by decide) ?_
    refine gz_const (pc := 21) F dL_breakDown_21 ?_
    exact Z _ _ 22 _ dL_breakDown_22 ⟨by rw [gz_cd_ok hok], Or.inl ⟨hok, rfl⟩⟩
  · have hin : E ∈ [xIO, xIA] := gz_px_in hE
    have hcd := gz_cd_px (c := gz_c2) hE
    have h3 : E = xIO ∨ E = xIA := (show ∀ E ∈ [xIO, xIA], E = xIO ∨ E = xIA by decide) E hin
    rcases h3 with rfl | rfl
    · refine gz_catch (pc := 5) F NC FX.2.1 htab [] ⟨0, 10, 13, 13⟩ [⟨0, 10, 17, 15⟩] rfl (by decide) (fun z hz => absurd hz List.not_mem_nil) (by decide) (by decide) clL_breakDown_13 (fun q => ?_)
      refine gz_astore (pc := 13) (lv2 := [(4, .ref q), (0, .ref (a 0)), (1, vI p0), (2, vI p1), (3, .ref o)]) F dL_breakDown_13 (by decide) rfl ?_
      refine gz_const (pc := 15) F dL_breakDown_15 ?_
      exact Z _ _ 16 _ dL_breakDown_16 ⟨by rw [hcd, gz_c2_O], Or.inr ⟨⟨_, hE⟩, rfl⟩⟩
    · refine gz_catch (pc := 5) F NC FX.2.1 htab [⟨0, 10, 13, 13⟩] ⟨0, 10, 17, 15⟩ [] rfl (by decide) (fun z hz => by
          have hz := List.mem_singleton.mp hz
          subst hz
          exact ⟨by decide, xIO, clL_breakDown_13, by decide⟩) (by decide) (by decide) clL_breakDown_15 (fun q => ?_)
      refine gz_astore (pc := 17) (lv2 := [(4, .ref q), (0, .ref (a 0)), (1, vI p0), (2, vI p1), (3, .ref o)]) F dL_breakDown_17 (by decide) rfl ?_
      refine gz_const (pc := 19) F dL_breakDown_19 ?_
      exact Z _ _ 20 _ dL_breakDown_20 ⟨by rw [hcd, gz_c2_A], Or.inr ⟨⟨_, hE⟩, rfl⟩⟩

theorem clL_meeting_13 : Cond.classLink RL 13 xIO ∈ wsL_meeting := by decide +kernel
theorem clL_meeting_15 : Cond.classLink RL 15 xIA ∈ wsL_meeting := by decide +kernel
theorem clL_meeting_17 : Cond.classLink RL 17 xIS ∈ wsL_meeting := by decide +kernel
set_option maxHeartbeats 4000000 in
set_option maxRecDepth 100000 in
theorem ctL_meeting (l : Launch) (hfl : l.stackTraces = false) (D : va_G) (cI cJ cZ : ClassId) (a : Nat → Nat) (r : RiS) (o : Nat) (f : Nat → Int64) (p0 p1 p2 p3 : Int) (hr : RiI r) (h0 : -2147483648 ≤ p0 ∧ p0 < 2147483648) (h1 : -2147483648 ≤ p1 ∧ p1 < 2147483648) (h2 : -2147483648 ≤ p2 ∧ p2 < 2147483648) (h3 : -2147483648 ≤ p3 ∧ p3 < 2147483648) : gz_Y l yL_meeting wsL_meeting { frames := 8, cells := 1, slots := 6, locals := 200 } D cI cJ cZ [.ref (a 0), vI p0, vI p1, vI p2, vI p3, .ref o] (RiW cI cJ a r ++ [OuC cJ o f]) (gz_pW gz_c3 (cd_meeting r p0 p1 p2 p3) (RiW cI cJ a (Ri_tell r 4 p0 p1 p2 p3) ++ [OuC cJ o (vp_updL f 0 ((zI (Mt_n (Pl_mt (Ri_P r)))).toInt64))]) (RiW cI cJ a r ++ [OuC cJ o f])) := by
  refine gz_ofY (cc := cL_meeting) (maxL := 7) (own := RL) hfl (by decide) rfl rfl (Nat.le_of_ble_eq_true rfl) (lv0 := [(0, .ref (a 0)), (1, vI p0), (2, vI p1), (3, vI p2), (4, vI p3), (5, .ref o)]) rfl ?_
  intro p e s m args below meth c A Q htab F FX NC Z
  refine gz_aload (pc := 0) F dL_meeting_0 5 rfl ?_
  refine gz_const (pc := 2) F dL_meeting_2 ?_
  refine gz_aload_n (pc := 3) F dL_meeting_3 rfl 0 rfl ?_
  refine gz_iload_n (pc := 4) F dL_meeting_4 rfl 1 rfl ?_
  refine gz_iload_n (pc := 5) F dL_meeting_5 rfl 2 rfl ?_
  refine gz_iload_n (pc := 6) F dL_meeting_6 rfl 3 rfl ?_
  refine gz_iload (pc := 7) F dL_meeting_7 4 rfl ?_
  refine gz_callVXb (pc := 9) (n := 4) (As := [vI p0, vI p1, vI p2, vI p3]) (rest := [vI 0, .ref o]) (bytes := cX8_meeting) (maxL := 6) (ret := some .int) F FX (cx_X8_meeting l hfl D cI cJ cZ a r p0 p1 p2 p3 hr h0 h1 h2 h3) gL_meeting_X8_meeting rfl ⟨rfl, rfl⟩ (by decide +kernel) ⟨Nat.le_of_ble_eq_true rfl, Nat.le_of_ble_eq_true rfl⟩ rfl [] [OuC cJ o f] (rfl) 8 rfl rfl rfl (Nat.le_of_ble_eq_true rfl) (by decide) (gz_pO_sh (RiW_sh _ _)) dL_meeting_9 (fun v W1 hv => ?_) (fun E hE => ?_)
  · obtain ⟨hok, hv, hW⟩ := hv
    subst hv; subst hW
    refine gz_i2l (pc := 12) (v := (zI (Mt_n (Pl_mt (Ri_P r)))).toInt64) F dL_meeting_12 rfl ?_
    refine gz_last (pc := 13) (j := 0) F 73 (RiW_out _ _ _ _ _) (by decide) (by decide) (ws2 := RiW cI cJ a (Ri_tell r 4 p0 p1 p2 p3) ++ [OuC cJ o (vp_updL f 0 ((zI (Mt_n (Pl_mt (Ri_P r)))).toInt64))]) (RiW_outset _ _ _ _ _ _) dL_meeting_13 ?_
    refine gz_goto (pc := 14) (tgt := 29) F dL_meeting_14 (by decide) ?_
    refine gz_const (pc := 29) F dL_meeting_29 ?_
    exact Z _ _ 30 _ dL_meeting_30 ⟨by rw [gz_cd_ok hok], Or.inl ⟨hok, rfl⟩⟩
  · have hin : E ∈ [xIO, xIA, xIA, xIA, xIA, xIS, xIS] := gz_px_in hE
    have hcd := gz_cd_px (c := gz_c3) hE
    have h3 : E = xIO ∨ E = xIA ∨ E = xIS := (show ∀ E ∈ [xIO, xIA, xIA, xIA, xIA, xIS, xIS], E = xIO ∨ E = xIA ∨ E = xIS by decide) E hin
    rcases h3 with rfl | rfl | rfl
    · refine gz_catch (pc := 9) F NC FX.2.1 htab [] ⟨0, 14, 17, 13⟩ [⟨0, 14, 21, 15⟩, ⟨0, 14, 25, 17⟩] rfl (by decide) (fun z hz => absurd hz List.not_mem_nil) (by decide) (by decide) clL_meeting_13 (fun q => ?_)
      refine gz_astore (pc := 17) (lv2 := [(6, .ref q), (0, .ref (a 0)), (1, vI p0), (2, vI p1), (3, vI p2), (4, vI p3), (5, .ref o)]) F dL_meeting_17 (by decide) rfl ?_
      refine gz_const (pc := 19) F dL_meeting_19 ?_
      exact Z _ _ 20 _ dL_meeting_20 ⟨by rw [hcd, gz_c3_O], Or.inr ⟨⟨_, hE⟩, rfl⟩⟩
    · refine gz_catch (pc := 9) F NC FX.2.1 htab [⟨0, 14, 17, 13⟩] ⟨0, 14, 21, 15⟩ [⟨0, 14, 25, 17⟩] rfl (by decide) (fun z hz => by
          have hz := List.mem_singleton.mp hz
          subst hz
          exact ⟨by decide, xIO, clL_meeting_13, by decide⟩) (by decide) (by decide) clL_meeting_15 (fun q => ?_)
      refine gz_astore (pc := 21) (lv2 := [(6, .ref q), (0, .ref (a 0)), (1, vI p0), (2, vI p1), (3, vI p2), (4, vI p3), (5, .ref o)]) F dL_meeting_21 (by decide) rfl ?_
      refine gz_const (pc := 23) F dL_meeting_23 ?_
      exact Z _ _ 24 _ dL_meeting_24 ⟨by rw [hcd, gz_c3_A], Or.inr ⟨⟨_, hE⟩, rfl⟩⟩
    · refine gz_catch (pc := 9) F NC FX.2.1 htab [⟨0, 14, 17, 13⟩, ⟨0, 14, 21, 15⟩] ⟨0, 14, 25, 17⟩ [] rfl (by decide) (fun z hz => by
          rcases List.mem_cons.mp hz with hz | hz
          · subst hz
            exact ⟨by decide, xIO, clL_meeting_13, by decide⟩
          · have hz := List.mem_singleton.mp hz
            subst hz
            exact ⟨by decide, xIA, clL_meeting_15, by decide⟩) (by decide) (by decide) clL_meeting_17 (fun q => ?_)
      refine gz_astore (pc := 25) (lv2 := [(6, .ref q), (0, .ref (a 0)), (1, vI p0), (2, vI p1), (3, vI p2), (4, vI p3), (5, .ref o)]) F dL_meeting_25 (by decide) rfl ?_
      refine gz_const (pc := 27) F dL_meeting_27 ?_
      exact Z _ _ 28 _ dL_meeting_28 ⟨by rw [hcd, gz_c3_S], Or.inr ⟨⟨_, hE⟩, rfl⟩⟩

theorem clL_move_13 : Cond.classLink RL 13 xIO ∈ wsL_move := by decide +kernel
theorem clL_move_15 : Cond.classLink RL 15 xIA ∈ wsL_move := by decide +kernel
theorem clL_move_17 : Cond.classLink RL 17 xIS ∈ wsL_move := by decide +kernel
set_option maxHeartbeats 4000000 in
set_option maxRecDepth 100000 in
theorem ctL_move (l : Launch) (hfl : l.stackTraces = false) (D : va_G) (cI cJ cZ : ClassId) (a : Nat → Nat) (r : RiS) (o : Nat) (f : Nat → Int64) (p0 p1 : Int) (hr : RiI r) (h0 : -2147483648 ≤ p0 ∧ p0 < 2147483648) (h1 : -2147483648 ≤ p1 ∧ p1 < 2147483648) (hL : ∀ k, 0 ≤ k → k < Mt_n (Pl_mt (Ri_P r)) → 1 ≤ Mt_ln (Pl_mt (Ri_P r)) k) : gz_Y l yL_move wsL_move { frames := 8, cells := 1, slots := 6, locals := 200 } D cI cJ cZ [.ref (a 0), vI p0, vI p1, .ref o] (RiW cI cJ a r ++ [OuC cJ o f]) (gz_pW gz_c3 (cd_move r p0 p1) (RiW cI cJ a (@ite _ (Pl_can (Ri_P r) p0 p1) (Classical.propDecidable _) (Ri_tell r 5 p0 p1 0 0) r) ++ [OuC cJ o (vp_updL f 0 ((zI (bz (Pl_can (Ri_P r) p0 p1))).toInt64))]) (RiW cI cJ a r ++ [OuC cJ o f])) := by
  refine gz_ofY (cc := cL_move) (maxL := 5) (own := RL) hfl (by decide) rfl rfl (Nat.le_of_ble_eq_true rfl) (lv0 := [(0, .ref (a 0)), (1, vI p0), (2, vI p1), (3, .ref o)]) rfl ?_
  intro p e s m args below meth c A Q htab F FX NC Z
  refine gz_aload_n (pc := 0) F dL_move_0 rfl 3 rfl ?_
  refine gz_const (pc := 1) F dL_move_1 ?_
  refine gz_aload_n (pc := 2) F dL_move_2 rfl 0 rfl ?_
  refine gz_iload_n (pc := 3) F dL_move_3 rfl 1 rfl ?_
  refine gz_iload_n (pc := 4) F dL_move_4 rfl 2 rfl ?_
  refine gz_callVXb (pc := 5) (n := 2) (As := [vI p0, vI p1]) (rest := [vI 0, .ref o]) (bytes := cX8_move) (maxL := 4) (ret := some .boolean) F FX (cx_X8_move l hfl D cI cJ cZ a r p0 p1 hr h0 h1 hL) gL_move_X8_move rfl ⟨rfl, rfl⟩ (by decide +kernel) ⟨Nat.le_of_ble_eq_true rfl, Nat.le_of_ble_eq_true rfl⟩ rfl [] [OuC cJ o f] (rfl) 8 rfl rfl rfl (Nat.le_of_ble_eq_true rfl) (by decide) (gz_pO_sh (RiW_sh _ _)) dL_move_5 (fun v W1 hv => ?_) (fun E hE => ?_)
  · obtain ⟨hok, hv, hW⟩ := hv
    subst hv; subst hW
    refine gz_if_eqb (pc := 8) (tgt := 15) F dL_move_8 (by decide) (fun hb => ?_) (fun hb => ?_)
    · refine gz_lconst (pc := 15) (v := (zI (bz (Pl_can (Ri_P r) p0 p1))).toInt64) F dL_move_15 (by rw [bz_f hb]; decide) ?_
      refine gz_last (pc := 16) (j := 0) F 73 (RiW_out _ _ _ _ _) (by decide) (by decide) (ws2 := RiW cI cJ a (@ite _ (Pl_can (Ri_P r) p0 p1) (Classical.propDecidable _) (Ri_tell r 5 p0 p1 0 0) r) ++ [OuC cJ o (vp_updL f 0 ((zI (bz (Pl_can (Ri_P r) p0 p1))).toInt64))]) (RiW_outset _ _ _ _ _ _) dL_move_16 ?_
      refine gz_goto (pc := 17) (tgt := 32) F dL_move_17 (by decide) ?_
      refine gz_const (pc := 32) F dL_move_32 ?_
      exact Z _ _ 33 _ dL_move_33 ⟨by rw [gz_cd_ok hok], Or.inl ⟨hok, rfl⟩⟩
    · refine gz_lconst (pc := 11) (v := (zI (bz (Pl_can (Ri_P r) p0 p1))).toInt64) F dL_move_11 (by rw [bz_t hb]; decide) ?_
      refine gz_goto (pc := 12) (tgt := 16) F dL_move_12 (by decide) ?_
      refine gz_last (pc := 16) (j := 0) F 73 (RiW_out _ _ _ _ _) (by decide) (by decide) (ws2 := RiW cI cJ a (@ite _ (Pl_can (Ri_P r) p0 p1) (Classical.propDecidable _) (Ri_tell r 5 p0 p1 0 0) r) ++ [OuC cJ o (vp_updL f 0 ((zI (bz (Pl_can (Ri_P r) p0 p1))).toInt64))]) (RiW_outset _ _ _ _ _ _) dL_move_16 ?_
      refine gz_goto (pc := 17) (tgt := 32) F dL_move_17 (by decide) ?_
      refine gz_const (pc := 32) F dL_move_32 ?_
      exact Z _ _ 33 _ dL_move_33 ⟨by rw [gz_cd_ok hok], Or.inl ⟨hok, rfl⟩⟩
  · have hin : E ∈ [xIO, xIA, xIA, xIS] := gz_px_in hE
    have hcd := gz_cd_px (c := gz_c3) hE
    have h3 : E = xIO ∨ E = xIA ∨ E = xIS := (show ∀ E ∈ [xIO, xIA, xIA, xIS], E = xIO ∨ E = xIA ∨ E = xIS by decide) E hin
    rcases h3 with rfl | rfl | rfl
    · refine gz_catch (pc := 5) F NC FX.2.1 htab [] ⟨0, 17, 20, 13⟩ [⟨0, 17, 24, 15⟩, ⟨0, 17, 28, 17⟩] rfl (by decide) (fun z hz => absurd hz List.not_mem_nil) (by decide) (by decide) clL_move_13 (fun q => ?_)
      refine gz_astore (pc := 20) (lv2 := [(4, .ref q), (0, .ref (a 0)), (1, vI p0), (2, vI p1), (3, .ref o)]) F dL_move_20 (by decide) rfl ?_
      refine gz_const (pc := 22) F dL_move_22 ?_
      exact Z _ _ 23 _ dL_move_23 ⟨by rw [hcd, gz_c3_O], Or.inr ⟨⟨_, hE⟩, rfl⟩⟩
    · refine gz_catch (pc := 5) F NC FX.2.1 htab [⟨0, 17, 20, 13⟩] ⟨0, 17, 24, 15⟩ [⟨0, 17, 28, 17⟩] rfl (by decide) (fun z hz => by
          have hz := List.mem_singleton.mp hz
          subst hz
          exact ⟨by decide, xIO, clL_move_13, by decide⟩) (by decide) (by decide) clL_move_15 (fun q => ?_)
      refine gz_astore (pc := 24) (lv2 := [(4, .ref q), (0, .ref (a 0)), (1, vI p0), (2, vI p1), (3, .ref o)]) F dL_move_24 (by decide) rfl ?_
      refine gz_const (pc := 26) F dL_move_26 ?_
      exact Z _ _ 27 _ dL_move_27 ⟨by rw [hcd, gz_c3_A], Or.inr ⟨⟨_, hE⟩, rfl⟩⟩
    · refine gz_catch (pc := 5) F NC FX.2.1 htab [⟨0, 17, 20, 13⟩, ⟨0, 17, 24, 15⟩] ⟨0, 17, 28, 17⟩ [] rfl (by decide) (fun z hz => by
          rcases List.mem_cons.mp hz with hz | hz
          · subst hz
            exact ⟨by decide, xIO, clL_move_13, by decide⟩
          · have hz := List.mem_singleton.mp hz
            subst hz
            exact ⟨by decide, xIA, clL_move_15, by decide⟩) (by decide) (by decide) clL_move_17 (fun q => ?_)
      refine gz_astore (pc := 28) (lv2 := [(4, .ref q), (0, .ref (a 0)), (1, vI p0), (2, vI p1), (3, .ref o)]) F dL_move_28 (by decide) rfl ?_
      refine gz_const (pc := 30) F dL_move_30 ?_
      exact Z _ _ 31 _ dL_move_31 ⟨by rw [hcd, gz_c3_S], Or.inr ⟨⟨_, hE⟩, rfl⟩⟩

theorem clL_cancel_13 : Cond.classLink RL 13 xIO ∈ wsL_cancel := by decide +kernel
theorem clL_cancel_17 : Cond.classLink RL 17 xIS ∈ wsL_cancel := by decide +kernel
set_option maxHeartbeats 4000000 in
set_option maxRecDepth 100000 in
theorem ctL_cancel (l : Launch) (hfl : l.stackTraces = false) (D : va_G) (cI cJ cZ : ClassId) (a : Nat → Nat) (r : RiS) (p0 : Int) (hr : RiI r) (h0 : -2147483648 ≤ p0 ∧ p0 < 2147483648) : gz_Y l yL_cancel wsL_cancel { frames := 8, cells := 1, slots := 6, locals := 200 } D cI cJ cZ [.ref (a 0), vI p0] (RiW cI cJ a r) (gz_pW gz_c2 (cd_cancel r p0) (RiW cI cJ a (Ri_tell r 6 p0 0 0 0)) (RiW cI cJ a r)) := by
  refine gz_ofY (cc := cL_cancel) (maxL := 3) (own := RL) hfl (by decide) rfl rfl (Nat.le_of_ble_eq_true rfl) (lv0 := [(0, .ref (a 0)), (1, vI p0)]) rfl ?_
  intro p e s m args below meth c A Q htab F FX NC Z
  refine gz_aload_n (pc := 0) F dL_cancel_0 rfl 0 rfl ?_
  refine gz_iload_n (pc := 1) F dL_cancel_1 rfl 1 rfl ?_
  refine gz_callVXb (pc := 2) (n := 1) (As := [vI p0]) (rest := []) (bytes := cX8_cancel) (maxL := 2) (ret := none) F FX (cx_X8_cancel l hfl D cI cJ cZ a r p0 hr h0) gL_cancel_X8_cancel rfl ⟨rfl, rfl⟩ (by decide +kernel) ⟨Nat.le_of_ble_eq_true rfl, Nat.le_of_ble_eq_true rfl⟩ rfl [] [] ((List.append_nil _).symm) 8 rfl rfl rfl (Nat.le_of_ble_eq_true rfl) (by decide) (gz_pO_sh (RiW_sh _ _)) dL_cancel_2 (fun v W1 hv => ?_) (fun E hE => ?_)
  · obtain ⟨hok, hv, hW⟩ := hv
    subst hv; subst hW
    refine gz_eqw (ws2 := RiW cI cJ a (Ri_tell r 6 p0 0 0 0)) (List.append_nil _) ?_
    refine gz_goto (pc := 5) (tgt := 14) F dL_cancel_5 (by decide) ?_
    refine gz_const (pc := 14) F dL_cancel_14 ?_
    exact Z _ _ 15 _ dL_cancel_15 ⟨by rw [gz_cd_ok hok], Or.inl ⟨hok, rfl⟩⟩
  · have hin : E ∈ [xIO, xIS] := gz_px_in hE
    have hcd := gz_cd_px (c := gz_c2) hE
    have h3 : E = xIO ∨ E = xIS := (show ∀ E ∈ [xIO, xIS], E = xIO ∨ E = xIS by decide) E hin
    rcases h3 with rfl | rfl
    · refine gz_catch (pc := 2) F NC FX.2.1 htab [] ⟨0, 5, 8, 13⟩ [⟨0, 5, 11, 17⟩] rfl (by decide) (fun z hz => absurd hz List.not_mem_nil) (by decide) (by decide) clL_cancel_13 (fun q => ?_)
      refine gz_astore_n (pc := 8) (lv2 := [(2, .ref q), (0, .ref (a 0)), (1, vI p0)]) F dL_cancel_8 rfl (by decide) rfl ?_
      refine gz_const (pc := 9) F dL_cancel_9 ?_
      exact Z _ _ 10 _ dL_cancel_10 ⟨by rw [hcd, gz_c2_O], Or.inr ⟨⟨_, hE⟩, rfl⟩⟩
    · refine gz_catch (pc := 2) F NC FX.2.1 htab [⟨0, 5, 8, 13⟩] ⟨0, 5, 11, 17⟩ [] rfl (by decide) (fun z hz => by
          have hz := List.mem_singleton.mp hz
          subst hz
          exact ⟨by decide, xIO, clL_cancel_13, by decide⟩) (by decide) (by decide) clL_cancel_17 (fun q => ?_)
      refine gz_astore_n (pc := 11) (lv2 := [(2, .ref q), (0, .ref (a 0)), (1, vI p0)]) F dL_cancel_11 rfl (by decide) rfl ?_
      refine gz_const (pc := 12) F dL_cancel_12 ?_
      exact Z _ _ 13 _ dL_cancel_13 ⟨by rw [hcd, gz_c2_S], Or.inr ⟨⟨_, hE⟩, rfl⟩⟩

theorem clL_swap_13 : Cond.classLink RL 13 xIO ∈ wsL_swap := by decide +kernel
theorem clL_swap_15 : Cond.classLink RL 15 xIA ∈ wsL_swap := by decide +kernel
theorem clL_swap_17 : Cond.classLink RL 17 xIS ∈ wsL_swap := by decide +kernel
set_option maxHeartbeats 4000000 in
set_option maxRecDepth 100000 in
theorem ctL_swap (l : Launch) (hfl : l.stackTraces = false) (D : va_G) (cI cJ cZ : ClassId) (a : Nat → Nat) (r : RiS) (o : Nat) (f : Nat → Int64) (p0 p1 : Int) (hr : RiI r) (h0 : -2147483648 ≤ p0 ∧ p0 < 2147483648) (h1 : -2147483648 ≤ p1 ∧ p1 < 2147483648) : gz_Y l yL_swap wsL_swap { frames := 8, cells := 1, slots := 6, locals := 200 } D cI cJ cZ [.ref (a 0), vI p0, vI p1, .ref o] (RiW cI cJ a r ++ [OuC cJ o f]) (gz_pW gz_c3 (cd_swap r p0 p1) (RiW cI cJ a (Ri_setS r (Sw_add (Ri_S r) p0 (Mt_mv (Pl_mt (Ri_P r)) p0) p1 (Mt_mv (Pl_mt (Ri_P r)) p1))) ++ [OuC cJ o (vp_updL f 0 ((zI (Sw_n (Ri_S r))).toInt64))]) (RiW cI cJ a r ++ [OuC cJ o f])) := by
  refine gz_ofY (cc := cL_swap) (maxL := 5) (own := RL) hfl (by decide) rfl rfl (Nat.le_of_ble_eq_true rfl) (lv0 := [(0, .ref (a 0)), (1, vI p0), (2, vI p1), (3, .ref o)]) rfl ?_
  intro p e s m args below meth c A Q htab F FX NC Z
  refine gz_aload_n (pc := 0) F dL_swap_0 rfl 3 rfl ?_
  refine gz_const (pc := 1) F dL_swap_1 ?_
  refine gz_aload_n (pc := 2) F dL_swap_2 rfl 0 rfl ?_
  refine gz_iload_n (pc := 3) F dL_swap_3 rfl 1 rfl ?_
  refine gz_iload_n (pc := 4) F dL_swap_4 rfl 2 rfl ?_
  refine gz_callVXb (pc := 5) (n := 2) (As := [vI p0, vI p1]) (rest := [vI 0, .ref o]) (bytes := cX8_swap) (maxL := 4) (ret := some .int) F FX (cx_X8_swap l hfl D cI cJ cZ a r p0 p1 hr h0 h1) gL_swap_X8_swap rfl ⟨rfl, rfl⟩ (by decide +kernel) ⟨Nat.le_of_ble_eq_true rfl, Nat.le_of_ble_eq_true rfl⟩ rfl [] [OuC cJ o f] (rfl) 8 rfl rfl rfl (Nat.le_of_ble_eq_true rfl) (by decide) (gz_pO_sh (RiW_sh _ _)) dL_swap_5 (fun v W1 hv => ?_) (fun E hE => ?_)
  · obtain ⟨hok, hv, hW⟩ := hv
    subst hv; subst hW
    refine gz_i2l (pc := 8) (v := (zI (Sw_n (Ri_S r))).toInt64) F dL_swap_8 rfl ?_
    refine gz_last (pc := 9) (j := 0) F 73 (RiW_out _ _ _ _ _) (by decide) (by decide) (ws2 := RiW cI cJ a (Ri_setS r (Sw_add (Ri_S r) p0 (Mt_mv (Pl_mt (Ri_P r)) p0) p1 (Mt_mv (Pl_mt (Ri_P r)) p1))) ++ [OuC cJ o (vp_updL f 0 ((zI (Sw_n (Ri_S r))).toInt64))]) (RiW_outset _ _ _ _ _ _) dL_swap_9 ?_
    refine gz_goto (pc := 10) (tgt := 25) F dL_swap_10 (by decide) ?_
    refine gz_const (pc := 25) F dL_swap_25 ?_
    exact Z _ _ 26 _ dL_swap_26 ⟨by rw [gz_cd_ok hok], Or.inl ⟨hok, rfl⟩⟩
  · have hin : E ∈ [xIO, xIO, xIA, xIS, xIS, xIS] := gz_px_in hE
    have hcd := gz_cd_px (c := gz_c3) hE
    have h3 : E = xIO ∨ E = xIA ∨ E = xIS := (show ∀ E ∈ [xIO, xIO, xIA, xIS, xIS, xIS], E = xIO ∨ E = xIA ∨ E = xIS by decide) E hin
    rcases h3 with rfl | rfl | rfl
    · refine gz_catch (pc := 5) F NC FX.2.1 htab [] ⟨0, 10, 13, 13⟩ [⟨0, 10, 17, 15⟩, ⟨0, 10, 21, 17⟩] rfl (by decide) (fun z hz => absurd hz List.not_mem_nil) (by decide) (by decide) clL_swap_13 (fun q => ?_)
      refine gz_astore (pc := 13) (lv2 := [(4, .ref q), (0, .ref (a 0)), (1, vI p0), (2, vI p1), (3, .ref o)]) F dL_swap_13 (by decide) rfl ?_
      refine gz_const (pc := 15) F dL_swap_15 ?_
      exact Z _ _ 16 _ dL_swap_16 ⟨by rw [hcd, gz_c3_O], Or.inr ⟨⟨_, hE⟩, rfl⟩⟩
    · refine gz_catch (pc := 5) F NC FX.2.1 htab [⟨0, 10, 13, 13⟩] ⟨0, 10, 17, 15⟩ [⟨0, 10, 21, 17⟩] rfl (by decide) (fun z hz => by
          have hz := List.mem_singleton.mp hz
          subst hz
          exact ⟨by decide, xIO, clL_swap_13, by decide⟩) (by decide) (by decide) clL_swap_15 (fun q => ?_)
      refine gz_astore (pc := 17) (lv2 := [(4, .ref q), (0, .ref (a 0)), (1, vI p0), (2, vI p1), (3, .ref o)]) F dL_swap_17 (by decide) rfl ?_
      refine gz_const (pc := 19) F dL_swap_19 ?_
      exact Z _ _ 20 _ dL_swap_20 ⟨by rw [hcd, gz_c3_A], Or.inr ⟨⟨_, hE⟩, rfl⟩⟩
    · refine gz_catch (pc := 5) F NC FX.2.1 htab [⟨0, 10, 13, 13⟩, ⟨0, 10, 17, 15⟩] ⟨0, 10, 21, 17⟩ [] rfl (by decide) (fun z hz => by
          rcases List.mem_cons.mp hz with hz | hz
          · subst hz
            exact ⟨by decide, xIO, clL_swap_13, by decide⟩
          · have hz := List.mem_singleton.mp hz
            subst hz
            exact ⟨by decide, xIA, clL_swap_15, by decide⟩) (by decide) (by decide) clL_swap_17 (fun q => ?_)
      refine gz_astore (pc := 21) (lv2 := [(4, .ref q), (0, .ref (a 0)), (1, vI p0), (2, vI p1), (3, .ref o)]) F dL_swap_21 (by decide) rfl ?_
      refine gz_const (pc := 23) F dL_swap_23 ?_
      exact Z _ _ 24 _ dL_swap_24 ⟨by rw [hcd, gz_c3_S], Or.inr ⟨⟨_, hE⟩, rfl⟩⟩

theorem clL_agree_13 : Cond.classLink RL 13 xIO ∈ wsL_agree := by decide +kernel
theorem clL_agree_17 : Cond.classLink RL 17 xIS ∈ wsL_agree := by decide +kernel
set_option maxHeartbeats 4000000 in
set_option maxRecDepth 100000 in
theorem ctL_agree (l : Launch) (hfl : l.stackTraces = false) (D : va_G) (cI cJ cZ : ClassId) (a : Nat → Nat) (r : RiS) (o : Nat) (f : Nat → Int64) (p0 p1 : Int) (hr : RiI r) (h0 : -2147483648 ≤ p0 ∧ p0 < 2147483648) (h1 : -2147483648 ≤ p1 ∧ p1 < 2147483648) (hL : ∀ k, 0 ≤ k → k < Mt_n (Pl_mt (Ri_P r)) → 1 ≤ Mt_ln (Pl_mt (Ri_P r)) k) : gz_Y l yL_agree wsL_agree { frames := 8, cells := 1, slots := 6, locals := 200 } D cI cJ cZ [.ref (a 0), vI p0, vI p1, .ref o] (RiW cI cJ a r ++ [OuC cJ o f]) (gz_pW gz_c2 (cd_agree r p0 p1) (RiW cI cJ a (Ri_agr r p0 p1) ++ [OuC cJ o (vp_updL f 0 ((zI (Sw_st (Ri_S (Ri_agr r p0 p1)) p1)).toInt64))]) (RiW cI cJ a r ++ [OuC cJ o f])) := by
  refine gz_ofY (cc := cL_agree) (maxL := 5) (own := RL) hfl (by decide) rfl rfl (Nat.le_of_ble_eq_true rfl) (lv0 := [(0, .ref (a 0)), (1, vI p0), (2, vI p1), (3, .ref o)]) rfl ?_
  intro p e s m args below meth c A Q htab F FX NC Z
  refine gz_aload_n (pc := 0) F dL_agree_0 rfl 3 rfl ?_
  refine gz_const (pc := 1) F dL_agree_1 ?_
  refine gz_aload_n (pc := 2) F dL_agree_2 rfl 0 rfl ?_
  refine gz_iload_n (pc := 3) F dL_agree_3 rfl 1 rfl ?_
  refine gz_iload_n (pc := 4) F dL_agree_4 rfl 2 rfl ?_
  refine gz_callVXb (pc := 5) (n := 2) (As := [vI p0, vI p1]) (rest := [vI 0, .ref o]) (bytes := cX8_agree) (maxL := 4) (ret := some .int) F FX (cx_X8_agree l hfl D cI cJ cZ a r p0 p1 hr h0 h1 hL) gL_agree_X8_agree rfl ⟨rfl, rfl⟩ (by decide +kernel) ⟨Nat.le_of_ble_eq_true rfl, Nat.le_of_ble_eq_true rfl⟩ rfl [] [OuC cJ o f] (rfl) 8 rfl rfl rfl (Nat.le_of_ble_eq_true rfl) (by decide) (gz_pO_sh (RiW_sh _ _)) dL_agree_5 (fun v W1 hv => ?_) (fun E hE => ?_)
  · obtain ⟨hok, hv, hW⟩ := hv
    subst hv; subst hW
    refine gz_i2l (pc := 8) (v := (zI (Sw_st (Ri_S (Ri_agr r p0 p1)) p1)).toInt64) F dL_agree_8 rfl ?_
    refine gz_last (pc := 9) (j := 0) F 73 (RiW_out _ _ _ _ _) (by decide) (by decide) (ws2 := RiW cI cJ a (Ri_agr r p0 p1) ++ [OuC cJ o (vp_updL f 0 ((zI (Sw_st (Ri_S (Ri_agr r p0 p1)) p1)).toInt64))]) (RiW_outset _ _ _ _ _ _) dL_agree_9 ?_
    refine gz_goto (pc := 10) (tgt := 21) F dL_agree_10 (by decide) ?_
    refine gz_const (pc := 21) F dL_agree_21 ?_
    exact Z _ _ 22 _ dL_agree_22 ⟨by rw [gz_cd_ok hok], Or.inl ⟨hok, rfl⟩⟩
  · have hin : E ∈ [xIO, xIO, xIS, xIS] := gz_px_in hE
    have hcd := gz_cd_px (c := gz_c2) hE
    have h3 : E = xIO ∨ E = xIS := (show ∀ E ∈ [xIO, xIO, xIS, xIS], E = xIO ∨ E = xIS by decide) E hin
    rcases h3 with rfl | rfl
    · refine gz_catch (pc := 5) F NC FX.2.1 htab [] ⟨0, 10, 13, 13⟩ [⟨0, 10, 17, 17⟩] rfl (by decide) (fun z hz => absurd hz List.not_mem_nil) (by decide) (by decide) clL_agree_13 (fun q => ?_)
      refine gz_astore (pc := 13) (lv2 := [(4, .ref q), (0, .ref (a 0)), (1, vI p0), (2, vI p1), (3, .ref o)]) F dL_agree_13 (by decide) rfl ?_
      refine gz_const (pc := 15) F dL_agree_15 ?_
      exact Z _ _ 16 _ dL_agree_16 ⟨by rw [hcd, gz_c2_O], Or.inr ⟨⟨_, hE⟩, rfl⟩⟩
    · refine gz_catch (pc := 5) F NC FX.2.1 htab [⟨0, 10, 13, 13⟩] ⟨0, 10, 17, 17⟩ [] rfl (by decide) (fun z hz => by
          have hz := List.mem_singleton.mp hz
          subst hz
          exact ⟨by decide, xIO, clL_agree_13, by decide⟩) (by decide) (by decide) clL_agree_17 (fun q => ?_)
      refine gz_astore (pc := 17) (lv2 := [(4, .ref q), (0, .ref (a 0)), (1, vI p0), (2, vI p1), (3, .ref o)]) F dL_agree_17 (by decide) rfl ?_
      refine gz_const (pc := 19) F dL_agree_19 ?_
      exact Z _ _ 20 _ dL_agree_20 ⟨by rw [hcd, gz_c2_S], Or.inr ⟨⟨_, hE⟩, rfl⟩⟩

theorem clL_build_15 : Cond.classLink RL 15 xIA ∈ wsL_build := by decide +kernel
theorem clL_build_17 : Cond.classLink RL 17 xIS ∈ wsL_build := by decide +kernel
set_option maxHeartbeats 4000000 in
set_option maxRecDepth 100000 in
theorem ctL_build (l : Launch) (hfl : l.stackTraces = false) (D : va_G) (cI cJ cZ : ClassId) (a : Nat → Nat) (r : RiS) (o : Nat) (f : Nat → Int64) (p0 p1 p2 : Int) (hr : RiI r) (h0 : -2147483648 ≤ p0 ∧ p0 < 2147483648) (h1 : -2147483648 ≤ p1 ∧ p1 < 2147483648) (h2 : -2147483648 ≤ p2 ∧ p2 < 2147483648) : gz_Y l yL_build wsL_build { frames := 8, cells := 1, slots := 6, locals := 200 } D cI cJ cZ [.ref (a 0), vI p0, vI p1, vI p2, .ref o] (RiW cI cJ a r ++ [OuC cJ o f]) (gz_pW gz_c1 (cd_build r p0 p1 p2) (RiW cI cJ a (Ri_tell r 8 p0 p1 p2 0) ++ [OuC cJ o (vp_updL f 0 ((zI (Bu_n (Pl_bu (Ri_P r)))).toInt64))]) (RiW cI cJ a r ++ [OuC cJ o f])) := by
  refine gz_ofY (cc := cL_build) (maxL := 6) (own := RL) hfl (by decide) rfl rfl (Nat.le_of_ble_eq_true rfl) (lv0 := [(0, .ref (a 0)), (1, vI p0), (2, vI p1), (3, vI p2), (4, .ref o)]) rfl ?_
  intro p e s m args below meth c A Q htab F FX NC Z
  refine gz_aload (pc := 0) F dL_build_0 4 rfl ?_
  refine gz_const (pc := 2) F dL_build_2 ?_
  refine gz_aload_n (pc := 3) F dL_build_3 rfl 0 rfl ?_
  refine gz_iload_n (pc := 4) F dL_build_4 rfl 1 rfl ?_
  refine gz_iload_n (pc := 5) F dL_build_5 rfl 2 rfl ?_
  refine gz_iload_n (pc := 6) F dL_build_6 rfl 3 rfl ?_
  refine gz_callVXb (pc := 7) (n := 3) (As := [vI p0, vI p1, vI p2]) (rest := [vI 0, .ref o]) (bytes := cX8_build) (maxL := 5) (ret := some .int) F FX (cx_X8_build l hfl D cI cJ cZ a r p0 p1 p2 hr h0 h1 h2) gL_build_X8_build rfl ⟨rfl, rfl⟩ (by decide +kernel) ⟨Nat.le_of_ble_eq_true rfl, Nat.le_of_ble_eq_true rfl⟩ rfl [] [OuC cJ o f] (rfl) 8 rfl rfl rfl (Nat.le_of_ble_eq_true rfl) (by decide) (gz_pO_sh (RiW_sh _ _)) dL_build_7 (fun v W1 hv => ?_) (fun E hE => ?_)
  · obtain ⟨hok, hv, hW⟩ := hv
    subst hv; subst hW
    refine gz_i2l (pc := 10) (v := (zI (Bu_n (Pl_bu (Ri_P r)))).toInt64) F dL_build_10 rfl ?_
    refine gz_last (pc := 11) (j := 0) F 73 (RiW_out _ _ _ _ _) (by decide) (by decide) (ws2 := RiW cI cJ a (Ri_tell r 8 p0 p1 p2 0) ++ [OuC cJ o (vp_updL f 0 ((zI (Bu_n (Pl_bu (Ri_P r)))).toInt64))]) (RiW_outset _ _ _ _ _ _) dL_build_11 ?_
    refine gz_goto (pc := 12) (tgt := 23) F dL_build_12 (by decide) ?_
    refine gz_const (pc := 23) F dL_build_23 ?_
    exact Z _ _ 24 _ dL_build_24 ⟨by rw [gz_cd_ok hok], Or.inl ⟨hok, rfl⟩⟩
  · have hin : E ∈ [xIA, xIA, xIA, xIS] := gz_px_in hE
    have hcd := gz_cd_px (c := gz_c1) hE
    have h3 : E = xIA ∨ E = xIS := (show ∀ E ∈ [xIA, xIA, xIA, xIS], E = xIA ∨ E = xIS by decide) E hin
    rcases h3 with rfl | rfl
    · refine gz_catch (pc := 7) F NC FX.2.1 htab [] ⟨0, 12, 15, 15⟩ [⟨0, 12, 19, 17⟩] rfl (by decide) (fun z hz => absurd hz List.not_mem_nil) (by decide) (by decide) clL_build_15 (fun q => ?_)
      refine gz_astore (pc := 15) (lv2 := [(5, .ref q), (0, .ref (a 0)), (1, vI p0), (2, vI p1), (3, vI p2), (4, .ref o)]) F dL_build_15 (by decide) rfl ?_
      refine gz_const (pc := 17) F dL_build_17 ?_
      exact Z _ _ 18 _ dL_build_18 ⟨by rw [hcd, gz_c1_A], Or.inr ⟨⟨_, hE⟩, rfl⟩⟩
    · refine gz_catch (pc := 7) F NC FX.2.1 htab [⟨0, 12, 15, 15⟩] ⟨0, 12, 19, 17⟩ [] rfl (by decide) (fun z hz => by
          have hz := List.mem_singleton.mp hz
          subst hz
          exact ⟨by decide, xIA, clL_build_15, by decide⟩) (by decide) (by decide) clL_build_17 (fun q => ?_)
      refine gz_astore (pc := 19) (lv2 := [(5, .ref q), (0, .ref (a 0)), (1, vI p0), (2, vI p1), (3, vI p2), (4, .ref o)]) F dL_build_19 (by decide) rfl ?_
      refine gz_const (pc := 21) F dL_build_21 ?_
      exact Z _ _ 22 _ dL_build_22 ⟨by rw [hcd, gz_c1_S], Or.inr ⟨⟨_, hE⟩, rfl⟩⟩

theorem clL_urge_13 : Cond.classLink RL 13 xIO ∈ wsL_urge := by decide +kernel
theorem clL_urge_15 : Cond.classLink RL 15 xIA ∈ wsL_urge := by decide +kernel
theorem clL_urge_17 : Cond.classLink RL 17 xIS ∈ wsL_urge := by decide +kernel
set_option maxHeartbeats 4000000 in
set_option maxRecDepth 100000 in
theorem ctL_urge (l : Launch) (hfl : l.stackTraces = false) (D : va_G) (cI cJ cZ : ClassId) (a : Nat → Nat) (r : RiS) (o : Nat) (f : Nat → Int64) (p0 p1 : Int) (hr : RiI r) (h0 : -2147483648 ≤ p0 ∧ p0 < 2147483648) (h1 : -2147483648 ≤ p1 ∧ p1 < 2147483648) : gz_Y l yL_urge wsL_urge { frames := 8, cells := 1, slots := 6, locals := 200 } D cI cJ cZ [.ref (a 0), vI p0, vI p1, .ref o] (RiW cI cJ a r ++ [OuC cJ o f]) (gz_pW gz_c3 (cd_urge r p0 p1) (RiW cI cJ a (Ri_tell r 9 p0 p1 0 0) ++ [OuC cJ o (vp_updL f 0 ((zI (Bu_ur (Pl_bu (Ri_P r)) p0)).toInt64))]) (RiW cI cJ a r ++ [OuC cJ o f])) := by
  refine gz_ofY (cc := cL_urge) (maxL := 5) (own := RL) hfl (by decide) rfl rfl (Nat.le_of_ble_eq_true rfl) (lv0 := [(0, .ref (a 0)), (1, vI p0), (2, vI p1), (3, .ref o)]) rfl ?_
  intro p e s m args below meth c A Q htab F FX NC Z
  refine gz_aload_n (pc := 0) F dL_urge_0 rfl 3 rfl ?_
  refine gz_const (pc := 1) F dL_urge_1 ?_
  refine gz_aload_n (pc := 2) F dL_urge_2 rfl 0 rfl ?_
  refine gz_iload_n (pc := 3) F dL_urge_3 rfl 1 rfl ?_
  refine gz_iload_n (pc := 4) F dL_urge_4 rfl 2 rfl ?_
  refine gz_callVXb (pc := 5) (n := 2) (As := [vI p0, vI p1]) (rest := [vI 0, .ref o]) (bytes := cX8_urge) (maxL := 4) (ret := some .int) F FX (cx_X8_urge l hfl D cI cJ cZ a r p0 p1 hr h0 h1) gL_urge_X8_urge rfl ⟨rfl, rfl⟩ (by decide +kernel) ⟨Nat.le_of_ble_eq_true rfl, Nat.le_of_ble_eq_true rfl⟩ rfl [] [OuC cJ o f] (rfl) 8 rfl rfl rfl (Nat.le_of_ble_eq_true rfl) (by decide) (gz_pO_sh (RiW_sh _ _)) dL_urge_5 (fun v W1 hv => ?_) (fun E hE => ?_)
  · obtain ⟨hok, hv, hW⟩ := hv
    subst hv; subst hW
    refine gz_i2l (pc := 8) (v := (zI (Bu_ur (Pl_bu (Ri_P r)) p0)).toInt64) F dL_urge_8 rfl ?_
    refine gz_last (pc := 9) (j := 0) F 73 (RiW_out _ _ _ _ _) (by decide) (by decide) (ws2 := RiW cI cJ a (Ri_tell r 9 p0 p1 0 0) ++ [OuC cJ o (vp_updL f 0 ((zI (Bu_ur (Pl_bu (Ri_P r)) p0)).toInt64))]) (RiW_outset _ _ _ _ _ _) dL_urge_9 ?_
    refine gz_goto (pc := 10) (tgt := 25) F dL_urge_10 (by decide) ?_
    refine gz_const (pc := 25) F dL_urge_25 ?_
    exact Z _ _ 26 _ dL_urge_26 ⟨by rw [gz_cd_ok hok], Or.inl ⟨hok, rfl⟩⟩
  · have hin : E ∈ [xIO, xIA, xIS] := gz_px_in hE
    have hcd := gz_cd_px (c := gz_c3) hE
    have h3 : E = xIO ∨ E = xIA ∨ E = xIS := (show ∀ E ∈ [xIO, xIA, xIS], E = xIO ∨ E = xIA ∨ E = xIS by decide) E hin
    rcases h3 with rfl | rfl | rfl
    · refine gz_catch (pc := 5) F NC FX.2.1 htab [] ⟨0, 10, 13, 13⟩ [⟨0, 10, 17, 15⟩, ⟨0, 10, 21, 17⟩] rfl (by decide) (fun z hz => absurd hz List.not_mem_nil) (by decide) (by decide) clL_urge_13 (fun q => ?_)
      refine gz_astore (pc := 13) (lv2 := [(4, .ref q), (0, .ref (a 0)), (1, vI p0), (2, vI p1), (3, .ref o)]) F dL_urge_13 (by decide) rfl ?_
      refine gz_const (pc := 15) F dL_urge_15 ?_
      exact Z _ _ 16 _ dL_urge_16 ⟨by rw [hcd, gz_c3_O], Or.inr ⟨⟨_, hE⟩, rfl⟩⟩
    · refine gz_catch (pc := 5) F NC FX.2.1 htab [⟨0, 10, 13, 13⟩] ⟨0, 10, 17, 15⟩ [⟨0, 10, 21, 17⟩] rfl (by decide) (fun z hz => by
          have hz := List.mem_singleton.mp hz
          subst hz
          exact ⟨by decide, xIO, clL_urge_13, by decide⟩) (by decide) (by decide) clL_urge_15 (fun q => ?_)
      refine gz_astore (pc := 17) (lv2 := [(4, .ref q), (0, .ref (a 0)), (1, vI p0), (2, vI p1), (3, .ref o)]) F dL_urge_17 (by decide) rfl ?_
      refine gz_const (pc := 19) F dL_urge_19 ?_
      exact Z _ _ 20 _ dL_urge_20 ⟨by rw [hcd, gz_c3_A], Or.inr ⟨⟨_, hE⟩, rfl⟩⟩
    · refine gz_catch (pc := 5) F NC FX.2.1 htab [⟨0, 10, 13, 13⟩, ⟨0, 10, 17, 15⟩] ⟨0, 10, 21, 17⟩ [] rfl (by decide) (fun z hz => by
          rcases List.mem_cons.mp hz with hz | hz
          · subst hz
            exact ⟨by decide, xIO, clL_urge_13, by decide⟩
          · have hz := List.mem_singleton.mp hz
            subst hz
            exact ⟨by decide, xIA, clL_urge_15, by decide⟩) (by decide) (by decide) clL_urge_17 (fun q => ?_)
      refine gz_astore (pc := 21) (lv2 := [(4, .ref q), (0, .ref (a 0)), (1, vI p0), (2, vI p1), (3, .ref o)]) F dL_urge_21 (by decide) rfl ?_
      refine gz_const (pc := 23) F dL_urge_23 ?_
      exact Z _ _ 24 _ dL_urge_24 ⟨by rw [hcd, gz_c3_S], Or.inr ⟨⟨_, hE⟩, rfl⟩⟩

theorem clL_pass_15 : Cond.classLink RL 15 xIA ∈ wsL_pass := by decide +kernel
theorem clL_pass_17 : Cond.classLink RL 17 xIS ∈ wsL_pass := by decide +kernel
set_option maxHeartbeats 4000000 in
set_option maxRecDepth 100000 in
theorem ctL_pass (l : Launch) (hfl : l.stackTraces = false) (D : va_G) (cI cJ cZ : ClassId) (a : Nat → Nat) (r : RiS) (o : Nat) (f : Nat → Int64) (p0 : Int) (hr : RiI r) (h0 : -2147483648 ≤ p0 ∧ p0 < 2147483648) : gz_Y l yL_pass wsL_pass { frames := 8, cells := 1, slots := 6, locals := 200 } D cI cJ cZ [.ref (a 0), vI p0, .ref o] (RiW cI cJ a r ++ [OuC cJ o f]) (gz_pW gz_c1 (cd_pass r p0) (RiW cI cJ a ((Pl_pass (Ri_P r) (Pl_now (Ri_P r) + p0), Ri_A r, Ri_T r, Ri_S r)) ++ [OuC cJ o (vp_updL f 0 ((zI (Pl_now (Pl_pass (Ri_P r) (Pl_now (Ri_P r) + p0)))).toInt64))]) (RiW cI cJ a r ++ [OuC cJ o f])) := by
  refine gz_ofY (cc := cL_pass) (maxL := 4) (own := RL) hfl (by decide) rfl rfl (Nat.le_of_ble_eq_true rfl) (lv0 := [(0, .ref (a 0)), (1, vI p0), (2, .ref o)]) rfl ?_
  intro p e s m args below meth c A Q htab F FX NC Z
  refine gz_aload_n (pc := 0) F dL_pass_0 rfl 2 rfl ?_
  refine gz_const (pc := 1) F dL_pass_1 ?_
  refine gz_aload_n (pc := 2) F dL_pass_2 rfl 0 rfl ?_
  refine gz_iload_n (pc := 3) F dL_pass_3 rfl 1 rfl ?_
  refine gz_callVXb (pc := 4) (n := 1) (As := [vI p0]) (rest := [vI 0, .ref o]) (bytes := cX8_pass) (maxL := 2) (ret := some .int) F FX (cx_X8_pass l hfl D cI cJ cZ a r p0 hr h0) gL_pass_X8_pass rfl ⟨rfl, rfl⟩ (by decide +kernel) ⟨Nat.le_of_ble_eq_true rfl, Nat.le_of_ble_eq_true rfl⟩ rfl [] [OuC cJ o f] (rfl) 8 rfl rfl rfl (Nat.le_of_ble_eq_true rfl) (by decide) (gz_pO_sh (RiW_sh _ _)) dL_pass_4 (fun v W1 hv => ?_) (fun E hE => ?_)
  · obtain ⟨hok, hv, hW⟩ := hv
    subst hv; subst hW
    refine gz_i2l (pc := 7) (v := (zI (Pl_now (Pl_pass (Ri_P r) (Pl_now (Ri_P r) + p0)))).toInt64) F dL_pass_7 rfl ?_
    refine gz_last (pc := 8) (j := 0) F 73 (RiW_out _ _ _ _ _) (by decide) (by decide) (ws2 := RiW cI cJ a ((Pl_pass (Ri_P r) (Pl_now (Ri_P r) + p0), Ri_A r, Ri_T r, Ri_S r)) ++ [OuC cJ o (vp_updL f 0 ((zI (Pl_now (Pl_pass (Ri_P r) (Pl_now (Ri_P r) + p0)))).toInt64))]) (RiW_outset _ _ _ _ _ _) dL_pass_8 ?_
    refine gz_goto (pc := 9) (tgt := 18) F dL_pass_9 (by decide) ?_
    refine gz_const (pc := 18) F dL_pass_18 ?_
    exact Z _ _ 19 _ dL_pass_19 ⟨by rw [gz_cd_ok hok], Or.inl ⟨hok, rfl⟩⟩
  · have hin : E ∈ [xIA, xIS] := gz_px_in hE
    have hcd := gz_cd_px (c := gz_c1) hE
    have h3 : E = xIA ∨ E = xIS := (show ∀ E ∈ [xIA, xIS], E = xIA ∨ E = xIS by decide) E hin
    rcases h3 with rfl | rfl
    · refine gz_catch (pc := 4) F NC FX.2.1 htab [] ⟨0, 9, 12, 15⟩ [⟨0, 9, 15, 17⟩] rfl (by decide) (fun z hz => absurd hz List.not_mem_nil) (by decide) (by decide) clL_pass_15 (fun q => ?_)
      refine gz_astore_n (pc := 12) (lv2 := [(3, .ref q), (0, .ref (a 0)), (1, vI p0), (2, .ref o)]) F dL_pass_12 rfl (by decide) rfl ?_
      refine gz_const (pc := 13) F dL_pass_13 ?_
      exact Z _ _ 14 _ dL_pass_14 ⟨by rw [hcd, gz_c1_A], Or.inr ⟨⟨_, hE⟩, rfl⟩⟩
    · refine gz_catch (pc := 4) F NC FX.2.1 htab [⟨0, 9, 12, 15⟩] ⟨0, 9, 15, 17⟩ [] rfl (by decide) (fun z hz => by
          have hz := List.mem_singleton.mp hz
          subst hz
          exact ⟨by decide, xIA, clL_pass_15, by decide⟩) (by decide) (by decide) clL_pass_17 (fun q => ?_)
      refine gz_astore_n (pc := 15) (lv2 := [(3, .ref q), (0, .ref (a 0)), (1, vI p0), (2, .ref o)]) F dL_pass_15 rfl (by decide) rfl ?_
      refine gz_const (pc := 16) F dL_pass_16 ?_
      exact Z _ _ 17 _ dL_pass_17 ⟨by rw [hcd, gz_c1_S], Or.inr ⟨⟨_, hE⟩, rfl⟩⟩

theorem clL_meetingOf_13 : Cond.classLink RL 13 xIO ∈ wsL_meetingOf := by decide +kernel
theorem clL_meetingOf_15 : Cond.classLink RL 15 xIA ∈ wsL_meetingOf := by decide +kernel
set_option maxHeartbeats 4000000 in
set_option maxRecDepth 100000 in
theorem ctL_meetingOf (l : Launch) (hfl : l.stackTraces = false) (D : va_G) (cI cJ cZ : ClassId) (a : Nat → Nat) (r : RiS) (o : Nat) (f : Nat → Int64) (p0 p1 : Int) (hr : RiI r) (h0 : -2147483648 ≤ p0 ∧ p0 < 2147483648) (h1 : -2147483648 ≤ p1 ∧ p1 < 2147483648) : gz_Y l yL_meetingOf wsL_meetingOf { frames := 8, cells := 1, slots := 6, locals := 200 } D cI cJ cZ [.ref (a 0), vI p0, vI p1, .ref o] (RiW cI cJ a r ++ [OuC cJ o f]) (gz_pW gz_c2 (cd_meetingOf r p0 p1) (RiW cI cJ a r ++ [OuC cJ o (vp_updL f 0 ((zI ((if p1 = 0 then Mt_st (Pl_mt (Ri_P r)) p0 else if p1 = 1 then Mt_sl (Pl_mt (Ri_P r)) p0 else if p1 = 2 then Mt_ln (Pl_mt (Ri_P r)) p0 else if p1 = 3 then Mt_ma (Pl_mt (Ri_P r)) p0 else Mt_pe (Pl_mt (Ri_P r)) p0))).toInt64))]) (RiW cI cJ a r ++ [OuC cJ o f])) := by
  refine gz_ofY (cc := cL_meetingOf) (maxL := 5) (own := RL) hfl (by decide) rfl rfl (Nat.le_of_ble_eq_true rfl) (lv0 := [(0, .ref (a 0)), (1, vI p0), (2, vI p1), (3, .ref o)]) rfl ?_
  intro p e s m args below meth c A Q htab F FX NC Z
  refine gz_aload_n (pc := 0) F dL_meetingOf_0 rfl 3 rfl ?_
  refine gz_const (pc := 1) F dL_meetingOf_1 ?_
  refine gz_aload_n (pc := 2) F dL_meetingOf_2 rfl 0 rfl ?_
  refine gz_iload_n (pc := 3) F dL_meetingOf_3 rfl 1 rfl ?_
  refine gz_iload_n (pc := 4) F dL_meetingOf_4 rfl 2 rfl ?_
  refine gz_callVXb (pc := 5) (n := 2) (As := [vI p0, vI p1]) (rest := [vI 0, .ref o]) (bytes := cX8_meetingOf) (maxL := 3) (ret := some .int) F FX (cx_X8_meetingOf l hfl D cI cJ cZ a r p0 p1 hr h0 h1) gL_meetingOf_X8_meetingOf rfl ⟨rfl, rfl⟩ (by decide +kernel) ⟨Nat.le_of_ble_eq_true rfl, Nat.le_of_ble_eq_true rfl⟩ rfl [] [OuC cJ o f] (rfl) 8 rfl rfl rfl (Nat.le_of_ble_eq_true rfl) (by decide) (gz_pO_sh (RiW_sh _ _)) dL_meetingOf_5 (fun v W1 hv => ?_) (fun E hE => ?_)
  · obtain ⟨hok, hv, hW⟩ := hv
    subst hv; subst hW
    refine gz_i2l (pc := 8) (v := (zI ((if p1 = 0 then Mt_st (Pl_mt (Ri_P r)) p0 else if p1 = 1 then Mt_sl (Pl_mt (Ri_P r)) p0 else if p1 = 2 then Mt_ln (Pl_mt (Ri_P r)) p0 else if p1 = 3 then Mt_ma (Pl_mt (Ri_P r)) p0 else Mt_pe (Pl_mt (Ri_P r)) p0))).toInt64) F dL_meetingOf_8 rfl ?_
    refine gz_last (pc := 9) (j := 0) F 73 (RiW_out _ _ _ _ _) (by decide) (by decide) (ws2 := RiW cI cJ a r ++ [OuC cJ o (vp_updL f 0 ((zI ((if p1 = 0 then Mt_st (Pl_mt (Ri_P r)) p0 else if p1 = 1 then Mt_sl (Pl_mt (Ri_P r)) p0 else if p1 = 2 then Mt_ln (Pl_mt (Ri_P r)) p0 else if p1 = 3 then Mt_ma (Pl_mt (Ri_P r)) p0 else Mt_pe (Pl_mt (Ri_P r)) p0))).toInt64))]) (RiW_outset _ _ _ _ _ _) dL_meetingOf_9 ?_
    refine gz_goto (pc := 10) (tgt := 21) F dL_meetingOf_10 (by decide) ?_
    refine gz_const (pc := 21) F dL_meetingOf_21 ?_
    exact Z _ _ 22 _ dL_meetingOf_22 ⟨by rw [gz_cd_ok hok], Or.inl ⟨hok, rfl⟩⟩
  · have hin : E ∈ [xIO, xIA] := gz_px_in hE
    have hcd := gz_cd_px (c := gz_c2) hE
    have h3 : E = xIO ∨ E = xIA := (show ∀ E ∈ [xIO, xIA], E = xIO ∨ E = xIA by decide) E hin
    rcases h3 with rfl | rfl
    · refine gz_catch (pc := 5) F NC FX.2.1 htab [] ⟨0, 10, 13, 13⟩ [⟨0, 10, 17, 15⟩] rfl (by decide) (fun z hz => absurd hz List.not_mem_nil) (by decide) (by decide) clL_meetingOf_13 (fun q => ?_)
      refine gz_astore (pc := 13) (lv2 := [(4, .ref q), (0, .ref (a 0)), (1, vI p0), (2, vI p1), (3, .ref o)]) F dL_meetingOf_13 (by decide) rfl ?_
      refine gz_const (pc := 15) F dL_meetingOf_15 ?_
      exact Z _ _ 16 _ dL_meetingOf_16 ⟨by rw [hcd, gz_c2_O], Or.inr ⟨⟨_, hE⟩, rfl⟩⟩
    · refine gz_catch (pc := 5) F NC FX.2.1 htab [⟨0, 10, 13, 13⟩] ⟨0, 10, 17, 15⟩ [] rfl (by decide) (fun z hz => by
          have hz := List.mem_singleton.mp hz
          subst hz
          exact ⟨by decide, xIO, clL_meetingOf_13, by decide⟩) (by decide) (by decide) clL_meetingOf_15 (fun q => ?_)
      refine gz_astore (pc := 17) (lv2 := [(4, .ref q), (0, .ref (a 0)), (1, vI p0), (2, vI p1), (3, .ref o)]) F dL_meetingOf_17 (by decide) rfl ?_
      refine gz_const (pc := 19) F dL_meetingOf_19 ?_
      exact Z _ _ 20 _ dL_meetingOf_20 ⟨by rw [hcd, gz_c2_A], Or.inr ⟨⟨_, hE⟩, rfl⟩⟩

theorem clL_swapOf_13 : Cond.classLink RL 13 xIO ∈ wsL_swapOf := by decide +kernel
set_option maxHeartbeats 4000000 in
set_option maxRecDepth 100000 in
theorem ctL_swapOf (l : Launch) (hfl : l.stackTraces = false) (D : va_G) (cI cJ cZ : ClassId) (a : Nat → Nat) (r : RiS) (o : Nat) (f : Nat → Int64) (p0 : Int) (hr : RiI r) (h0 : -2147483648 ≤ p0 ∧ p0 < 2147483648) : gz_Y l yL_swapOf wsL_swapOf { frames := 8, cells := 1, slots := 6, locals := 200 } D cI cJ cZ [.ref (a 0), vI p0, .ref o] (RiW cI cJ a r ++ [OuC cJ o f]) (gz_pW gz_c2 (cd_swapOf r p0) (RiW cI cJ a r ++ [OuC cJ o (vp_updL f 0 ((zI (Sw_st (Ri_S r) p0)).toInt64))]) (RiW cI cJ a r ++ [OuC cJ o f])) := by
  refine gz_ofY (cc := cL_swapOf) (maxL := 4) (own := RL) hfl (by decide) rfl rfl (Nat.le_of_ble_eq_true rfl) (lv0 := [(0, .ref (a 0)), (1, vI p0), (2, .ref o)]) rfl ?_
  intro p e s m args below meth c A Q htab F FX NC Z
  refine gz_aload_n (pc := 0) F dL_swapOf_0 rfl 2 rfl ?_
  refine gz_const (pc := 1) F dL_swapOf_1 ?_
  refine gz_aload_n (pc := 2) F dL_swapOf_2 rfl 0 rfl ?_
  refine gz_iload_n (pc := 3) F dL_swapOf_3 rfl 1 rfl ?_
  refine gz_callVXb (pc := 4) (n := 1) (As := [vI p0]) (rest := [vI 0, .ref o]) (bytes := cX8_swapOf) (maxL := 2) (ret := some .int) F FX (cx_X8_swapOf l hfl D cI cJ cZ a r p0 hr h0) gL_swapOf_X8_swapOf rfl ⟨rfl, rfl⟩ (by decide +kernel) ⟨Nat.le_of_ble_eq_true rfl, Nat.le_of_ble_eq_true rfl⟩ rfl [] [OuC cJ o f] (rfl) 8 rfl rfl rfl (Nat.le_of_ble_eq_true rfl) (by decide) (gz_pO_sh (RiW_sh _ _)) dL_swapOf_4 (fun v W1 hv => ?_) (fun E hE => ?_)
  · obtain ⟨hok, hv, hW⟩ := hv
    subst hv; subst hW
    refine gz_i2l (pc := 7) (v := (zI (Sw_st (Ri_S r) p0)).toInt64) F dL_swapOf_7 rfl ?_
    refine gz_last (pc := 8) (j := 0) F 73 (RiW_out _ _ _ _ _) (by decide) (by decide) (ws2 := RiW cI cJ a r ++ [OuC cJ o (vp_updL f 0 ((zI (Sw_st (Ri_S r) p0)).toInt64))]) (RiW_outset _ _ _ _ _ _) dL_swapOf_8 ?_
    refine gz_goto (pc := 9) (tgt := 15) F dL_swapOf_9 (by decide) ?_
    refine gz_const (pc := 15) F dL_swapOf_15 ?_
    exact Z _ _ 16 _ dL_swapOf_16 ⟨by rw [gz_cd_ok hok], Or.inl ⟨hok, rfl⟩⟩
  · have hin : E ∈ [xIO] := gz_px_in hE
    have hcd := gz_cd_px (c := gz_c2) hE
    have h3 : E = xIO := (show ∀ E ∈ [xIO], E = xIO by decide) E hin
    rcases h3 with rfl
    refine gz_catch (pc := 4) F NC FX.2.1 htab [] ⟨0, 9, 12, 13⟩ [] rfl (by decide) (fun z hz => absurd hz List.not_mem_nil) (by decide) (by decide) clL_swapOf_13 (fun q => ?_)
    refine gz_astore_n (pc := 12) (lv2 := [(3, .ref q), (0, .ref (a 0)), (1, vI p0), (2, .ref o)]) F dL_swapOf_12 rfl (by decide) rfl ?_
    refine gz_const (pc := 13) F dL_swapOf_13 ?_
    exact Z _ _ 14 _ dL_swapOf_14 ⟨by rw [hcd, gz_c2_O], Or.inr ⟨⟨_, hE⟩, rfl⟩⟩

theorem clL_buildOf_13 : Cond.classLink RL 13 xIO ∈ wsL_buildOf := by decide +kernel
theorem clL_buildOf_15 : Cond.classLink RL 15 xIA ∈ wsL_buildOf := by decide +kernel
set_option maxHeartbeats 4000000 in
set_option maxRecDepth 100000 in
theorem ctL_buildOf (l : Launch) (hfl : l.stackTraces = false) (D : va_G) (cI cJ cZ : ClassId) (a : Nat → Nat) (r : RiS) (o : Nat) (f : Nat → Int64) (p0 p1 : Int) (hr : RiI r) (h0 : -2147483648 ≤ p0 ∧ p0 < 2147483648) (h1 : -2147483648 ≤ p1 ∧ p1 < 2147483648) : gz_Y l yL_buildOf wsL_buildOf { frames := 8, cells := 1, slots := 6, locals := 200 } D cI cJ cZ [.ref (a 0), vI p0, vI p1, .ref o] (RiW cI cJ a r ++ [OuC cJ o f]) (gz_pW gz_c2 (cd_buildOf r p0 p1) (RiW cI cJ a r ++ [OuC cJ o (vp_updL f 0 ((zI ((if p1 = 0 then Bu_st (Pl_bu (Ri_P r)) p0 else if p1 = 1 then Bu_ma (Pl_bu (Ri_P r)) p0 else if p1 = 2 then Bu_bg (Pl_bu (Ri_P r)) p0 else Bu_ti (Pl_bu (Ri_P r)) p0))).toInt64))]) (RiW cI cJ a r ++ [OuC cJ o f])) := by
  refine gz_ofY (cc := cL_buildOf) (maxL := 5) (own := RL) hfl (by decide) rfl rfl (Nat.le_of_ble_eq_true rfl) (lv0 := [(0, .ref (a 0)), (1, vI p0), (2, vI p1), (3, .ref o)]) rfl ?_
  intro p e s m args below meth c A Q htab F FX NC Z
  refine gz_aload_n (pc := 0) F dL_buildOf_0 rfl 3 rfl ?_
  refine gz_const (pc := 1) F dL_buildOf_1 ?_
  refine gz_aload_n (pc := 2) F dL_buildOf_2 rfl 0 rfl ?_
  refine gz_iload_n (pc := 3) F dL_buildOf_3 rfl 1 rfl ?_
  refine gz_iload_n (pc := 4) F dL_buildOf_4 rfl 2 rfl ?_
  refine gz_callVXb (pc := 5) (n := 2) (As := [vI p0, vI p1]) (rest := [vI 0, .ref o]) (bytes := cX8_buildOf) (maxL := 3) (ret := some .int) F FX (cx_X8_buildOf l hfl D cI cJ cZ a r p0 p1 hr h0 h1) gL_buildOf_X8_buildOf rfl ⟨rfl, rfl⟩ (by decide +kernel) ⟨Nat.le_of_ble_eq_true rfl, Nat.le_of_ble_eq_true rfl⟩ rfl [] [OuC cJ o f] (rfl) 8 rfl rfl rfl (Nat.le_of_ble_eq_true rfl) (by decide) (gz_pO_sh (RiW_sh _ _)) dL_buildOf_5 (fun v W1 hv => ?_) (fun E hE => ?_)
  · obtain ⟨hok, hv, hW⟩ := hv
    subst hv; subst hW
    refine gz_i2l (pc := 8) (v := (zI ((if p1 = 0 then Bu_st (Pl_bu (Ri_P r)) p0 else if p1 = 1 then Bu_ma (Pl_bu (Ri_P r)) p0 else if p1 = 2 then Bu_bg (Pl_bu (Ri_P r)) p0 else Bu_ti (Pl_bu (Ri_P r)) p0))).toInt64) F dL_buildOf_8 rfl ?_
    refine gz_last (pc := 9) (j := 0) F 73 (RiW_out _ _ _ _ _) (by decide) (by decide) (ws2 := RiW cI cJ a r ++ [OuC cJ o (vp_updL f 0 ((zI ((if p1 = 0 then Bu_st (Pl_bu (Ri_P r)) p0 else if p1 = 1 then Bu_ma (Pl_bu (Ri_P r)) p0 else if p1 = 2 then Bu_bg (Pl_bu (Ri_P r)) p0 else Bu_ti (Pl_bu (Ri_P r)) p0))).toInt64))]) (RiW_outset _ _ _ _ _ _) dL_buildOf_9 ?_
    refine gz_goto (pc := 10) (tgt := 21) F dL_buildOf_10 (by decide) ?_
    refine gz_const (pc := 21) F dL_buildOf_21 ?_
    exact Z _ _ 22 _ dL_buildOf_22 ⟨by rw [gz_cd_ok hok], Or.inl ⟨hok, rfl⟩⟩
  · have hin : E ∈ [xIO, xIA] := gz_px_in hE
    have hcd := gz_cd_px (c := gz_c2) hE
    have h3 : E = xIO ∨ E = xIA := (show ∀ E ∈ [xIO, xIA], E = xIO ∨ E = xIA by decide) E hin
    rcases h3 with rfl | rfl
    · refine gz_catch (pc := 5) F NC FX.2.1 htab [] ⟨0, 10, 13, 13⟩ [⟨0, 10, 17, 15⟩] rfl (by decide) (fun z hz => absurd hz List.not_mem_nil) (by decide) (by decide) clL_buildOf_13 (fun q => ?_)
      refine gz_astore (pc := 13) (lv2 := [(4, .ref q), (0, .ref (a 0)), (1, vI p0), (2, vI p1), (3, .ref o)]) F dL_buildOf_13 (by decide) rfl ?_
      refine gz_const (pc := 15) F dL_buildOf_15 ?_
      exact Z _ _ 16 _ dL_buildOf_16 ⟨by rw [hcd, gz_c2_O], Or.inr ⟨⟨_, hE⟩, rfl⟩⟩
    · refine gz_catch (pc := 5) F NC FX.2.1 htab [⟨0, 10, 13, 13⟩] ⟨0, 10, 17, 15⟩ [] rfl (by decide) (fun z hz => by
          have hz := List.mem_singleton.mp hz
          subst hz
          exact ⟨by decide, xIO, clL_buildOf_13, by decide⟩) (by decide) (by decide) clL_buildOf_15 (fun q => ?_)
      refine gz_astore (pc := 17) (lv2 := [(4, .ref q), (0, .ref (a 0)), (1, vI p0), (2, vI p1), (3, .ref o)]) F dL_buildOf_17 (by decide) rfl ?_
      refine gz_const (pc := 19) F dL_buildOf_19 ?_
      exact Z _ _ 20 _ dL_buildOf_20 ⟨by rw [hcd, gz_c2_A], Or.inr ⟨⟨_, hE⟩, rfl⟩⟩

theorem clL_beganAnew_13 : Cond.classLink RL 13 xIO ∈ wsL_beganAnew := by decide +kernel
set_option maxHeartbeats 4000000 in
set_option maxRecDepth 100000 in
theorem ctL_beganAnew (l : Launch) (hfl : l.stackTraces = false) (D : va_G) (cI cJ cZ : ClassId) (a : Nat → Nat) (r : RiS) (o : Nat) (f : Nat → Int64) (p0 : Int) (hr : RiI r) (h0 : -2147483648 ≤ p0 ∧ p0 < 2147483648) : gz_Y l yL_beganAnew wsL_beganAnew { frames := 8, cells := 1, slots := 6, locals := 200 } D cI cJ cZ [.ref (a 0), vI p0, .ref o] (RiW cI cJ a r ++ [OuC cJ o f]) (gz_pW gz_c2 (cd_beganAnew r p0) (RiW cI cJ a ((Ri_P r, (Pl_anew (Ri_T r) (Ri_A r) (Pl_now (Ri_P r))), Ri_T r, Ri_S r)) ++ [OuC cJ o (vp_updL f 0 ((zI ((if 0 ≤ p0 ∧ p0 < Bu_n (Pl_bu (Pl_anew (Ri_T r) (Ri_A r) (Pl_now (Ri_P r)))) then Bu_bg (Pl_bu (Pl_anew (Ri_T r) (Ri_A r) (Pl_now (Ri_P r)))) p0 else -1))).toInt64))]) (RiW cI cJ a r ++ [OuC cJ o f])) := by
  refine gz_ofY (cc := cL_beganAnew) (maxL := 4) (own := RL) hfl (by decide) rfl rfl (Nat.le_of_ble_eq_true rfl) (lv0 := [(0, .ref (a 0)), (1, vI p0), (2, .ref o)]) rfl ?_
  intro p e s m args below meth c A Q htab F FX NC Z
  refine gz_aload_n (pc := 0) F dL_beganAnew_0 rfl 2 rfl ?_
  refine gz_const (pc := 1) F dL_beganAnew_1 ?_
  refine gz_aload_n (pc := 2) F dL_beganAnew_2 rfl 0 rfl ?_
  refine gz_iload_n (pc := 3) F dL_beganAnew_3 rfl 1 rfl ?_
  refine gz_callVXb (pc := 4) (n := 1) (As := [vI p0]) (rest := [vI 0, .ref o]) (bytes := cX8_beganAnew) (maxL := 2) (ret := some .int) F FX (cx_X8_beganAnew l hfl D cI cJ cZ a r p0 hr h0) gL_beganAnew_X8_beganAnew rfl ⟨rfl, rfl⟩ (by decide +kernel) ⟨Nat.le_of_ble_eq_true rfl, Nat.le_of_ble_eq_true rfl⟩ rfl [] [OuC cJ o f] (rfl) 8 rfl rfl rfl (Nat.le_of_ble_eq_true rfl) (by decide) (gz_pO_sh (RiW_sh _ _)) dL_beganAnew_4 (fun v W1 hv => ?_) (fun E hE => ?_)
  · obtain ⟨hok, hv, hW⟩ := hv
    subst hv; subst hW
    refine gz_i2l (pc := 7) (v := (zI ((if 0 ≤ p0 ∧ p0 < Bu_n (Pl_bu (Pl_anew (Ri_T r) (Ri_A r) (Pl_now (Ri_P r)))) then Bu_bg (Pl_bu (Pl_anew (Ri_T r) (Ri_A r) (Pl_now (Ri_P r)))) p0 else -1))).toInt64) F dL_beganAnew_7 rfl ?_
    refine gz_last (pc := 8) (j := 0) F 73 (RiW_out _ _ _ _ _) (by decide) (by decide) (ws2 := RiW cI cJ a ((Ri_P r, (Pl_anew (Ri_T r) (Ri_A r) (Pl_now (Ri_P r))), Ri_T r, Ri_S r)) ++ [OuC cJ o (vp_updL f 0 ((zI ((if 0 ≤ p0 ∧ p0 < Bu_n (Pl_bu (Pl_anew (Ri_T r) (Ri_A r) (Pl_now (Ri_P r)))) then Bu_bg (Pl_bu (Pl_anew (Ri_T r) (Ri_A r) (Pl_now (Ri_P r)))) p0 else -1))).toInt64))]) (RiW_outset _ _ _ _ _ _) dL_beganAnew_8 ?_
    refine gz_goto (pc := 9) (tgt := 15) F dL_beganAnew_9 (by decide) ?_
    refine gz_const (pc := 15) F dL_beganAnew_15 ?_
    exact Z _ _ 16 _ dL_beganAnew_16 ⟨by rw [gz_cd_ok hok], Or.inl ⟨hok, rfl⟩⟩
  · have hin : E ∈ [xIO] := gz_px_in hE
    have hcd := gz_cd_px (c := gz_c2) hE
    have h3 : E = xIO := (show ∀ E ∈ [xIO], E = xIO by decide) E hin
    rcases h3 with rfl
    refine gz_catch (pc := 4) F NC FX.2.1 htab [] ⟨0, 9, 12, 13⟩ [] rfl (by decide) (fun z hz => absurd hz List.not_mem_nil) (by decide) (by decide) clL_beganAnew_13 (fun q => ?_)
    refine gz_astore_n (pc := 12) (lv2 := [(3, .ref q), (0, .ref (a 0)), (1, vI p0), (2, .ref o)]) F dL_beganAnew_12 rfl (by decide) rfl ?_
    refine gz_const (pc := 13) F dL_beganAnew_13 ?_
    exact Z _ _ 14 _ dL_beganAnew_14 ⟨by rw [hcd, gz_c2_O], Or.inr ⟨⟨_, hE⟩, rfl⟩⟩

theorem clL_has_13 : Cond.classLink RL 13 xIO ∈ wsL_has := by decide +kernel
theorem clL_has_15 : Cond.classLink RL 15 xIA ∈ wsL_has := by decide +kernel
set_option maxHeartbeats 4000000 in
set_option maxRecDepth 100000 in
theorem ctL_has (l : Launch) (hfl : l.stackTraces = false) (D : va_G) (cI cJ cZ : ClassId) (a : Nat → Nat) (r : RiS) (o : Nat) (f : Nat → Int64) (p0 p1 : Int) (hr : RiI r) (h0 : -2147483648 ≤ p0 ∧ p0 < 2147483648) (h1 : -2147483648 ≤ p1 ∧ p1 < 2147483648) : gz_Y l yL_has wsL_has { frames := 8, cells := 1, slots := 6, locals := 200 } D cI cJ cZ [.ref (a 0), vI p0, vI p1, .ref o] (RiW cI cJ a r ++ [OuC cJ o f]) (gz_pW gz_c2 (cd_has r p0 p1) (RiW cI cJ a r ++ [OuC cJ o (vp_updL f 0 ((zI (Pl_hold (Ri_P r) p0 p1)).toInt64))]) (RiW cI cJ a r ++ [OuC cJ o f])) := by
  refine gz_ofY (cc := cL_has) (maxL := 5) (own := RL) hfl (by decide) rfl rfl (Nat.le_of_ble_eq_true rfl) (lv0 := [(0, .ref (a 0)), (1, vI p0), (2, vI p1), (3, .ref o)]) rfl ?_
  intro p e s m args below meth c A Q htab F FX NC Z
  refine gz_aload_n (pc := 0) F dL_has_0 rfl 3 rfl ?_
  refine gz_const (pc := 1) F dL_has_1 ?_
  refine gz_aload_n (pc := 2) F dL_has_2 rfl 0 rfl ?_
  refine gz_iload_n (pc := 3) F dL_has_3 rfl 1 rfl ?_
  refine gz_iload_n (pc := 4) F dL_has_4 rfl 2 rfl ?_
  refine gz_callVXb (pc := 5) (n := 2) (As := [vI p0, vI p1]) (rest := [vI 0, .ref o]) (bytes := cX8_has) (maxL := 3) (ret := some .int) F FX (cx_X8_has l hfl D cI cJ cZ a r p0 p1 hr h0 h1) gL_has_X8_has rfl ⟨rfl, rfl⟩ (by decide +kernel) ⟨Nat.le_of_ble_eq_true rfl, Nat.le_of_ble_eq_true rfl⟩ rfl [] [OuC cJ o f] (rfl) 8 rfl rfl rfl (Nat.le_of_ble_eq_true rfl) (by decide) (gz_pO_sh (RiW_sh _ _)) dL_has_5 (fun v W1 hv => ?_) (fun E hE => ?_)
  · obtain ⟨hok, hv, hW⟩ := hv
    subst hv; subst hW
    refine gz_i2l (pc := 8) (v := (zI (Pl_hold (Ri_P r) p0 p1)).toInt64) F dL_has_8 rfl ?_
    refine gz_last (pc := 9) (j := 0) F 73 (RiW_out _ _ _ _ _) (by decide) (by decide) (ws2 := RiW cI cJ a r ++ [OuC cJ o (vp_updL f 0 ((zI (Pl_hold (Ri_P r) p0 p1)).toInt64))]) (RiW_outset _ _ _ _ _ _) dL_has_9 ?_
    refine gz_goto (pc := 10) (tgt := 21) F dL_has_10 (by decide) ?_
    refine gz_const (pc := 21) F dL_has_21 ?_
    exact Z _ _ 22 _ dL_has_22 ⟨by rw [gz_cd_ok hok], Or.inl ⟨hok, rfl⟩⟩
  · have hin : E ∈ [xIO, xIA] := gz_px_in hE
    have hcd := gz_cd_px (c := gz_c2) hE
    have h3 : E = xIO ∨ E = xIA := (show ∀ E ∈ [xIO, xIA], E = xIO ∨ E = xIA by decide) E hin
    rcases h3 with rfl | rfl
    · refine gz_catch (pc := 5) F NC FX.2.1 htab [] ⟨0, 10, 13, 13⟩ [⟨0, 10, 17, 15⟩] rfl (by decide) (fun z hz => absurd hz List.not_mem_nil) (by decide) (by decide) clL_has_13 (fun q => ?_)
      refine gz_astore (pc := 13) (lv2 := [(4, .ref q), (0, .ref (a 0)), (1, vI p0), (2, vI p1), (3, .ref o)]) F dL_has_13 (by decide) rfl ?_
      refine gz_const (pc := 15) F dL_has_15 ?_
      exact Z _ _ 16 _ dL_has_16 ⟨by rw [hcd, gz_c2_O], Or.inr ⟨⟨_, hE⟩, rfl⟩⟩
    · refine gz_catch (pc := 5) F NC FX.2.1 htab [⟨0, 10, 13, 13⟩] ⟨0, 10, 17, 15⟩ [] rfl (by decide) (fun z hz => by
          have hz := List.mem_singleton.mp hz
          subst hz
          exact ⟨by decide, xIO, clL_has_13, by decide⟩) (by decide) (by decide) clL_has_15 (fun q => ?_)
      refine gz_astore (pc := 17) (lv2 := [(4, .ref q), (0, .ref (a 0)), (1, vI p0), (2, vI p1), (3, .ref o)]) F dL_has_17 (by decide) rfl ?_
      refine gz_const (pc := 19) F dL_has_19 ?_
      exact Z _ _ 20 _ dL_has_20 ⟨by rw [hcd, gz_c2_A], Or.inr ⟨⟨_, hE⟩, rfl⟩⟩

theorem clL_isFree_13 : Cond.classLink RL 13 xIO ∈ wsL_isFree := by decide +kernel
theorem clL_isFree_15 : Cond.classLink RL 15 xIA ∈ wsL_isFree := by decide +kernel
set_option maxHeartbeats 4000000 in
set_option maxRecDepth 100000 in
theorem ctL_isFree (l : Launch) (hfl : l.stackTraces = false) (D : va_G) (cI cJ cZ : ClassId) (a : Nat → Nat) (r : RiS) (o : Nat) (f : Nat → Int64) (p0 p1 : Int) (hr : RiI r) (h0 : -2147483648 ≤ p0 ∧ p0 < 2147483648) (h1 : -2147483648 ≤ p1 ∧ p1 < 2147483648) : gz_Y l yL_isFree wsL_isFree { frames := 8, cells := 1, slots := 6, locals := 200 } D cI cJ cZ [.ref (a 0), vI p0, vI p1, .ref o] (RiW cI cJ a r ++ [OuC cJ o f]) (gz_pW gz_c2 (cd_isFree r p0 p1) (RiW cI cJ a r ++ [OuC cJ o (vp_updL f 0 ((zI (bz (¬ (Mt_busy (Pl_mt (Ri_P r)) (Mt_n (Pl_mt (Ri_P r))) p0.toNat p1 1 (-1) ∨ Lv_off (Pl_lv (Ri_P r)) (p0.toNat : Int) p1)))).toInt64))]) (RiW cI cJ a r ++ [OuC cJ o f])) := by
  refine gz_ofY (cc := cL_isFree) (maxL := 5) (own := RL) hfl (by decide) rfl rfl (Nat.le_of_ble_eq_true rfl) (lv0 := [(0, .ref (a 0)), (1, vI p0), (2, vI p1), (3, .ref o)]) rfl ?_
  intro p e s m args below meth c A Q htab F FX NC Z
  refine gz_aload_n (pc := 0) F dL_isFree_0 rfl 3 rfl ?_
  refine gz_const (pc := 1) F dL_isFree_1 ?_
  refine gz_aload_n (pc := 2) F dL_isFree_2 rfl 0 rfl ?_
  refine gz_iload_n (pc := 3) F dL_isFree_3 rfl 1 rfl ?_
  refine gz_iload_n (pc := 4) F dL_isFree_4 rfl 2 rfl ?_
  refine gz_callVXb (pc := 5) (n := 2) (As := [vI p0, vI p1]) (rest := [vI 0, .ref o]) (bytes := cX8_isFree) (maxL := 3) (ret := some .boolean) F FX (cx_X8_isFree l hfl D cI cJ cZ a r p0 p1 hr h0 h1) gL_isFree_X8_isFree rfl ⟨rfl, rfl⟩ (by decide +kernel) ⟨Nat.le_of_ble_eq_true rfl, Nat.le_of_ble_eq_true rfl⟩ rfl [] [OuC cJ o f] (rfl) 8 rfl rfl rfl (Nat.le_of_ble_eq_true rfl) (by decide) (gz_pO_sh (RiW_sh _ _)) dL_isFree_5 (fun v W1 hv => ?_) (fun E hE => ?_)
  · obtain ⟨hok, hv, hW⟩ := hv
    subst hv; subst hW
    refine gz_if_eqb (pc := 8) (tgt := 15) F dL_isFree_8 (by decide) (fun hb => ?_) (fun hb => ?_)
    · refine gz_lconst (pc := 15) (v := (zI (bz (¬ (Mt_busy (Pl_mt (Ri_P r)) (Mt_n (Pl_mt (Ri_P r))) p0.toNat p1 1 (-1) ∨ Lv_off (Pl_lv (Ri_P r)) (p0.toNat : Int) p1)))).toInt64) F dL_isFree_15 (by rw [bz_f hb]; decide) ?_
      refine gz_last (pc := 16) (j := 0) F 73 (RiW_out _ _ _ _ _) (by decide) (by decide) (ws2 := RiW cI cJ a r ++ [OuC cJ o (vp_updL f 0 ((zI (bz (¬ (Mt_busy (Pl_mt (Ri_P r)) (Mt_n (Pl_mt (Ri_P r))) p0.toNat p1 1 (-1) ∨ Lv_off (Pl_lv (Ri_P r)) (p0.toNat : Int) p1)))).toInt64))]) (RiW_outset _ _ _ _ _ _) dL_isFree_16 ?_
      refine gz_goto (pc := 17) (tgt := 28) F dL_isFree_17 (by decide) ?_
      refine gz_const (pc := 28) F dL_isFree_28 ?_
      exact Z _ _ 29 _ dL_isFree_29 ⟨by rw [gz_cd_ok hok], Or.inl ⟨hok, rfl⟩⟩
    · refine gz_lconst (pc := 11) (v := (zI (bz (¬ (Mt_busy (Pl_mt (Ri_P r)) (Mt_n (Pl_mt (Ri_P r))) p0.toNat p1 1 (-1) ∨ Lv_off (Pl_lv (Ri_P r)) (p0.toNat : Int) p1)))).toInt64) F dL_isFree_11 (by rw [bz_t hb]; decide) ?_
      refine gz_goto (pc := 12) (tgt := 16) F dL_isFree_12 (by decide) ?_
      refine gz_last (pc := 16) (j := 0) F 73 (RiW_out _ _ _ _ _) (by decide) (by decide) (ws2 := RiW cI cJ a r ++ [OuC cJ o (vp_updL f 0 ((zI (bz (¬ (Mt_busy (Pl_mt (Ri_P r)) (Mt_n (Pl_mt (Ri_P r))) p0.toNat p1 1 (-1) ∨ Lv_off (Pl_lv (Ri_P r)) (p0.toNat : Int) p1)))).toInt64))]) (RiW_outset _ _ _ _ _ _) dL_isFree_16 ?_
      refine gz_goto (pc := 17) (tgt := 28) F dL_isFree_17 (by decide) ?_
      refine gz_const (pc := 28) F dL_isFree_28 ?_
      exact Z _ _ 29 _ dL_isFree_29 ⟨by rw [gz_cd_ok hok], Or.inl ⟨hok, rfl⟩⟩
  · have hin : E ∈ [xIO, xIA] := gz_px_in hE
    have hcd := gz_cd_px (c := gz_c2) hE
    have h3 : E = xIO ∨ E = xIA := (show ∀ E ∈ [xIO, xIA], E = xIO ∨ E = xIA by decide) E hin
    rcases h3 with rfl | rfl
    · refine gz_catch (pc := 5) F NC FX.2.1 htab [] ⟨0, 17, 20, 13⟩ [⟨0, 17, 24, 15⟩] rfl (by decide) (fun z hz => absurd hz List.not_mem_nil) (by decide) (by decide) clL_isFree_13 (fun q => ?_)
      refine gz_astore (pc := 20) (lv2 := [(4, .ref q), (0, .ref (a 0)), (1, vI p0), (2, vI p1), (3, .ref o)]) F dL_isFree_20 (by decide) rfl ?_
      refine gz_const (pc := 22) F dL_isFree_22 ?_
      exact Z _ _ 23 _ dL_isFree_23 ⟨by rw [hcd, gz_c2_O], Or.inr ⟨⟨_, hE⟩, rfl⟩⟩
    · refine gz_catch (pc := 5) F NC FX.2.1 htab [⟨0, 17, 20, 13⟩] ⟨0, 17, 24, 15⟩ [] rfl (by decide) (fun z hz => by
          have hz := List.mem_singleton.mp hz
          subst hz
          exact ⟨by decide, xIO, clL_isFree_13, by decide⟩) (by decide) (by decide) clL_isFree_15 (fun q => ?_)
      refine gz_astore (pc := 24) (lv2 := [(4, .ref q), (0, .ref (a 0)), (1, vI p0), (2, vI p1), (3, .ref o)]) F dL_isFree_24 (by decide) rfl ?_
      refine gz_const (pc := 26) F dL_isFree_26 ?_
      exact Z _ _ 27 _ dL_isFree_27 ⟨by rw [hcd, gz_c2_A], Or.inr ⟨⟨_, hE⟩, rfl⟩⟩

theorem clL_diary_13 : Cond.classLink RL 13 xIO ∈ wsL_diary := by decide +kernel
theorem clL_diary_15 : Cond.classLink RL 15 xIA ∈ wsL_diary := by decide +kernel
set_option maxHeartbeats 4000000 in
set_option maxRecDepth 100000 in
theorem ctL_diary (l : Launch) (hfl : l.stackTraces = false) (D : va_G) (cI cJ cZ : ClassId) (a : Nat → Nat) (r : RiS) (o : Nat) (f : Nat → Int64) (p0 p1 p2 : Int) (hr : RiI r) (h0 : -2147483648 ≤ p0 ∧ p0 < 2147483648) (h1 : -2147483648 ≤ p1 ∧ p1 < 2147483648) (h2 : -2147483648 ≤ p2 ∧ p2 < 2147483648) : gz_Y l yL_diary wsL_diary { frames := 8, cells := 1, slots := 6, locals := 200 } D cI cJ cZ [.ref (a 0), vI p0, vI p1, vI p2, .ref o] (RiW cI cJ a r ++ [OuC cJ o f]) (gz_pW gz_c2 (cd_diary r p0 p1 p2) (RiW cI cJ a r ++ [OuC cJ o (vp_updL f 0 ((zI (Dy (Ri_dy r p0 p1) p2 8 0)).toInt64))]) (RiW cI cJ a r ++ [OuC cJ o f])) := by
  refine gz_ofY (cc := cL_diary) (maxL := 6) (own := RL) hfl (by decide) rfl rfl (Nat.le_of_ble_eq_true rfl) (lv0 := [(0, .ref (a 0)), (1, vI p0), (2, vI p1), (3, vI p2), (4, .ref o)]) rfl ?_
  intro p e s m args below meth c A Q htab F FX NC Z
  refine gz_aload (pc := 0) F dL_diary_0 4 rfl ?_
  refine gz_const (pc := 2) F dL_diary_2 ?_
  refine gz_aload_n (pc := 3) F dL_diary_3 rfl 0 rfl ?_
  refine gz_iload_n (pc := 4) F dL_diary_4 rfl 1 rfl ?_
  refine gz_iload_n (pc := 5) F dL_diary_5 rfl 2 rfl ?_
  refine gz_iload_n (pc := 6) F dL_diary_6 rfl 3 rfl ?_
  refine gz_callVXb (pc := 7) (n := 3) (As := [vI p0, vI p1, vI p2]) (rest := [vI 0, .ref o]) (bytes := cX8_diary) (maxL := 7) (ret := some .char) F FX (cx_X8_diary l hfl D cI cJ cZ a r p0 p1 p2 hr h0 h1 h2) gL_diary_X8_diary rfl ⟨rfl, rfl⟩ (by decide +kernel) ⟨Nat.le_of_ble_eq_true rfl, Nat.le_of_ble_eq_true rfl⟩ rfl [] [OuC cJ o f] (rfl) 8 rfl rfl rfl (Nat.le_of_ble_eq_true rfl) (by decide) (gz_pO_sh (RiW_sh _ _)) dL_diary_7 (fun v W1 hv => ?_) (fun E hE => ?_)
  · obtain ⟨hok, hv, hW⟩ := hv
    subst hv; subst hW
    refine gz_i2l (pc := 10) (v := (zI (Dy (Ri_dy r p0 p1) p2 8 0)).toInt64) F dL_diary_10 rfl ?_
    refine gz_last (pc := 11) (j := 0) F 73 (RiW_out _ _ _ _ _) (by decide) (by decide) (ws2 := RiW cI cJ a r ++ [OuC cJ o (vp_updL f 0 ((zI (Dy (Ri_dy r p0 p1) p2 8 0)).toInt64))]) (RiW_outset _ _ _ _ _ _) dL_diary_11 ?_
    refine gz_goto (pc := 12) (tgt := 23) F dL_diary_12 (by decide) ?_
    refine gz_const (pc := 23) F dL_diary_23 ?_
    exact Z _ _ 24 _ dL_diary_24 ⟨by rw [gz_cd_ok hok], Or.inl ⟨hok, rfl⟩⟩
  · have hin : E ∈ [xIO, xIO, xIA] := gz_px_in hE
    have hcd := gz_cd_px (c := gz_c2) hE
    have h3 : E = xIO ∨ E = xIA := (show ∀ E ∈ [xIO, xIO, xIA], E = xIO ∨ E = xIA by decide) E hin
    rcases h3 with rfl | rfl
    · refine gz_catch (pc := 7) F NC FX.2.1 htab [] ⟨0, 12, 15, 13⟩ [⟨0, 12, 19, 15⟩] rfl (by decide) (fun z hz => absurd hz List.not_mem_nil) (by decide) (by decide) clL_diary_13 (fun q => ?_)
      refine gz_astore (pc := 15) (lv2 := [(5, .ref q), (0, .ref (a 0)), (1, vI p0), (2, vI p1), (3, vI p2), (4, .ref o)]) F dL_diary_15 (by decide) rfl ?_
      refine gz_const (pc := 17) F dL_diary_17 ?_
      exact Z _ _ 18 _ dL_diary_18 ⟨by rw [hcd, gz_c2_O], Or.inr ⟨⟨_, hE⟩, rfl⟩⟩
    · refine gz_catch (pc := 7) F NC FX.2.1 htab [⟨0, 12, 15, 13⟩] ⟨0, 12, 19, 15⟩ [] rfl (by decide) (fun z hz => by
          have hz := List.mem_singleton.mp hz
          subst hz
          exact ⟨by decide, xIO, clL_diary_13, by decide⟩) (by decide) (by decide) clL_diary_15 (fun q => ?_)
      refine gz_astore (pc := 19) (lv2 := [(5, .ref q), (0, .ref (a 0)), (1, vI p0), (2, vI p1), (3, vI p2), (4, .ref o)]) F dL_diary_19 (by decide) rfl ?_
      refine gz_const (pc := 21) F dL_diary_21 ?_
      exact Z _ _ 22 _ dL_diary_22 ⟨by rw [hcd, gz_c2_A], Or.inr ⟨⟨_, hE⟩, rfl⟩⟩
