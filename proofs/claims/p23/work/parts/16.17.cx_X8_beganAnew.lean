/-! ===== laid by wip/whole/gen/ri.py ===== -/
abbrev cd_beganAnew (r : RiS) (p0 : Int) : List (Prop × String) := [(¬ (0 ≤ p0 ∧ p0 < Bu_n (Pl_bu (Ri_P r))), xIO)]
theorem hn_X8_beganAnew_X8 : ∀ w ∈ u_ws RX8 TX8 4, w ∈ wsX8_beganAnew := by decide +kernel
theorem fl_X8_beganAnew_16 : Cond.fieldLink RX8 16 (TX8 1).1 (TX8 1).2.1 (TX8 1).2.2.1 ∈ wsX8_beganAnew := by decide +kernel
theorem hn_X8_beganAnew_X5 : ∀ w ∈ u_ws RX5 TX5 6, w ∈ wsX8_beganAnew := by decide +kernel
theorem fl_X8_beganAnew_152 : Cond.fieldLink RX8 152 (TX5 4).1 (TX5 4).2.1 (TX5 4).2.2.1 ∈ wsX8_beganAnew := by decide +kernel
theorem hn_X8_beganAnew_X0 : ∀ w ∈ u_ws RX0 TX0 8, w ∈ wsX8_beganAnew := by decide +kernel
theorem fl_X8_beganAnew_181 : Cond.fieldLink RX8 181 (TX0 5).1 (TX0 5).2.1 (TX0 5).2.2.1 ∈ wsX8_beganAnew := by decide +kernel
set_option maxHeartbeats 4000000 in
set_option maxRecDepth 100000 in
theorem cx_X8_beganAnew (l : Launch) (hfl : l.stackTraces = false) (D : va_G) (cI cJ cZ : ClassId) (a : Nat → Nat) (r : RiS) (p0 : Int) (hr : RiI r) (h0 : -2147483648 ≤ p0 ∧ p0 < 2147483648)  : gz_X l yX8_beganAnew wsX8_beganAnew { frames := 7, cells := 1, slots := 6, locals := 138 } D cI cJ cZ [.ref (a 0), vI p0] (RiW cI cJ a r) (gz_pO (cd_beganAnew r p0) (some (vI ((if 0 ≤ p0 ∧ p0 < Bu_n (Pl_bu (Pl_anew (Ri_T r) (Ri_A r) (Pl_now (Ri_P r)))) then Bu_bg (Pl_bu (Pl_anew (Ri_T r) (Ri_A r) (Pl_now (Ri_P r)))) p0 else -1)))) (RiW cI cJ a ((Ri_P r, (Pl_anew (Ri_T r) (Ri_A r) (Pl_now (Ri_P r))), Ri_T r, Ri_S r)))) (gz_px (cd_beganAnew r p0)) := by
  refine gz_ofXZ (cc := cX8_beganAnew) (maxL := 2) (ty := .int) (own := RX8) hfl (by decide) rfl rfl (Nat.le_of_ble_eq_true rfl) (lv0 := [(0, .ref (a 0)), (1, vI p0)]) rfl ?_
  intro p e s m args below meth c A Q F FX Z ZT ZC
  obtain ⟨hP, hA, hTo, hSw⟩ := id hr
  obtain ⟨hMc, hLo, hLv, hMt, hBu, hnw⟩ := id hP
  have hMcn := hMc.1
  have hMtn := hMt.1
  have hBun := hBu.1
  have hTon := hTo.1
  have hSwn := hSw.1
  refine gz_aload_n (pc := 0) F dX8_beganAnew_0 rfl 0 rfl ?_
  refine gz_iload_n (pc := 1) F dX8_beganAnew_1 rfl 1 rfl ?_
  by_cases n2 : 0 ≤ p0 ∧ p0 < Bu_n (Pl_bu (Ri_P r))
  · refine gz_callVb (pc := 2) (n := 1) (As := [vI p0]) (rest := []) (bytes := cX8_needBuild) (maxL := 2) (ret := none) F (ct_X8_needBuild l D cI cJ cZ a r p0 hr (by omega) n2) gX8_beganAnew_X8_needBuild rfl ⟨rfl, rfl⟩ (by decide +kernel) ⟨Nat.le_of_ble_eq_true rfl, Nat.le_of_ble_eq_true rfl⟩ rfl [] [] ((List.append_nil _).symm) 8 rfl rfl rfl (Nat.le_of_ble_eq_true rfl) ⟨Nat.zero_le _, Nat.zero_le _⟩ (gz_pE_sh rfl) dX8_beganAnew_2 ?_
    refine gz_kEb (ws2 := RiW cI cJ a r) ((List.append_nil _).symm).symm ?_
    refine gz_aload_n (pc := 5) F dX8_beganAnew_5 rfl 0 rfl ?_
    refine gz_callVb (pc := 6) (n := 0) (As := []) (rest := []) (bytes := cX8_planAgain) (maxL := 2) (ret := none) F (ct_X8_planAgain l D cI cJ cZ a r hr) gX8_beganAnew_X8_planAgain rfl ⟨rfl, rfl⟩ (by decide +kernel) ⟨Nat.le_of_ble_eq_true rfl, Nat.le_of_ble_eq_true rfl⟩ rfl [] [] ((List.append_nil _).symm) 8 rfl rfl rfl (Nat.le_of_ble_eq_true rfl) ⟨Nat.zero_le _, Nat.zero_le _⟩ (gz_pE_sh rfl) dX8_beganAnew_6 ?_
    refine gz_kEb (ws2 := RiW cI cJ a (Ri_P r, (Pl_anew (Ri_T r) (Ri_A r) (Pl_now (Ri_P r))), Ri_T r, Ri_S r)) ((List.append_nil _).symm).symm ?_
    have hA9 := Pl_anew_I hTo hA (Pl_now (Ri_P r))
    have hB9 := hA9.2.2.2.2.1
    have hB9n := hB9.1
    refine gz_aload_n (pc := 9) F dX8_beganAnew_9 rfl 0 rfl ?_
    refine gz_get (pc := 10) (v := .ref (a 30)) F hn_X8_beganAnew_X8 0 8 rfl rfl 1 (by decide) fl_X8_beganAnew_16 rfl dX8_beganAnew_10 ?_
    refine gz_get (pc := 13) (v := .ref (a 51)) F hn_X8_beganAnew_X5 30 5 rfl rfl 4 (by decide) fl_X8_beganAnew_152 rfl dX8_beganAnew_13 ?_
    refine gz_iload_n (pc := 16) F dX8_beganAnew_16 rfl 1 rfl ?_
    refine gz_callV (pc := 17) (n := 1) (As := [vI p0]) (rest := []) (bytes := cX0_knows) (maxL := 2) (ret := some .boolean) F (ct_X0_knows l D cI cJ cZ (fun i => a (i + 21 + 30)) (Pl_bu ((Pl_anew (Ri_T r) (Ri_A r) (Pl_now (Ri_P r))))) p0 hB9 (by omega)) gX8_beganAnew_X0_knows rfl ⟨rfl, rfl⟩ (by decide +kernel) ⟨Nat.le_of_ble_eq_true rfl, Nat.le_of_ble_eq_true rfl⟩ rfl [51, 52, 53, 54, 55, 56, 57, 58] rfl (by decide) 51 0 rfl rfl rfl (Nat.le_of_ble_eq_true rfl) ⟨Nat.zero_le _, Nat.zero_le _⟩ gz_pI_sh dX8_beganAnew_17 ?_
    refine gz_kI rfl (fun r17 h17 => ?_)
    subst h17
    refine gz_if_eqb (pc := 20) (tgt := 38) F dX8_beganAnew_20 (by decide) (fun c20 => ?_) (fun c20 => ?_)
    · refine gz_const (pc := 38) F dX8_beganAnew_38 ?_
      refine Z _ _ 39 _ dX8_beganAnew_39 rfl ?_
      exact ⟨⟨not_not_intro n2, trivial⟩, (by rw [if_neg c20]), rfl⟩
    · refine gz_aload_n (pc := 23) F dX8_beganAnew_23 rfl 0 rfl ?_
      refine gz_get (pc := 24) (v := .ref (a 30)) F hn_X8_beganAnew_X8 0 8 rfl rfl 1 (by decide) fl_X8_beganAnew_16 rfl dX8_beganAnew_24 ?_
      refine gz_get (pc := 27) (v := .ref (a 51)) F hn_X8_beganAnew_X5 30 5 rfl rfl 4 (by decide) fl_X8_beganAnew_152 rfl dX8_beganAnew_27 ?_
      refine gz_get (pc := 30) (v := .ref (a 57)) F hn_X8_beganAnew_X0 51 0 rfl rfl 5 (by decide) fl_X8_beganAnew_181 rfl dX8_beganAnew_30 ?_
      refine gz_iload_n (pc := 33) F dX8_beganAnew_33 rfl 1 rfl ?_
      refine gz_iald (pc := 34) (f := Bu_bg (Pl_bu ((Pl_anew (Ri_T r) (Ri_A r) (Pl_now (Ri_P r)))))) F 57 rfl (by omega) (by decide) dX8_beganAnew_34 ?_
      refine gz_goto (pc := 35) (tgt := 39) F dX8_beganAnew_35 (by decide) ?_
      refine Z _ _ 39 _ dX8_beganAnew_39 rfl ?_
      exact ⟨⟨not_not_intro n2, trivial⟩, (by rw [if_pos c20]), rfl⟩
  · refine gz_callVXb (pc := 2) (n := 1) (As := [vI p0]) (rest := []) (bytes := cX8_needBuild) (maxL := 2) (ret := none) F FX (cx_X8_needBuild l hfl D cI cJ cZ a r p0 hr (by omega) n2) gX8_beganAnew_X8_needBuild rfl ⟨rfl, rfl⟩ (by decide +kernel) ⟨Nat.le_of_ble_eq_true rfl, Nat.le_of_ble_eq_true rfl⟩ rfl [] [] ((List.append_nil _).symm) 8 rfl rfl rfl (Nat.le_of_ble_eq_true rfl) (by decide) gz_pF_sh dX8_beganAnew_2 (fun _ _ h => h.elim) (fun E hE => ?_)
    subst hE
    exact ZC _ _ _ _ (Or.inl ⟨n2, rfl⟩)
