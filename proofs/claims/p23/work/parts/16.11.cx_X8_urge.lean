/-! ===== laid by wip/whole/gen/ri.py ===== -/
abbrev cd_urge (r : RiS) (p0 p1 : Int) : List (Prop × String) := [(¬ (0 ≤ p0 ∧ p0 < Bu_n (Pl_bu (Ri_P r))), xIO), (¬ (0 ≤ p1 ∧ p1 ≤ 9), xIA), (¬ (Bu_st (Pl_bu (Ri_P r)) p0 = 0), xIS)]
theorem hn_X8_urge_X8 : ∀ w ∈ u_ws RX8 TX8 4, w ∈ wsX8_urge := by decide +kernel
theorem fl_X8_urge_10 : Cond.fieldLink RX8 10 (TX8 0).1 (TX8 0).2.1 (TX8 0).2.2.1 ∈ wsX8_urge := by decide +kernel
theorem hn_X8_urge_X5 : ∀ w ∈ u_ws RX5 TX5 6, w ∈ wsX8_urge := by decide +kernel
theorem fl_X8_urge_152 : Cond.fieldLink RX8 152 (TX5 4).1 (TX5 4).2.1 (TX5 4).2.2.1 ∈ wsX8_urge := by decide +kernel
theorem hn_X8_urge_X0 : ∀ w ∈ u_ws RX0 TX0 8, w ∈ wsX8_urge := by decide +kernel
theorem fl_X8_urge_162 : Cond.fieldLink RX8 162 (TX0 3).1 (TX0 3).2.1 (TX0 3).2.2.1 ∈ wsX8_urge := by decide +kernel
theorem fl_X8_urge_163 : Cond.fieldLink RX8 163 (TX0 1).1 (TX0 1).2.1 (TX0 1).2.2.1 ∈ wsX8_urge := by decide +kernel
set_option maxHeartbeats 4000000 in
set_option maxRecDepth 100000 in
theorem cx_X8_urge (l : Launch) (hfl : l.stackTraces = false) (D : va_G) (cI cJ cZ : ClassId) (a : Nat → Nat) (r : RiS) (p0 p1 : Int) (hr : RiI r) (h0 : -2147483648 ≤ p0 ∧ p0 < 2147483648) (h1 : -2147483648 ≤ p1 ∧ p1 < 2147483648)  : gz_X l yX8_urge wsX8_urge { frames := 7, cells := 1, slots := 6, locals := 116 } D cI cJ cZ [.ref (a 0), vI p0, vI p1] (RiW cI cJ a r) (gz_pO (cd_urge r p0 p1) (some (vI (Bu_ur (Pl_bu (Ri_P r)) p0))) (RiW cI cJ a (Ri_tell r 9 p0 p1 0 0))) (gz_px (cd_urge r p0 p1)) := by
  refine gz_ofXZ (cc := cX8_urge) (maxL := 4) (ty := .int) (own := RX8) hfl (by decide) rfl rfl (Nat.le_of_ble_eq_true rfl) (lv0 := [(0, .ref (a 0)), (1, vI p0), (2, vI p1)]) rfl ?_
  intro p e s m args below meth c A Q F FX Z ZT ZC
  obtain ⟨hP, hA, hTo, hSw⟩ := id hr
  obtain ⟨hMc, hLo, hLv, hMt, hBu, hnw⟩ := id hP
  have hMcn := hMc.1
  have hMtn := hMt.1
  have hBun := hBu.1
  have hTon := hTo.1
  have hSwn := hSw.1
  refine gz_aload_n (pc := 0) F dX8_urge_0 rfl 0 rfl ?_
  refine gz_iload_n (pc := 1) F dX8_urge_1 rfl 1 rfl ?_
  by_cases n2 : 0 ≤ p0 ∧ p0 < Bu_n (Pl_bu (Ri_P r))
  · refine gz_callVb (pc := 2) (n := 1) (As := [vI p0]) (rest := []) (bytes := cX8_needBuild) (maxL := 2) (ret := none) F (ct_X8_needBuild l D cI cJ cZ a r p0 hr (by omega) n2) gX8_urge_X8_needBuild rfl ⟨rfl, rfl⟩ (by decide +kernel) ⟨Nat.le_of_ble_eq_true rfl, Nat.le_of_ble_eq_true rfl⟩ rfl [] [] ((List.append_nil _).symm) 8 rfl rfl rfl (Nat.le_of_ble_eq_true rfl) ⟨Nat.zero_le _, Nat.zero_le _⟩ (gz_pE_sh rfl) dX8_urge_2 ?_
    refine gz_kEb (ws2 := RiW cI cJ a r) ((List.append_nil _).symm).symm ?_
    refine gz_iload_n (pc := 5) F dX8_urge_5 rfl 2 rfl ?_
    refine gz_const (pc := 6) F dX8_urge_6 ?_
    refine gz_bipush (pc := 7) F dX8_urge_7 (by decide) ?_
    by_cases n9 : 0 ≤ p1 ∧ p1 ≤ 9
    · refine gz_callS (pc := 9) (n := 3) (As := [vI p1, vI 0, vI 9]) (rest := []) (bytes := cX8_needRange) (maxL := 3) (ret := none) F (ct_X8_needRange l D cI cJ cZ p1 0 9 (by omega) (by omega) (by omega) n9) gX8_urge_X8_needRange rfl ⟨rfl, rfl⟩ (by decide +kernel) ⟨Nat.le_of_ble_eq_true rfl, Nat.le_of_ble_eq_true rfl⟩ rfl [] rfl (by decide) rfl (Nat.le_of_ble_eq_true rfl) ⟨Nat.zero_le _, Nat.zero_le _⟩ (gz_pE_sh rfl) dX8_urge_9 ?_
      refine gz_kE (ws2 := RiW cI cJ a r) rfl ?_
      refine gz_aload_n (pc := 12) F dX8_urge_12 rfl 0 rfl ?_
      refine gz_get (pc := 13) (v := .ref (a 1)) F hn_X8_urge_X8 0 8 rfl rfl 0 (by decide) fl_X8_urge_10 rfl dX8_urge_13 ?_
      refine gz_get (pc := 16) (v := .ref (a 22)) F hn_X8_urge_X5 1 5 rfl rfl 4 (by decide) fl_X8_urge_152 rfl dX8_urge_16 ?_
      refine gz_get (pc := 19) (v := .ref (a 26)) F hn_X8_urge_X0 22 0 rfl rfl 3 (by decide) fl_X8_urge_162 rfl dX8_urge_19 ?_
      refine gz_iload_n (pc := 22) F dX8_urge_22 rfl 1 rfl ?_
      refine gz_iald (pc := 23) (f := Bu_st (Pl_bu (Ri_P r))) F 26 rfl (by omega) (by decide) dX8_urge_23 ?_
      have b23 := (hBu.2 p0).2.2.2.1
      refine gz_if_ne (pc := 24) (tgt := 31) F dX8_urge_24 (by decide) (by omega) (fun c24 => ?_) (fun c24 => ?_)
      · refine gz_const (pc := 31) F dX8_urge_31 ?_
        refine gz_eqst (st2 := [vI (bz False)]) (congrArg (fun x => [vI x]) (bz_f not_false).symm) ?_
        have n32 : ¬ False := not_false
        refine gz_callSX (pc := 32) (n := 1) (As := [vI (bz False)]) (rest := []) (bytes := cX8_needState) (maxL := 1) (ret := none) F FX (cx_X8_needState l hfl D cI cJ cZ (False) n32) gX8_urge_X8_needState rfl ⟨rfl, rfl⟩ (by decide +kernel) ⟨Nat.le_of_ble_eq_true rfl, Nat.le_of_ble_eq_true rfl⟩ rfl [] rfl (by decide) rfl (Nat.le_of_ble_eq_true rfl) (by decide) gz_pF_sh dX8_urge_32 (fun _ _ h => h.elim) (fun E hE => ?_)
        subst hE
        exact ZC _ _ _ _ (Or.inr ⟨not_not_intro n2, Or.inr ⟨not_not_intro n9, Or.inl ⟨(by omega), rfl⟩⟩⟩)
      · refine gz_const (pc := 27) F dX8_urge_27 ?_
        refine gz_goto (pc := 28) (tgt := 32) F dX8_urge_28 (by decide) ?_
        refine gz_eqst (st2 := [vI (bz True)]) (congrArg (fun x => [vI x]) (bz_t trivial).symm) ?_
        have n32 : True := trivial
        refine gz_callS (pc := 32) (n := 1) (As := [vI (bz True)]) (rest := []) (bytes := cX8_needState) (maxL := 1) (ret := none) F (ct_X8_needState l D cI cJ cZ (True) n32) gX8_urge_X8_needState rfl ⟨rfl, rfl⟩ (by decide +kernel) ⟨Nat.le_of_ble_eq_true rfl, Nat.le_of_ble_eq_true rfl⟩ rfl [] rfl (by decide) rfl (Nat.le_of_ble_eq_true rfl) ⟨Nat.zero_le _, Nat.zero_le _⟩ (gz_pE_sh rfl) dX8_urge_32 ?_
        refine gz_kE (ws2 := RiW cI cJ a r) rfl ?_
        refine gz_aload_n (pc := 35) F dX8_urge_35 rfl 0 rfl ?_
        refine gz_get (pc := 36) (v := .ref (a 1)) F hn_X8_urge_X8 0 8 rfl rfl 0 (by decide) fl_X8_urge_10 rfl dX8_urge_36 ?_
        refine gz_get (pc := 39) (v := .ref (a 22)) F hn_X8_urge_X5 1 5 rfl rfl 4 (by decide) fl_X8_urge_152 rfl dX8_urge_39 ?_
        refine gz_get (pc := 42) (v := .ref (a 24)) F hn_X8_urge_X0 22 0 rfl rfl 1 (by decide) fl_X8_urge_163 rfl dX8_urge_42 ?_
        refine gz_iload_n (pc := 45) F dX8_urge_45 rfl 1 rfl ?_
        refine gz_iald (pc := 46) (f := Bu_ur (Pl_bu (Ri_P r))) F 24 rfl (by omega) (by decide) dX8_urge_46 ?_
        have b46 := (hBu.2 p0).2.1
        refine gz_istore_n (pc := 47) (lv2 := [(3, vI (Bu_ur (Pl_bu (Ri_P r)) p0)), (0, .ref (a 0)), (1, vI p0), (2, vI p1)]) F dX8_urge_47 rfl (by decide) rfl ?_
        refine gz_aload_n (pc := 48) F dX8_urge_48 rfl 1 rfl ?_
        refine gz_bipush (pc := 49) F dX8_urge_49 (by decide) ?_
        refine gz_iload_n (pc := 51) F dX8_urge_51 rfl 2 rfl ?_
        refine gz_iload_n (pc := 52) F dX8_urge_52 rfl 3 rfl ?_
        refine gz_const (pc := 53) F dX8_urge_53 ?_
        refine gz_const (pc := 54) F dX8_urge_54 ?_
        refine gz_callVb (pc := 55) (n := 5) (As := [vI 9, vI p0, vI p1, vI 0, vI 0]) (rest := []) (bytes := cX8_tell) (maxL := 6) (ret := none) F (ct_X8_tell l D cI cJ cZ a r 9 p0 p1 0 0 hr (by omega) (by omega) (by omega) (by omega) (by omega)) gX8_urge_X8_tell rfl ⟨rfl, rfl⟩ (by decide +kernel) ⟨Nat.le_of_ble_eq_true rfl, Nat.le_of_ble_eq_true rfl⟩ rfl [] [] ((List.append_nil _).symm) 8 rfl rfl rfl (Nat.le_of_ble_eq_true rfl) ⟨Nat.zero_le _, Nat.zero_le _⟩ (gz_pE_sh rfl) dX8_urge_55 ?_
        refine gz_kEb (ws2 := RiW cI cJ a (Ri_tell r 9 p0 p1 0 0)) ((List.append_nil _).symm).symm ?_
        refine gz_iload_n (pc := 58) F dX8_urge_58 rfl 0 rfl ?_
        refine Z _ _ 59 _ dX8_urge_59 rfl ?_
        exact ⟨⟨not_not_intro n2, not_not_intro n9, (by omega), trivial⟩, rfl, rfl⟩
    · refine gz_callSX (pc := 9) (n := 3) (As := [vI p1, vI 0, vI 9]) (rest := []) (bytes := cX8_needRange) (maxL := 3) (ret := none) F FX (cx_X8_needRange l hfl D cI cJ cZ p1 0 9 (by omega) (by omega) (by omega) n9) gX8_urge_X8_needRange rfl ⟨rfl, rfl⟩ (by decide +kernel) ⟨Nat.le_of_ble_eq_true rfl, Nat.le_of_ble_eq_true rfl⟩ rfl [] rfl (by decide) rfl (Nat.le_of_ble_eq_true rfl) (by decide) gz_pF_sh dX8_urge_9 (fun _ _ h => h.elim) (fun E hE => ?_)
      subst hE
      exact ZC _ _ _ _ (Or.inr ⟨not_not_intro n2, Or.inl ⟨n9, rfl⟩⟩)
  · refine gz_callVXb (pc := 2) (n := 1) (As := [vI p0]) (rest := []) (bytes := cX8_needBuild) (maxL := 2) (ret := none) F FX (cx_X8_needBuild l hfl D cI cJ cZ a r p0 hr (by omega) n2) gX8_urge_X8_needBuild rfl ⟨rfl, rfl⟩ (by decide +kernel) ⟨Nat.le_of_ble_eq_true rfl, Nat.le_of_ble_eq_true rfl⟩ rfl [] [] ((List.append_nil _).symm) 8 rfl rfl rfl (Nat.le_of_ble_eq_true rfl) (by decide) gz_pF_sh dX8_urge_2 (fun _ _ h => h.elim) (fun E hE => ?_)
    subst hE
    exact ZC _ _ _ _ (Or.inl ⟨n2, rfl⟩)
