/-! ===== laid by wip/whole/gen/ri.py ===== -/
abbrev cd_breakDown (r : RiS) (p0 p1 : Int) : List (Prop × String) := [(¬ (0 ≤ p0 ∧ p0 < Mc_n (Pl_mc (Ri_P r))), xIO), (¬ (0 ≤ p1 ∧ p1 ≤ 40), xIA)]
theorem hn_X8_breakDown_X8 : ∀ w ∈ u_ws RX8 TX8 4, w ∈ wsX8_breakDown := by decide +kernel
theorem fl_X8_breakDown_10 : Cond.fieldLink RX8 10 (TX8 0).1 (TX8 0).2.1 (TX8 0).2.2.1 ∈ wsX8_breakDown := by decide +kernel
theorem hn_X8_breakDown_X5 : ∀ w ∈ u_ws RX5 TX5 6, w ∈ wsX8_breakDown := by decide +kernel
theorem fl_X8_breakDown_41 : Cond.fieldLink RX8 41 (TX5 0).1 (TX5 0).2.1 (TX5 0).2.2.1 ∈ wsX8_breakDown := by decide +kernel
theorem hn_X8_breakDown_X3 : ∀ w ∈ u_ws RX3 TX3 6, w ∈ wsX8_breakDown := by decide +kernel
theorem fl_X8_breakDown_86 : Cond.fieldLink RX8 86 (TX3 4).1 (TX3 4).2.1 (TX3 4).2.2.1 ∈ wsX8_breakDown := by decide +kernel
set_option maxHeartbeats 4000000 in
set_option maxRecDepth 100000 in
theorem cx_X8_breakDown (l : Launch) (hfl : l.stackTraces = false) (D : va_G) (cI cJ cZ : ClassId) (a : Nat → Nat) (r : RiS) (p0 p1 : Int) (hr : RiI r) (h0 : -2147483648 ≤ p0 ∧ p0 < 2147483648) (h1 : -2147483648 ≤ p1 ∧ p1 < 2147483648)  : gz_X l yX8_breakDown wsX8_breakDown { frames := 7, cells := 1, slots := 6, locals := 116 } D cI cJ cZ [.ref (a 0), vI p0, vI p1] (RiW cI cJ a r) (gz_pO (cd_breakDown r p0 p1) (some (vI ((if 0 < p1 then Mc_ru (Pl_mc (Ri_P r)) p0 else -1)))) (RiW cI cJ a (Ri_tell r 3 p0 p1 0 0))) (gz_px (cd_breakDown r p0 p1)) := by
  refine gz_ofXZ (cc := cX8_breakDown) (maxL := 4) (ty := .int) (own := RX8) hfl (by decide) rfl rfl (Nat.le_of_ble_eq_true rfl) (lv0 := [(0, .ref (a 0)), (1, vI p0), (2, vI p1)]) rfl ?_
  intro p e s m args below meth c A Q F FX Z ZT ZC
  obtain ⟨hP, hA, hTo, hSw⟩ := id hr
  obtain ⟨hMc, hLo, hLv, hMt, hBu, hnw⟩ := id hP
  have hMcn := hMc.1
  have hMtn := hMt.1
  have hBun := hBu.1
  have hTon := hTo.1
  have hSwn := hSw.1
  refine gz_aload_n (pc := 0) F dX8_breakDown_0 rfl 0 rfl ?_
  refine gz_iload_n (pc := 1) F dX8_breakDown_1 rfl 1 rfl ?_
  by_cases n2 : 0 ≤ p0 ∧ p0 < Mc_n (Pl_mc (Ri_P r))
  · refine gz_callVb (pc := 2) (n := 1) (As := [vI p0]) (rest := []) (bytes := cX8_needMachine) (maxL := 2) (ret := none) F (ct_X8_needMachine l D cI cJ cZ a r p0 hr (by omega) n2) gX8_breakDown_X8_needMachine rfl ⟨rfl, rfl⟩ (by decide +kernel) ⟨Nat.le_of_ble_eq_true rfl, Nat.le_of_ble_eq_true rfl⟩ rfl [] [] ((List.append_nil _).symm) 8 rfl rfl rfl (Nat.le_of_ble_eq_true rfl) ⟨Nat.zero_le _, Nat.zero_le _⟩ (gz_pE_sh rfl) dX8_breakDown_2 ?_
    refine gz_kEb (ws2 := RiW cI cJ a r) ((List.append_nil _).symm).symm ?_
    refine gz_iload_n (pc := 5) F dX8_breakDown_5 rfl 2 rfl ?_
    refine gz_const (pc := 6) F dX8_breakDown_6 ?_
    refine gz_bipush (pc := 7) F dX8_breakDown_7 (by decide) ?_
    by_cases n9 : 0 ≤ p1 ∧ p1 ≤ 40
    · refine gz_callS (pc := 9) (n := 3) (As := [vI p1, vI 0, vI 40]) (rest := []) (bytes := cX8_needRange) (maxL := 3) (ret := none) F (ct_X8_needRange l D cI cJ cZ p1 0 40 (by omega) (by omega) (by omega) n9) gX8_breakDown_X8_needRange rfl ⟨rfl, rfl⟩ (by decide +kernel) ⟨Nat.le_of_ble_eq_true rfl, Nat.le_of_ble_eq_true rfl⟩ rfl [] rfl (by decide) rfl (Nat.le_of_ble_eq_true rfl) ⟨Nat.zero_le _, Nat.zero_le _⟩ (gz_pE_sh rfl) dX8_breakDown_9 ?_
      refine gz_kE (ws2 := RiW cI cJ a r) rfl ?_
      refine gz_iload_n (pc := 12) F dX8_breakDown_12 rfl 2 rfl ?_
      refine gz_if_le (pc := 13) (tgt := 31) F dX8_breakDown_13 (by decide) (by omega) (fun c13 => ?_) (fun c13 => ?_)
      · refine gz_const (pc := 31) F dX8_breakDown_31 ?_
        refine gz_istore_n (pc := 32) (lv2 := [(3, vI (-1)), (0, .ref (a 0)), (1, vI p0), (2, vI p1)]) F dX8_breakDown_32 rfl (by decide) rfl ?_
        refine gz_aload_n (pc := 33) F dX8_breakDown_33 rfl 1 rfl ?_
        refine gz_const (pc := 34) F dX8_breakDown_34 ?_
        refine gz_iload_n (pc := 35) F dX8_breakDown_35 rfl 2 rfl ?_
        refine gz_iload_n (pc := 36) F dX8_breakDown_36 rfl 3 rfl ?_
        refine gz_const (pc := 37) F dX8_breakDown_37 ?_
        refine gz_const (pc := 38) F dX8_breakDown_38 ?_
        refine gz_callVb (pc := 39) (n := 5) (As := [vI 3, vI p0, vI p1, vI 0, vI 0]) (rest := []) (bytes := cX8_tell) (maxL := 6) (ret := none) F (ct_X8_tell l D cI cJ cZ a r 3 p0 p1 0 0 hr (by omega) (by omega) (by omega) (by omega) (by omega)) gX8_breakDown_X8_tell rfl ⟨rfl, rfl⟩ (by decide +kernel) ⟨Nat.le_of_ble_eq_true rfl, Nat.le_of_ble_eq_true rfl⟩ rfl [] [] ((List.append_nil _).symm) 8 rfl rfl rfl (Nat.le_of_ble_eq_true rfl) ⟨Nat.zero_le _, Nat.zero_le _⟩ (gz_pE_sh rfl) dX8_breakDown_39 ?_
        refine gz_kEb (ws2 := RiW cI cJ a (Ri_tell r 3 p0 p1 0 0)) ((List.append_nil _).symm).symm ?_
        refine gz_iload_n (pc := 42) F dX8_breakDown_42 rfl 0 rfl ?_
        refine Z _ _ 43 _ dX8_breakDown_43 rfl ?_
        exact ⟨⟨not_not_intro n2, not_not_intro n9, trivial⟩, by rw [if_neg (Int.not_lt.mpr c13)], rfl⟩
      · refine gz_aload_n (pc := 16) F dX8_breakDown_16 rfl 0 rfl ?_
        refine gz_get (pc := 17) (v := .ref (a 1)) F hn_X8_breakDown_X8 0 8 rfl rfl 0 (by decide) fl_X8_breakDown_10 rfl dX8_breakDown_17 ?_
        refine gz_get (pc := 20) (v := .ref (a 2)) F hn_X8_breakDown_X5 1 5 rfl rfl 0 (by decide) fl_X8_breakDown_41 rfl dX8_breakDown_20 ?_
        refine gz_get (pc := 23) (v := .ref (a 7)) F hn_X8_breakDown_X3 2 3 rfl rfl 4 (by decide) fl_X8_breakDown_86 rfl dX8_breakDown_23 ?_
        refine gz_iload_n (pc := 26) F dX8_breakDown_26 rfl 1 rfl ?_
        refine gz_iald (pc := 27) (f := Mc_ru (Pl_mc (Ri_P r))) F 7 rfl (by omega) (by decide) dX8_breakDown_27 ?_
        have b27 := (hMc.2 p0).2.2.2.2
        refine gz_goto (pc := 28) (tgt := 32) F dX8_breakDown_28 (by decide) ?_
        refine gz_istore_n (pc := 32) (lv2 := [(3, vI (Mc_ru (Pl_mc (Ri_P r)) p0)), (0, .ref (a 0)), (1, vI p0), (2, vI p1)]) F dX8_breakDown_32 rfl (by decide) rfl ?_
        refine gz_aload_n (pc := 33) F dX8_breakDown_33 rfl 1 rfl ?_
        refine gz_const (pc := 34) F dX8_breakDown_34 ?_
        refine gz_iload_n (pc := 35) F dX8_breakDown_35 rfl 2 rfl ?_
        refine gz_iload_n (pc := 36) F dX8_breakDown_36 rfl 3 rfl ?_
        refine gz_const (pc := 37) F dX8_breakDown_37 ?_
        refine gz_const (pc := 38) F dX8_breakDown_38 ?_
        refine gz_callVb (pc := 39) (n := 5) (As := [vI 3, vI p0, vI p1, vI 0, vI 0]) (rest := []) (bytes := cX8_tell) (maxL := 6) (ret := none) F (ct_X8_tell l D cI cJ cZ a r 3 p0 p1 0 0 hr (by omega) (by omega) (by omega) (by omega) (by omega)) gX8_breakDown_X8_tell rfl ⟨rfl, rfl⟩ (by decide +kernel) ⟨Nat.le_of_ble_eq_true rfl, Nat.le_of_ble_eq_true rfl⟩ rfl [] [] ((List.append_nil _).symm) 8 rfl rfl rfl (Nat.le_of_ble_eq_true rfl) ⟨Nat.zero_le _, Nat.zero_le _⟩ (gz_pE_sh rfl) dX8_breakDown_39 ?_
        refine gz_kEb (ws2 := RiW cI cJ a (Ri_tell r 3 p0 p1 0 0)) ((List.append_nil _).symm).symm ?_
        refine gz_iload_n (pc := 42) F dX8_breakDown_42 rfl 0 rfl ?_
        refine Z _ _ 43 _ dX8_breakDown_43 rfl ?_
        exact ⟨⟨not_not_intro n2, not_not_intro n9, trivial⟩, by rw [if_pos c13], rfl⟩
    · refine gz_callSX (pc := 9) (n := 3) (As := [vI p1, vI 0, vI 40]) (rest := []) (bytes := cX8_needRange) (maxL := 3) (ret := none) F FX (cx_X8_needRange l hfl D cI cJ cZ p1 0 40 (by omega) (by omega) (by omega) n9) gX8_breakDown_X8_needRange rfl ⟨rfl, rfl⟩ (by decide +kernel) ⟨Nat.le_of_ble_eq_true rfl, Nat.le_of_ble_eq_true rfl⟩ rfl [] rfl (by decide) rfl (Nat.le_of_ble_eq_true rfl) (by decide) gz_pF_sh dX8_breakDown_9 (fun _ _ h => h.elim) (fun E hE => ?_)
      subst hE
      exact ZC _ _ _ _ (Or.inr ⟨not_not_intro n2, Or.inl ⟨n9, rfl⟩⟩)
  · refine gz_callVXb (pc := 2) (n := 1) (As := [vI p0]) (rest := []) (bytes := cX8_needMachine) (maxL := 2) (ret := none) F FX (cx_X8_needMachine l hfl D cI cJ cZ a r p0 hr (by omega) n2) gX8_breakDown_X8_needMachine rfl ⟨rfl, rfl⟩ (by decide +kernel) ⟨Nat.le_of_ble_eq_true rfl, Nat.le_of_ble_eq_true rfl⟩ rfl [] [] ((List.append_nil _).symm) 8 rfl rfl rfl (Nat.le_of_ble_eq_true rfl) (by decide) gz_pF_sh dX8_breakDown_2 (fun _ _ h => h.elim) (fun E hE => ?_)
    subst hE
    exact ZC _ _ _ _ (Or.inl ⟨n2, rfl⟩)
