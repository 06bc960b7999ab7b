/-! ===== laid by wip/whole/gen/ri.py ===== -/
abbrev cd_has (r : RiS) (p0 p1 : Int) : List (Prop × String) := [(¬ (0 ≤ p0 ∧ p0 < Mc_n (Pl_mc (Ri_P r))), xIO), (¬ (0 ≤ p1 ∧ p1 ≤ 399), xIA)]
theorem hn_X8_has_X8 : ∀ w ∈ u_ws RX8 TX8 4, w ∈ wsX8_has := by decide +kernel
theorem fl_X8_has_10 : Cond.fieldLink RX8 10 (TX8 0).1 (TX8 0).2.1 (TX8 0).2.2.1 ∈ wsX8_has := by decide +kernel
set_option maxHeartbeats 4000000 in
set_option maxRecDepth 100000 in
theorem cx_X8_has (l : Launch) (hfl : l.stackTraces = false) (D : va_G) (cI cJ cZ : ClassId) (a : Nat → Nat) (r : RiS) (p0 p1 : Int) (hr : RiI r) (h0 : -2147483648 ≤ p0 ∧ p0 < 2147483648) (h1 : -2147483648 ≤ p1 ∧ p1 < 2147483648)  : gz_X l yX8_has wsX8_has { frames := 7, cells := 1, slots := 6, locals := 104 } D cI cJ cZ [.ref (a 0), vI p0, vI p1] (RiW cI cJ a r) (gz_pO (cd_has r p0 p1) (some (vI (Pl_hold (Ri_P r) p0 p1))) (RiW cI cJ a r)) (gz_px (cd_has r p0 p1)) := by
  refine gz_ofXZ (cc := cX8_has) (maxL := 3) (ty := .int) (own := RX8) hfl (by decide) rfl rfl (Nat.le_of_ble_eq_true rfl) (lv0 := [(0, .ref (a 0)), (1, vI p0), (2, vI p1)]) rfl ?_
  intro p e s m args below meth c A Q F FX Z ZT ZC
  obtain ⟨hP, hA, hTo, hSw⟩ := id hr
  obtain ⟨hMc, hLo, hLv, hMt, hBu, hnw⟩ := id hP
  have hMcn := hMc.1
  have hMtn := hMt.1
  have hBun := hBu.1
  have hTon := hTo.1
  have hSwn := hSw.1
  refine gz_aload_n (pc := 0) F dX8_has_0 rfl 0 rfl ?_
  refine gz_iload_n (pc := 1) F dX8_has_1 rfl 1 rfl ?_
  by_cases n2 : 0 ≤ p0 ∧ p0 < Mc_n (Pl_mc (Ri_P r))
  · refine gz_callVb (pc := 2) (n := 1) (As := [vI p0]) (rest := []) (bytes := cX8_needMachine) (maxL := 2) (ret := none) F (ct_X8_needMachine l D cI cJ cZ a r p0 hr (by omega) n2) gX8_has_X8_needMachine rfl ⟨rfl, rfl⟩ (by decide +kernel) ⟨Nat.le_of_ble_eq_true rfl, Nat.le_of_ble_eq_true rfl⟩ rfl [] [] ((List.append_nil _).symm) 8 rfl rfl rfl (Nat.le_of_ble_eq_true rfl) ⟨Nat.zero_le _, Nat.zero_le _⟩ (gz_pE_sh rfl) dX8_has_2 ?_
    refine gz_kEb (ws2 := RiW cI cJ a r) ((List.append_nil _).symm).symm ?_
    refine gz_iload_n (pc := 5) F dX8_has_5 rfl 2 rfl ?_
    refine gz_const (pc := 6) F dX8_has_6 ?_
    refine gz_sipush (pc := 7) F dX8_has_7 (by decide) ?_
    by_cases n10 : 0 ≤ p1 ∧ p1 ≤ 399
    · refine gz_callS (pc := 10) (n := 3) (As := [vI p1, vI 0, vI 399]) (rest := []) (bytes := cX8_needRange) (maxL := 3) (ret := none) F (ct_X8_needRange l D cI cJ cZ p1 0 399 (by omega) (by omega) (by omega) n10) gX8_has_X8_needRange rfl ⟨rfl, rfl⟩ (by decide +kernel) ⟨Nat.le_of_ble_eq_true rfl, Nat.le_of_ble_eq_true rfl⟩ rfl [] rfl (by decide) rfl (Nat.le_of_ble_eq_true rfl) ⟨Nat.zero_le _, Nat.zero_le _⟩ (gz_pE_sh rfl) dX8_has_10 ?_
      refine gz_kE (ws2 := RiW cI cJ a r) rfl ?_
      refine gz_aload_n (pc := 13) F dX8_has_13 rfl 0 rfl ?_
      refine gz_get (pc := 14) (v := .ref (a 1)) F hn_X8_has_X8 0 8 rfl rfl 0 (by decide) fl_X8_has_10 rfl dX8_has_14 ?_
      refine gz_iload_n (pc := 17) F dX8_has_17 rfl 1 rfl ?_
      refine gz_iload_n (pc := 18) F dX8_has_18 rfl 2 rfl ?_
      refine gz_callVb (pc := 19) (n := 2) (As := [vI p0, vI p1]) (rest := []) (bytes := cX5_holder) (maxL := 4) (ret := some .int) F (ct_X5_holder l D cI cJ cZ (fun i => a (i + 1)) (Ri_P r) p0 p1 hP (by omega) (by omega)) gX8_has_X5_holder rfl ⟨rfl, rfl⟩ (by decide +kernel) ⟨Nat.le_of_ble_eq_true rfl, Nat.le_of_ble_eq_true rfl⟩ rfl [RiO a] (PlW cI cJ (fun i => a (i + 30)) (Ri_A r) ++ (ToW cI (fun i => a (i + 59)) (Ri_T r) ++ SwW cI (fun i => a (i + 66)) (Ri_S r))) (RiW_P cI cJ a (Ri_P r) (Ri_A r) (Ri_T r) (Ri_S r)) 5 rfl rfl rfl (Nat.le_of_ble_eq_true rfl) ⟨Nat.zero_le _, Nat.zero_le _⟩ gz_pI_sh dX8_has_19 ?_
      refine gz_kIb (RiW_P cI cJ a (Ri_P r) (Ri_A r) (Ri_T r) (Ri_S r)).symm (fun r19 h19 => ?_)
      subst h19
      have b19 := Pl_hold_r hP p0 p1
      refine Z _ _ 22 _ dX8_has_22 rfl ?_
      exact ⟨⟨not_not_intro n2, not_not_intro n10, trivial⟩, rfl, rfl⟩
    · refine gz_callSX (pc := 10) (n := 3) (As := [vI p1, vI 0, vI 399]) (rest := []) (bytes := cX8_needRange) (maxL := 3) (ret := none) F FX (cx_X8_needRange l hfl D cI cJ cZ p1 0 399 (by omega) (by omega) (by omega) n10) gX8_has_X8_needRange rfl ⟨rfl, rfl⟩ (by decide +kernel) ⟨Nat.le_of_ble_eq_true rfl, Nat.le_of_ble_eq_true rfl⟩ rfl [] rfl (by decide) rfl (Nat.le_of_ble_eq_true rfl) (by decide) gz_pF_sh dX8_has_10 (fun _ _ h => h.elim) (fun E hE => ?_)
      subst hE
      exact ZC _ _ _ _ (Or.inr ⟨not_not_intro n2, Or.inl ⟨n10, rfl⟩⟩)
  · refine gz_callVXb (pc := 2) (n := 1) (As := [vI p0]) (rest := []) (bytes := cX8_needMachine) (maxL := 2) (ret := none) F FX (cx_X8_needMachine l hfl D cI cJ cZ a r p0 hr (by omega) n2) gX8_has_X8_needMachine rfl ⟨rfl, rfl⟩ (by decide +kernel) ⟨Nat.le_of_ble_eq_true rfl, Nat.le_of_ble_eq_true rfl⟩ rfl [] [] ((List.append_nil _).symm) 8 rfl rfl rfl (Nat.le_of_ble_eq_true rfl) (by decide) gz_pF_sh dX8_has_2 (fun _ _ h => h.elim) (fun E hE => ?_)
    subst hE
    exact ZC _ _ _ _ (Or.inl ⟨n2, rfl⟩)
