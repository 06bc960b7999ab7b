/-! ===== laid by wip/whole/gen/ri.py ===== -/
abbrev cd_swapOf (r : RiS) (p0 : Int) : List (Prop × String) := [(¬ (0 ≤ p0 ∧ p0 < Sw_n (Ri_S r)), xIO)]
theorem hn_X8_swapOf_X8 : ∀ w ∈ u_ws RX8 TX8 4, w ∈ wsX8_swapOf := by decide +kernel
theorem fl_X8_swapOf_29 : Cond.fieldLink RX8 29 (TX8 3).1 (TX8 3).2.1 (TX8 3).2.2.1 ∈ wsX8_swapOf := by decide +kernel
theorem hn_X8_swapOf_X6 : ∀ w ∈ u_ws RX6 TX6 7, w ∈ wsX8_swapOf := by decide +kernel
theorem fl_X8_swapOf_130 : Cond.fieldLink RX8 130 (TX6 5).1 (TX6 5).2.1 (TX6 5).2.2.1 ∈ wsX8_swapOf := by decide +kernel
set_option maxHeartbeats 4000000 in
set_option maxRecDepth 100000 in
theorem cx_X8_swapOf (l : Launch) (hfl : l.stackTraces = false) (D : va_G) (cI cJ cZ : ClassId) (a : Nat → Nat) (r : RiS) (p0 : Int) (hr : RiI r) (h0 : -2147483648 ≤ p0 ∧ p0 < 2147483648)  : gz_X l yX8_swapOf wsX8_swapOf { frames := 7, cells := 1, slots := 6, locals := 103 } D cI cJ cZ [.ref (a 0), vI p0] (RiW cI cJ a r) (gz_pO (cd_swapOf r p0) (some (vI (Sw_st (Ri_S r) p0))) (RiW cI cJ a r)) (gz_px (cd_swapOf r p0)) := by
  refine gz_ofXZ (cc := cX8_swapOf) (maxL := 2) (ty := .int) (own := RX8) hfl (by decide) rfl rfl (Nat.le_of_ble_eq_true rfl) (lv0 := [(0, .ref (a 0)), (1, vI p0)]) rfl ?_
  intro p e s m args below meth c A Q F FX Z ZT ZC
  obtain ⟨hP, hA, hTo, hSw⟩ := id hr
  obtain ⟨hMc, hLo, hLv, hMt, hBu, hnw⟩ := id hP
  have hMcn := hMc.1
  have hMtn := hMt.1
  have hBun := hBu.1
  have hTon := hTo.1
  have hSwn := hSw.1
  refine gz_aload_n (pc := 0) F dX8_swapOf_0 rfl 0 rfl ?_
  refine gz_iload_n (pc := 1) F dX8_swapOf_1 rfl 1 rfl ?_
  by_cases n2 : 0 ≤ p0 ∧ p0 < Sw_n (Ri_S r)
  · refine gz_callVb (pc := 2) (n := 1) (As := [vI p0]) (rest := []) (bytes := cX8_needSwap) (maxL := 2) (ret := none) F (ct_X8_needSwap l D cI cJ cZ a r p0 hr (by omega) n2) gX8_swapOf_X8_needSwap rfl ⟨rfl, rfl⟩ (by decide +kernel) ⟨Nat.le_of_ble_eq_true rfl, Nat.le_of_ble_eq_true rfl⟩ rfl [] [] ((List.append_nil _).symm) 8 rfl rfl rfl (Nat.le_of_ble_eq_true rfl) ⟨Nat.zero_le _, Nat.zero_le _⟩ (gz_pE_sh rfl) dX8_swapOf_2 ?_
    refine gz_kEb (ws2 := RiW cI cJ a r) ((List.append_nil _).symm).symm ?_
    refine gz_aload_n (pc := 5) F dX8_swapOf_5 rfl 0 rfl ?_
    refine gz_get (pc := 6) (v := .ref (a 66)) F hn_X8_swapOf_X8 0 8 rfl rfl 3 (by decide) fl_X8_swapOf_29 rfl dX8_swapOf_6 ?_
    refine gz_get (pc := 9) (v := .ref (a 72)) F hn_X8_swapOf_X6 66 6 rfl rfl 5 (by decide) fl_X8_swapOf_130 rfl dX8_swapOf_9 ?_
    refine gz_iload_n (pc := 12) F dX8_swapOf_12 rfl 1 rfl ?_
    refine gz_iald (pc := 13) (f := Sw_st (Ri_S r)) F 72 rfl (by omega) (by decide) dX8_swapOf_13 ?_
    have b13 := (hSw.2 p0).2.2.2
    refine Z _ _ 14 _ dX8_swapOf_14 rfl ?_
    exact ⟨⟨not_not_intro n2, trivial⟩, rfl, rfl⟩
  · refine gz_callVXb (pc := 2) (n := 1) (As := [vI p0]) (rest := []) (bytes := cX8_needSwap) (maxL := 2) (ret := none) F FX (cx_X8_needSwap l hfl D cI cJ cZ a r p0 hr (by omega) n2) gX8_swapOf_X8_needSwap rfl ⟨rfl, rfl⟩ (by decide +kernel) ⟨Nat.le_of_ble_eq_true rfl, Nat.le_of_ble_eq_true rfl⟩ rfl [] [] ((List.append_nil _).symm) 8 rfl rfl rfl (Nat.le_of_ble_eq_true rfl) (by decide) gz_pF_sh dX8_swapOf_2 (fun _ _ h => h.elim) (fun E hE => ?_)
    subst hE
    exact ZC _ _ _ _ (Or.inl ⟨n2, rfl⟩)
