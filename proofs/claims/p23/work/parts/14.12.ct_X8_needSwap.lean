/-! ===== laid by wip/whole/gen/ri.py ===== -/
theorem hn_X8_needSwap_X8 : ∀ w ∈ u_ws RX8 TX8 4, w ∈ wsX8_needSwap := by decide +kernel
theorem fl_X8_needSwap_29 : Cond.fieldLink RX8 29 (TX8 3).1 (TX8 3).2.1 (TX8 3).2.2.1 ∈ wsX8_needSwap := by decide +kernel
theorem hn_X8_needSwap_X6 : ∀ w ∈ u_ws RX6 TX6 7, w ∈ wsX8_needSwap := by decide +kernel
theorem fl_X8_needSwap_119 : Cond.fieldLink RX8 119 (TX6 6).1 (TX6 6).2.1 (TX6 6).2.2.1 ∈ wsX8_needSwap := by decide +kernel
set_option maxHeartbeats 4000000 in
set_option maxRecDepth 100000 in
theorem ct_X8_needSwap (l : Launch) (D : va_G) (cI cJ cZ : ClassId) (a : Nat → Nat) (r : RiS) (p0 : Int) (hr : RiI r) (h0 : -2147483648 ≤ p0 ∧ p0 < 2147483648) (h : 0 ≤ p0 ∧ p0 < Sw_n (Ri_S r)) : gz_M l yX8_needSwap wsX8_needSwap { frames := 0, cells := 0, slots := 0, locals := 0 } D cI cJ cZ [.ref (a 0), vI p0] (RiW cI cJ a r) (gz_pE (RiW cI cJ a r)) := by
  refine gz_ofV (cc := cX8_needSwap) (maxL := 2) (own := RX8) (by decide) rfl rfl (Nat.le_of_ble_eq_true rfl) (lv0 := [(0, .ref (a 0)), (1, vI p0)]) rfl ?_
  intro p e s m args below meth c A Q F Z
  obtain ⟨hP, hA, hTo, hSw⟩ := id hr
  obtain ⟨hMc, hLo, hLv, hMt, hBu, hnw⟩ := id hP
  have hMcn := hMc.1
  have hMtn := hMt.1
  have hBun := hBu.1
  have hTon := hTo.1
  have hSwn := hSw.1
  refine gz_iload_n (pc := 0) F dX8_needSwap_0 rfl 1 rfl ?_
  refine gz_if_lt (pc := 1) (tgt := 15) F dX8_needSwap_1 (by decide) (by omega) (fun c1 => ?_) (fun c1 => ?_)
  · exact absurd h (by omega)
  · refine gz_iload_n (pc := 4) F dX8_needSwap_4 rfl 1 rfl ?_
    refine gz_aload_n (pc := 5) F dX8_needSwap_5 rfl 0 rfl ?_
    refine gz_get (pc := 6) (v := .ref (a 66)) F hn_X8_needSwap_X8 0 8 rfl rfl 3 (by decide) fl_X8_needSwap_29 rfl dX8_needSwap_6 ?_
    refine gz_get (pc := 9) (v := vI (Sw_n (Ri_S r))) F hn_X8_needSwap_X6 66 6 rfl rfl 6 (by decide) fl_X8_needSwap_119 rfl dX8_needSwap_9 ?_
    have b9 := hSw.1
    refine gz_icmp_lt (pc := 12) (tgt := 25) F dX8_needSwap_12 (by decide) (by omega) (by omega) (fun c12 => ?_) (fun c12 => ?_)
    · refine Z _ _ 25 dX8_needSwap_25 ?_
      exact ⟨rfl, rfl⟩
    · exact absurd h (by omega)
