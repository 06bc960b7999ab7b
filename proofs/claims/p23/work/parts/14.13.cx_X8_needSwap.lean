/-! ===== laid by wip/whole/gen/ri.py ===== -/
theorem iw_X8_needSwap_cl_IO : Cond.classLink RX8 208 xIO ∈ wsX8_needSwap := by decide +kernel
theorem iw_X8_needSwap_in_IO : Cond.initialized xIO ∈ wsX8_needSwap := by decide +kernel
theorem gd_X8_needSwap_IO : ∀ w ∈ (vx_atS RX8 212 xIO gz_names).filter goodWord, w ∈ wsX8_needSwap := by decide +kernel
set_option maxHeartbeats 4000000 in
set_option maxRecDepth 100000 in
theorem cx_X8_needSwap (l : Launch) (hfl : l.stackTraces = false) (D : va_G) (cI cJ cZ : ClassId) (a : Nat → Nat) (r : RiS) (p0 : Int) (hr : RiI r) (h0 : -2147483648 ≤ p0 ∧ p0 < 2147483648) (h : ¬ (0 ≤ p0 ∧ p0 < Sw_n (Ri_S r))) : gz_X l yX8_needSwap wsX8_needSwap { frames := 6, cells := 1, slots := 6, locals := 82 } D cI cJ cZ [.ref (a 0), vI p0] (RiW cI cJ a r) (fun _ _ => False) (fun E => E = xIO) := by
  refine gz_ofXV (cc := cX8_needSwap) (maxL := 2) (own := RX8) hfl (by decide) rfl rfl (Nat.le_of_ble_eq_true rfl) (lv0 := [(0, .ref (a 0)), (1, vI p0)]) rfl ?_
  intro p e s m args below meth c A Q F FX Z ZT ZC
  obtain ⟨hP, hA, hTo, hSw⟩ := id hr
  obtain ⟨hMc, hLo, hLv, hMt, hBu, hnw⟩ := id hP
  have hMcn := hMc.1
  have hMtn := hMt.1
  have hBun := hBu.1
  have hTon := hTo.1
  have hSwn := hSw.1
  refine gz_iload_n (pc := 0) F dX8_needSwap_0 rfl 1 rfl ?_
  refine gz_if_lt (pc := 1) (tgt := 15) F dX8_needSwap_1 (by decide) (by omega) (fun c1 => ?_) (fun c1 => ?_)
  · exact ZT _ _ 15 xIO "no such swap" 208 239 212 (rfl) (by decide) (by decide) rfl iw_X8_needSwap_cl_IO iw_X8_needSwap_in_IO gd_X8_needSwap_IO gx_bad_IO gx_ot_IO dX8_needSwap_15 dX8_needSwap_18 dX8_needSwap_19 dX8_needSwap_21 dX8_needSwap_24 (by decide) (by decide) (by decide) (by decide)
  · refine gz_iload_n (pc := 4) F dX8_needSwap_4 rfl 1 rfl ?_
    refine gz_aload_n (pc := 5) F dX8_needSwap_5 rfl 0 rfl ?_
    refine gz_get (pc := 6) (v := .ref (a 66)) F hn_X8_needSwap_X8 0 8 rfl rfl 3 (by decide) fl_X8_needSwap_29 rfl dX8_needSwap_6 ?_
    refine gz_get (pc := 9) (v := vI (Sw_n (Ri_S r))) F hn_X8_needSwap_X6 66 6 rfl rfl 6 (by decide) fl_X8_needSwap_119 rfl dX8_needSwap_9 ?_
    have b9 := hSw.1
    refine gz_icmp_lt (pc := 12) (tgt := 25) F dX8_needSwap_12 (by decide) (by omega) (by omega) (fun c12 => ?_) (fun c12 => ?_)
    · exact absurd (show 0 ≤ p0 ∧ p0 < Sw_n (Ri_S r) by omega) h
    · exact ZT _ _ 15 xIO "no such swap" 208 239 212 (rfl) (by decide) (by decide) rfl iw_X8_needSwap_cl_IO iw_X8_needSwap_in_IO gd_X8_needSwap_IO gx_bad_IO gx_ot_IO dX8_needSwap_15 dX8_needSwap_18 dX8_needSwap_19 dX8_needSwap_21 dX8_needSwap_24 (by decide) (by decide) (by decide) (by decide)
