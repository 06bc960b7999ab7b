/-! ===== laid by wip/whole/gen/ri.py ===== -/
theorem iw_X8_needRange_cl_IA : Cond.classLink RX8 112 xIA ∈ wsX8_needRange := by decide +kernel
theorem iw_X8_needRange_in_IA : Cond.initialized xIA ∈ wsX8_needRange := by decide +kernel
theorem gd_X8_needRange_IA : ∀ w ∈ (vx_atS RX8 116 xIA gz_names).filter goodWord, w ∈ wsX8_needRange := by decide +kernel
set_option maxHeartbeats 4000000 in
set_option maxRecDepth 100000 in
theorem cx_X8_needRange (l : Launch) (hfl : l.stackTraces = false) (D : va_G) (cI cJ cZ : ClassId) (p0 p1 p2 : Int) (h0 : -2147483648 ≤ p0 ∧ p0 < 2147483648) (h1 : -2147483648 ≤ p1 ∧ p1 < 2147483648) (h2 : -2147483648 ≤ p2 ∧ p2 < 2147483648) (h : ¬ (p1 ≤ p0 ∧ p0 ≤ p2)) : gz_X l yX8_needRange wsX8_needRange { frames := 6, cells := 1, slots := 6, locals := 82 } D cI cJ cZ [vI p0, vI p1, vI p2] ([]) (fun _ _ => False) (fun E => E = xIA) := by
  refine gz_ofXV (cc := cX8_needRange) (maxL := 3) (own := RX8) hfl (by decide) rfl rfl (Nat.le_of_ble_eq_true rfl) (lv0 := [(0, vI p0), (1, vI p1), (2, vI p2)]) rfl ?_
  intro p e s m args below meth c A Q F FX Z ZT ZC
  refine gz_iload_n (pc := 0) F dX8_needRange_0 rfl 0 rfl ?_
  refine gz_iload_n (pc := 1) F dX8_needRange_1 rfl 1 rfl ?_
  refine gz_icmp_lt (pc := 2) (tgt := 10) F dX8_needRange_2 (by decide) (by omega) (by omega) (fun c2 => ?_) (fun c2 => ?_)
  · exact ZT _ _ 10 xIA "an argument is out of range" 112 219 116 (rfl) (by decide) (by decide) rfl iw_X8_needRange_cl_IA iw_X8_needRange_in_IA gd_X8_needRange_IA gx_bad_IA gx_ot_IA dX8_needRange_10 dX8_needRange_13 dX8_needRange_14 dX8_needRange_16 dX8_needRange_19 (by decide) (by decide) (by decide) (by decide)
  · refine gz_iload_n (pc := 5) F dX8_needRange_5 rfl 0 rfl ?_
    refine gz_iload_n (pc := 6) F dX8_needRange_6 rfl 2 rfl ?_
    refine gz_icmp_le (pc := 7) (tgt := 20) F dX8_needRange_7 (by decide) (by omega) (by omega) (fun c7 => ?_) (fun c7 => ?_)
    · exact absurd (show p1 ≤ p0 ∧ p0 ≤ p2 by omega) h
    · exact ZT _ _ 10 xIA "an argument is out of range" 112 219 116 (rfl) (by decide) (by decide) rfl iw_X8_needRange_cl_IA iw_X8_needRange_in_IA gd_X8_needRange_IA gx_bad_IA gx_ot_IA dX8_needRange_10 dX8_needRange_13 dX8_needRange_14 dX8_needRange_16 dX8_needRange_19 (by decide) (by decide) (by decide) (by decide)
