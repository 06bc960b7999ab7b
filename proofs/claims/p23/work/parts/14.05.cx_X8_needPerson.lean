/-! ===== laid by wip/whole/gen/ri.py ===== -/
theorem iw_X8_needPerson_cl_IO : Cond.classLink RX8 208 xIO ∈ wsX8_needPerson := by decide +kernel
theorem iw_X8_needPerson_in_IO : Cond.initialized xIO ∈ wsX8_needPerson := by decide +kernel
theorem gd_X8_needPerson_IO : ∀ w ∈ (vx_atS RX8 212 xIO gz_names).filter goodWord, w ∈ wsX8_needPerson := by decide +kernel
set_option maxHeartbeats 4000000 in
set_option maxRecDepth 100000 in
theorem cx_X8_needPerson (l : Launch) (hfl : l.stackTraces = false) (D : va_G) (cI cJ cZ : ClassId) (p0 : Int) (h0 : -2147483648 ≤ p0 ∧ p0 < 2147483648) (h : ¬ (0 ≤ p0 ∧ p0 < 10)) : gz_X l yX8_needPerson wsX8_needPerson { frames := 6, cells := 1, slots := 6, locals := 82 } D cI cJ cZ [vI p0] ([]) (fun _ _ => False) (fun E => E = xIO) := by
  refine gz_ofXV (cc := cX8_needPerson) (maxL := 1) (own := RX8) hfl (by decide) rfl rfl (Nat.le_of_ble_eq_true rfl) (lv0 := [(0, vI p0)]) rfl ?_
  intro p e s m args below meth c A Q F FX Z ZT ZC
  refine gz_iload_n (pc := 0) F dX8_needPerson_0 rfl 0 rfl ?_
  refine gz_if_lt (pc := 1) (tgt := 10) F dX8_needPerson_1 (by decide) (by omega) (fun c1 => ?_) (fun c1 => ?_)
  · exact ZT _ _ 10 xIO "no such person" 208 231 212 (rfl) (by decide) (by decide) rfl iw_X8_needPerson_cl_IO iw_X8_needPerson_in_IO gd_X8_needPerson_IO gx_bad_IO gx_ot_IO dX8_needPerson_10 dX8_needPerson_13 dX8_needPerson_14 dX8_needPerson_16 dX8_needPerson_19 (by decide) (by decide) (by decide) (by decide)
  · refine gz_iload_n (pc := 4) F dX8_needPerson_4 rfl 0 rfl ?_
    refine gz_bipush (pc := 5) F dX8_needPerson_5 (by decide) ?_
    refine gz_icmp_lt (pc := 7) (tgt := 20) F dX8_needPerson_7 (by decide) (by omega) (by omega) (fun c7 => ?_) (fun c7 => ?_)
    · exact absurd (show 0 ≤ p0 ∧ p0 < 10 by omega) h
    · exact ZT _ _ 10 xIO "no such person" 208 231 212 (rfl) (by decide) (by decide) rfl iw_X8_needPerson_cl_IO iw_X8_needPerson_in_IO gd_X8_needPerson_IO gx_bad_IO gx_ot_IO dX8_needPerson_10 dX8_needPerson_13 dX8_needPerson_14 dX8_needPerson_16 dX8_needPerson_19 (by decide) (by decide) (by decide) (by decide)
