/-! ===== laid by wip/whole/gen/ri.py ===== -/
theorem iw_X8_needState_cl_IS : Cond.classLink RX8 226 xIS ∈ wsX8_needState := by decide +kernel
theorem iw_X8_needState_in_IS : Cond.initialized xIS ∈ wsX8_needState := by decide +kernel
theorem gd_X8_needState_IS : ∀ w ∈ (vx_atS RX8 230 xIS gz_names).filter goodWord, w ∈ wsX8_needState := by decide +kernel
set_option maxHeartbeats 4000000 in
set_option maxRecDepth 100000 in
theorem cx_X8_needState (l : Launch) (hfl : l.stackTraces = false) (D : va_G) (cI cJ cZ : ClassId) (P : Prop) (h : ¬ (P)) : gz_X l yX8_needState wsX8_needState { frames := 6, cells := 1, slots := 6, locals := 82 } D cI cJ cZ [vI (bz P)] ([]) (fun _ _ => False) (fun E => E = xIS) := by
  refine gz_ofXV (cc := cX8_needState) (maxL := 1) (own := RX8) hfl (by decide) rfl rfl (Nat.le_of_ble_eq_true rfl) (lv0 := [(0, vI (bz P))]) rfl ?_
  intro p e s m args below meth c A Q F FX Z ZT ZC
  refine gz_iload_n (pc := 0) F dX8_needState_0 rfl 0 rfl ?_
  refine gz_if_neb (pc := 1) (tgt := 14) F dX8_needState_1 (by decide) (fun c1 => ?_) (fun c1 => ?_)
  · exact absurd c1 h
  · exact ZT _ _ 4 xIS "as things are, this cannot be" 226 228 230 (rfl) (by decide) (by decide) rfl iw_X8_needState_cl_IS iw_X8_needState_in_IS gd_X8_needState_IS gx_bad_IS gx_ot_IS dX8_needState_4 dX8_needState_7 dX8_needState_8 dX8_needState_10 dX8_needState_13 (by decide) (by decide) (by decide) (by decide)
