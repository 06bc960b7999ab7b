/-! ===== laid by wip/whole/gen/ri.py ===== -/
set_option maxHeartbeats 4000000 in
set_option maxRecDepth 100000 in
theorem ct_X8_needState (l : Launch) (D : va_G) (cI cJ cZ : ClassId) (P : Prop) (h : P) : gz_M l yX8_needState wsX8_needState { frames := 0, cells := 0, slots := 0, locals := 0 } D cI cJ cZ [vI (bz P)] ([]) (gz_pE ([])) := by
  refine gz_ofV (cc := cX8_needState) (maxL := 1) (own := RX8) (by decide) rfl rfl (Nat.le_of_ble_eq_true rfl) (lv0 := [(0, vI (bz P))]) rfl ?_
  intro p e s m args below meth c A Q F Z
  refine gz_iload_n (pc := 0) F dX8_needState_0 rfl 0 rfl ?_
  refine gz_if_neb (pc := 1) (tgt := 14) F dX8_needState_1 (by decide) (fun c1 => ?_) (fun c1 => ?_)
  · refine Z _ _ 14 dX8_needState_14 ?_
    exact ⟨rfl, rfl⟩
  · exact absurd h c1
