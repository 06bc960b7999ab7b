/-! ===== laid by wip/whole/gen/ri.py ===== -/
theorem hn_X8_slot_X8 : ∀ w ∈ u_ws RX8 TX8 4, w ∈ wsX8_slot := by decide +kernel
theorem fl_X8_slot_10 : Cond.fieldLink RX8 10 (TX8 0).1 (TX8 0).2.1 (TX8 0).2.2.1 ∈ wsX8_slot := by decide +kernel
theorem hn_X8_slot_X5 : ∀ w ∈ u_ws RX5 TX5 6, w ∈ wsX8_slot := by decide +kernel
theorem fl_X8_slot_59 : Cond.fieldLink RX8 59 (TX5 5).1 (TX5 5).2.1 (TX5 5).2.2.1 ∈ wsX8_slot := by decide +kernel
set_option maxHeartbeats 4000000 in
set_option maxRecDepth 100000 in
theorem ct_X8_slot (l : Launch) (D : va_G) (cI cJ cZ : ClassId) (a : Nat → Nat) (r : RiS) (hr : RiI r)  : gz_M l yX8_slot wsX8_slot { frames := 0, cells := 0, slots := 0, locals := 0 } D cI cJ cZ [.ref (a 0)] (RiW cI cJ a r) (gz_pI (RiW cI cJ a r) (fun q => q = Pl_now (Ri_P r))) := by
  refine gz_ofZ (cc := cX8_slot) (maxL := 1) (ty := .int) (own := RX8) (by decide) rfl rfl (Nat.le_of_ble_eq_true rfl) (lv0 := [(0, .ref (a 0))]) rfl ?_
  intro p e s m args below meth c A Q F Z
  obtain ⟨hP, hA, hTo, hSw⟩ := id hr
  obtain ⟨hMc, hLo, hLv, hMt, hBu, hnw⟩ := id hP
  have hMcn := hMc.1
  have hMtn := hMt.1
  have hBun := hBu.1
  have hTon := hTo.1
  have hSwn := hSw.1
  refine gz_aload_n (pc := 0) F dX8_slot_0 rfl 0 rfl ?_
  refine gz_get (pc := 1) (v := .ref (a 1)) F hn_X8_slot_X8 0 8 rfl rfl 0 (by decide) fl_X8_slot_10 rfl dX8_slot_1 ?_
  refine gz_get (pc := 4) (v := vI (Pl_now (Ri_P r))) F hn_X8_slot_X5 1 5 rfl rfl 5 (by decide) fl_X8_slot_59 rfl dX8_slot_4 ?_
  have b4 := hnw
  refine Z _ _ 7 _ dX8_slot_7 rfl ?_
  exact ⟨rfl, _, rfl, rfl⟩
