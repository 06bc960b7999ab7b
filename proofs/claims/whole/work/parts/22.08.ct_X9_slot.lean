/-! ===== laid by wip/whole/gen/md2.py ===== -/
theorem hn_X9_slot_X9 : ∀ w ∈ u_ws RX9 TX9 35, w ∈ wsX9_slot := by decide +kernel
theorem fl_X9_slot_95 : Cond.fieldLink RX9 95 (TX9 0).1 (TX9 0).2.1 (TX9 0).2.2.1 ∈ wsX9_slot := by decide +kernel
theorem fl_X9_slot_144 : Cond.fieldLink RX9 144 (TX9 1).1 (TX9 1).2.1 (TX9 1).2.2.1 ∈ wsX9_slot := by decide +kernel
set_option maxHeartbeats 4000000 in
set_option maxRecDepth 100000 in
theorem ct_X9_slot (l : Launch) (D : va_G) (cI cJ cZ : ClassId) (a : Nat → Nat) (u : MdS) (hu : MdI u)  : gz_M l yX9_slot wsX9_slot { frames := 0, cells := 0, slots := 0, locals := 0 } D cI cJ cZ [.ref (a 0)] (MdW cI cZ a u) (gz_pV (Md_now u) (MdW cI cZ a (Md_setTh u 0))) := by
  refine gz_ofZ (cc := cX9_slot) (maxL := 1) (ty := .int) (own := RX9) (by decide) rfl rfl (Nat.le_of_ble_eq_true rfl) (lv0 := [(0, .ref (a 0))]) rfl ?_
  intro p e s m args below meth c A Q F Z
  obtain ⟨hnw, hAw, hMm, hLo, ⟨hMt, hMa⟩, hSw, hBu⟩ := id hu
  have hMmn := hMm.1
  have hLon := hLo.1
  have hMtn := hMt.1
  have hSwn := hSw.1
  have hBun := hBu.1
  refine gz_aload_n (pc := 0) F dX9_slot_0 rfl 0 rfl ?_
  refine gz_const (pc := 1) F dX9_slot_1 ?_
  refine gz_put (pc := 2) (ws2 := MdW cI cZ a (0, Md_now u, Md_aw u, Md_mm u, Md_lo u, Md_mt u, Md_sw u, Md_bu u)) F hn_X9_slot_X9 tyX9 tyX9_ok nmX9 0 9 rfl rfl 0 (by decide) fl_X9_slot_95 rfl (ty := .int) rfl rfl rfl (Nat.le_of_ble_eq_true rfl) rfl dX9_slot_2 ?_
  refine gz_aload_n (pc := 5) F dX9_slot_5 rfl 0 rfl ?_
  refine gz_get (pc := 6) (v := vI (Md_now u)) F hn_X9_slot_X9 0 9 rfl rfl 1 (by decide) fl_X9_slot_144 rfl dX9_slot_6 ?_
  have b6 := hnw
  refine Z _ _ 9 _ dX9_slot_9 rfl ?_
  exact ⟨rfl, rfl⟩
