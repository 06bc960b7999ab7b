/-! ===== laid by wip/whole/gen/md.py ===== -/
theorem hn_X9_thrown_X9 : ∀ w ∈ u_ws RX9 TX9 35, w ∈ wsX9_thrown := by decide +kernel
theorem fl_X9_thrown_95 : Cond.fieldLink RX9 95 (TX9 0).1 (TX9 0).2.1 (TX9 0).2.2.1 ∈ wsX9_thrown := by decide +kernel
set_option maxHeartbeats 4000000 in
set_option maxRecDepth 100000 in
theorem ct_X9_thrown (l : Launch) (D : va_G) (cI cJ cZ : ClassId) (a : Nat → Nat) (u : MdS) (hu : MdI u)  : gz_M l yX9_thrown wsX9_thrown { frames := 0, cells := 0, slots := 0, locals := 0 } D cI cJ cZ [.ref (a 0)] (MdW cI cZ a u) (gz_pI (MdW cI cZ a u) (fun r => r = Md_th u)) := by
  refine gz_ofZ (cc := cX9_thrown) (maxL := 1) (ty := .int) (own := RX9) (by decide) rfl rfl (Nat.le_of_ble_eq_true rfl) (lv0 := [(0, .ref (a 0))]) rfl ?_
  intro p e s m args below meth c A Q F Z
  obtain ⟨hnw, hAw, hMm, hLo, ⟨hMt, hMa⟩, hSw, hBu⟩ := id hu
  have hMmn := hMm.1
  have hLon := hLo.1
  have hMtn := hMt.1
  have hSwn := hSw.1
  have hBun := hBu.1
  refine gz_aload_n (pc := 0) F dX9_thrown_0 rfl 0 rfl ?_
  refine gz_get (pc := 1) (v := vI (Md_th u)) F hn_X9_thrown_X9 0 9 rfl rfl 0 (by decide) fl_X9_thrown_95 rfl dX9_thrown_1 ?_
  refine Z _ _ 4 _ dX9_thrown_4 rfl ?_
  exact ⟨rfl, _, rfl, rfl⟩
