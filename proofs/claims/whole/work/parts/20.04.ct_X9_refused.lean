/-! ===== laid by wip/whole/gen/md.py ===== -/
theorem hn_X9_refused_X9 : ∀ w ∈ u_ws RX9 TX9 35, w ∈ wsX9_refused := by decide +kernel
theorem fl_X9_refused_95 : Cond.fieldLink RX9 95 (TX9 0).1 (TX9 0).2.1 (TX9 0).2.2.1 ∈ wsX9_refused := by decide +kernel
set_option maxHeartbeats 4000000 in
set_option maxRecDepth 100000 in
theorem ct_X9_refused (l : Launch) (D : va_G) (cI cJ cZ : ClassId) (a : Nat → Nat) (u : MdS) (p0 : Int) (hu : MdI u) (h0 : -2147483648 ≤ p0 ∧ p0 < 2147483648) : gz_M l yX9_refused wsX9_refused { frames := 0, cells := 0, slots := 0, locals := 0 } D cI cJ cZ [.ref (a 0), vI p0] (MdW cI cZ a u) (gz_pV (bz (¬ p0 = 0)) (MdW cI cZ a (Md_setTh u p0))) := by
  refine gz_ofZ (cc := cX9_refused) (maxL := 2) (ty := .boolean) (own := RX9) (by decide) rfl rfl (Nat.le_of_ble_eq_true rfl) (lv0 := [(0, .ref (a 0)), (1, vI p0)]) rfl ?_
  intro p e s m args below meth c A Q F Z
  obtain ⟨hnw, hAw, hMm, hLo, ⟨hMt, hMa⟩, hSw, hBu⟩ := id hu
  have hMmn := hMm.1
  have hLon := hLo.1
  have hMtn := hMt.1
  have hSwn := hSw.1
  have hBun := hBu.1
  refine gz_aload_n (pc := 0) F dX9_refused_0 rfl 0 rfl ?_
  refine gz_iload_n (pc := 1) F dX9_refused_1 rfl 1 rfl ?_
  refine gz_put (pc := 2) (ws2 := MdW cI cZ a (p0, Md_now u, Md_aw u, Md_mm u, Md_lo u, Md_mt u, Md_sw u, Md_bu u)) F hn_X9_refused_X9 tyX9 tyX9_ok nmX9 0 9 rfl rfl 0 (by decide) fl_X9_refused_95 rfl (ty := .int) rfl rfl rfl (Nat.le_of_ble_eq_true rfl) rfl dX9_refused_2 ?_
  refine gz_iload_n (pc := 5) F dX9_refused_5 rfl 1 rfl ?_
  refine gz_if_eq (pc := 6) (tgt := 13) F dX9_refused_6 (by decide) (by omega) (fun c6 => ?_) (fun c6 => ?_)
  · refine gz_const (pc := 13) F dX9_refused_13 ?_
    refine Z _ _ 14 _ dX9_refused_14 rfl ?_
    exact ⟨congrArg (fun x => some (vI x)) (bz_f (fun h => h c6)).symm, rfl⟩
  · refine gz_const (pc := 9) F dX9_refused_9 ?_
    refine gz_goto (pc := 10) (tgt := 14) F dX9_refused_10 (by decide) ?_
    refine Z _ _ 14 _ dX9_refused_14 rfl ?_
    exact ⟨congrArg (fun x => some (vI x)) (bz_t c6).symm, rfl⟩
theorem ct_X9_refused_0 (l : Launch) (D : va_G) (cI cJ cZ : ClassId) (a : Nat → Nat) (u : MdS) (hu : MdI u) : gz_M l yX9_refused wsX9_refused { frames := 0, cells := 0, slots := 0, locals := 0 } D cI cJ cZ [.ref (a 0), vI 0] (MdW cI cZ a u) (gz_pV 0 (MdW cI cZ a (Md_setTh u 0))) := by
  have h := ct_X9_refused l D cI cJ cZ a u 0 hu (by omega)
  rw [bz_f (fun h => h rfl)] at h
  exact h
theorem ct_X9_refused_1 (l : Launch) (D : va_G) (cI cJ cZ : ClassId) (a : Nat → Nat) (u : MdS) (hu : MdI u) : gz_M l yX9_refused wsX9_refused { frames := 0, cells := 0, slots := 0, locals := 0 } D cI cJ cZ [.ref (a 0), vI 1] (MdW cI cZ a u) (gz_pV 1 (MdW cI cZ a (Md_setTh u 1))) := by
  have h := ct_X9_refused l D cI cJ cZ a u 1 hu (by omega)
  rw [bz_t (by decide)] at h
  exact h
theorem ct_X9_refused_2 (l : Launch) (D : va_G) (cI cJ cZ : ClassId) (a : Nat → Nat) (u : MdS) (hu : MdI u) : gz_M l yX9_refused wsX9_refused { frames := 0, cells := 0, slots := 0, locals := 0 } D cI cJ cZ [.ref (a 0), vI 2] (MdW cI cZ a u) (gz_pV 1 (MdW cI cZ a (Md_setTh u 2))) := by
  have h := ct_X9_refused l D cI cJ cZ a u 2 hu (by omega)
  rw [bz_t (by decide)] at h
  exact h
theorem ct_X9_refused_3 (l : Launch) (D : va_G) (cI cJ cZ : ClassId) (a : Nat → Nat) (u : MdS) (hu : MdI u) : gz_M l yX9_refused wsX9_refused { frames := 0, cells := 0, slots := 0, locals := 0 } D cI cJ cZ [.ref (a 0), vI 3] (MdW cI cZ a u) (gz_pV 1 (MdW cI cZ a (Md_setTh u 3))) := by
  have h := ct_X9_refused l D cI cJ cZ a u 3 hu (by omega)
  rw [bz_t (by decide)] at h
  exact h
