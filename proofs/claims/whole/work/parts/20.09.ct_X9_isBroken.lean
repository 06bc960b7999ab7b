/-! ===== laid by wip/whole/gen/md.py ===== -/
theorem hn_X9_isBroken_X9 : ∀ w ∈ u_ws RX9 TX9 35, w ∈ wsX9_isBroken := by decide +kernel
theorem fl_X9_isBroken_20 : Cond.fieldLink RX9 20 (TX9 6).1 (TX9 6).2.1 (TX9 6).2.2.1 ∈ wsX9_isBroken := by decide +kernel
theorem fl_X9_isBroken_23 : Cond.fieldLink RX9 23 (TX9 7).1 (TX9 7).2.1 (TX9 7).2.2.1 ∈ wsX9_isBroken := by decide +kernel
set_option maxHeartbeats 4000000 in
set_option maxRecDepth 100000 in
theorem ct_X9_isBroken (l : Launch) (D : va_G) (cI cJ cZ : ClassId) (a : Nat → Nat) (u : MdS) (p0 p1 : Int) (hu : MdI u) (h0 : 0 ≤ p0 ∧ p0 < 6) (h1 : -1 ≤ p1 ∧ p1 ≤ 1023) : gz_M l yX9_isBroken wsX9_isBroken { frames := 1, cells := 0, slots := 0, locals := 22 } D cI cJ cZ [.ref (a 0), vI p0, vI p1] (MdW cI cZ a u) (gz_pI (MdW cI cZ a u) (fun r => r = bz (Mm_brk (Md_mm u) p0 p1))) := by
  refine gz_ofZ (cc := cX9_isBroken) (maxL := 3) (ty := .boolean) (own := RX9) (by decide) rfl rfl (Nat.le_of_ble_eq_true rfl) (lv0 := [(0, .ref (a 0)), (1, vI p0), (2, vI p1)]) rfl ?_
  intro p e s m args below meth c A Q F Z
  obtain ⟨hnw, hAw, hMm, hLo, ⟨hMt, hMa⟩, hSw, hBu⟩ := id hu
  have hMmn := hMm.1
  have hLon := hLo.1
  have hMtn := hMt.1
  have hSwn := hSw.1
  have hBun := hBu.1
  refine gz_iload_n (pc := 0) F dX9_isBroken_0 rfl 2 rfl ?_
  refine gz_aload_n (pc := 1) F dX9_isBroken_1 rfl 0 rfl ?_
  refine gz_get (pc := 2) (v := .ref (a 4)) F hn_X9_isBroken_X9 0 9 rfl rfl 6 (by decide) fl_X9_isBroken_20 rfl dX9_isBroken_2 ?_
  refine gz_iload_n (pc := 5) F dX9_isBroken_5 rfl 1 rfl ?_
  refine gz_iald (pc := 6) (f := Mm_bf (Md_mm u)) F 4 rfl (by omega) (by decide) dX9_isBroken_6 ?_
  have b6 := (hMm.2 p0).2.2.1
  refine gz_aload_n (pc := 7) F dX9_isBroken_7 rfl 0 rfl ?_
  refine gz_get (pc := 8) (v := .ref (a 5)) F hn_X9_isBroken_X9 0 9 rfl rfl 7 (by decide) fl_X9_isBroken_23 rfl dX9_isBroken_8 ?_
  refine gz_iload_n (pc := 11) F dX9_isBroken_11 rfl 1 rfl ?_
  refine gz_iald (pc := 12) (f := Mm_bt (Md_mm u)) F 5 rfl (by omega) (by decide) dX9_isBroken_12 ?_
  have b12 := (hMm.2 p0).2.2.2
  refine gz_callS (pc := 13) (n := 3) (As := [vI p1, vI (Mm_bf (Md_mm u) p0), vI (Mm_bt (Md_mm u) p0)]) (rest := []) (bytes := cX9_in) (maxL := 3) (ret := some .boolean) F (ct_X9_in l D cI cJ cZ p1 (Mm_bf (Md_mm u) p0) (Mm_bt (Md_mm u) p0) (by omega) (by omega) (by omega)) gX9_isBroken_X9_in rfl ⟨rfl, rfl⟩ (by decide +kernel) ⟨Nat.le_of_ble_eq_true rfl, Nat.le_of_ble_eq_true rfl⟩ rfl [] rfl (by decide) rfl (Nat.le_of_ble_eq_true rfl) ⟨Nat.zero_le _, Nat.zero_le _⟩ gz_pI_sh dX9_isBroken_13 ?_
  refine gz_kI rfl (fun r13 h13 => ?_)
  subst h13
  refine Z _ _ 16 _ dX9_isBroken_16 (bz_nar _) ?_
  exact ⟨rfl, _, rfl, rfl⟩
