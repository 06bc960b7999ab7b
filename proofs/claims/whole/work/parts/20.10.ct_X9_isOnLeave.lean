/-! ===== laid by wip/whole/gen/md.py ===== -/
theorem hn_X9_isOnLeave_X9 : ∀ w ∈ u_ws RX9 TX9 35, w ∈ wsX9_isOnLeave := by decide +kernel
theorem fl_X9_isOnLeave_7 : Cond.fieldLink RX9 7 (TX9 2).1 (TX9 2).2.1 (TX9 2).2.2.1 ∈ wsX9_isOnLeave := by decide +kernel
set_option maxHeartbeats 4000000 in
set_option maxRecDepth 100000 in
theorem ct_X9_isOnLeave (l : Launch) (D : va_G) (cI cJ cZ : ClassId) (a : Nat → Nat) (u : MdS) (p0 p1 : Int) (hu : MdI u) (h0 : 0 ≤ p0 ∧ p0 ≤ 9) (h1 : 0 ≤ p1 ∧ p1 ≤ 1023) : gz_M l yX9_isOnLeave wsX9_isOnLeave { frames := 0, cells := 0, slots := 0, locals := 0 } D cI cJ cZ [.ref (a 0), vI p0, vI p1] (MdW cI cZ a u) (gz_pI (MdW cI cZ a u) (fun r => r = bz (Aw_off (Md_aw u) p0 p1))) := by
  refine gz_ofZ (cc := cX9_isOnLeave) (maxL := 3) (ty := .boolean) (own := RX9) (by decide) rfl rfl (Nat.le_of_ble_eq_true rfl) (lv0 := [(0, .ref (a 0)), (1, vI p0), (2, vI p1)]) rfl ?_
  intro p e s m args below meth c A Q F Z
  obtain ⟨hnw, hAw, hMm, hLo, ⟨hMt, hMa⟩, hSw, hBu⟩ := id hu
  have hMmn := hMm.1
  have hLon := hLo.1
  have hMtn := hMt.1
  have hSwn := hSw.1
  have hBun := hBu.1
  refine gz_iload_n (pc := 0) F dX9_isOnLeave_0 rfl 2 rfl ?_
  refine gz_sipush (pc := 1) F dX9_isOnLeave_1 (by decide) ?_
  refine gz_icmp_ge (pc := 4) (tgt := 28) F dX9_isOnLeave_4 (by decide) (by omega) (by omega) (fun c4 => ?_) (fun c4 => ?_)
  · refine gz_const (pc := 28) F dX9_isOnLeave_28 ?_
    refine Z _ _ 29 _ dX9_isOnLeave_29 rfl ?_
    exact ⟨rfl, _, rfl, (bz_f (fun h => by first | exact h.2 c21 | exact absurd h.1 (by omega))).symm⟩
  · refine gz_aload_n (pc := 7) F dX9_isOnLeave_7 rfl 0 rfl ?_
    refine gz_get (pc := 8) (v := .ref (a 1)) F hn_X9_isOnLeave_X9 0 9 rfl rfl 2 (by decide) fl_X9_isOnLeave_7 rfl dX9_isOnLeave_8 ?_
    refine gz_bipush (pc := 11) F dX9_isOnLeave_11 (by decide) ?_
    refine gz_iload_n (pc := 13) F dX9_isOnLeave_13 rfl 1 rfl ?_
    refine gz_imul (pc := 14) F dX9_isOnLeave_14 ?_
    refine gz_iload_n (pc := 15) F dX9_isOnLeave_15 rfl 2 rfl ?_
    refine gz_bipush (pc := 16) F dX9_isOnLeave_16 (by decide) ?_
    refine gz_idiv (pc := 18) F dX9_isOnLeave_18 (by omega) (by omega) ?_
    refine gz_iadd (pc := 19) F dX9_isOnLeave_19 ?_
    refine gz_zald (pc := 20) (f := Md_aw u) F 1 rfl (by omega) (by decide) dX9_isOnLeave_20 ?_
    have b20 := hAw ((50 * p0) + (p1 / 8))
    refine gz_if_eq (pc := 21) (tgt := 28) F dX9_isOnLeave_21 (by decide) (by omega) (fun c21 => ?_) (fun c21 => ?_)
    · refine gz_const (pc := 28) F dX9_isOnLeave_28 ?_
      refine Z _ _ 29 _ dX9_isOnLeave_29 rfl ?_
      exact ⟨rfl, _, rfl, (bz_f (fun h => by first | exact h.2 c21 | exact absurd h.1 (by omega))).symm⟩
    · refine gz_const (pc := 24) F dX9_isOnLeave_24 ?_
      refine gz_goto (pc := 25) (tgt := 29) F dX9_isOnLeave_25 (by decide) ?_
      refine Z _ _ 29 _ dX9_isOnLeave_29 rfl ?_
      exact ⟨rfl, _, rfl, (bz_t (⟨c4, c21⟩)).symm⟩
