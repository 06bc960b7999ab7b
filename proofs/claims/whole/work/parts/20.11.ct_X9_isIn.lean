/-! ===== laid by wip/whole/gen/md.py ===== -/
theorem hn_X9_isIn_X9 : ∀ w ∈ u_ws RX9 TX9 35, w ∈ wsX9_isIn := by decide +kernel
theorem fl_X9_isIn_38 : Cond.fieldLink RX9 38 (TX9 14).1 (TX9 14).2.1 (TX9 14).2.2.1 ∈ wsX9_isIn := by decide +kernel
theorem fl_X9_isIn_44 : Cond.fieldLink RX9 44 (TX9 16).1 (TX9 16).2.1 (TX9 16).2.2.1 ∈ wsX9_isIn := by decide +kernel
theorem fl_X9_isIn_47 : Cond.fieldLink RX9 47 (TX9 17).1 (TX9 17).2.1 (TX9 17).2.2.1 ∈ wsX9_isIn := by decide +kernel
set_option maxHeartbeats 4000000 in
set_option maxRecDepth 100000 in
theorem ct_X9_isIn (l : Launch) (D : va_G) (cI cJ cZ : ClassId) (a : Nat → Nat) (u : MdS) (p0 p1 : Int) (hu : MdI u) (h0 : 0 ≤ p0 ∧ p0 < 30) (h1 : -1 ≤ p1 ∧ p1 ≤ 1023) : gz_M l yX9_isIn wsX9_isIn { frames := 1, cells := 0, slots := 0, locals := 22 } D cI cJ cZ [.ref (a 0), vI p0, vI p1] (MdW cI cZ a u) (gz_pI (MdW cI cZ a u) (fun r => r = bz (Mt_at (Md_mt u) p0 p1 1))) := by
  refine gz_ofZ (cc := cX9_isIn) (maxL := 3) (ty := .boolean) (own := RX9) (by decide) rfl rfl (Nat.le_of_ble_eq_true rfl) (lv0 := [(0, .ref (a 0)), (1, vI p0), (2, vI p1)]) rfl ?_
  intro p e s m args below meth c A Q F Z
  obtain ⟨hnw, hAw, hMm, hLo, ⟨hMt, hMa⟩, hSw, hBu⟩ := id hu
  have hMmn := hMm.1
  have hLon := hLo.1
  have hMtn := hMt.1
  have hSwn := hSw.1
  have hBun := hBu.1
  refine gz_aload_n (pc := 0) F dX9_isIn_0 rfl 0 rfl ?_
  refine gz_get (pc := 1) (v := .ref (a 10)) F hn_X9_isIn_X9 0 9 rfl rfl 14 (by decide) fl_X9_isIn_38 rfl dX9_isIn_1 ?_
  refine gz_iload_n (pc := 4) F dX9_isIn_4 rfl 1 rfl ?_
  refine gz_iald (pc := 5) (f := Mt_st (Md_mt u)) F 10 rfl (by omega) (by decide) dX9_isIn_5 ?_
  have b5 := (hMt.2 p0).2.2.2.2
  refine gz_if_ne (pc := 6) (tgt := 41) F dX9_isIn_6 (by decide) (by omega) (fun c6 => ?_) (fun c6 => ?_)
  · refine gz_const (pc := 41) F dX9_isIn_41 ?_
    refine Z _ _ 42 _ dX9_isIn_42 rfl ?_
    exact ⟨rfl, _, rfl, (bz_f (fun h => by have h1 := h.1; have h2 := h.2.1; have h3 := h.2.2; omega)).symm⟩
  · refine gz_iload_n (pc := 9) F dX9_isIn_9 rfl 2 rfl ?_
    refine gz_aload_n (pc := 10) F dX9_isIn_10 rfl 0 rfl ?_
    refine gz_get (pc := 11) (v := .ref (a 12)) F hn_X9_isIn_X9 0 9 rfl rfl 16 (by decide) fl_X9_isIn_44 rfl dX9_isIn_11 ?_
    refine gz_iload_n (pc := 14) F dX9_isIn_14 rfl 1 rfl ?_
    refine gz_iald (pc := 15) (f := Mt_sl (Md_mt u)) F 12 rfl (by omega) (by decide) dX9_isIn_15 ?_
    have b15 := (hMt.2 p0).2.1
    refine gz_aload_n (pc := 16) F dX9_isIn_16 rfl 0 rfl ?_
    refine gz_get (pc := 17) (v := .ref (a 12)) F hn_X9_isIn_X9 0 9 rfl rfl 16 (by decide) fl_X9_isIn_44 rfl dX9_isIn_17 ?_
    refine gz_iload_n (pc := 20) F dX9_isIn_20 rfl 1 rfl ?_
    refine gz_iald (pc := 21) (f := Mt_sl (Md_mt u)) F 12 rfl (by omega) (by decide) dX9_isIn_21 ?_
    have b21 := (hMt.2 p0).2.1
    refine gz_aload_n (pc := 22) F dX9_isIn_22 rfl 0 rfl ?_
    refine gz_get (pc := 23) (v := .ref (a 13)) F hn_X9_isIn_X9 0 9 rfl rfl 17 (by decide) fl_X9_isIn_47 rfl dX9_isIn_23 ?_
    refine gz_iload_n (pc := 26) F dX9_isIn_26 rfl 1 rfl ?_
    refine gz_iald (pc := 27) (f := Mt_ln (Md_mt u)) F 13 rfl (by omega) (by decide) dX9_isIn_27 ?_
    have b27 := (hMt.2 p0).2.2.1
    refine gz_iadd (pc := 28) F dX9_isIn_28 ?_
    refine gz_const (pc := 29) F dX9_isIn_29 ?_
    refine gz_isub (pc := 30) F dX9_isIn_30 ?_
    refine gz_callS (pc := 31) (n := 3) (As := [vI p1, vI (Mt_sl (Md_mt u) p0), vI (((Mt_sl (Md_mt u) p0) + (Mt_ln (Md_mt u) p0)) - 1)]) (rest := []) (bytes := cX9_in) (maxL := 3) (ret := some .boolean) F (ct_X9_in l D cI cJ cZ p1 (Mt_sl (Md_mt u) p0) (((Mt_sl (Md_mt u) p0) + (Mt_ln (Md_mt u) p0)) - 1) (by omega) (by omega) (by omega)) gX9_isIn_X9_in rfl ⟨rfl, rfl⟩ (by decide +kernel) ⟨Nat.le_of_ble_eq_true rfl, Nat.le_of_ble_eq_true rfl⟩ rfl [] rfl (by decide) rfl (Nat.le_of_ble_eq_true rfl) ⟨Nat.zero_le _, Nat.zero_le _⟩ gz_pI_sh dX9_isIn_31 ?_
    refine gz_kI rfl (fun r31 h31 => ?_)
    subst h31
    refine gz_if_eqb (pc := 34) (tgt := 41) F dX9_isIn_34 (by decide) (fun c34 => ?_) (fun c34 => ?_)
    · refine gz_const (pc := 41) F dX9_isIn_41 ?_
      refine Z _ _ 42 _ dX9_isIn_42 rfl ?_
      exact ⟨rfl, _, rfl, (bz_f (fun h => by have h1 := h.1; have h2 := h.2.1; have h3 := h.2.2; omega)).symm⟩
    · refine gz_const (pc := 37) F dX9_isIn_37 ?_
      refine gz_goto (pc := 38) (tgt := 42) F dX9_isIn_38 (by decide) ?_
      refine Z _ _ 42 _ dX9_isIn_42 rfl ?_
      exact ⟨rfl, _, rfl, (bz_t (⟨c6, by omega, by omega⟩)).symm⟩
