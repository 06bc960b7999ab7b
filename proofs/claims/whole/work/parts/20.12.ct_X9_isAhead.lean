/-! ===== laid by wip/whole/gen/md.py ===== -/
theorem hn_X9_isAhead_X9 : ∀ w ∈ u_ws RX9 TX9 35, w ∈ wsX9_isAhead := by decide +kernel
theorem fl_X9_isAhead_38 : Cond.fieldLink RX9 38 (TX9 14).1 (TX9 14).2.1 (TX9 14).2.2.1 ∈ wsX9_isAhead := by decide +kernel
theorem fl_X9_isAhead_44 : Cond.fieldLink RX9 44 (TX9 16).1 (TX9 16).2.1 (TX9 16).2.2.1 ∈ wsX9_isAhead := by decide +kernel
theorem fl_X9_isAhead_144 : Cond.fieldLink RX9 144 (TX9 1).1 (TX9 1).2.1 (TX9 1).2.2.1 ∈ wsX9_isAhead := by decide +kernel
set_option maxHeartbeats 4000000 in
set_option maxRecDepth 100000 in
theorem ct_X9_isAhead (l : Launch) (D : va_G) (cI cJ cZ : ClassId) (a : Nat → Nat) (u : MdS) (p0 : Int) (hu : MdI u) (h0 : 0 ≤ p0 ∧ p0 < 30) : gz_M l yX9_isAhead wsX9_isAhead { frames := 0, cells := 0, slots := 0, locals := 0 } D cI cJ cZ [.ref (a 0), vI p0] (MdW cI cZ a u) (gz_pI (MdW cI cZ a u) (fun r => r = bz (Mt_st (Md_mt u) p0 = 0 ∧ Md_now u ≤ Mt_sl (Md_mt u) p0))) := by
  refine gz_ofZ (cc := cX9_isAhead) (maxL := 2) (ty := .boolean) (own := RX9) (by decide) rfl rfl (Nat.le_of_ble_eq_true rfl) (lv0 := [(0, .ref (a 0)), (1, vI p0)]) rfl ?_
  intro p e s m args below meth c A Q F Z
  obtain ⟨hnw, hAw, hMm, hLo, ⟨hMt, hMa⟩, hSw, hBu⟩ := id hu
  have hMmn := hMm.1
  have hLon := hLo.1
  have hMtn := hMt.1
  have hSwn := hSw.1
  have hBun := hBu.1
  refine gz_aload_n (pc := 0) F dX9_isAhead_0 rfl 0 rfl ?_
  refine gz_get (pc := 1) (v := .ref (a 10)) F hn_X9_isAhead_X9 0 9 rfl rfl 14 (by decide) fl_X9_isAhead_38 rfl dX9_isAhead_1 ?_
  refine gz_iload_n (pc := 4) F dX9_isAhead_4 rfl 1 rfl ?_
  refine gz_iald (pc := 5) (f := Mt_st (Md_mt u)) F 10 rfl (by omega) (by decide) dX9_isAhead_5 ?_
  have b5 := (hMt.2 p0).2.2.2.2
  refine gz_if_ne (pc := 6) (tgt := 26) F dX9_isAhead_6 (by decide) (by omega) (fun c6 => ?_) (fun c6 => ?_)
  · refine gz_const (pc := 26) F dX9_isAhead_26 ?_
    refine Z _ _ 27 _ dX9_isAhead_27 rfl ?_
    exact ⟨rfl, _, rfl, (bz_f (fun h => by have h1 := h.1; have h2 := h.2; omega)).symm⟩
  · refine gz_aload_n (pc := 9) F dX9_isAhead_9 rfl 0 rfl ?_
    refine gz_get (pc := 10) (v := .ref (a 12)) F hn_X9_isAhead_X9 0 9 rfl rfl 16 (by decide) fl_X9_isAhead_44 rfl dX9_isAhead_10 ?_
    refine gz_iload_n (pc := 13) F dX9_isAhead_13 rfl 1 rfl ?_
    refine gz_iald (pc := 14) (f := Mt_sl (Md_mt u)) F 12 rfl (by omega) (by decide) dX9_isAhead_14 ?_
    have b14 := (hMt.2 p0).2.1
    refine gz_aload_n (pc := 15) F dX9_isAhead_15 rfl 0 rfl ?_
    refine gz_get (pc := 16) (v := vI (Md_now u)) F hn_X9_isAhead_X9 0 9 rfl rfl 1 (by decide) fl_X9_isAhead_144 rfl dX9_isAhead_16 ?_
    have b16 := hnw
    refine gz_icmp_lt (pc := 19) (tgt := 26) F dX9_isAhead_19 (by decide) (by omega) (by omega) (fun c19 => ?_) (fun c19 => ?_)
    · refine gz_const (pc := 26) F dX9_isAhead_26 ?_
      refine Z _ _ 27 _ dX9_isAhead_27 rfl ?_
      exact ⟨rfl, _, rfl, (bz_f (fun h => by have h1 := h.1; have h2 := h.2; omega)).symm⟩
    · refine gz_const (pc := 22) F dX9_isAhead_22 ?_
      refine gz_goto (pc := 23) (tgt := 27) F dX9_isAhead_23 (by decide) ?_
      refine Z _ _ 27 _ dX9_isAhead_27 rfl ?_
      exact ⟨rfl, _, rfl, (bz_t (⟨c6, by omega⟩)).symm⟩
