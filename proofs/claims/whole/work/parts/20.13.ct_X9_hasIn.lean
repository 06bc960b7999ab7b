/-! ===== laid by wip/whole/gen/md.py ===== -/
theorem hn_X9_hasIn_X9 : ∀ w ∈ u_ws RX9 TX9 35, w ∈ wsX9_hasIn := by decide +kernel
theorem fl_X9_hasIn_115 : Cond.fieldLink RX9 115 (TX9 8).1 (TX9 8).2.1 (TX9 8).2.2.1 ∈ wsX9_hasIn := by decide +kernel
theorem fl_X9_hasIn_26 : Cond.fieldLink RX9 26 (TX9 9).1 (TX9 9).2.1 (TX9 9).2.2.1 ∈ wsX9_hasIn := by decide +kernel
theorem fl_X9_hasIn_32 : Cond.fieldLink RX9 32 (TX9 11).1 (TX9 11).2.1 (TX9 11).2.2.1 ∈ wsX9_hasIn := by decide +kernel
theorem fl_X9_hasIn_35 : Cond.fieldLink RX9 35 (TX9 12).1 (TX9 12).2.1 (TX9 12).2.2.1 ∈ wsX9_hasIn := by decide +kernel
theorem fl_X9_hasIn_29 : Cond.fieldLink RX9 29 (TX9 10).1 (TX9 10).2.1 (TX9 10).2.2.1 ∈ wsX9_hasIn := by decide +kernel
theorem fl_X9_hasIn_17 : Cond.fieldLink RX9 17 (TX9 5).1 (TX9 5).2.1 (TX9 5).2.2.1 ∈ wsX9_hasIn := by decide +kernel
set_option maxHeartbeats 4000000 in
set_option maxRecDepth 100000 in
theorem ct_X9_hasIn (l : Launch) (D : va_G) (cI cJ cZ : ClassId) (a : Nat → Nat) (u : MdS) (p0 p1 : Int) (hu : MdI u) (h0 : 0 ≤ p0 ∧ p0 < 6) (h1 : -1 ≤ p1 ∧ p1 ≤ 1023) : gz_M l yX9_hasIn wsX9_hasIn { frames := 1, cells := 0, slots := 0, locals := 22 } D cI cJ cZ [.ref (a 0), vI p0, vI p1] (MdW cI cZ a u) (gz_pI (MdW cI cZ a u) (fun r => r = Md_has u p0 p1)) := by
  refine gz_ofZ (cc := cX9_hasIn) (maxL := 5) (ty := .int) (own := RX9) (by decide) rfl rfl (Nat.le_of_ble_eq_true rfl) (lv0 := [(0, .ref (a 0)), (1, vI p0), (2, vI p1)]) rfl ?_
  intro p e s m args below meth c A Q F Z
  obtain ⟨hnw, hAw, hMm, hLo, ⟨hMt, hMa⟩, hSw, hBu⟩ := id hu
  have hMmn := hMm.1
  have hLon := hLo.1
  have hMtn := hMt.1
  have hSwn := hSw.1
  have hBun := hBu.1
  have L10 : ∀ (N : Nat) (i : Int) (w : Int), (Lo_n (Md_lo u) - i).toNat < N → (0 ≤ i ∧ i ≤ Lo_n (Md_lo u)) → (w = Lo_hasN (Md_lo u) (Mm_ow (Md_mm u) p0) p0 p1 i.toNat) → gG p l e ({ frames := 1, cells := 0, slots := 0, locals := 22 } : Room) s m args below meth c D A 5 Q 0 0 (MdW cI cZ a u) [(0, .ref (a 0)), (1, vI p0), (2, vI p1), (3, vI w), (4, vI i)] [] 10 := by
    intro N
    induction N with
    | zero => intro i w hN; exact absurd hN (Nat.not_lt_zero _)
    | succ N ih10 =>
      intro i w hN hi hw
      refine gz_iload (pc := 10) F dX9_hasIn_10 4 rfl ?_
      refine gz_aload_n (pc := 12) F dX9_hasIn_12 rfl 0 rfl ?_
      refine gz_get (pc := 13) (v := vI (Lo_n (Md_lo u))) F hn_X9_hasIn_X9 0 9 rfl rfl 8 (by decide) fl_X9_hasIn_115 rfl dX9_hasIn_13 ?_
      have b13 := hLo.1
      refine gz_icmp_ge (pc := 16) (tgt := 69) F dX9_hasIn_16 (by decide) (by omega) (by omega) (fun c16 => ?_) (fun c16 => ?_)
      · refine gz_iload_n (pc := 69) F dX9_hasIn_69 rfl 3 rfl ?_
        refine Z _ _ 70 _ dX9_hasIn_70 rfl ?_
        exact ⟨rfl, _, rfl, by rw [hw, show i = Lo_n (Md_lo u) by omega]; rfl⟩
      · refine gz_aload_n (pc := 19) F dX9_hasIn_19 rfl 0 rfl ?_
        refine gz_get (pc := 20) (v := .ref (a 6)) F hn_X9_hasIn_X9 0 9 rfl rfl 9 (by decide) fl_X9_hasIn_26 rfl dX9_hasIn_20 ?_
        refine gz_iload (pc := 23) F dX9_hasIn_23 4 rfl ?_
        refine gz_iald (pc := 25) (f := Lo_ma (Md_lo u)) F 6 rfl (by omega) (by decide) dX9_hasIn_25 ?_
        have b25 := (hLo.2 i).1
        refine gz_iload_n (pc := 26) F dX9_hasIn_26 rfl 1 rfl ?_
        refine gz_icmp_ne (pc := 27) (tgt := 61) F dX9_hasIn_27 (by decide) (by omega) (by omega) (fun c27 => ?_) (fun c27 => ?_)
        · refine gz_iload_n (pc := 61) F dX9_hasIn_61 rfl 3 rfl ?_
          refine gz_istore_n (pc := 62) (lv2 := [(3, vI w), (0, .ref (a 0)), (1, vI p0), (2, vI p1), (4, vI i)]) F dX9_hasIn_62 rfl (by decide) rfl ?_
          refine gz_iinc (pc := 63) (lv2 := [(4, vI (i + 1)), (3, vI w), (0, .ref (a 0)), (1, vI p0), (2, vI p1)]) F dX9_hasIn_63 4 rfl (by decide) rfl ?_
          refine gz_goto (pc := 66) (tgt := 10) F dX9_hasIn_66 (by decide) ?_
          refine gz_lv [2, 3, 4, 1, 0] rfl ?_
          exact ih10 (i + 1) w (by omega) (by omega) (by first | exact Lo_hasN_n hi.1 hw (fun h => c27 h.1) | exact Lo_hasN_n hi.1 hw (fun h => c48 h.2))
        · refine gz_iload_n (pc := 30) F dX9_hasIn_30 rfl 2 rfl ?_
          refine gz_aload_n (pc := 31) F dX9_hasIn_31 rfl 0 rfl ?_
          refine gz_get (pc := 32) (v := .ref (a 8)) F hn_X9_hasIn_X9 0 9 rfl rfl 11 (by decide) fl_X9_hasIn_32 rfl dX9_hasIn_32 ?_
          refine gz_iload (pc := 35) F dX9_hasIn_35 4 rfl ?_
          refine gz_iald (pc := 37) (f := Lo_fr (Md_lo u)) F 8 rfl (by omega) (by decide) dX9_hasIn_37 ?_
          have b37 := (hLo.2 i).2.2.1
          refine gz_aload_n (pc := 38) F dX9_hasIn_38 rfl 0 rfl ?_
          refine gz_get (pc := 39) (v := .ref (a 9)) F hn_X9_hasIn_X9 0 9 rfl rfl 12 (by decide) fl_X9_hasIn_35 rfl dX9_hasIn_39 ?_
          refine gz_iload (pc := 42) F dX9_hasIn_42 4 rfl ?_
          refine gz_iald (pc := 44) (f := Lo_to (Md_lo u)) F 9 rfl (by omega) (by decide) dX9_hasIn_44 ?_
          have b44 := (hLo.2 i).2.2.2
          refine gz_callS (pc := 45) (n := 3) (As := [vI p1, vI (Lo_fr (Md_lo u) i), vI (Lo_to (Md_lo u) i)]) (rest := []) (bytes := cX9_in) (maxL := 3) (ret := some .boolean) F (ct_X9_in l D cI cJ cZ p1 (Lo_fr (Md_lo u) i) (Lo_to (Md_lo u) i) (by omega) (by omega) (by omega)) gX9_hasIn_X9_in rfl ⟨rfl, rfl⟩ (by decide +kernel) ⟨Nat.le_of_ble_eq_true rfl, Nat.le_of_ble_eq_true rfl⟩ rfl [] rfl (by decide) rfl (Nat.le_of_ble_eq_true rfl) ⟨Nat.zero_le _, Nat.zero_le _⟩ gz_pI_sh dX9_hasIn_45 ?_
          refine gz_kI rfl (fun r45 h45 => ?_)
          subst h45
          refine gz_if_eqb (pc := 48) (tgt := 61) F dX9_hasIn_48 (by decide) (fun c48 => ?_) (fun c48 => ?_)
          · refine gz_iload_n (pc := 61) F dX9_hasIn_61 rfl 3 rfl ?_
            refine gz_istore_n (pc := 62) (lv2 := [(3, vI w), (0, .ref (a 0)), (1, vI p0), (2, vI p1), (4, vI i)]) F dX9_hasIn_62 rfl (by decide) rfl ?_
            refine gz_iinc (pc := 63) (lv2 := [(4, vI (i + 1)), (3, vI w), (0, .ref (a 0)), (1, vI p0), (2, vI p1)]) F dX9_hasIn_63 4 rfl (by decide) rfl ?_
            refine gz_goto (pc := 66) (tgt := 10) F dX9_hasIn_66 (by decide) ?_
            refine gz_lv [2, 3, 4, 1, 0] rfl ?_
            exact ih10 (i + 1) w (by omega) (by omega) (by first | exact Lo_hasN_n hi.1 hw (fun h => c27 h.1) | exact Lo_hasN_n hi.1 hw (fun h => c48 h.2))
          · refine gz_aload_n (pc := 51) F dX9_hasIn_51 rfl 0 rfl ?_
            refine gz_get (pc := 52) (v := .ref (a 7)) F hn_X9_hasIn_X9 0 9 rfl rfl 10 (by decide) fl_X9_hasIn_29 rfl dX9_hasIn_52 ?_
            refine gz_iload (pc := 55) F dX9_hasIn_55 4 rfl ?_
            refine gz_iald (pc := 57) (f := Lo_pe (Md_lo u)) F 7 rfl (by omega) (by decide) dX9_hasIn_57 ?_
            have b57 := (hLo.2 i).2.1
            refine gz_goto (pc := 58) (tgt := 62) F dX9_hasIn_58 (by decide) ?_
            refine gz_istore_n (pc := 62) (lv2 := [(3, vI (Lo_pe (Md_lo u) i)), (0, .ref (a 0)), (1, vI p0), (2, vI p1), (4, vI i)]) F dX9_hasIn_62 rfl (by decide) rfl ?_
            refine gz_iinc (pc := 63) (lv2 := [(4, vI (i + 1)), (3, vI (Lo_pe (Md_lo u) i)), (0, .ref (a 0)), (1, vI p0), (2, vI p1)]) F dX9_hasIn_63 4 rfl (by decide) rfl ?_
            refine gz_goto (pc := 66) (tgt := 10) F dX9_hasIn_66 (by decide) ?_
            refine gz_lv [2, 3, 4, 1, 0] rfl ?_
            exact ih10 (i + 1) (Lo_pe (Md_lo u) i) (by omega) (by omega) (by exact Lo_hasN_y hi.1 ⟨c27, c48⟩)
  refine gz_aload_n (pc := 0) F dX9_hasIn_0 rfl 0 rfl ?_
  refine gz_get (pc := 1) (v := .ref (a 3)) F hn_X9_hasIn_X9 0 9 rfl rfl 5 (by decide) fl_X9_hasIn_17 rfl dX9_hasIn_1 ?_
  refine gz_iload_n (pc := 4) F dX9_hasIn_4 rfl 1 rfl ?_
  refine gz_iald (pc := 5) (f := Mm_ow (Md_mm u)) F 3 rfl (by omega) (by decide) dX9_hasIn_5 ?_
  have b5 := (hMm.2 p0).2.1
  refine gz_istore_n (pc := 6) (lv2 := [(3, vI (Mm_ow (Md_mm u) p0)), (0, .ref (a 0)), (1, vI p0), (2, vI p1)]) F dX9_hasIn_6 rfl (by decide) rfl ?_
  refine gz_const (pc := 7) F dX9_hasIn_7 ?_
  refine gz_istore (pc := 8) (lv2 := [(4, vI 0), (3, vI (Mm_ow (Md_mm u) p0)), (0, .ref (a 0)), (1, vI p0), (2, vI p1)]) F dX9_hasIn_8 (by decide) rfl ?_
  refine gz_lv [2, 3, 4, 1, 0] rfl ?_
  exact L10 _ 0 (Mm_ow (Md_mm u) p0) (Nat.lt_succ_self _) (by omega) (by rfl)
