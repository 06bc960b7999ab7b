/-! ===== laid by wip/whole/gen/md.py ===== -/
theorem hn_X9_isBuilding_X9 : ∀ w ∈ u_ws RX9 TX9 35, w ∈ wsX9_isBuilding := by decide +kernel
theorem fl_X9_isBuilding_112 : Cond.fieldLink RX9 112 (TX9 27).1 (TX9 27).2.1 (TX9 27).2.2.1 ∈ wsX9_isBuilding := by decide +kernel
theorem fl_X9_isBuilding_74 : Cond.fieldLink RX9 74 (TX9 28).1 (TX9 28).2.1 (TX9 28).2.2.1 ∈ wsX9_isBuilding := by decide +kernel
theorem fl_X9_isBuilding_86 : Cond.fieldLink RX9 86 (TX9 32).1 (TX9 32).2.1 (TX9 32).2.2.1 ∈ wsX9_isBuilding := by decide +kernel
theorem fl_X9_isBuilding_89 : Cond.fieldLink RX9 89 (TX9 33).1 (TX9 33).2.1 (TX9 33).2.2.1 ∈ wsX9_isBuilding := by decide +kernel
theorem fl_X9_isBuilding_83 : Cond.fieldLink RX9 83 (TX9 31).1 (TX9 31).2.1 (TX9 31).2.2.1 ∈ wsX9_isBuilding := by decide +kernel
set_option maxHeartbeats 4000000 in
set_option maxRecDepth 100000 in
theorem ct_X9_isBuilding (l : Launch) (D : va_G) (cI cJ cZ : ClassId) (a : Nat → Nat) (u : MdS) (p0 p1 : Int) (hu : MdI u) (h0 : -1 ≤ p0 ∧ p0 ≤ 1023) (h1 : -1 ≤ p1 ∧ p1 ≤ 1023) : gz_M l yX9_isBuilding wsX9_isBuilding { frames := 1, cells := 0, slots := 0, locals := 22 } D cI cJ cZ [.ref (a 0), vI p0, vI p1] (MdW cI cZ a u) (gz_pI (MdW cI cZ a u) (fun r => r = bz (Bu_on (Md_bu u) (Bu_n (Md_bu u)) p0 p1))) := by
  refine gz_ofZ (cc := cX9_isBuilding) (maxL := 5) (ty := .boolean) (own := RX9) (by decide) rfl rfl (Nat.le_of_ble_eq_true rfl) (lv0 := [(0, .ref (a 0)), (1, vI p0), (2, vI p1)]) rfl ?_
  intro p e s m args below meth c A Q F Z
  obtain ⟨hnw, hAw, hMm, hLo, ⟨hMt, hMa⟩, hSw, hBu⟩ := id hu
  have hMmn := hMm.1
  have hLon := hLo.1
  have hMtn := hMt.1
  have hSwn := hSw.1
  have hBun := hBu.1
  have L5 : ∀ (N : Nat) (i : Int) (b : Int), (Bu_n (Md_bu u) - i).toNat < N → (0 ≤ i ∧ i ≤ Bu_n (Md_bu u)) → (b = bz (Bu_on (Md_bu u) i p0 p1)) → gG p l e ({ frames := 1, cells := 0, slots := 0, locals := 22 } : Room) s m args below meth c D A 5 Q 0 0 (MdW cI cZ a u) [(0, .ref (a 0)), (1, vI p0), (2, vI p1), (3, vI b), (4, vI i)] [] 5 := by
    intro N
    induction N with
    | zero => intro i b hN; exact absurd hN (Nat.not_lt_zero _)
    | succ N ih5 =>
      intro i b hN hi hb
      have hbr := bz_rb hb
      refine gz_iload (pc := 5) F dX9_isBuilding_5 4 rfl ?_
      refine gz_aload_n (pc := 7) F dX9_isBuilding_7 rfl 0 rfl ?_
      refine gz_get (pc := 8) (v := vI (Bu_n (Md_bu u))) F hn_X9_isBuilding_X9 0 9 rfl rfl 27 (by decide) fl_X9_isBuilding_112 rfl dX9_isBuilding_8 ?_
      have b8 := hBu.1
      refine gz_icmp_ge (pc := 11) (tgt := 83) F dX9_isBuilding_11 (by decide) (by omega) (by omega) (fun c11 => ?_) (fun c11 => ?_)
      · refine gz_iload_n (pc := 83) F dX9_isBuilding_83 rfl 3 rfl ?_
        refine Z _ _ 84 _ dX9_isBuilding_84 (by rw [hb]; exact bz_nar _) ?_
        exact ⟨rfl, _, rfl, by rw [hb, show i = Bu_n (Md_bu u) by omega]⟩
      · refine gz_iload_n (pc := 14) F dX9_isBuilding_14 rfl 3 rfl ?_
        refine gz_if_ne (pc := 15) (tgt := 71) F dX9_isBuilding_15 (by decide) (by omega) (fun c15 => ?_) (fun c15 => ?_)
        · refine gz_const (pc := 71) F dX9_isBuilding_71 ?_
          refine gz_goto (pc := 72) (tgt := 76) F dX9_isBuilding_72 (by decide) ?_
          refine gz_istore_n (pc := 76) (lv2 := [(3, vI 1), (0, .ref (a 0)), (1, vI p0), (2, vI p1), (4, vI i)]) F dX9_isBuilding_76 rfl (by decide) rfl ?_
          refine gz_iinc (pc := 77) (lv2 := [(4, vI (i + 1)), (3, vI 1), (0, .ref (a 0)), (1, vI p0), (2, vI p1)]) F dX9_isBuilding_77 4 rfl (by decide) rfl ?_
          refine gz_goto (pc := 80) (tgt := 5) F dX9_isBuilding_80 (by decide) ?_
          refine gz_lv [2, 3, 4, 1, 0] rfl ?_
          exact ih5 (i + 1) 1 (by omega) (by omega) (by first | exact bzT (Bu_on_up (bz_of1 hb c15)) | exact bzT (Bu_on_at hi.1 c26 c37 c68))
        · refine gz_aload_n (pc := 18) F dX9_isBuilding_18 rfl 0 rfl ?_
          refine gz_get (pc := 19) (v := .ref (a 22)) F hn_X9_isBuilding_X9 0 9 rfl rfl 28 (by decide) fl_X9_isBuilding_74 rfl dX9_isBuilding_19 ?_
          refine gz_iload (pc := 22) F dX9_isBuilding_22 4 rfl ?_
          refine gz_iald (pc := 24) (f := Bu_st (Md_bu u)) F 22 rfl (by omega) (by decide) dX9_isBuilding_24 ?_
          have b24 := (hBu.2 i).2.2.2.1
          refine gz_const (pc := 25) F dX9_isBuilding_25 ?_
          refine gz_icmp_ne (pc := 26) (tgt := 75) F dX9_isBuilding_26 (by decide) (by omega) (by omega) (fun c26 => ?_) (fun c26 => ?_)
          · refine gz_const (pc := 75) F dX9_isBuilding_75 ?_
            refine gz_istore_n (pc := 76) (lv2 := [(3, vI 0), (0, .ref (a 0)), (1, vI p0), (2, vI p1), (4, vI i)]) F dX9_isBuilding_76 rfl (by decide) rfl ?_
            refine gz_iinc (pc := 77) (lv2 := [(4, vI (i + 1)), (3, vI 0), (0, .ref (a 0)), (1, vI p0), (2, vI p1)]) F dX9_isBuilding_77 4 rfl (by decide) rfl ?_
            refine gz_goto (pc := 80) (tgt := 5) F dX9_isBuilding_80 (by decide) ?_
            refine gz_lv [2, 3, 4, 1, 0] rfl ?_
            exact ih5 (i + 1) 0 (by omega) (by omega) (by first | exact bzF (Bu_on_nx (bz_of0 hb c15) (fun h => c26 h.1)) | exact bzF (Bu_on_nx (bz_of0 hb c15) (fun h => c37 h.2.1)) | exact bzF (Bu_on_nx (bz_of0 hb c15) (fun h => c68 h.2.2)))
          · refine gz_aload_n (pc := 29) F dX9_isBuilding_29 rfl 0 rfl ?_
            refine gz_get (pc := 30) (v := .ref (a 26)) F hn_X9_isBuilding_X9 0 9 rfl rfl 32 (by decide) fl_X9_isBuilding_86 rfl dX9_isBuilding_30 ?_
            refine gz_iload (pc := 33) F dX9_isBuilding_33 4 rfl ?_
            refine gz_iald (pc := 35) (f := Bu_ma (Md_bu u)) F 26 rfl (by omega) (by decide) dX9_isBuilding_35 ?_
            have b35 := (hBu.2 i).2.2.2.2.1
            refine gz_iload_n (pc := 36) F dX9_isBuilding_36 rfl 1 rfl ?_
            refine gz_icmp_ne (pc := 37) (tgt := 75) F dX9_isBuilding_37 (by decide) (by omega) (by omega) (fun c37 => ?_) (fun c37 => ?_)
            · refine gz_const (pc := 75) F dX9_isBuilding_75 ?_
              refine gz_istore_n (pc := 76) (lv2 := [(3, vI 0), (0, .ref (a 0)), (1, vI p0), (2, vI p1), (4, vI i)]) F dX9_isBuilding_76 rfl (by decide) rfl ?_
              refine gz_iinc (pc := 77) (lv2 := [(4, vI (i + 1)), (3, vI 0), (0, .ref (a 0)), (1, vI p0), (2, vI p1)]) F dX9_isBuilding_77 4 rfl (by decide) rfl ?_
              refine gz_goto (pc := 80) (tgt := 5) F dX9_isBuilding_80 (by decide) ?_
              refine gz_lv [2, 3, 4, 1, 0] rfl ?_
              exact ih5 (i + 1) 0 (by omega) (by omega) (by first | exact bzF (Bu_on_nx (bz_of0 hb c15) (fun h => c26 h.1)) | exact bzF (Bu_on_nx (bz_of0 hb c15) (fun h => c37 h.2.1)) | exact bzF (Bu_on_nx (bz_of0 hb c15) (fun h => c68 h.2.2)))
            · refine gz_iload_n (pc := 40) F dX9_isBuilding_40 rfl 2 rfl ?_
              refine gz_aload_n (pc := 41) F dX9_isBuilding_41 rfl 0 rfl ?_
              refine gz_get (pc := 42) (v := .ref (a 27)) F hn_X9_isBuilding_X9 0 9 rfl rfl 33 (by decide) fl_X9_isBuilding_89 rfl dX9_isBuilding_42 ?_
              refine gz_iload (pc := 45) F dX9_isBuilding_45 4 rfl ?_
              refine gz_iald (pc := 47) (f := Bu_bg (Md_bu u)) F 27 rfl (by omega) (by decide) dX9_isBuilding_47 ?_
              have b47 := (hBu.2 i).2.2.2.2.2
              refine gz_aload_n (pc := 48) F dX9_isBuilding_48 rfl 0 rfl ?_
              refine gz_get (pc := 49) (v := .ref (a 27)) F hn_X9_isBuilding_X9 0 9 rfl rfl 33 (by decide) fl_X9_isBuilding_89 rfl dX9_isBuilding_49 ?_
              refine gz_iload (pc := 52) F dX9_isBuilding_52 4 rfl ?_
              refine gz_iald (pc := 54) (f := Bu_bg (Md_bu u)) F 27 rfl (by omega) (by decide) dX9_isBuilding_54 ?_
              have b54 := (hBu.2 i).2.2.2.2.2
              refine gz_aload_n (pc := 55) F dX9_isBuilding_55 rfl 0 rfl ?_
              refine gz_get (pc := 56) (v := .ref (a 25)) F hn_X9_isBuilding_X9 0 9 rfl rfl 31 (by decide) fl_X9_isBuilding_83 rfl dX9_isBuilding_56 ?_
              refine gz_iload (pc := 59) F dX9_isBuilding_59 4 rfl ?_
              refine gz_iald (pc := 61) (f := Bu_ln (Md_bu u)) F 25 rfl (by omega) (by decide) dX9_isBuilding_61 ?_
              have b61 := (hBu.2 i).2.2.1
              refine gz_iadd (pc := 62) F dX9_isBuilding_62 ?_
              refine gz_const (pc := 63) F dX9_isBuilding_63 ?_
              refine gz_isub (pc := 64) F dX9_isBuilding_64 ?_
              refine gz_callS (pc := 65) (n := 3) (As := [vI p1, vI (Bu_bg (Md_bu u) i), vI (((Bu_bg (Md_bu u) i) + (Bu_ln (Md_bu u) i)) - 1)]) (rest := []) (bytes := cX9_in) (maxL := 3) (ret := some .boolean) F (ct_X9_in l D cI cJ cZ p1 (Bu_bg (Md_bu u) i) (((Bu_bg (Md_bu u) i) + (Bu_ln (Md_bu u) i)) - 1) (by omega) (by omega) (by omega)) gX9_isBuilding_X9_in rfl ⟨rfl, rfl⟩ (by decide +kernel) ⟨Nat.le_of_ble_eq_true rfl, Nat.le_of_ble_eq_true rfl⟩ rfl [] rfl (by decide) rfl (Nat.le_of_ble_eq_true rfl) ⟨Nat.zero_le _, Nat.zero_le _⟩ gz_pI_sh dX9_isBuilding_65 ?_
              refine gz_kI rfl (fun r65 h65 => ?_)
              subst h65
              refine gz_if_eqb (pc := 68) (tgt := 75) F dX9_isBuilding_68 (by decide) (fun c68 => ?_) (fun c68 => ?_)
              · refine gz_const (pc := 75) F dX9_isBuilding_75 ?_
                refine gz_istore_n (pc := 76) (lv2 := [(3, vI 0), (0, .ref (a 0)), (1, vI p0), (2, vI p1), (4, vI i)]) F dX9_isBuilding_76 rfl (by decide) rfl ?_
                refine gz_iinc (pc := 77) (lv2 := [(4, vI (i + 1)), (3, vI 0), (0, .ref (a 0)), (1, vI p0), (2, vI p1)]) F dX9_isBuilding_77 4 rfl (by decide) rfl ?_
                refine gz_goto (pc := 80) (tgt := 5) F dX9_isBuilding_80 (by decide) ?_
                refine gz_lv [2, 3, 4, 1, 0] rfl ?_
                exact ih5 (i + 1) 0 (by omega) (by omega) (by first | exact bzF (Bu_on_nx (bz_of0 hb c15) (fun h => c26 h.1)) | exact bzF (Bu_on_nx (bz_of0 hb c15) (fun h => c37 h.2.1)) | exact bzF (Bu_on_nx (bz_of0 hb c15) (fun h => c68 h.2.2)))
              · refine gz_const (pc := 71) F dX9_isBuilding_71 ?_
                refine gz_goto (pc := 72) (tgt := 76) F dX9_isBuilding_72 (by decide) ?_
                refine gz_istore_n (pc := 76) (lv2 := [(3, vI 1), (0, .ref (a 0)), (1, vI p0), (2, vI p1), (4, vI i)]) F dX9_isBuilding_76 rfl (by decide) rfl ?_
                refine gz_iinc (pc := 77) (lv2 := [(4, vI (i + 1)), (3, vI 1), (0, .ref (a 0)), (1, vI p0), (2, vI p1)]) F dX9_isBuilding_77 4 rfl (by decide) rfl ?_
                refine gz_goto (pc := 80) (tgt := 5) F dX9_isBuilding_80 (by decide) ?_
                refine gz_lv [2, 3, 4, 1, 0] rfl ?_
                exact ih5 (i + 1) 1 (by omega) (by omega) (by first | exact bzT (Bu_on_up (bz_of1 hb c15)) | exact bzT (Bu_on_at hi.1 c26 c37 c68))
  refine gz_const (pc := 0) F dX9_isBuilding_0 ?_
  refine gz_istore_n (pc := 1) (lv2 := [(3, vI 0), (0, .ref (a 0)), (1, vI p0), (2, vI p1)]) F dX9_isBuilding_1 rfl (by decide) rfl ?_
  refine gz_const (pc := 2) F dX9_isBuilding_2 ?_
  refine gz_istore (pc := 3) (lv2 := [(4, vI 0), (3, vI 0), (0, .ref (a 0)), (1, vI p0), (2, vI p1)]) F dX9_isBuilding_3 (by decide) rfl ?_
  refine gz_lv [2, 3, 4, 1, 0] rfl ?_
  exact L5 _ 0 0 (Nat.lt_succ_self _) (by omega) (by exact bzF (Bu_on_0 _ _ _))
