/-! ===== laid by wip/whole/gen/md2.py ===== -/
theorem hn_X9_passes_X9 : ∀ w ∈ u_ws RX9 TX9 35, w ∈ wsX9_passes := by decide +kernel
theorem fl_X9_passes_106 : Cond.fieldLink RX9 106 (TX9 13).1 (TX9 13).2.1 (TX9 13).2.2.1 ∈ wsX9_passes := by decide +kernel
theorem fl_X9_passes_144 : Cond.fieldLink RX9 144 (TX9 1).1 (TX9 1).2.1 (TX9 1).2.2.1 ∈ wsX9_passes := by decide +kernel
theorem fl_X9_passes_38 : Cond.fieldLink RX9 38 (TX9 14).1 (TX9 14).2.1 (TX9 14).2.2.1 ∈ wsX9_passes := by decide +kernel
theorem fl_X9_passes_44 : Cond.fieldLink RX9 44 (TX9 16).1 (TX9 16).2.1 (TX9 16).2.2.1 ∈ wsX9_passes := by decide +kernel
theorem fl_X9_passes_47 : Cond.fieldLink RX9 47 (TX9 17).1 (TX9 17).2.1 (TX9 17).2.2.1 ∈ wsX9_passes := by decide +kernel
theorem fl_X9_passes_112 : Cond.fieldLink RX9 112 (TX9 27).1 (TX9 27).2.1 (TX9 27).2.2.1 ∈ wsX9_passes := by decide +kernel
theorem fl_X9_passes_74 : Cond.fieldLink RX9 74 (TX9 28).1 (TX9 28).2.1 (TX9 28).2.2.1 ∈ wsX9_passes := by decide +kernel
theorem fl_X9_passes_89 : Cond.fieldLink RX9 89 (TX9 33).1 (TX9 33).2.1 (TX9 33).2.2.1 ∈ wsX9_passes := by decide +kernel
theorem fl_X9_passes_83 : Cond.fieldLink RX9 83 (TX9 31).1 (TX9 31).2.1 (TX9 31).2.2.1 ∈ wsX9_passes := by decide +kernel
theorem fl_X9_passes_103 : Cond.fieldLink RX9 103 (TX9 3).1 (TX9 3).2.1 (TX9 3).2.2.1 ∈ wsX9_passes := by decide +kernel
set_option maxHeartbeats 4000000 in
set_option maxRecDepth 100000 in
theorem ct_X9_passes (l : Launch) (D : va_G) (cI cJ cZ : ClassId) (a : Nat → Nat) (u : MdS) (hu : MdI u) (h4 : Md_now u < 400) : gz_M l yX9_passes wsX9_passes { frames := 5, cells := 0, slots := 0, locals := 118 } D cI cJ cZ [.ref (a 0)] (MdW cI cZ a u) (gz_pE (MdW cI cZ a (Md_step u))) := by
  refine gz_ofV (cc := cX9_passes) (maxL := 2) (own := RX9) (by decide) rfl rfl (Nat.le_of_ble_eq_true rfl) (lv0 := [(0, .ref (a 0))]) rfl ?_
  intro p e s m args below meth c A Q F Z
  obtain ⟨hnw, hAw, hMm, hLo, ⟨hMt, hMa⟩, hSw, hBu⟩ := id hu
  have hMmn := hMm.1
  have hLon := hLo.1
  have hMtn := hMt.1
  have hSwn := hSw.1
  have hBun := hBu.1
  have L87 : ∀ (N : Nat) (i : Int) (v : MdS), (Mt_n (Md_mt v) - i).toNat < N → (MdI v) → (v = Md_planN u (Mm_n (Md_mm u)).toNat) → (0 ≤ i ∧ i ≤ Mt_n (Md_mt v)) → gG p l e ({ frames := 5, cells := 0, slots := 0, locals := 118 } : Room) s m args below meth c D A 2 Q 0 0 (MdW cI cZ a ((Md_th v, Md_now v, Md_aw v, Md_mm v, Md_lo v, (Mt_n (Md_mt v), Mt_pe (Md_mt v), Mt_sl (Md_mt v), Mt_ln (Md_mt v), Mt_ma (Md_mt v), Mt_endN (Md_mt v) (Md_now v) i, Mt_mv (Md_mt v)), Md_sw v, (Bu_n (Md_bu v), Bu_ne (Md_bu v), Bu_ur (Md_bu v), Bu_ln (Md_bu v), Bu_endN (Md_bu v) (Md_now v) (Bu_n (Md_bu v)), Bu_ma (Md_bu v), Bu_bg (Md_bu v), Bu_ti (Md_bu v))))) [(0, .ref (a 0)), (1, vI i)] [] 87 := by
    intro N
    induction N with
    | zero => intro i v hN; exact absurd hN (Nat.not_lt_zero _)
    | succ N ih87 =>
      intro i v hN hI hv hi
      obtain ⟨hnw, hAw, hMm, hLo, ⟨hMt, hMa⟩, hSw, hBu⟩ := id hI
      have hMmn := hMm.1
      have hLon := hLo.1
      have hMtn := hMt.1
      have hSwn := hSw.1
      have hBun := hBu.1
      refine gz_iload_n (pc := 87) F dX9_passes_87 rfl 1 rfl ?_
      refine gz_aload_n (pc := 88) F dX9_passes_88 rfl 0 rfl ?_
      refine gz_get (pc := 89) (v := vI (Mt_n (Md_mt v))) F hn_X9_passes_X9 0 9 rfl rfl 13 (by decide) fl_X9_passes_106 rfl dX9_passes_89 ?_
      have b89 := hMt.1
      refine gz_icmp_ge (pc := 92) (tgt := 148) F dX9_passes_92 (by decide) (by omega) (by omega) (fun c92 => ?_) (fun c92 => ?_)
      · refine gz_aload_n (pc := 148) F dX9_passes_148 rfl 0 rfl ?_
        refine gz_dup (pc := 149) F dX9_passes_149 rfl ?_
        refine gz_get (pc := 150) (v := vI (Md_now v)) F hn_X9_passes_X9 0 9 rfl rfl 1 (by decide) fl_X9_passes_144 rfl dX9_passes_150 ?_
        have b150 := hnw
        refine gz_const (pc := 153) F dX9_passes_153 ?_
        refine gz_iadd (pc := 154) F dX9_passes_154 ?_
        refine gz_put (pc := 155) (ws2 := MdW cI cZ a ((Md_th v, (Md_now v) + 1, Md_aw v, Md_mm v, Md_lo v, (Mt_n (Md_mt v), Mt_pe (Md_mt v), Mt_sl (Md_mt v), Mt_ln (Md_mt v), Mt_ma (Md_mt v), Mt_endN (Md_mt v) (Md_now v) i, Mt_mv (Md_mt v)), Md_sw v, (Bu_n (Md_bu v), Bu_ne (Md_bu v), Bu_ur (Md_bu v), Bu_ln (Md_bu v), Bu_endN (Md_bu v) (Md_now v) (Bu_n (Md_bu v)), Bu_ma (Md_bu v), Bu_bg (Md_bu v), Bu_ti (Md_bu v))))) F hn_X9_passes_X9 tyX9 tyX9_ok nmX9 0 9 rfl rfl 1 (by decide) fl_X9_passes_144 rfl (ty := .int) rfl rfl rfl (Nat.le_of_ble_eq_true rfl) rfl dX9_passes_155 ?_
        refine Z _ _ 158 dX9_passes_158 ?_
        refine ⟨rfl, ?_⟩
        rw [Md_step, ← hv, show i = Mt_n (Md_mt v) by omega]
        rfl
      · refine gz_aload_n (pc := 95) F dX9_passes_95 rfl 0 rfl ?_
        refine gz_get (pc := 96) (v := .ref (a 10)) F hn_X9_passes_X9 0 9 rfl rfl 14 (by decide) fl_X9_passes_38 rfl dX9_passes_96 ?_
        refine gz_iload_n (pc := 99) F dX9_passes_99 rfl 1 rfl ?_
        refine gz_aload_n (pc := 100) F dX9_passes_100 rfl 0 rfl ?_
        refine gz_get (pc := 101) (v := .ref (a 10)) F hn_X9_passes_X9 0 9 rfl rfl 14 (by decide) fl_X9_passes_38 rfl dX9_passes_101 ?_
        refine gz_iload_n (pc := 104) F dX9_passes_104 rfl 1 rfl ?_
        refine gz_iald (pc := 105) (f := Mt_endN (Md_mt v) (Md_now v) i) F 10 rfl (by omega) (by decide) dX9_passes_105 ?_
        refine gz_eqst (st2 := [vI (Mt_st (Md_mt v) i), vI i, .ref (a 10)]) (by rw [Mt_endN_at]) ?_
        have b105 := (hMt.2 i).2.2.2.2
        refine gz_if_ne (pc := 106) (tgt := 135) F dX9_passes_106 (by decide) (by omega) (fun c106 => ?_) (fun c106 => ?_)
        · refine gz_aload_n (pc := 135) F dX9_passes_135 rfl 0 rfl ?_
          refine gz_get (pc := 136) (v := .ref (a 10)) F hn_X9_passes_X9 0 9 rfl rfl 14 (by decide) fl_X9_passes_38 rfl dX9_passes_136 ?_
          refine gz_iload_n (pc := 139) F dX9_passes_139 rfl 1 rfl ?_
          refine gz_iald (pc := 140) (f := Mt_endN (Md_mt v) (Md_now v) i) F 10 rfl (by omega) (by decide) dX9_passes_140 ?_
          refine gz_eqst (st2 := [vI (Mt_st (Md_mt v) i), vI i, .ref (a 10)]) (by rw [Mt_endN_at]) ?_
          refine gz_iast (pc := 141) (f := Mt_endN (Md_mt v) (Md_now v) i) (ws2 := MdW cI cZ a ((Md_th v, Md_now v, Md_aw v, Md_mm v, Md_lo v, (Mt_n (Md_mt v), Mt_pe (Md_mt v), Mt_sl (Md_mt v), Mt_ln (Md_mt v), Mt_ma (Md_mt v), zU (Mt_endN (Md_mt v) (Md_now v) i) i (Mt_st (Md_mt v) i), Mt_mv (Md_mt v)), Md_sw v, (Bu_n (Md_bu v), Bu_ne (Md_bu v), Bu_ur (Md_bu v), Bu_ln (Md_bu v), Bu_endN (Md_bu v) (Md_now v) (Bu_n (Md_bu v)), Bu_ma (Md_bu v), Bu_bg (Md_bu v), Bu_ti (Md_bu v))))) F 10 rfl (by omega) (by decide) rfl dX9_passes_141 ?_
          refine gz_iinc (pc := 142) (lv2 := [(1, vI (i + 1)), (0, .ref (a 0))]) F dX9_passes_142 1 rfl (by decide) rfl ?_
          refine gz_goto (pc := 145) (tgt := 87) F dX9_passes_145 (by decide) ?_
          refine gz_eqw (ws2 := MdW cI cZ a ((Md_th v, Md_now v, Md_aw v, Md_mm v, Md_lo v, (Mt_n (Md_mt v), Mt_pe (Md_mt v), Mt_sl (Md_mt v), Mt_ln (Md_mt v), Mt_ma (Md_mt v), Mt_endN (Md_mt v) (Md_now v) (i + 1), Mt_mv (Md_mt v)), Md_sw v, (Bu_n (Md_bu v), Bu_ne (Md_bu v), Bu_ur (Md_bu v), Bu_ln (Md_bu v), Bu_endN (Md_bu v) (Md_now v) (Bu_n (Md_bu v)), Bu_ma (Md_bu v), Bu_bg (Md_bu v), Bu_ti (Md_bu v))))) (by first | rw [Mt_endN_n hi.1 (fun h => c128 h.2) rfl] | rw [Mt_endN_n hi.1 (fun h => c106 h.1) rfl]) ?_
          refine gz_lv [1, 0] rfl ?_
          exact ih87 (i + 1) v (by omega) (by exact hI) (by exact hv) (by omega)
        · refine gz_aload_n (pc := 109) F dX9_passes_109 rfl 0 rfl ?_
          refine gz_get (pc := 110) (v := .ref (a 12)) F hn_X9_passes_X9 0 9 rfl rfl 16 (by decide) fl_X9_passes_44 rfl dX9_passes_110 ?_
          refine gz_iload_n (pc := 113) F dX9_passes_113 rfl 1 rfl ?_
          refine gz_iald (pc := 114) (f := Mt_sl (Md_mt v)) F 12 rfl (by omega) (by decide) dX9_passes_114 ?_
          have b114 := (hMt.2 i).2.1
          refine gz_aload_n (pc := 115) F dX9_passes_115 rfl 0 rfl ?_
          refine gz_get (pc := 116) (v := .ref (a 13)) F hn_X9_passes_X9 0 9 rfl rfl 17 (by decide) fl_X9_passes_47 rfl dX9_passes_116 ?_
          refine gz_iload_n (pc := 119) F dX9_passes_119 rfl 1 rfl ?_
          refine gz_iald (pc := 120) (f := Mt_ln (Md_mt v)) F 13 rfl (by omega) (by decide) dX9_passes_120 ?_
          have b120 := (hMt.2 i).2.2.1
          refine gz_iadd (pc := 121) F dX9_passes_121 ?_
          refine gz_const (pc := 122) F dX9_passes_122 ?_
          refine gz_isub (pc := 123) F dX9_passes_123 ?_
          refine gz_aload_n (pc := 124) F dX9_passes_124 rfl 0 rfl ?_
          refine gz_get (pc := 125) (v := vI (Md_now v)) F hn_X9_passes_X9 0 9 rfl rfl 1 (by decide) fl_X9_passes_144 rfl dX9_passes_125 ?_
          have b125 := hnw
          refine gz_icmp_ne (pc := 128) (tgt := 135) F dX9_passes_128 (by decide) (by omega) (by omega) (fun c128 => ?_) (fun c128 => ?_)
          · refine gz_aload_n (pc := 135) F dX9_passes_135 rfl 0 rfl ?_
            refine gz_get (pc := 136) (v := .ref (a 10)) F hn_X9_passes_X9 0 9 rfl rfl 14 (by decide) fl_X9_passes_38 rfl dX9_passes_136 ?_
            refine gz_iload_n (pc := 139) F dX9_passes_139 rfl 1 rfl ?_
            refine gz_iald (pc := 140) (f := Mt_endN (Md_mt v) (Md_now v) i) F 10 rfl (by omega) (by decide) dX9_passes_140 ?_
            refine gz_eqst (st2 := [vI (Mt_st (Md_mt v) i), vI i, .ref (a 10)]) (by rw [Mt_endN_at]) ?_
            refine gz_iast (pc := 141) (f := Mt_endN (Md_mt v) (Md_now v) i) (ws2 := MdW cI cZ a ((Md_th v, Md_now v, Md_aw v, Md_mm v, Md_lo v, (Mt_n (Md_mt v), Mt_pe (Md_mt v), Mt_sl (Md_mt v), Mt_ln (Md_mt v), Mt_ma (Md_mt v), zU (Mt_endN (Md_mt v) (Md_now v) i) i (Mt_st (Md_mt v) i), Mt_mv (Md_mt v)), Md_sw v, (Bu_n (Md_bu v), Bu_ne (Md_bu v), Bu_ur (Md_bu v), Bu_ln (Md_bu v), Bu_endN (Md_bu v) (Md_now v) (Bu_n (Md_bu v)), Bu_ma (Md_bu v), Bu_bg (Md_bu v), Bu_ti (Md_bu v))))) F 10 rfl (by omega) (by decide) rfl dX9_passes_141 ?_
            refine gz_iinc (pc := 142) (lv2 := [(1, vI (i + 1)), (0, .ref (a 0))]) F dX9_passes_142 1 rfl (by decide) rfl ?_
            refine gz_goto (pc := 145) (tgt := 87) F dX9_passes_145 (by decide) ?_
            refine gz_eqw (ws2 := MdW cI cZ a ((Md_th v, Md_now v, Md_aw v, Md_mm v, Md_lo v, (Mt_n (Md_mt v), Mt_pe (Md_mt v), Mt_sl (Md_mt v), Mt_ln (Md_mt v), Mt_ma (Md_mt v), Mt_endN (Md_mt v) (Md_now v) (i + 1), Mt_mv (Md_mt v)), Md_sw v, (Bu_n (Md_bu v), Bu_ne (Md_bu v), Bu_ur (Md_bu v), Bu_ln (Md_bu v), Bu_endN (Md_bu v) (Md_now v) (Bu_n (Md_bu v)), Bu_ma (Md_bu v), Bu_bg (Md_bu v), Bu_ti (Md_bu v))))) (by first | rw [Mt_endN_n hi.1 (fun h => c128 h.2) rfl] | rw [Mt_endN_n hi.1 (fun h => c106 h.1) rfl]) ?_
            refine gz_lv [1, 0] rfl ?_
            exact ih87 (i + 1) v (by omega) (by exact hI) (by exact hv) (by omega)
          · refine gz_const (pc := 131) F dX9_passes_131 ?_
            refine gz_goto (pc := 132) (tgt := 141) F dX9_passes_132 (by decide) ?_
            refine gz_iast (pc := 141) (f := Mt_endN (Md_mt v) (Md_now v) i) (ws2 := MdW cI cZ a ((Md_th v, Md_now v, Md_aw v, Md_mm v, Md_lo v, (Mt_n (Md_mt v), Mt_pe (Md_mt v), Mt_sl (Md_mt v), Mt_ln (Md_mt v), Mt_ma (Md_mt v), zU (Mt_endN (Md_mt v) (Md_now v) i) i 2, Mt_mv (Md_mt v)), Md_sw v, (Bu_n (Md_bu v), Bu_ne (Md_bu v), Bu_ur (Md_bu v), Bu_ln (Md_bu v), Bu_endN (Md_bu v) (Md_now v) (Bu_n (Md_bu v)), Bu_ma (Md_bu v), Bu_bg (Md_bu v), Bu_ti (Md_bu v))))) F 10 rfl (by omega) (by decide) rfl dX9_passes_141 ?_
            refine gz_iinc (pc := 142) (lv2 := [(1, vI (i + 1)), (0, .ref (a 0))]) F dX9_passes_142 1 rfl (by decide) rfl ?_
            refine gz_goto (pc := 145) (tgt := 87) F dX9_passes_145 (by decide) ?_
            refine gz_eqw (ws2 := MdW cI cZ a ((Md_th v, Md_now v, Md_aw v, Md_mm v, Md_lo v, (Mt_n (Md_mt v), Mt_pe (Md_mt v), Mt_sl (Md_mt v), Mt_ln (Md_mt v), Mt_ma (Md_mt v), Mt_endN (Md_mt v) (Md_now v) (i + 1), Mt_mv (Md_mt v)), Md_sw v, (Bu_n (Md_bu v), Bu_ne (Md_bu v), Bu_ur (Md_bu v), Bu_ln (Md_bu v), Bu_endN (Md_bu v) (Md_now v) (Bu_n (Md_bu v)), Bu_ma (Md_bu v), Bu_bg (Md_bu v), Bu_ti (Md_bu v))))) (by rw [Mt_endN_y hi.1 ⟨c106, c128⟩]) ?_
            refine gz_lv [1, 0] rfl ?_
            exact ih87 (i + 1) v (by omega) (by exact hI) (by exact hv) (by omega)
  have L23 : ∀ (N : Nat) (i : Int) (v : MdS), (Bu_n (Md_bu v) - i).toNat < N → (MdI v) → (v = Md_planN u (Mm_n (Md_mm u)).toNat) → (0 ≤ i ∧ i ≤ Bu_n (Md_bu v)) → gG p l e ({ frames := 5, cells := 0, slots := 0, locals := 118 } : Room) s m args below meth c D A 2 Q 0 0 (MdW cI cZ a ((Md_th v, Md_now v, Md_aw v, Md_mm v, Md_lo v, Md_mt v, Md_sw v, (Bu_n (Md_bu v), Bu_ne (Md_bu v), Bu_ur (Md_bu v), Bu_ln (Md_bu v), Bu_endN (Md_bu v) (Md_now v) i, Bu_ma (Md_bu v), Bu_bg (Md_bu v), Bu_ti (Md_bu v))))) [(0, .ref (a 0)), (1, vI i)] [] 23 := by
    intro N
    induction N with
    | zero => intro i v hN; exact absurd hN (Nat.not_lt_zero _)
    | succ N ih23 =>
      intro i v hN hI hv hi
      obtain ⟨hnw, hAw, hMm, hLo, ⟨hMt, hMa⟩, hSw, hBu⟩ := id hI
      have hMmn := hMm.1
      have hLon := hLo.1
      have hMtn := hMt.1
      have hSwn := hSw.1
      have hBun := hBu.1
      refine gz_iload_n (pc := 23) F dX9_passes_23 rfl 1 rfl ?_
      refine gz_aload_n (pc := 24) F dX9_passes_24 rfl 0 rfl ?_
      refine gz_get (pc := 25) (v := vI (Bu_n (Md_bu v))) F hn_X9_passes_X9 0 9 rfl rfl 27 (by decide) fl_X9_passes_112 rfl dX9_passes_25 ?_
      have b25 := hBu.1
      refine gz_icmp_ge (pc := 28) (tgt := 85) F dX9_passes_28 (by decide) (by omega) (by omega) (fun c28 => ?_) (fun c28 => ?_)
      · refine gz_const (pc := 85) F dX9_passes_85 ?_
        refine gz_istore_n (pc := 86) (lv2 := [(1, vI 0), (0, .ref (a 0))]) F dX9_passes_86 rfl (by decide) rfl ?_
        refine gz_eqw (ws2 := MdW cI cZ a ((Md_th v, Md_now v, Md_aw v, Md_mm v, Md_lo v, (Mt_n (Md_mt v), Mt_pe (Md_mt v), Mt_sl (Md_mt v), Mt_ln (Md_mt v), Mt_ma (Md_mt v), Mt_endN (Md_mt v) (Md_now v) 0, Mt_mv (Md_mt v)), Md_sw v, (Bu_n (Md_bu v), Bu_ne (Md_bu v), Bu_ur (Md_bu v), Bu_ln (Md_bu v), Bu_endN (Md_bu v) (Md_now v) (Bu_n (Md_bu v)), Bu_ma (Md_bu v), Bu_bg (Md_bu v), Bu_ti (Md_bu v))))) (by rw [show i = Bu_n (Md_bu v) by omega, Mt_endN_0] <;> rfl) ?_
        refine gz_lv [1, 0] rfl ?_
        exact L87 _ 0 v (Nat.lt_succ_self _) (by exact hI) (by exact hv) (by omega)
      · refine gz_aload_n (pc := 31) F dX9_passes_31 rfl 0 rfl ?_
        refine gz_get (pc := 32) (v := .ref (a 22)) F hn_X9_passes_X9 0 9 rfl rfl 28 (by decide) fl_X9_passes_74 rfl dX9_passes_32 ?_
        refine gz_iload_n (pc := 35) F dX9_passes_35 rfl 1 rfl ?_
        refine gz_aload_n (pc := 36) F dX9_passes_36 rfl 0 rfl ?_
        refine gz_get (pc := 37) (v := .ref (a 22)) F hn_X9_passes_X9 0 9 rfl rfl 28 (by decide) fl_X9_passes_74 rfl dX9_passes_37 ?_
        refine gz_iload_n (pc := 40) F dX9_passes_40 rfl 1 rfl ?_
        refine gz_iald (pc := 41) (f := Bu_endN (Md_bu v) (Md_now v) i) F 22 rfl (by omega) (by decide) dX9_passes_41 ?_
        refine gz_eqst (st2 := [vI (Bu_st (Md_bu v) i), vI i, .ref (a 22)]) (by rw [Bu_endN_at]) ?_
        have b42 := (hBu.2 i).2.2.2.1
        refine gz_const (pc := 42) F dX9_passes_42 ?_
        refine gz_icmp_ne (pc := 43) (tgt := 72) F dX9_passes_43 (by decide) (by omega) (by omega) (fun c43 => ?_) (fun c43 => ?_)
        · refine gz_aload_n (pc := 72) F dX9_passes_72 rfl 0 rfl ?_
          refine gz_get (pc := 73) (v := .ref (a 22)) F hn_X9_passes_X9 0 9 rfl rfl 28 (by decide) fl_X9_passes_74 rfl dX9_passes_73 ?_
          refine gz_iload_n (pc := 76) F dX9_passes_76 rfl 1 rfl ?_
          refine gz_iald (pc := 77) (f := Bu_endN (Md_bu v) (Md_now v) i) F 22 rfl (by omega) (by decide) dX9_passes_77 ?_
          refine gz_eqst (st2 := [vI (Bu_st (Md_bu v) i), vI i, .ref (a 22)]) (by rw [Bu_endN_at]) ?_
          refine gz_iast (pc := 78) (f := Bu_endN (Md_bu v) (Md_now v) i) (ws2 := MdW cI cZ a ((Md_th v, Md_now v, Md_aw v, Md_mm v, Md_lo v, Md_mt v, Md_sw v, (Bu_n (Md_bu v), Bu_ne (Md_bu v), Bu_ur (Md_bu v), Bu_ln (Md_bu v), zU (Bu_endN (Md_bu v) (Md_now v) i) i (Bu_st (Md_bu v) i), Bu_ma (Md_bu v), Bu_bg (Md_bu v), Bu_ti (Md_bu v))))) F 22 rfl (by omega) (by decide) rfl dX9_passes_78 ?_
          refine gz_iinc (pc := 79) (lv2 := [(1, vI (i + 1)), (0, .ref (a 0))]) F dX9_passes_79 1 rfl (by decide) rfl ?_
          refine gz_goto (pc := 82) (tgt := 23) F dX9_passes_82 (by decide) ?_
          refine gz_eqw (ws2 := MdW cI cZ a ((Md_th v, Md_now v, Md_aw v, Md_mm v, Md_lo v, Md_mt v, Md_sw v, (Bu_n (Md_bu v), Bu_ne (Md_bu v), Bu_ur (Md_bu v), Bu_ln (Md_bu v), Bu_endN (Md_bu v) (Md_now v) (i + 1), Bu_ma (Md_bu v), Bu_bg (Md_bu v), Bu_ti (Md_bu v))))) (by first | rw [Bu_endN_n hi.1 (fun h => c65 h.2) rfl] | rw [Bu_endN_n hi.1 (fun h => c43 h.1) rfl]) ?_
          refine gz_lv [1, 0] rfl ?_
          exact ih23 (i + 1) v (by omega) (by exact hI) (by exact hv) (by omega)
        · refine gz_aload_n (pc := 46) F dX9_passes_46 rfl 0 rfl ?_
          refine gz_get (pc := 47) (v := .ref (a 27)) F hn_X9_passes_X9 0 9 rfl rfl 33 (by decide) fl_X9_passes_89 rfl dX9_passes_47 ?_
          refine gz_iload_n (pc := 50) F dX9_passes_50 rfl 1 rfl ?_
          refine gz_iald (pc := 51) (f := Bu_bg (Md_bu v)) F 27 rfl (by omega) (by decide) dX9_passes_51 ?_
          have b51 := (hBu.2 i).2.2.2.2.2
          refine gz_aload_n (pc := 52) F dX9_passes_52 rfl 0 rfl ?_
          refine gz_get (pc := 53) (v := .ref (a 25)) F hn_X9_passes_X9 0 9 rfl rfl 31 (by decide) fl_X9_passes_83 rfl dX9_passes_53 ?_
          refine gz_iload_n (pc := 56) F dX9_passes_56 rfl 1 rfl ?_
          refine gz_iald (pc := 57) (f := Bu_ln (Md_bu v)) F 25 rfl (by omega) (by decide) dX9_passes_57 ?_
          have b57 := (hBu.2 i).2.2.1
          refine gz_iadd (pc := 58) F dX9_passes_58 ?_
          refine gz_const (pc := 59) F dX9_passes_59 ?_
          refine gz_isub (pc := 60) F dX9_passes_60 ?_
          refine gz_aload_n (pc := 61) F dX9_passes_61 rfl 0 rfl ?_
          refine gz_get (pc := 62) (v := vI (Md_now v)) F hn_X9_passes_X9 0 9 rfl rfl 1 (by decide) fl_X9_passes_144 rfl dX9_passes_62 ?_
          have b62 := hnw
          refine gz_icmp_ne (pc := 65) (tgt := 72) F dX9_passes_65 (by decide) (by omega) (by omega) (fun c65 => ?_) (fun c65 => ?_)
          · refine gz_aload_n (pc := 72) F dX9_passes_72 rfl 0 rfl ?_
            refine gz_get (pc := 73) (v := .ref (a 22)) F hn_X9_passes_X9 0 9 rfl rfl 28 (by decide) fl_X9_passes_74 rfl dX9_passes_73 ?_
            refine gz_iload_n (pc := 76) F dX9_passes_76 rfl 1 rfl ?_
            refine gz_iald (pc := 77) (f := Bu_endN (Md_bu v) (Md_now v) i) F 22 rfl (by omega) (by decide) dX9_passes_77 ?_
            refine gz_eqst (st2 := [vI (Bu_st (Md_bu v) i), vI i, .ref (a 22)]) (by rw [Bu_endN_at]) ?_
            refine gz_iast (pc := 78) (f := Bu_endN (Md_bu v) (Md_now v) i) (ws2 := MdW cI cZ a ((Md_th v, Md_now v, Md_aw v, Md_mm v, Md_lo v, Md_mt v, Md_sw v, (Bu_n (Md_bu v), Bu_ne (Md_bu v), Bu_ur (Md_bu v), Bu_ln (Md_bu v), zU (Bu_endN (Md_bu v) (Md_now v) i) i (Bu_st (Md_bu v) i), Bu_ma (Md_bu v), Bu_bg (Md_bu v), Bu_ti (Md_bu v))))) F 22 rfl (by omega) (by decide) rfl dX9_passes_78 ?_
            refine gz_iinc (pc := 79) (lv2 := [(1, vI (i + 1)), (0, .ref (a 0))]) F dX9_passes_79 1 rfl (by decide) rfl ?_
            refine gz_goto (pc := 82) (tgt := 23) F dX9_passes_82 (by decide) ?_
            refine gz_eqw (ws2 := MdW cI cZ a ((Md_th v, Md_now v, Md_aw v, Md_mm v, Md_lo v, Md_mt v, Md_sw v, (Bu_n (Md_bu v), Bu_ne (Md_bu v), Bu_ur (Md_bu v), Bu_ln (Md_bu v), Bu_endN (Md_bu v) (Md_now v) (i + 1), Bu_ma (Md_bu v), Bu_bg (Md_bu v), Bu_ti (Md_bu v))))) (by first | rw [Bu_endN_n hi.1 (fun h => c65 h.2) rfl] | rw [Bu_endN_n hi.1 (fun h => c43 h.1) rfl]) ?_
            refine gz_lv [1, 0] rfl ?_
            exact ih23 (i + 1) v (by omega) (by exact hI) (by exact hv) (by omega)
          · refine gz_const (pc := 68) F dX9_passes_68 ?_
            refine gz_goto (pc := 69) (tgt := 78) F dX9_passes_69 (by decide) ?_
            refine gz_iast (pc := 78) (f := Bu_endN (Md_bu v) (Md_now v) i) (ws2 := MdW cI cZ a ((Md_th v, Md_now v, Md_aw v, Md_mm v, Md_lo v, Md_mt v, Md_sw v, (Bu_n (Md_bu v), Bu_ne (Md_bu v), Bu_ur (Md_bu v), Bu_ln (Md_bu v), zU (Bu_endN (Md_bu v) (Md_now v) i) i 2, Bu_ma (Md_bu v), Bu_bg (Md_bu v), Bu_ti (Md_bu v))))) F 22 rfl (by omega) (by decide) rfl dX9_passes_78 ?_
            refine gz_iinc (pc := 79) (lv2 := [(1, vI (i + 1)), (0, .ref (a 0))]) F dX9_passes_79 1 rfl (by decide) rfl ?_
            refine gz_goto (pc := 82) (tgt := 23) F dX9_passes_82 (by decide) ?_
            refine gz_eqw (ws2 := MdW cI cZ a ((Md_th v, Md_now v, Md_aw v, Md_mm v, Md_lo v, Md_mt v, Md_sw v, (Bu_n (Md_bu v), Bu_ne (Md_bu v), Bu_ur (Md_bu v), Bu_ln (Md_bu v), Bu_endN (Md_bu v) (Md_now v) (i + 1), Bu_ma (Md_bu v), Bu_bg (Md_bu v), Bu_ti (Md_bu v))))) (by rw [Bu_endN_y hi.1 ⟨c43, c65⟩]) ?_
            refine gz_lv [1, 0] rfl ?_
            exact ih23 (i + 1) v (by omega) (by exact hI) (by exact hv) (by omega)
  have L2 : ∀ (N : Nat) (k : Int) (v : MdS), (6 - k).toNat < N → (MdI v) → (0 ≤ k ∧ k ≤ Mm_n (Md_mm v)) → (v = Md_planN u k.toNat) → gG p l e ({ frames := 5, cells := 0, slots := 0, locals := 118 } : Room) s m args below meth c D A 2 Q 0 0 (MdW cI cZ a v) [(0, .ref (a 0)), (1, vI k)] [] 2 := by
    intro N
    induction N with
    | zero => intro k v hN; exact absurd hN (Nat.not_lt_zero _)
    | succ N ih2 =>
      intro k v hN hI hk hv
      obtain ⟨hnw, hAw, hMm, hLo, ⟨hMt, hMa⟩, hSw, hBu⟩ := id hI
      have hMmn := hMm.1
      have hLon := hLo.1
      have hMtn := hMt.1
      have hSwn := hSw.1
      have hBun := hBu.1
      refine gz_iload_n (pc := 2) F dX9_passes_2 rfl 1 rfl ?_
      refine gz_aload_n (pc := 3) F dX9_passes_3 rfl 0 rfl ?_
      refine gz_get (pc := 4) (v := vI (Mm_n (Md_mm v))) F hn_X9_passes_X9 0 9 rfl rfl 3 (by decide) fl_X9_passes_103 rfl dX9_passes_4 ?_
      have b4 := hMm.1
      refine gz_icmp_ge (pc := 7) (tgt := 21) F dX9_passes_7 (by decide) (by omega) (by omega) (fun c7 => ?_) (fun c7 => ?_)
      · refine gz_const (pc := 21) F dX9_passes_21 ?_
        refine gz_istore_n (pc := 22) (lv2 := [(1, vI 0), (0, .ref (a 0))]) F dX9_passes_22 rfl (by decide) rfl ?_
        refine gz_eqw (ws2 := MdW cI cZ a ((Md_th v, Md_now v, Md_aw v, Md_mm v, Md_lo v, Md_mt v, Md_sw v, (Bu_n (Md_bu v), Bu_ne (Md_bu v), Bu_ur (Md_bu v), Bu_ln (Md_bu v), Bu_endN (Md_bu v) (Md_now v) 0, Bu_ma (Md_bu v), Bu_bg (Md_bu v), Bu_ti (Md_bu v))))) (by rw [Bu_endN_0] <;> rfl) ?_
        refine gz_lv [1, 0] rfl ?_
        exact L23 _ 0 v (Nat.lt_succ_self _) (by exact hI) (by rw [hv, show k.toNat = (Mm_n (Md_mm u)).toNat by (have e9 := (Md_planN_k u k.toNat).1; rw [← hv] at e9; rw [← e9]; congr 1; omega)]) (by omega)
      · refine gz_aload_n (pc := 10) F dX9_passes_10 rfl 0 rfl ?_
        refine gz_iload_n (pc := 11) F dX9_passes_11 rfl 1 rfl ?_
        refine gz_callVb (pc := 12) (n := 1) (As := [vI k]) (rest := []) (bytes := cX9_plan) (maxL := 6) (ret := none) F (ct_X9_plan l D cI cJ cZ a v k hI (by omega)) gX9_passes_X9_plan rfl ⟨rfl, rfl⟩ (by decide +kernel) ⟨Nat.le_of_ble_eq_true rfl, Nat.le_of_ble_eq_true rfl⟩ rfl [] [] ((List.append_nil _).symm) 9 rfl rfl rfl (Nat.le_of_ble_eq_true rfl) ⟨Nat.zero_le _, Nat.zero_le _⟩ (gz_pE_sh rfl) dX9_passes_12 ?_
        refine gz_kEb (ws2 := MdW cI cZ a (Md_plan v k)) ((List.append_nil _).symm).symm ?_
        refine gz_iinc (pc := 15) (lv2 := [(1, vI (k + 1)), (0, .ref (a 0))]) F dX9_passes_15 1 rfl (by decide) rfl ?_
        refine gz_goto (pc := 18) (tgt := 2) F dX9_passes_18 (by decide) ?_
        refine gz_lv [1, 0] rfl ?_
        exact ih2 (k + 1) (Md_plan v k) (by omega) (by first | exact hu | exact Md_plan_I hI (by omega)) (by first | omega | (rw [(Md_plan_s v k).1]; omega)) (by first | rfl | exact Md_planN_s hk.1 hv)
  refine gz_const (pc := 0) F dX9_passes_0 ?_
  refine gz_istore_n (pc := 1) (lv2 := [(1, vI 0), (0, .ref (a 0))]) F dX9_passes_1 rfl (by decide) rfl ?_
  refine gz_lv [1, 0] rfl ?_
  exact L2 _ 0 u (Nat.lt_succ_self _) (by first | exact hu | exact Md_plan_I hI (by omega)) (by first | omega | (rw [(Md_plan_s v k).1]; omega)) (by first | rfl | exact Md_planN_s hk.1 hv)
