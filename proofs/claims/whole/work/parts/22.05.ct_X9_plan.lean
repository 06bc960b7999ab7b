/-! ===== laid by wip/whole/gen/md2.py ===== -/
theorem hn_X9_plan_X9 : ∀ w ∈ u_ws RX9 TX9 35, w ∈ wsX9_plan := by decide +kernel
theorem fl_X9_plan_74 : Cond.fieldLink RX9 74 (TX9 28).1 (TX9 28).2.1 (TX9 28).2.2.1 ∈ wsX9_plan := by decide +kernel
theorem fl_X9_plan_86 : Cond.fieldLink RX9 86 (TX9 32).1 (TX9 32).2.1 (TX9 32).2.2.1 ∈ wsX9_plan := by decide +kernel
theorem fl_X9_plan_89 : Cond.fieldLink RX9 89 (TX9 33).1 (TX9 33).2.1 (TX9 33).2.2.1 ∈ wsX9_plan := by decide +kernel
theorem fl_X9_plan_144 : Cond.fieldLink RX9 144 (TX9 1).1 (TX9 1).2.1 (TX9 1).2.2.1 ∈ wsX9_plan := by decide +kernel
theorem fl_X9_plan_92 : Cond.fieldLink RX9 92 (TX9 34).1 (TX9 34).2.1 (TX9 34).2.2.1 ∈ wsX9_plan := by decide +kernel
theorem fl_X9_plan_112 : Cond.fieldLink RX9 112 (TX9 27).1 (TX9 27).2.1 (TX9 27).2.2.1 ∈ wsX9_plan := by decide +kernel
theorem fl_X9_plan_80 : Cond.fieldLink RX9 80 (TX9 30).1 (TX9 30).2.1 (TX9 30).2.2.1 ∈ wsX9_plan := by decide +kernel
set_option maxHeartbeats 4000000 in
set_option maxRecDepth 100000 in
theorem ct_X9_plan (l : Launch) (D : va_G) (cI cJ cZ : ClassId) (a : Nat → Nat) (u : MdS) (p0 : Int) (hu : MdI u) (h0 : 0 ≤ p0 ∧ p0 < 6) : gz_M l yX9_plan wsX9_plan { frames := 4, cells := 0, slots := 0, locals := 93 } D cI cJ cZ [.ref (a 0), vI p0] (MdW cI cZ a u) (gz_pE (MdW cI cZ a (Md_plan u p0))) := by
  refine gz_ofV (cc := cX9_plan) (maxL := 6) (own := RX9) (by decide) rfl rfl (Nat.le_of_ble_eq_true rfl) (lv0 := [(0, .ref (a 0)), (1, vI p0)]) rfl ?_
  intro p e s m args below meth c A Q F Z
  obtain ⟨hnw, hAw, hMm, hLo, ⟨hMt, hMa⟩, hSw, hBu⟩ := id hu
  have hMmn := hMm.1
  have hLon := hLo.1
  have hMtn := hMt.1
  have hSwn := hSw.1
  have hBun := hBu.1
  have J136 : ∀ (g : Int), (g = Md_pick u p0) → (-1 ≤ g ∧ g < Bu_n (Md_bu u)) → gG p l e ({ frames := 4, cells := 0, slots := 0, locals := 93 } : Room) s m args below meth c D A 6 Q 0 0 (MdW cI cZ a u) [(0, .ref (a 0)), (1, vI p0), (2, vI g)] [] 136 := by
    intro g hG hgr
    refine gz_iload_n (pc := 136) F dX9_plan_136 rfl 2 rfl ?_
    refine gz_const (pc := 137) F dX9_plan_137 ?_
    refine gz_icmp_eq (pc := 138) (tgt := 175) F dX9_plan_138 (by decide) (by omega) (by omega) (fun c138 => ?_) (fun c138 => ?_)
    · refine Z _ _ 175 dX9_plan_175 ?_
      refine ⟨rfl, ?_⟩
      first | exact (congrArg (MdW cI cZ a) (Md_plan_n (hG.symm.trans c138))).symm | exact (congrArg (MdW cI cZ a) (Md_plan_y hG c138)).symm
    · refine gz_aload_n (pc := 141) F dX9_plan_141 rfl 0 rfl ?_
      refine gz_get (pc := 142) (v := .ref (a 22)) F hn_X9_plan_X9 0 9 rfl rfl 28 (by decide) fl_X9_plan_74 rfl dX9_plan_142 ?_
      refine gz_iload_n (pc := 145) F dX9_plan_145 rfl 2 rfl ?_
      refine gz_const (pc := 146) F dX9_plan_146 ?_
      refine gz_iast (pc := 147) (f := Bu_st (Md_bu u)) (ws2 := MdW cI cZ a ((Md_th u, Md_now u, Md_aw u, Md_mm u, Md_lo u, Md_mt u, Md_sw u, (Bu_n (Md_bu u), Bu_ne (Md_bu u), Bu_ur (Md_bu u), Bu_ln (Md_bu u), zU (Bu_st (Md_bu u)) g 1, Bu_ma (Md_bu u), Bu_bg (Md_bu u), Bu_ti (Md_bu u))))) F 22 rfl (by omega) (by decide) rfl dX9_plan_147 ?_
      refine gz_aload_n (pc := 148) F dX9_plan_148 rfl 0 rfl ?_
      refine gz_get (pc := 149) (v := .ref (a 26)) F hn_X9_plan_X9 0 9 rfl rfl 32 (by decide) fl_X9_plan_86 rfl dX9_plan_149 ?_
      refine gz_iload_n (pc := 152) F dX9_plan_152 rfl 2 rfl ?_
      refine gz_iload_n (pc := 153) F dX9_plan_153 rfl 1 rfl ?_
      refine gz_iast (pc := 154) (f := Bu_ma (Md_bu u)) (ws2 := MdW cI cZ a ((Md_th u, Md_now u, Md_aw u, Md_mm u, Md_lo u, Md_mt u, Md_sw u, (Bu_n (Md_bu u), Bu_ne (Md_bu u), Bu_ur (Md_bu u), Bu_ln (Md_bu u), zU (Bu_st (Md_bu u)) g 1, zU (Bu_ma (Md_bu u)) g p0, Bu_bg (Md_bu u), Bu_ti (Md_bu u))))) F 26 rfl (by omega) (by decide) rfl dX9_plan_154 ?_
      refine gz_aload_n (pc := 155) F dX9_plan_155 rfl 0 rfl ?_
      refine gz_get (pc := 156) (v := .ref (a 27)) F hn_X9_plan_X9 0 9 rfl rfl 33 (by decide) fl_X9_plan_89 rfl dX9_plan_156 ?_
      refine gz_iload_n (pc := 159) F dX9_plan_159 rfl 2 rfl ?_
      refine gz_aload_n (pc := 160) F dX9_plan_160 rfl 0 rfl ?_
      refine gz_get (pc := 161) (v := vI (Md_now u)) F hn_X9_plan_X9 0 9 rfl rfl 1 (by decide) fl_X9_plan_144 rfl dX9_plan_161 ?_
      have b161 := hnw
      refine gz_iast (pc := 164) (f := Bu_bg (Md_bu u)) (ws2 := MdW cI cZ a ((Md_th u, Md_now u, Md_aw u, Md_mm u, Md_lo u, Md_mt u, Md_sw u, (Bu_n (Md_bu u), Bu_ne (Md_bu u), Bu_ur (Md_bu u), Bu_ln (Md_bu u), zU (Bu_st (Md_bu u)) g 1, zU (Bu_ma (Md_bu u)) g p0, zU (Bu_bg (Md_bu u)) g (Md_now u), Bu_ti (Md_bu u))))) F 27 rfl (by omega) (by decide) rfl dX9_plan_164 ?_
      refine gz_aload_n (pc := 165) F dX9_plan_165 rfl 0 rfl ?_
      refine gz_get (pc := 166) (v := .ref (a 28)) F hn_X9_plan_X9 0 9 rfl rfl 34 (by decide) fl_X9_plan_92 rfl dX9_plan_166 ?_
      refine gz_iload_n (pc := 169) F dX9_plan_169 rfl 2 rfl ?_
      refine gz_dup2 (pc := 170) F dX9_plan_170 rfl rfl ?_
      refine gz_iald (pc := 171) (f := Bu_ti (Md_bu u)) F 28 rfl (by omega) (by decide) dX9_plan_171 ?_
      refine gz_const (pc := 172) F dX9_plan_172 ?_
      refine gz_iadd (pc := 173) F dX9_plan_173 ?_
      refine gz_iast (pc := 174) (f := Bu_ti (Md_bu u)) (ws2 := MdW cI cZ a ((Md_th u, Md_now u, Md_aw u, Md_mm u, Md_lo u, Md_mt u, Md_sw u, (Bu_n (Md_bu u), Bu_ne (Md_bu u), Bu_ur (Md_bu u), Bu_ln (Md_bu u), zU (Bu_st (Md_bu u)) g 1, zU (Bu_ma (Md_bu u)) g p0, zU (Bu_bg (Md_bu u)) g (Md_now u), zU (Bu_ti (Md_bu u)) g ((Bu_ti (Md_bu u) g) + 1))))) F 28 rfl (by omega) (by decide) rfl dX9_plan_174 ?_
      refine Z _ _ 175 dX9_plan_175 ?_
      refine ⟨rfl, ?_⟩
      first | exact (congrArg (MdW cI cZ a) (Md_plan_n (hG.symm.trans c138))).symm | exact (congrArg (MdW cI cZ a) (Md_plan_y hG c138)).symm
  have L57 : ∀ (N : Nat) (i : Int) (g : Int) (b : Int), (Bu_n (Md_bu u) - i).toNat < N → (0 ≤ i ∧ i ≤ Bu_n (Md_bu u)) → (b = bz (Bu_bsy (Md_bu u) (Bu_n (Md_bu u)) p0)) → (g = Md_bestN u p0 i.toNat) → (-1 ≤ g ∧ g < i) → (b ≠ 0 → g = -1) → gG p l e ({ frames := 4, cells := 0, slots := 0, locals := 93 } : Room) s m args below meth c D A 6 Q 0 0 (MdW cI cZ a u) [(0, .ref (a 0)), (1, vI p0), (2, vI g), (3, vI b), (4, vI i)] [] 57 := by
    intro N
    induction N with
    | zero => intro i g b hN; exact absurd hN (Nat.not_lt_zero _)
    | succ N ih57 =>
      intro i g b hN hi hb hg hgr h0b
      have hbr := bz_rb hb
      refine gz_iload (pc := 57) F dX9_plan_57 4 rfl ?_
      refine gz_aload_n (pc := 59) F dX9_plan_59 rfl 0 rfl ?_
      refine gz_get (pc := 60) (v := vI (Bu_n (Md_bu u))) F hn_X9_plan_X9 0 9 rfl rfl 27 (by decide) fl_X9_plan_112 rfl dX9_plan_60 ?_
      have b60 := hBu.1
      refine gz_icmp_ge (pc := 63) (tgt := 136) F dX9_plan_63 (by decide) (by omega) (by omega) (fun c63 => ?_) (fun c63 => ?_)
      · refine gz_lv [0, 1, 2] rfl ?_
        exact J136 g (by first | exact Md_pick_e hb (Or.inr c67) hg h0b | exact Md_pick_e hb (Or.inl (by omega)) hg h0b) (by omega)
      · refine gz_iload_n (pc := 66) F dX9_plan_66 rfl 3 rfl ?_
        refine gz_if_ne (pc := 67) (tgt := 136) F dX9_plan_67 (by decide) (by omega) (fun c67 => ?_) (fun c67 => ?_)
        · refine gz_lv [0, 1, 2] rfl ?_
          exact J136 g (by first | exact Md_pick_e hb (Or.inr c67) hg h0b | exact Md_pick_e hb (Or.inl (by omega)) hg h0b) (by omega)
        · refine gz_aload_n (pc := 70) F dX9_plan_70 rfl 0 rfl ?_
          refine gz_get (pc := 71) (v := .ref (a 22)) F hn_X9_plan_X9 0 9 rfl rfl 28 (by decide) fl_X9_plan_74 rfl dX9_plan_71 ?_
          refine gz_iload (pc := 74) F dX9_plan_74 4 rfl ?_
          refine gz_iald (pc := 76) (f := Bu_st (Md_bu u)) F 22 rfl (by omega) (by decide) dX9_plan_76 ?_
          have b76 := (hBu.2 i).2.2.2.1
          refine gz_if_ne (pc := 77) (tgt := 115) F dX9_plan_77 (by decide) (by omega) (fun c77 => ?_) (fun c77 => ?_)
          · refine gz_const (pc := 115) F dX9_plan_115 ?_
            refine gz_istore (pc := 116) (lv2 := [(5, vI 0), (0, .ref (a 0)), (1, vI p0), (2, vI g), (3, vI b), (4, vI i)]) F dX9_plan_116 (by decide) rfl ?_
            refine gz_iload (pc := 118) F dX9_plan_118 0 rfl ?_
            refine gz_if_eq (pc := 120) (tgt := 128) F dX9_plan_120 (by decide) (by omega) (fun c120 => ?_) (fun c120 => ?_)
            · refine gz_iload_n (pc := 128) F dX9_plan_128 rfl 3 rfl ?_
              refine gz_istore_n (pc := 129) (lv2 := [(2, vI g), (5, vI 0), (0, .ref (a 0)), (1, vI p0), (3, vI b), (4, vI i)]) F dX9_plan_129 rfl (by decide) rfl ?_
              refine gz_iinc (pc := 130) (lv2 := [(4, vI (i + 1)), (2, vI g), (5, vI 0), (0, .ref (a 0)), (1, vI p0), (3, vI b)]) F dX9_plan_130 5 rfl (by decide) rfl ?_
              refine gz_goto (pc := 133) (tgt := 57) F dX9_plan_133 (by decide) ?_
              refine gz_lv [3, 4, 1, 5, 0] rfl ?_
              exact ih57 (i + 1) g b (by omega) (by omega) (by exact hb) (by first | exact Md_bestN_n hi.1 hg (fun h => c108 h.2.2) | exact Md_bestN_n hi.1 hg (fun h => h.2.1.elim c82 (fun q => absurd q (Int.not_lt.mpr c98))) | exact Md_bestN_n hi.1 hg (fun h => c77 h.1)) (by omega) (by exact fun h => absurd c67 h)
            · exact absurd c120 (by decide)
          · refine gz_iload_n (pc := 80) F dX9_plan_80 rfl 2 rfl ?_
            refine gz_const (pc := 81) F dX9_plan_81 ?_
            refine gz_icmp_eq (pc := 82) (tgt := 101) F dX9_plan_82 (by decide) (by omega) (by omega) (fun c82 => ?_) (fun c82 => ?_)
            · refine gz_aload_n (pc := 101) F dX9_plan_101 rfl 0 rfl ?_
              refine gz_iload_n (pc := 102) F dX9_plan_102 rfl 1 rfl ?_
              refine gz_iload (pc := 103) F dX9_plan_103 4 rfl ?_
              refine gz_callVb (pc := 105) (n := 2) (As := [vI p0, vI i]) (rest := []) (bytes := cX9_canRun) (maxL := 5) (ret := some .boolean) F (ct_X9_canRun l D cI cJ cZ a u p0 i hu (by omega) (by omega)) gX9_plan_X9_canRun rfl ⟨rfl, rfl⟩ (by decide +kernel) ⟨Nat.le_of_ble_eq_true rfl, Nat.le_of_ble_eq_true rfl⟩ rfl [] [] ((List.append_nil _).symm) 9 rfl rfl rfl (Nat.le_of_ble_eq_true rfl) ⟨Nat.zero_le _, Nat.zero_le _⟩ gz_pI_sh dX9_plan_105 ?_
              refine gz_kIb ((List.append_nil _).symm).symm (fun r105 h105 => ?_)
              subst h105
              refine gz_if_eqb (pc := 108) (tgt := 115) F dX9_plan_108 (by decide) (fun c108 => ?_) (fun c108 => ?_)
              · refine gz_const (pc := 115) F dX9_plan_115 ?_
                refine gz_istore (pc := 116) (lv2 := [(5, vI 0), (0, .ref (a 0)), (1, vI p0), (2, vI g), (3, vI b), (4, vI i)]) F dX9_plan_116 (by decide) rfl ?_
                refine gz_iload (pc := 118) F dX9_plan_118 0 rfl ?_
                refine gz_if_eq (pc := 120) (tgt := 128) F dX9_plan_120 (by decide) (by omega) (fun c120 => ?_) (fun c120 => ?_)
                · refine gz_iload_n (pc := 128) F dX9_plan_128 rfl 3 rfl ?_
                  refine gz_istore_n (pc := 129) (lv2 := [(2, vI g), (5, vI 0), (0, .ref (a 0)), (1, vI p0), (3, vI b), (4, vI i)]) F dX9_plan_129 rfl (by decide) rfl ?_
                  refine gz_iinc (pc := 130) (lv2 := [(4, vI (i + 1)), (2, vI g), (5, vI 0), (0, .ref (a 0)), (1, vI p0), (3, vI b)]) F dX9_plan_130 5 rfl (by decide) rfl ?_
                  refine gz_goto (pc := 133) (tgt := 57) F dX9_plan_133 (by decide) ?_
                  refine gz_lv [3, 4, 1, 5, 0] rfl ?_
                  exact ih57 (i + 1) g b (by omega) (by omega) (by exact hb) (by first | exact Md_bestN_n hi.1 hg (fun h => c108 h.2.2) | exact Md_bestN_n hi.1 hg (fun h => h.2.1.elim c82 (fun q => absurd q (Int.not_lt.mpr c98))) | exact Md_bestN_n hi.1 hg (fun h => c77 h.1)) (by omega) (by exact fun h => absurd c67 h)
                · exact absurd c120 (by decide)
              · refine gz_const (pc := 111) F dX9_plan_111 ?_
                refine gz_goto (pc := 112) (tgt := 116) F dX9_plan_112 (by decide) ?_
                refine gz_istore (pc := 116) (lv2 := [(5, vI 1), (0, .ref (a 0)), (1, vI p0), (2, vI g), (3, vI b), (4, vI i)]) F dX9_plan_116 (by decide) rfl ?_
                refine gz_iload (pc := 118) F dX9_plan_118 0 rfl ?_
                refine gz_if_eq (pc := 120) (tgt := 128) F dX9_plan_120 (by decide) (by omega) (fun c120 => ?_) (fun c120 => ?_)
                · exact absurd c120 (by decide)
                · refine gz_iload (pc := 123) F dX9_plan_123 5 rfl ?_
                  refine gz_goto (pc := 125) (tgt := 129) F dX9_plan_125 (by decide) ?_
                  refine gz_istore_n (pc := 129) (lv2 := [(2, vI i), (5, vI 1), (0, .ref (a 0)), (1, vI p0), (3, vI b), (4, vI i)]) F dX9_plan_129 rfl (by decide) rfl ?_
                  refine gz_iinc (pc := 130) (lv2 := [(4, vI (i + 1)), (2, vI i), (5, vI 1), (0, .ref (a 0)), (1, vI p0), (3, vI b)]) F dX9_plan_130 5 rfl (by decide) rfl ?_
                  refine gz_goto (pc := 133) (tgt := 57) F dX9_plan_133 (by decide) ?_
                  refine gz_lv [3, 4, 1, 5, 0] rfl ?_
                  exact ih57 (i + 1) i b (by omega) (by omega) (by exact hb) (by first | exact Md_bestN_y hi.1 hg ⟨c77, Or.inr c98, c108⟩ | exact Md_bestN_y hi.1 hg ⟨c77, Or.inl c82, c108⟩) (by omega) (by exact fun h => absurd c67 h)
            · refine gz_aload_n (pc := 85) F dX9_plan_85 rfl 0 rfl ?_
              refine gz_get (pc := 86) (v := .ref (a 24)) F hn_X9_plan_X9 0 9 rfl rfl 30 (by decide) fl_X9_plan_80 rfl dX9_plan_86 ?_
              refine gz_iload (pc := 89) F dX9_plan_89 4 rfl ?_
              refine gz_iald (pc := 91) (f := Bu_ur (Md_bu u)) F 24 rfl (by omega) (by decide) dX9_plan_91 ?_
              have b91 := (hBu.2 i).2.1
              refine gz_aload_n (pc := 92) F dX9_plan_92 rfl 0 rfl ?_
              refine gz_get (pc := 93) (v := .ref (a 24)) F hn_X9_plan_X9 0 9 rfl rfl 30 (by decide) fl_X9_plan_80 rfl dX9_plan_93 ?_
              refine gz_iload_n (pc := 96) F dX9_plan_96 rfl 2 rfl ?_
              refine gz_iald (pc := 97) (f := Bu_ur (Md_bu u)) F 24 rfl (by omega) (by decide) dX9_plan_97 ?_
              have b97 := (hBu.2 g).2.1
              refine gz_icmp_le (pc := 98) (tgt := 115) F dX9_plan_98 (by decide) (by omega) (by omega) (fun c98 => ?_) (fun c98 => ?_)
              · refine gz_const (pc := 115) F dX9_plan_115 ?_
                refine gz_istore (pc := 116) (lv2 := [(5, vI 0), (0, .ref (a 0)), (1, vI p0), (2, vI g), (3, vI b), (4, vI i)]) F dX9_plan_116 (by decide) rfl ?_
                refine gz_iload (pc := 118) F dX9_plan_118 0 rfl ?_
                refine gz_if_eq (pc := 120) (tgt := 128) F dX9_plan_120 (by decide) (by omega) (fun c120 => ?_) (fun c120 => ?_)
                · refine gz_iload_n (pc := 128) F dX9_plan_128 rfl 3 rfl ?_
                  refine gz_istore_n (pc := 129) (lv2 := [(2, vI g), (5, vI 0), (0, .ref (a 0)), (1, vI p0), (3, vI b), (4, vI i)]) F dX9_plan_129 rfl (by decide) rfl ?_
                  refine gz_iinc (pc := 130) (lv2 := [(4, vI (i + 1)), (2, vI g), (5, vI 0), (0, .ref (a 0)), (1, vI p0), (3, vI b)]) F dX9_plan_130 5 rfl (by decide) rfl ?_
                  refine gz_goto (pc := 133) (tgt := 57) F dX9_plan_133 (by decide) ?_
                  refine gz_lv [3, 4, 1, 5, 0] rfl ?_
                  exact ih57 (i + 1) g b (by omega) (by omega) (by exact hb) (by first | exact Md_bestN_n hi.1 hg (fun h => c108 h.2.2) | exact Md_bestN_n hi.1 hg (fun h => h.2.1.elim c82 (fun q => absurd q (Int.not_lt.mpr c98))) | exact Md_bestN_n hi.1 hg (fun h => c77 h.1)) (by omega) (by exact fun h => absurd c67 h)
                · exact absurd c120 (by decide)
              · refine gz_aload_n (pc := 101) F dX9_plan_101 rfl 0 rfl ?_
                refine gz_iload_n (pc := 102) F dX9_plan_102 rfl 1 rfl ?_
                refine gz_iload (pc := 103) F dX9_plan_103 4 rfl ?_
                refine gz_callVb (pc := 105) (n := 2) (As := [vI p0, vI i]) (rest := []) (bytes := cX9_canRun) (maxL := 5) (ret := some .boolean) F (ct_X9_canRun l D cI cJ cZ a u p0 i hu (by omega) (by omega)) gX9_plan_X9_canRun rfl ⟨rfl, rfl⟩ (by decide +kernel) ⟨Nat.le_of_ble_eq_true rfl, Nat.le_of_ble_eq_true rfl⟩ rfl [] [] ((List.append_nil _).symm) 9 rfl rfl rfl (Nat.le_of_ble_eq_true rfl) ⟨Nat.zero_le _, Nat.zero_le _⟩ gz_pI_sh dX9_plan_105 ?_
                refine gz_kIb ((List.append_nil _).symm).symm (fun r105 h105 => ?_)
                subst h105
                refine gz_if_eqb (pc := 108) (tgt := 115) F dX9_plan_108 (by decide) (fun c108 => ?_) (fun c108 => ?_)
                · refine gz_const (pc := 115) F dX9_plan_115 ?_
                  refine gz_istore (pc := 116) (lv2 := [(5, vI 0), (0, .ref (a 0)), (1, vI p0), (2, vI g), (3, vI b), (4, vI i)]) F dX9_plan_116 (by decide) rfl ?_
                  refine gz_iload (pc := 118) F dX9_plan_118 0 rfl ?_
                  refine gz_if_eq (pc := 120) (tgt := 128) F dX9_plan_120 (by decide) (by omega) (fun c120 => ?_) (fun c120 => ?_)
                  · refine gz_iload_n (pc := 128) F dX9_plan_128 rfl 3 rfl ?_
                    refine gz_istore_n (pc := 129) (lv2 := [(2, vI g), (5, vI 0), (0, .ref (a 0)), (1, vI p0), (3, vI b), (4, vI i)]) F dX9_plan_129 rfl (by decide) rfl ?_
                    refine gz_iinc (pc := 130) (lv2 := [(4, vI (i + 1)), (2, vI g), (5, vI 0), (0, .ref (a 0)), (1, vI p0), (3, vI b)]) F dX9_plan_130 5 rfl (by decide) rfl ?_
                    refine gz_goto (pc := 133) (tgt := 57) F dX9_plan_133 (by decide) ?_
                    refine gz_lv [3, 4, 1, 5, 0] rfl ?_
                    exact ih57 (i + 1) g b (by omega) (by omega) (by exact hb) (by first | exact Md_bestN_n hi.1 hg (fun h => c108 h.2.2) | exact Md_bestN_n hi.1 hg (fun h => h.2.1.elim c82 (fun q => absurd q (Int.not_lt.mpr c98))) | exact Md_bestN_n hi.1 hg (fun h => c77 h.1)) (by omega) (by exact fun h => absurd c67 h)
                  · exact absurd c120 (by decide)
                · refine gz_const (pc := 111) F dX9_plan_111 ?_
                  refine gz_goto (pc := 112) (tgt := 116) F dX9_plan_112 (by decide) ?_
                  refine gz_istore (pc := 116) (lv2 := [(5, vI 1), (0, .ref (a 0)), (1, vI p0), (2, vI g), (3, vI b), (4, vI i)]) F dX9_plan_116 (by decide) rfl ?_
                  refine gz_iload (pc := 118) F dX9_plan_118 0 rfl ?_
                  refine gz_if_eq (pc := 120) (tgt := 128) F dX9_plan_120 (by decide) (by omega) (fun c120 => ?_) (fun c120 => ?_)
                  · exact absurd c120 (by decide)
                  · refine gz_iload (pc := 123) F dX9_plan_123 5 rfl ?_
                    refine gz_goto (pc := 125) (tgt := 129) F dX9_plan_125 (by decide) ?_
                    refine gz_istore_n (pc := 129) (lv2 := [(2, vI i), (5, vI 1), (0, .ref (a 0)), (1, vI p0), (3, vI b), (4, vI i)]) F dX9_plan_129 rfl (by decide) rfl ?_
                    refine gz_iinc (pc := 130) (lv2 := [(4, vI (i + 1)), (2, vI i), (5, vI 1), (0, .ref (a 0)), (1, vI p0), (3, vI b)]) F dX9_plan_130 5 rfl (by decide) rfl ?_
                    refine gz_goto (pc := 133) (tgt := 57) F dX9_plan_133 (by decide) ?_
                    refine gz_lv [3, 4, 1, 5, 0] rfl ?_
                    exact ih57 (i + 1) i b (by omega) (by omega) (by exact hb) (by first | exact Md_bestN_y hi.1 hg ⟨c77, Or.inr c98, c108⟩ | exact Md_bestN_y hi.1 hg ⟨c77, Or.inl c82, c108⟩) (by omega) (by exact fun h => absurd c67 h)
  have L7 : ∀ (N : Nat) (i : Int) (b : Int), (Bu_n (Md_bu u) - i).toNat < N → (0 ≤ i ∧ i ≤ Bu_n (Md_bu u)) → (b = bz (Bu_bsy (Md_bu u) i p0)) → gG p l e ({ frames := 4, cells := 0, slots := 0, locals := 93 } : Room) s m args below meth c D A 6 Q 0 0 (MdW cI cZ a u) [(0, .ref (a 0)), (1, vI p0), (2, vI (-1)), (3, vI b), (4, vI i)] [] 7 := by
    intro N
    induction N with
    | zero => intro i b hN; exact absurd hN (Nat.not_lt_zero _)
    | succ N ih7 =>
      intro i b hN hi hb
      have hbr := bz_rb hb
      refine gz_iload (pc := 7) F dX9_plan_7 4 rfl ?_
      refine gz_aload_n (pc := 9) F dX9_plan_9 rfl 0 rfl ?_
      refine gz_get (pc := 10) (v := vI (Bu_n (Md_bu u))) F hn_X9_plan_X9 0 9 rfl rfl 27 (by decide) fl_X9_plan_112 rfl dX9_plan_10 ?_
      have b10 := hBu.1
      refine gz_icmp_ge (pc := 13) (tgt := 54) F dX9_plan_13 (by decide) (by omega) (by omega) (fun c13 => ?_) (fun c13 => ?_)
      · refine gz_const (pc := 54) F dX9_plan_54 ?_
        refine gz_istore (pc := 55) (lv2 := [(4, vI 0), (0, .ref (a 0)), (1, vI p0), (2, vI (-1)), (3, vI b)]) F dX9_plan_55 (by decide) rfl ?_
        refine gz_lv [1, 2, 3, 4, 0] rfl ?_
        exact L57 _ 0 (-1) b (Nat.lt_succ_self _) (by omega) (by rw [hb, show i = Bu_n (Md_bu u) by omega]) (by rfl) (by omega) (by exact fun _ => rfl)
      · refine gz_iload_n (pc := 16) F dX9_plan_16 rfl 3 rfl ?_
        refine gz_if_ne (pc := 17) (tgt := 42) F dX9_plan_17 (by decide) (by omega) (fun c17 => ?_) (fun c17 => ?_)
        · refine gz_const (pc := 42) F dX9_plan_42 ?_
          refine gz_goto (pc := 43) (tgt := 47) F dX9_plan_43 (by decide) ?_
          refine gz_istore_n (pc := 47) (lv2 := [(3, vI 1), (0, .ref (a 0)), (1, vI p0), (2, vI (-1)), (4, vI i)]) F dX9_plan_47 rfl (by decide) rfl ?_
          refine gz_iinc (pc := 48) (lv2 := [(4, vI (i + 1)), (3, vI 1), (0, .ref (a 0)), (1, vI p0), (2, vI (-1))]) F dX9_plan_48 4 rfl (by decide) rfl ?_
          refine gz_goto (pc := 51) (tgt := 7) F dX9_plan_51 (by decide) ?_
          refine gz_lv [2, 3, 4, 1, 0] rfl ?_
          exact ih7 (i + 1) 1 (by omega) (by omega) (by first | exact bzT (Bu_bsy_up (bz_of1 hb c17)) | exact bzT (Bu_bsy_at hi.1 c28 c39))
        · refine gz_aload_n (pc := 20) F dX9_plan_20 rfl 0 rfl ?_
          refine gz_get (pc := 21) (v := .ref (a 22)) F hn_X9_plan_X9 0 9 rfl rfl 28 (by decide) fl_X9_plan_74 rfl dX9_plan_21 ?_
          refine gz_iload (pc := 24) F dX9_plan_24 4 rfl ?_
          refine gz_iald (pc := 26) (f := Bu_st (Md_bu u)) F 22 rfl (by omega) (by decide) dX9_plan_26 ?_
          have b26 := (hBu.2 i).2.2.2.1
          refine gz_const (pc := 27) F dX9_plan_27 ?_
          refine gz_icmp_ne (pc := 28) (tgt := 46) F dX9_plan_28 (by decide) (by omega) (by omega) (fun c28 => ?_) (fun c28 => ?_)
          · refine gz_const (pc := 46) F dX9_plan_46 ?_
            refine gz_istore_n (pc := 47) (lv2 := [(3, vI 0), (0, .ref (a 0)), (1, vI p0), (2, vI (-1)), (4, vI i)]) F dX9_plan_47 rfl (by decide) rfl ?_
            refine gz_iinc (pc := 48) (lv2 := [(4, vI (i + 1)), (3, vI 0), (0, .ref (a 0)), (1, vI p0), (2, vI (-1))]) F dX9_plan_48 4 rfl (by decide) rfl ?_
            refine gz_goto (pc := 51) (tgt := 7) F dX9_plan_51 (by decide) ?_
            refine gz_lv [2, 3, 4, 1, 0] rfl ?_
            exact ih7 (i + 1) 0 (by omega) (by omega) (by first | exact bzF (Bu_bsy_nx (bz_of0 hb c17) (fun h => c39 h.2)) | exact bzF (Bu_bsy_nx (bz_of0 hb c17) (fun h => c28 h.1)))
          · refine gz_aload_n (pc := 31) F dX9_plan_31 rfl 0 rfl ?_
            refine gz_get (pc := 32) (v := .ref (a 26)) F hn_X9_plan_X9 0 9 rfl rfl 32 (by decide) fl_X9_plan_86 rfl dX9_plan_32 ?_
            refine gz_iload (pc := 35) F dX9_plan_35 4 rfl ?_
            refine gz_iald (pc := 37) (f := Bu_ma (Md_bu u)) F 26 rfl (by omega) (by decide) dX9_plan_37 ?_
            have b37 := (hBu.2 i).2.2.2.2.1
            refine gz_iload_n (pc := 38) F dX9_plan_38 rfl 1 rfl ?_
            refine gz_icmp_ne (pc := 39) (tgt := 46) F dX9_plan_39 (by decide) (by omega) (by omega) (fun c39 => ?_) (fun c39 => ?_)
            · refine gz_const (pc := 46) F dX9_plan_46 ?_
              refine gz_istore_n (pc := 47) (lv2 := [(3, vI 0), (0, .ref (a 0)), (1, vI p0), (2, vI (-1)), (4, vI i)]) F dX9_plan_47 rfl (by decide) rfl ?_
              refine gz_iinc (pc := 48) (lv2 := [(4, vI (i + 1)), (3, vI 0), (0, .ref (a 0)), (1, vI p0), (2, vI (-1))]) F dX9_plan_48 4 rfl (by decide) rfl ?_
              refine gz_goto (pc := 51) (tgt := 7) F dX9_plan_51 (by decide) ?_
              refine gz_lv [2, 3, 4, 1, 0] rfl ?_
              exact ih7 (i + 1) 0 (by omega) (by omega) (by first | exact bzF (Bu_bsy_nx (bz_of0 hb c17) (fun h => c39 h.2)) | exact bzF (Bu_bsy_nx (bz_of0 hb c17) (fun h => c28 h.1)))
            · refine gz_const (pc := 42) F dX9_plan_42 ?_
              refine gz_goto (pc := 43) (tgt := 47) F dX9_plan_43 (by decide) ?_
              refine gz_istore_n (pc := 47) (lv2 := [(3, vI 1), (0, .ref (a 0)), (1, vI p0), (2, vI (-1)), (4, vI i)]) F dX9_plan_47 rfl (by decide) rfl ?_
              refine gz_iinc (pc := 48) (lv2 := [(4, vI (i + 1)), (3, vI 1), (0, .ref (a 0)), (1, vI p0), (2, vI (-1))]) F dX9_plan_48 4 rfl (by decide) rfl ?_
              refine gz_goto (pc := 51) (tgt := 7) F dX9_plan_51 (by decide) ?_
              refine gz_lv [2, 3, 4, 1, 0] rfl ?_
              exact ih7 (i + 1) 1 (by omega) (by omega) (by first | exact bzT (Bu_bsy_up (bz_of1 hb c17)) | exact bzT (Bu_bsy_at hi.1 c28 c39))
  refine gz_const (pc := 0) F dX9_plan_0 ?_
  refine gz_istore_n (pc := 1) (lv2 := [(2, vI (-1)), (0, .ref (a 0)), (1, vI p0)]) F dX9_plan_1 rfl (by decide) rfl ?_
  refine gz_const (pc := 2) F dX9_plan_2 ?_
  refine gz_istore_n (pc := 3) (lv2 := [(3, vI 0), (2, vI (-1)), (0, .ref (a 0)), (1, vI p0)]) F dX9_plan_3 rfl (by decide) rfl ?_
  refine gz_const (pc := 4) F dX9_plan_4 ?_
  refine gz_istore (pc := 5) (lv2 := [(4, vI 0), (3, vI 0), (2, vI (-1)), (0, .ref (a 0)), (1, vI p0)]) F dX9_plan_5 (by decide) rfl ?_
  refine gz_lv [3, 4, 2, 1, 0] rfl ?_
  exact L7 _ 0 0 (Nat.lt_succ_self _) (by omega) (by exact bzF (Bu_bsy_0 _ _))
