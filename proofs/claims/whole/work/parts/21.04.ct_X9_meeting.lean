/-! ===== laid by wip/whole/gen/md.py ===== -/
abbrev md_meeting (u : MdS) (p0 p1 p2 p3 : Int) : List (Prop × Int) := [(¬ (p3 = -1 ∨ (0 ≤ p3 ∧ p3 ≤ Mm_n (Md_mm u) - 1)), 1), (¬ ((1 ≤ p0 ∧ p0 ≤ 1023) ∧ (Md_now u ≤ p1 ∧ p1 ≤ 399) ∧ (1 ≤ p2 ∧ p2 ≤ 4) ∧ p1 % 8 + p2 ≤ 8), 2), (¬ (Mt_n (Md_mt u) < 30 ∧ Md_can u (-1) p0 p1 (p1 + p2) p3), 3)]
theorem hn_X9_meeting_X9 : ∀ w ∈ u_ws RX9 TX9 35, w ∈ wsX9_meeting := by decide +kernel
theorem fl_X9_meeting_38 : Cond.fieldLink RX9 38 (TX9 14).1 (TX9 14).2.1 (TX9 14).2.2.1 ∈ wsX9_meeting := by decide +kernel
theorem fl_X9_meeting_106 : Cond.fieldLink RX9 106 (TX9 13).1 (TX9 13).2.1 (TX9 13).2.2.1 ∈ wsX9_meeting := by decide +kernel
theorem fl_X9_meeting_41 : Cond.fieldLink RX9 41 (TX9 15).1 (TX9 15).2.1 (TX9 15).2.2.1 ∈ wsX9_meeting := by decide +kernel
theorem fl_X9_meeting_44 : Cond.fieldLink RX9 44 (TX9 16).1 (TX9 16).2.1 (TX9 16).2.2.1 ∈ wsX9_meeting := by decide +kernel
theorem fl_X9_meeting_47 : Cond.fieldLink RX9 47 (TX9 17).1 (TX9 17).2.1 (TX9 17).2.2.1 ∈ wsX9_meeting := by decide +kernel
theorem fl_X9_meeting_50 : Cond.fieldLink RX9 50 (TX9 18).1 (TX9 18).2.1 (TX9 18).2.2.1 ∈ wsX9_meeting := by decide +kernel
theorem fl_X9_meeting_144 : Cond.fieldLink RX9 144 (TX9 1).1 (TX9 1).2.1 (TX9 1).2.2.1 ∈ wsX9_meeting := by decide +kernel
set_option maxHeartbeats 4000000 in
set_option maxRecDepth 100000 in
theorem ct_X9_meeting (l : Launch) (D : va_G) (cI cJ cZ : ClassId) (a : Nat → Nat) (u : MdS) (p0 p1 p2 p3 : Int) (hu : MdI u) (h0 : -2147483648 ≤ p0 ∧ p0 < 2147483648) (h1 : -2147483648 ≤ p1 ∧ p1 < 2147483648) (h2 : -2147483648 ≤ p2 ∧ p2 < 2147483648) (h3 : -2147483648 ≤ p3 ∧ p3 < 2147483648)  : gz_M l yX9_meeting wsX9_meeting { frames := 4, cells := 0, slots := 0, locals := 97 } D cI cJ cZ [.ref (a 0), vI p0, vI p1, vI p2, vI p3] (MdW cI cZ a u) (gz_pK (md_meeting u p0 p1 p2 p3) (some (vI (Mt_n (Md_mt u) + 1 - 1))) (some (vI 0)) (fun k => MdW cI cZ a (Md_setTh u k)) (MdW cI cZ a ((0, Md_now u, Md_aw u, Md_mm u, Md_lo u, Mt_addM (Md_mt u) p0 p1 p2 p3, Md_sw u, Md_bu u)))) := by
  refine gz_ofZ (cc := cX9_meeting) (maxL := 8) (ty := .int) (own := RX9) (by decide) rfl rfl (Nat.le_of_ble_eq_true rfl) (lv0 := [(0, .ref (a 0)), (1, vI p0), (2, vI p1), (3, vI p2), (4, vI p3)]) rfl ?_
  intro p e s m args below meth c A Q F Z
  obtain ⟨hnw, hAw, hMm, hLo, ⟨hMt, hMa⟩, hSw, hBu⟩ := id hu
  have hMmn := hMm.1
  have hLon := hLo.1
  have hMtn := hMt.1
  have hSwn := hSw.1
  have hBun := hBu.1
  have J108 : gG p l e ({ frames := 4, cells := 0, slots := 0, locals := 97 } : Room) s m args below meth c D A 8 Q 0 0 (MdW cI cZ a u) [(0, .ref (a 0)), (1, vI p0), (2, vI p1), (3, vI p2), (4, vI p3), (5, vI (bz (p3 = -1 ∨ (0 ≤ p3 ∧ p3 ≤ Mm_n (Md_mm u) - 1)))), (6, vI (bz ((1 ≤ p0 ∧ p0 ≤ 1023) ∧ (Md_now u ≤ p1 ∧ p1 ≤ 399) ∧ (1 ≤ p2 ∧ p2 ≤ 4) ∧ p1 % 8 + p2 ≤ 8)))] [vI (bz ((p3 = -1 ∨ (0 ≤ p3 ∧ p3 ≤ Mm_n (Md_mm u) - 1)) ∧ ((1 ≤ p0 ∧ p0 ≤ 1023) ∧ (Md_now u ≤ p1 ∧ p1 ≤ 399) ∧ (1 ≤ p2 ∧ p2 ≤ 4) ∧ p1 % 8 + p2 ≤ 8) ∧ Mt_n (Md_mt u) < 30 ∧ Md_can u (-1) p0 p1 (p1 + p2) p3))] 108 := by
    refine gz_istore (pc := 108) (lv2 := [(7, vI (bz ((p3 = -1 ∨ (0 ≤ p3 ∧ p3 ≤ Mm_n (Md_mm u) - 1)) ∧ ((1 ≤ p0 ∧ p0 ≤ 1023) ∧ (Md_now u ≤ p1 ∧ p1 ≤ 399) ∧ (1 ≤ p2 ∧ p2 ≤ 4) ∧ p1 % 8 + p2 ≤ 8) ∧ Mt_n (Md_mt u) < 30 ∧ Md_can u (-1) p0 p1 (p1 + p2) p3))), (0, .ref (a 0)), (1, vI p0), (2, vI p1), (3, vI p2), (4, vI p3), (5, vI (bz (p3 = -1 ∨ (0 ≤ p3 ∧ p3 ≤ Mm_n (Md_mm u) - 1)))), (6, vI (bz ((1 ≤ p0 ∧ p0 ≤ 1023) ∧ (Md_now u ≤ p1 ∧ p1 ≤ 399) ∧ (1 ≤ p2 ∧ p2 ≤ 4) ∧ p1 % 8 + p2 ≤ 8)))]) F dX9_meeting_108 (by decide) rfl ?_
    refine gz_aload_n (pc := 110) F dX9_meeting_110 rfl 1 rfl ?_
    refine gz_iload (pc := 111) F dX9_meeting_111 6 rfl ?_
    refine gz_if_neb (pc := 113) (tgt := 120) F dX9_meeting_113 (by decide) (fun c113 => ?_) (fun c113 => ?_)
    · refine gz_iload (pc := 120) F dX9_meeting_120 7 rfl ?_
      refine gz_if_neb (pc := 122) (tgt := 129) F dX9_meeting_122 (by decide) (fun c122 => ?_) (fun c122 => ?_)
      · refine gz_iload (pc := 129) F dX9_meeting_129 0 rfl ?_
        refine gz_if_eqb (pc := 131) (tgt := 138) F dX9_meeting_131 (by decide) (fun c131 => ?_) (fun c131 => ?_)
        · refine gz_const (pc := 138) F dX9_meeting_138 ?_
          refine gz_callVb (pc := 139) (n := 1) (As := [vI 3]) (rest := []) (bytes := cX9_refused) (maxL := 2) (ret := some .boolean) F (ct_X9_refused_3 l D cI cJ cZ a u hu) gX9_meeting_X9_refused rfl ⟨rfl, rfl⟩ (by decide +kernel) ⟨Nat.le_of_ble_eq_true rfl, Nat.le_of_ble_eq_true rfl⟩ rfl [] [] ((List.append_nil _).symm) 9 rfl rfl rfl (Nat.le_of_ble_eq_true rfl) ⟨Nat.zero_le _, Nat.zero_le _⟩ (gz_pV_sh rfl) dX9_meeting_139 ?_
          refine gz_kVb (r := 1) (ws2 := MdW cI cZ a (3, Md_now u, Md_aw u, Md_mm u, Md_lo u, Md_mt u, Md_sw u, Md_bu u)) ((List.append_nil _).symm).symm ?_
          refine gz_if_eq (pc := 142) (tgt := 147) F dX9_meeting_142 (by decide) (by omega) (fun c142 => ?_) (fun c142 => ?_)
          · exact absurd c142 (by decide)
          · refine gz_const (pc := 145) F dX9_meeting_145 ?_
            refine Z _ _ 146 _ dX9_meeting_146 rfl ?_
            exact ⟨3, Or.inr ⟨not_not_intro c113, Or.inr ⟨not_not_intro c122, Or.inl ⟨(fun h => c131 ⟨c113, c122, h⟩), rfl⟩⟩⟩, fun _ => ⟨rfl, rfl⟩, fun h => absurd h (by decide)⟩
        · have k131 := c131.2.2.1
          refine gz_const (pc := 134) F dX9_meeting_134 ?_
          refine gz_goto (pc := 135) (tgt := 139) F dX9_meeting_135 (by decide) ?_
          refine gz_callVb (pc := 139) (n := 1) (As := [vI 0]) (rest := []) (bytes := cX9_refused) (maxL := 2) (ret := some .boolean) F (ct_X9_refused_0 l D cI cJ cZ a u hu) gX9_meeting_X9_refused rfl ⟨rfl, rfl⟩ (by decide +kernel) ⟨Nat.le_of_ble_eq_true rfl, Nat.le_of_ble_eq_true rfl⟩ rfl [] [] ((List.append_nil _).symm) 9 rfl rfl rfl (Nat.le_of_ble_eq_true rfl) ⟨Nat.zero_le _, Nat.zero_le _⟩ (gz_pV_sh rfl) dX9_meeting_139 ?_
          refine gz_kVb (r := 0) (ws2 := MdW cI cZ a (0, Md_now u, Md_aw u, Md_mm u, Md_lo u, Md_mt u, Md_sw u, Md_bu u)) ((List.append_nil _).symm).symm ?_
          refine gz_if_eq (pc := 142) (tgt := 147) F dX9_meeting_142 (by decide) (by omega) (fun c142 => ?_) (fun c142 => ?_)
          · refine gz_aload_n (pc := 147) F dX9_meeting_147 rfl 1 rfl ?_
            refine gz_get (pc := 148) (v := .ref (a 10)) F hn_X9_meeting_X9 0 9 rfl rfl 14 (by decide) fl_X9_meeting_38 rfl dX9_meeting_148 ?_
            refine gz_aload_n (pc := 151) F dX9_meeting_151 rfl 1 rfl ?_
            refine gz_get (pc := 152) (v := vI (Mt_n (Md_mt u))) F hn_X9_meeting_X9 0 9 rfl rfl 13 (by decide) fl_X9_meeting_106 rfl dX9_meeting_152 ?_
            have b152 := hMt.1
            refine gz_const (pc := 155) F dX9_meeting_155 ?_
            refine gz_iast (pc := 156) (f := Mt_st (Md_mt u)) (ws2 := MdW cI cZ a ((0, Md_now u, Md_aw u, Md_mm u, Md_lo u, (Mt_n (Md_mt u), Mt_pe (Md_mt u), Mt_sl (Md_mt u), Mt_ln (Md_mt u), Mt_ma (Md_mt u), zU (Mt_st (Md_mt u)) (Mt_n (Md_mt u)) 0, Mt_mv (Md_mt u)), Md_sw u, Md_bu u))) F 10 rfl (by omega) (by decide) rfl dX9_meeting_156 ?_
            refine gz_aload_n (pc := 157) F dX9_meeting_157 rfl 1 rfl ?_
            refine gz_get (pc := 158) (v := .ref (a 11)) F hn_X9_meeting_X9 0 9 rfl rfl 15 (by decide) fl_X9_meeting_41 rfl dX9_meeting_158 ?_
            refine gz_aload_n (pc := 161) F dX9_meeting_161 rfl 1 rfl ?_
            refine gz_get (pc := 162) (v := vI (Mt_n (Md_mt u))) F hn_X9_meeting_X9 0 9 rfl rfl 13 (by decide) fl_X9_meeting_106 rfl dX9_meeting_162 ?_
            have b162 := hMt.1
            refine gz_iload_n (pc := 165) F dX9_meeting_165 rfl 2 rfl ?_
            refine gz_iast (pc := 166) (f := Mt_pe (Md_mt u)) (ws2 := MdW cI cZ a ((0, Md_now u, Md_aw u, Md_mm u, Md_lo u, (Mt_n (Md_mt u), zU (Mt_pe (Md_mt u)) (Mt_n (Md_mt u)) p0, Mt_sl (Md_mt u), Mt_ln (Md_mt u), Mt_ma (Md_mt u), zU (Mt_st (Md_mt u)) (Mt_n (Md_mt u)) 0, Mt_mv (Md_mt u)), Md_sw u, Md_bu u))) F 11 rfl (by omega) (by decide) rfl dX9_meeting_166 ?_
            refine gz_aload_n (pc := 167) F dX9_meeting_167 rfl 1 rfl ?_
            refine gz_get (pc := 168) (v := .ref (a 12)) F hn_X9_meeting_X9 0 9 rfl rfl 16 (by decide) fl_X9_meeting_44 rfl dX9_meeting_168 ?_
            refine gz_aload_n (pc := 171) F dX9_meeting_171 rfl 1 rfl ?_
            refine gz_get (pc := 172) (v := vI (Mt_n (Md_mt u))) F hn_X9_meeting_X9 0 9 rfl rfl 13 (by decide) fl_X9_meeting_106 rfl dX9_meeting_172 ?_
            have b172 := hMt.1
            refine gz_iload_n (pc := 175) F dX9_meeting_175 rfl 3 rfl ?_
            refine gz_iast (pc := 176) (f := Mt_sl (Md_mt u)) (ws2 := MdW cI cZ a ((0, Md_now u, Md_aw u, Md_mm u, Md_lo u, (Mt_n (Md_mt u), zU (Mt_pe (Md_mt u)) (Mt_n (Md_mt u)) p0, zU (Mt_sl (Md_mt u)) (Mt_n (Md_mt u)) p1, Mt_ln (Md_mt u), Mt_ma (Md_mt u), zU (Mt_st (Md_mt u)) (Mt_n (Md_mt u)) 0, Mt_mv (Md_mt u)), Md_sw u, Md_bu u))) F 12 rfl (by omega) (by decide) rfl dX9_meeting_176 ?_
            refine gz_aload_n (pc := 177) F dX9_meeting_177 rfl 1 rfl ?_
            refine gz_get (pc := 178) (v := .ref (a 13)) F hn_X9_meeting_X9 0 9 rfl rfl 17 (by decide) fl_X9_meeting_47 rfl dX9_meeting_178 ?_
            refine gz_aload_n (pc := 181) F dX9_meeting_181 rfl 1 rfl ?_
            refine gz_get (pc := 182) (v := vI (Mt_n (Md_mt u))) F hn_X9_meeting_X9 0 9 rfl rfl 13 (by decide) fl_X9_meeting_106 rfl dX9_meeting_182 ?_
            have b182 := hMt.1
            refine gz_iload_n (pc := 185) F dX9_meeting_185 rfl 4 rfl ?_
            refine gz_iast (pc := 186) (f := Mt_ln (Md_mt u)) (ws2 := MdW cI cZ a ((0, Md_now u, Md_aw u, Md_mm u, Md_lo u, (Mt_n (Md_mt u), zU (Mt_pe (Md_mt u)) (Mt_n (Md_mt u)) p0, zU (Mt_sl (Md_mt u)) (Mt_n (Md_mt u)) p1, zU (Mt_ln (Md_mt u)) (Mt_n (Md_mt u)) p2, Mt_ma (Md_mt u), zU (Mt_st (Md_mt u)) (Mt_n (Md_mt u)) 0, Mt_mv (Md_mt u)), Md_sw u, Md_bu u))) F 13 rfl (by omega) (by decide) rfl dX9_meeting_186 ?_
            refine gz_aload_n (pc := 187) F dX9_meeting_187 rfl 1 rfl ?_
            refine gz_get (pc := 188) (v := .ref (a 14)) F hn_X9_meeting_X9 0 9 rfl rfl 18 (by decide) fl_X9_meeting_50 rfl dX9_meeting_188 ?_
            refine gz_aload_n (pc := 191) F dX9_meeting_191 rfl 1 rfl ?_
            refine gz_get (pc := 192) (v := vI (Mt_n (Md_mt u))) F hn_X9_meeting_X9 0 9 rfl rfl 13 (by decide) fl_X9_meeting_106 rfl dX9_meeting_192 ?_
            have b192 := hMt.1
            refine gz_iload (pc := 195) F dX9_meeting_195 5 rfl ?_
            refine gz_iast (pc := 197) (f := Mt_ma (Md_mt u)) (ws2 := MdW cI cZ a ((0, Md_now u, Md_aw u, Md_mm u, Md_lo u, (Mt_n (Md_mt u), zU (Mt_pe (Md_mt u)) (Mt_n (Md_mt u)) p0, zU (Mt_sl (Md_mt u)) (Mt_n (Md_mt u)) p1, zU (Mt_ln (Md_mt u)) (Mt_n (Md_mt u)) p2, zU (Mt_ma (Md_mt u)) (Mt_n (Md_mt u)) p3, zU (Mt_st (Md_mt u)) (Mt_n (Md_mt u)) 0, Mt_mv (Md_mt u)), Md_sw u, Md_bu u))) F 14 rfl (by omega) (by decide) rfl dX9_meeting_197 ?_
            refine gz_aload_n (pc := 198) F dX9_meeting_198 rfl 1 rfl ?_
            refine gz_dup (pc := 199) F dX9_meeting_199 rfl ?_
            refine gz_get (pc := 200) (v := vI (Mt_n (Md_mt u))) F hn_X9_meeting_X9 0 9 rfl rfl 13 (by decide) fl_X9_meeting_106 rfl dX9_meeting_200 ?_
            have b200 := hMt.1
            refine gz_const (pc := 203) F dX9_meeting_203 ?_
            refine gz_iadd (pc := 204) F dX9_meeting_204 ?_
            refine gz_put (pc := 205) (ws2 := MdW cI cZ a ((0, Md_now u, Md_aw u, Md_mm u, Md_lo u, ((Mt_n (Md_mt u)) + 1, zU (Mt_pe (Md_mt u)) (Mt_n (Md_mt u)) p0, zU (Mt_sl (Md_mt u)) (Mt_n (Md_mt u)) p1, zU (Mt_ln (Md_mt u)) (Mt_n (Md_mt u)) p2, zU (Mt_ma (Md_mt u)) (Mt_n (Md_mt u)) p3, zU (Mt_st (Md_mt u)) (Mt_n (Md_mt u)) 0, Mt_mv (Md_mt u)), Md_sw u, Md_bu u))) F hn_X9_meeting_X9 tyX9 tyX9_ok nmX9 0 9 rfl rfl 13 (by decide) fl_X9_meeting_106 rfl (ty := .int) rfl rfl rfl (Nat.le_of_ble_eq_true rfl) rfl dX9_meeting_205 ?_
            refine gz_aload_n (pc := 208) F dX9_meeting_208 rfl 1 rfl ?_
            refine gz_get (pc := 209) (v := vI ((Mt_n (Md_mt u)) + 1)) F hn_X9_meeting_X9 0 9 rfl rfl 13 (by decide) fl_X9_meeting_106 rfl dX9_meeting_209 ?_
            refine gz_const (pc := 212) F dX9_meeting_212 ?_
            refine gz_isub (pc := 213) F dX9_meeting_213 ?_
            refine Z _ _ 214 _ dX9_meeting_214 rfl ?_
            exact ⟨0, Or.inr ⟨not_not_intro c113, Or.inr ⟨not_not_intro c122, Or.inr ⟨not_not_intro c131.2.2, rfl⟩⟩⟩, fun h => absurd rfl h, fun _ => ⟨rfl, rfl⟩⟩
          · exact absurd c142 (by decide)
      · refine gz_const (pc := 125) F dX9_meeting_125 ?_
        refine gz_goto (pc := 126) (tgt := 139) F dX9_meeting_126 (by decide) ?_
        refine gz_callVb (pc := 139) (n := 1) (As := [vI 2]) (rest := []) (bytes := cX9_refused) (maxL := 2) (ret := some .boolean) F (ct_X9_refused_2 l D cI cJ cZ a u hu) gX9_meeting_X9_refused rfl ⟨rfl, rfl⟩ (by decide +kernel) ⟨Nat.le_of_ble_eq_true rfl, Nat.le_of_ble_eq_true rfl⟩ rfl [] [] ((List.append_nil _).symm) 9 rfl rfl rfl (Nat.le_of_ble_eq_true rfl) ⟨Nat.zero_le _, Nat.zero_le _⟩ (gz_pV_sh rfl) dX9_meeting_139 ?_
        refine gz_kVb (r := 1) (ws2 := MdW cI cZ a (2, Md_now u, Md_aw u, Md_mm u, Md_lo u, Md_mt u, Md_sw u, Md_bu u)) ((List.append_nil _).symm).symm ?_
        refine gz_if_eq (pc := 142) (tgt := 147) F dX9_meeting_142 (by decide) (by omega) (fun c142 => ?_) (fun c142 => ?_)
        · exact absurd c142 (by decide)
        · refine gz_const (pc := 145) F dX9_meeting_145 ?_
          refine Z _ _ 146 _ dX9_meeting_146 rfl ?_
          exact ⟨2, Or.inr ⟨not_not_intro c113, Or.inl ⟨c122, rfl⟩⟩, fun _ => ⟨rfl, rfl⟩, fun h => absurd h (by decide)⟩
    · refine gz_const (pc := 116) F dX9_meeting_116 ?_
      refine gz_goto (pc := 117) (tgt := 139) F dX9_meeting_117 (by decide) ?_
      refine gz_callVb (pc := 139) (n := 1) (As := [vI 1]) (rest := []) (bytes := cX9_refused) (maxL := 2) (ret := some .boolean) F (ct_X9_refused_1 l D cI cJ cZ a u hu) gX9_meeting_X9_refused rfl ⟨rfl, rfl⟩ (by decide +kernel) ⟨Nat.le_of_ble_eq_true rfl, Nat.le_of_ble_eq_true rfl⟩ rfl [] [] ((List.append_nil _).symm) 9 rfl rfl rfl (Nat.le_of_ble_eq_true rfl) ⟨Nat.zero_le _, Nat.zero_le _⟩ (gz_pV_sh rfl) dX9_meeting_139 ?_
      refine gz_kVb (r := 1) (ws2 := MdW cI cZ a (1, Md_now u, Md_aw u, Md_mm u, Md_lo u, Md_mt u, Md_sw u, Md_bu u)) ((List.append_nil _).symm).symm ?_
      refine gz_if_eq (pc := 142) (tgt := 147) F dX9_meeting_142 (by decide) (by omega) (fun c142 => ?_) (fun c142 => ?_)
      · exact absurd c142 (by decide)
      · refine gz_const (pc := 145) F dX9_meeting_145 ?_
        refine Z _ _ 146 _ dX9_meeting_146 rfl ?_
        exact ⟨1, Or.inl ⟨c113, rfl⟩, fun _ => ⟨rfl, rfl⟩, fun h => absurd h (by decide)⟩
  have J69 : gG p l e ({ frames := 4, cells := 0, slots := 0, locals := 97 } : Room) s m args below meth c D A 8 Q 0 0 (MdW cI cZ a u) [(0, .ref (a 0)), (1, vI p0), (2, vI p1), (3, vI p2), (4, vI p3), (5, vI (bz (p3 = -1 ∨ (0 ≤ p3 ∧ p3 ≤ Mm_n (Md_mm u) - 1))))] [vI (bz ((1 ≤ p0 ∧ p0 ≤ 1023) ∧ (Md_now u ≤ p1 ∧ p1 ≤ 399) ∧ (1 ≤ p2 ∧ p2 ≤ 4) ∧ p1 % 8 + p2 ≤ 8))] 69 := by
    refine gz_istore (pc := 69) (lv2 := [(6, vI (bz ((1 ≤ p0 ∧ p0 ≤ 1023) ∧ (Md_now u ≤ p1 ∧ p1 ≤ 399) ∧ (1 ≤ p2 ∧ p2 ≤ 4) ∧ p1 % 8 + p2 ≤ 8))), (0, .ref (a 0)), (1, vI p0), (2, vI p1), (3, vI p2), (4, vI p3), (5, vI (bz (p3 = -1 ∨ (0 ≤ p3 ∧ p3 ≤ Mm_n (Md_mm u) - 1))))]) F dX9_meeting_69 (by decide) rfl ?_
    refine gz_iload (pc := 71) F dX9_meeting_71 6 rfl ?_
    refine gz_if_eqb (pc := 73) (tgt := 107) F dX9_meeting_73 (by decide) (fun c73 => ?_) (fun c73 => ?_)
    · refine gz_const (pc := 107) F dX9_meeting_107 ?_
      refine gz_eqst (st2 := [vI (bz ((p3 = -1 ∨ (0 ≤ p3 ∧ p3 ≤ Mm_n (Md_mm u) - 1)) ∧ ((1 ≤ p0 ∧ p0 ≤ 1023) ∧ (Md_now u ≤ p1 ∧ p1 ≤ 399) ∧ (1 ≤ p2 ∧ p2 ≤ 4) ∧ p1 % 8 + p2 ≤ 8) ∧ Mt_n (Md_mt u) < 30 ∧ Md_can u (-1) p0 p1 (p1 + p2) p3))]) (by first | exact congrArg (fun x => [vI x]) (bzF (fun h => c100 h.2.2.2)) | exact congrArg (fun x => [vI x]) (bzF (fun h => absurd h.2.2.1 (Int.not_lt.mpr c87))) | exact congrArg (fun x => [vI x]) (bzF (fun h => c78 h.2.1)) | exact congrArg (fun x => [vI x]) (bzF (fun h => c73 h.1))) ?_
      refine gz_lv [1, 2, 3, 4, 5, 6, 0] rfl ?_
      exact J108  
    · refine gz_iload (pc := 76) F dX9_meeting_76 0 rfl ?_
      refine gz_if_eqb (pc := 78) (tgt := 107) F dX9_meeting_78 (by decide) (fun c78 => ?_) (fun c78 => ?_)
      · refine gz_const (pc := 107) F dX9_meeting_107 ?_
        refine gz_eqst (st2 := [vI (bz ((p3 = -1 ∨ (0 ≤ p3 ∧ p3 ≤ Mm_n (Md_mm u) - 1)) ∧ ((1 ≤ p0 ∧ p0 ≤ 1023) ∧ (Md_now u ≤ p1 ∧ p1 ≤ 399) ∧ (1 ≤ p2 ∧ p2 ≤ 4) ∧ p1 % 8 + p2 ≤ 8) ∧ Mt_n (Md_mt u) < 30 ∧ Md_can u (-1) p0 p1 (p1 + p2) p3))]) (by first | exact congrArg (fun x => [vI x]) (bzF (fun h => c100 h.2.2.2)) | exact congrArg (fun x => [vI x]) (bzF (fun h => absurd h.2.2.1 (Int.not_lt.mpr c87))) | exact congrArg (fun x => [vI x]) (bzF (fun h => c78 h.2.1)) | exact congrArg (fun x => [vI x]) (bzF (fun h => c73 h.1))) ?_
        refine gz_lv [1, 2, 3, 4, 5, 6, 0] rfl ?_
        exact J108  
      · refine gz_aload_n (pc := 81) F dX9_meeting_81 rfl 1 rfl ?_
        refine gz_get (pc := 82) (v := vI (Mt_n (Md_mt u))) F hn_X9_meeting_X9 0 9 rfl rfl 13 (by decide) fl_X9_meeting_106 rfl dX9_meeting_82 ?_
        have b82 := hMt.1
        refine gz_bipush (pc := 85) F dX9_meeting_85 (by decide) ?_
        refine gz_icmp_ge (pc := 87) (tgt := 107) F dX9_meeting_87 (by decide) (by omega) (by omega) (fun c87 => ?_) (fun c87 => ?_)
        · refine gz_const (pc := 107) F dX9_meeting_107 ?_
          refine gz_eqst (st2 := [vI (bz ((p3 = -1 ∨ (0 ≤ p3 ∧ p3 ≤ Mm_n (Md_mm u) - 1)) ∧ ((1 ≤ p0 ∧ p0 ≤ 1023) ∧ (Md_now u ≤ p1 ∧ p1 ≤ 399) ∧ (1 ≤ p2 ∧ p2 ≤ 4) ∧ p1 % 8 + p2 ≤ 8) ∧ Mt_n (Md_mt u) < 30 ∧ Md_can u (-1) p0 p1 (p1 + p2) p3))]) (by first | exact congrArg (fun x => [vI x]) (bzF (fun h => c100 h.2.2.2)) | exact congrArg (fun x => [vI x]) (bzF (fun h => absurd h.2.2.1 (Int.not_lt.mpr c87))) | exact congrArg (fun x => [vI x]) (bzF (fun h => c78 h.2.1)) | exact congrArg (fun x => [vI x]) (bzF (fun h => c73 h.1))) ?_
          refine gz_lv [1, 2, 3, 4, 5, 6, 0] rfl ?_
          exact J108  
        · refine gz_aload_n (pc := 90) F dX9_meeting_90 rfl 1 rfl ?_
          refine gz_const (pc := 91) F dX9_meeting_91 ?_
          refine gz_iload_n (pc := 92) F dX9_meeting_92 rfl 2 rfl ?_
          refine gz_iload_n (pc := 93) F dX9_meeting_93 rfl 3 rfl ?_
          refine gz_iload_n (pc := 94) F dX9_meeting_94 rfl 4 rfl ?_
          refine gz_iload (pc := 95) F dX9_meeting_95 5 rfl ?_
          refine gz_callVb (pc := 97) (n := 5) (As := [vI (-1), vI p0, vI p1, vI p2, vI p3]) (rest := []) (bytes := cX9_canBe) (maxL := 9) (ret := some .boolean) F (ct_X9_canBe l D cI cJ cZ a u (-1) p0 p1 p2 p3 hu (by omega) (by omega) (by omega) (by omega) (by omega)) gX9_meeting_X9_canBe rfl ⟨rfl, rfl⟩ (by decide +kernel) ⟨Nat.le_of_ble_eq_true rfl, Nat.le_of_ble_eq_true rfl⟩ rfl [] [] ((List.append_nil _).symm) 9 rfl rfl rfl (Nat.le_of_ble_eq_true rfl) ⟨Nat.zero_le _, Nat.zero_le _⟩ gz_pI_sh dX9_meeting_97 ?_
          refine gz_kIb ((List.append_nil _).symm).symm (fun r97 h97 => ?_)
          subst h97
          refine gz_if_eqb (pc := 100) (tgt := 107) F dX9_meeting_100 (by decide) (fun c100 => ?_) (fun c100 => ?_)
          · refine gz_const (pc := 107) F dX9_meeting_107 ?_
            refine gz_eqst (st2 := [vI (bz ((p3 = -1 ∨ (0 ≤ p3 ∧ p3 ≤ Mm_n (Md_mm u) - 1)) ∧ ((1 ≤ p0 ∧ p0 ≤ 1023) ∧ (Md_now u ≤ p1 ∧ p1 ≤ 399) ∧ (1 ≤ p2 ∧ p2 ≤ 4) ∧ p1 % 8 + p2 ≤ 8) ∧ Mt_n (Md_mt u) < 30 ∧ Md_can u (-1) p0 p1 (p1 + p2) p3))]) (by first | exact congrArg (fun x => [vI x]) (bzF (fun h => c100 h.2.2.2)) | exact congrArg (fun x => [vI x]) (bzF (fun h => absurd h.2.2.1 (Int.not_lt.mpr c87))) | exact congrArg (fun x => [vI x]) (bzF (fun h => c78 h.2.1)) | exact congrArg (fun x => [vI x]) (bzF (fun h => c73 h.1))) ?_
            refine gz_lv [1, 2, 3, 4, 5, 6, 0] rfl ?_
            exact J108  
          · refine gz_const (pc := 103) F dX9_meeting_103 ?_
            refine gz_goto (pc := 104) (tgt := 108) F dX9_meeting_104 (by decide) ?_
            refine gz_eqst (st2 := [vI (bz ((p3 = -1 ∨ (0 ≤ p3 ∧ p3 ≤ Mm_n (Md_mm u) - 1)) ∧ ((1 ≤ p0 ∧ p0 ≤ 1023) ∧ (Md_now u ≤ p1 ∧ p1 ≤ 399) ∧ (1 ≤ p2 ∧ p2 ≤ 4) ∧ p1 % 8 + p2 ≤ 8) ∧ Mt_n (Md_mt u) < 30 ∧ Md_can u (-1) p0 p1 (p1 + p2) p3))]) (by exact congrArg (fun x => [vI x]) (bzT (⟨c73, c78, c87, c100⟩))) ?_
            refine gz_lv [1, 2, 3, 4, 5, 6, 0] rfl ?_
            exact J108  
  have J20 : gG p l e ({ frames := 4, cells := 0, slots := 0, locals := 97 } : Room) s m args below meth c D A 8 Q 0 0 (MdW cI cZ a u) [(0, .ref (a 0)), (1, vI p0), (2, vI p1), (3, vI p2), (4, vI p3)] [vI (bz (p3 = -1 ∨ (0 ≤ p3 ∧ p3 ≤ Mm_n (Md_mm u) - 1)))] 20 := by
    refine gz_istore (pc := 20) (lv2 := [(5, vI (bz (p3 = -1 ∨ (0 ≤ p3 ∧ p3 ≤ Mm_n (Md_mm u) - 1)))), (0, .ref (a 0)), (1, vI p0), (2, vI p1), (3, vI p2), (4, vI p3)]) F dX9_meeting_20 (by decide) rfl ?_
    refine gz_iload_n (pc := 22) F dX9_meeting_22 rfl 2 rfl ?_
    refine gz_const (pc := 23) F dX9_meeting_23 ?_
    refine gz_sipush (pc := 24) F dX9_meeting_24 (by decide) ?_
    refine gz_callS (pc := 27) (n := 3) (As := [vI p0, vI 1, vI 1023]) (rest := []) (bytes := cX9_in) (maxL := 3) (ret := some .boolean) F (ct_X9_in l D cI cJ cZ p0 1 1023 (by omega) (by omega) (by omega)) gX9_meeting_X9_in rfl ⟨rfl, rfl⟩ (by decide +kernel) ⟨Nat.le_of_ble_eq_true rfl, Nat.le_of_ble_eq_true rfl⟩ rfl [] rfl (by decide) rfl (Nat.le_of_ble_eq_true rfl) ⟨Nat.zero_le _, Nat.zero_le _⟩ gz_pI_sh dX9_meeting_27 ?_
    refine gz_kI rfl (fun r27 h27 => ?_)
    subst h27
    refine gz_if_eqb (pc := 30) (tgt := 68) F dX9_meeting_30 (by decide) (fun c30 => ?_) (fun c30 => ?_)
    · refine gz_const (pc := 68) F dX9_meeting_68 ?_
      refine gz_eqst (st2 := [vI (bz ((1 ≤ p0 ∧ p0 ≤ 1023) ∧ (Md_now u ≤ p1 ∧ p1 ≤ 399) ∧ (1 ≤ p2 ∧ p2 ≤ 4) ∧ p1 % 8 + p2 ≤ 8))]) (by first | exact congrArg (fun x => [vI x]) (bzF (fun h => c61 h.2.2.2)) | exact congrArg (fun x => [vI x]) (bzF (fun h => c53 h.2.2.1)) | exact congrArg (fun x => [vI x]) (bzF (fun h => c44 h.2.1)) | exact congrArg (fun x => [vI x]) (bzF (fun h => c30 h.1))) ?_
      refine gz_lv [1, 2, 3, 4, 5, 0] rfl ?_
      exact J69  
    · refine gz_iload_n (pc := 33) F dX9_meeting_33 rfl 3 rfl ?_
      refine gz_aload_n (pc := 34) F dX9_meeting_34 rfl 1 rfl ?_
      refine gz_get (pc := 35) (v := vI (Md_now u)) F hn_X9_meeting_X9 0 9 rfl rfl 1 (by decide) fl_X9_meeting_144 rfl dX9_meeting_35 ?_
      have b35 := hnw
      refine gz_sipush (pc := 38) F dX9_meeting_38 (by decide) ?_
      refine gz_callS (pc := 41) (n := 3) (As := [vI p1, vI (Md_now u), vI 399]) (rest := []) (bytes := cX9_in) (maxL := 3) (ret := some .boolean) F (ct_X9_in l D cI cJ cZ p1 (Md_now u) 399 (by omega) (by omega) (by omega)) gX9_meeting_X9_in rfl ⟨rfl, rfl⟩ (by decide +kernel) ⟨Nat.le_of_ble_eq_true rfl, Nat.le_of_ble_eq_true rfl⟩ rfl [] rfl (by decide) rfl (Nat.le_of_ble_eq_true rfl) ⟨Nat.zero_le _, Nat.zero_le _⟩ gz_pI_sh dX9_meeting_41 ?_
      refine gz_kI rfl (fun r41 h41 => ?_)
      subst h41
      refine gz_if_eqb (pc := 44) (tgt := 68) F dX9_meeting_44 (by decide) (fun c44 => ?_) (fun c44 => ?_)
      · refine gz_const (pc := 68) F dX9_meeting_68 ?_
        refine gz_eqst (st2 := [vI (bz ((1 ≤ p0 ∧ p0 ≤ 1023) ∧ (Md_now u ≤ p1 ∧ p1 ≤ 399) ∧ (1 ≤ p2 ∧ p2 ≤ 4) ∧ p1 % 8 + p2 ≤ 8))]) (by first | exact congrArg (fun x => [vI x]) (bzF (fun h => c61 h.2.2.2)) | exact congrArg (fun x => [vI x]) (bzF (fun h => c53 h.2.2.1)) | exact congrArg (fun x => [vI x]) (bzF (fun h => c44 h.2.1)) | exact congrArg (fun x => [vI x]) (bzF (fun h => c30 h.1))) ?_
        refine gz_lv [1, 2, 3, 4, 5, 0] rfl ?_
        exact J69  
      · refine gz_iload_n (pc := 47) F dX9_meeting_47 rfl 4 rfl ?_
        refine gz_const (pc := 48) F dX9_meeting_48 ?_
        refine gz_const (pc := 49) F dX9_meeting_49 ?_
        refine gz_callS (pc := 50) (n := 3) (As := [vI p2, vI 1, vI 4]) (rest := []) (bytes := cX9_in) (maxL := 3) (ret := some .boolean) F (ct_X9_in l D cI cJ cZ p2 1 4 (by omega) (by omega) (by omega)) gX9_meeting_X9_in rfl ⟨rfl, rfl⟩ (by decide +kernel) ⟨Nat.le_of_ble_eq_true rfl, Nat.le_of_ble_eq_true rfl⟩ rfl [] rfl (by decide) rfl (Nat.le_of_ble_eq_true rfl) ⟨Nat.zero_le _, Nat.zero_le _⟩ gz_pI_sh dX9_meeting_50 ?_
        refine gz_kI rfl (fun r50 h50 => ?_)
        subst h50
        refine gz_if_eqb (pc := 53) (tgt := 68) F dX9_meeting_53 (by decide) (fun c53 => ?_) (fun c53 => ?_)
        · refine gz_const (pc := 68) F dX9_meeting_68 ?_
          refine gz_eqst (st2 := [vI (bz ((1 ≤ p0 ∧ p0 ≤ 1023) ∧ (Md_now u ≤ p1 ∧ p1 ≤ 399) ∧ (1 ≤ p2 ∧ p2 ≤ 4) ∧ p1 % 8 + p2 ≤ 8))]) (by first | exact congrArg (fun x => [vI x]) (bzF (fun h => c61 h.2.2.2)) | exact congrArg (fun x => [vI x]) (bzF (fun h => c53 h.2.2.1)) | exact congrArg (fun x => [vI x]) (bzF (fun h => c44 h.2.1)) | exact congrArg (fun x => [vI x]) (bzF (fun h => c30 h.1))) ?_
          refine gz_lv [1, 2, 3, 4, 5, 0] rfl ?_
          exact J69  
        · refine gz_iload_n (pc := 56) F dX9_meeting_56 rfl 3 rfl ?_
          refine gz_iload_n (pc := 57) F dX9_meeting_57 rfl 4 rfl ?_
          refine gz_callS (pc := 58) (n := 2) (As := [vI p1, vI p2]) (rest := []) (bytes := cX9_isOnOneDay) (maxL := 2) (ret := some .boolean) F (ct_X9_isOnOneDay l D cI cJ cZ p1 p2 (by omega) (by omega) (by omega)) gX9_meeting_X9_isOnOneDay rfl ⟨rfl, rfl⟩ (by decide +kernel) ⟨Nat.le_of_ble_eq_true rfl, Nat.le_of_ble_eq_true rfl⟩ rfl [] rfl (by decide) rfl (Nat.le_of_ble_eq_true rfl) ⟨Nat.zero_le _, Nat.zero_le _⟩ gz_pI_sh dX9_meeting_58 ?_
          refine gz_kI rfl (fun r58 h58 => ?_)
          subst h58
          refine gz_if_eqb (pc := 61) (tgt := 68) F dX9_meeting_61 (by decide) (fun c61 => ?_) (fun c61 => ?_)
          · refine gz_const (pc := 68) F dX9_meeting_68 ?_
            refine gz_eqst (st2 := [vI (bz ((1 ≤ p0 ∧ p0 ≤ 1023) ∧ (Md_now u ≤ p1 ∧ p1 ≤ 399) ∧ (1 ≤ p2 ∧ p2 ≤ 4) ∧ p1 % 8 + p2 ≤ 8))]) (by first | exact congrArg (fun x => [vI x]) (bzF (fun h => c61 h.2.2.2)) | exact congrArg (fun x => [vI x]) (bzF (fun h => c53 h.2.2.1)) | exact congrArg (fun x => [vI x]) (bzF (fun h => c44 h.2.1)) | exact congrArg (fun x => [vI x]) (bzF (fun h => c30 h.1))) ?_
            refine gz_lv [1, 2, 3, 4, 5, 0] rfl ?_
            exact J69  
          · refine gz_const (pc := 64) F dX9_meeting_64 ?_
            refine gz_goto (pc := 65) (tgt := 69) F dX9_meeting_65 (by decide) ?_
            refine gz_eqst (st2 := [vI (bz ((1 ≤ p0 ∧ p0 ≤ 1023) ∧ (Md_now u ≤ p1 ∧ p1 ≤ 399) ∧ (1 ≤ p2 ∧ p2 ≤ 4) ∧ p1 % 8 + p2 ≤ 8))]) (by exact congrArg (fun x => [vI x]) (bzT (⟨c30, c44, c53, c61⟩))) ?_
            refine gz_lv [1, 2, 3, 4, 5, 0] rfl ?_
            exact J69  
  refine gz_iload (pc := 0) F dX9_meeting_0 4 rfl ?_
  refine gz_const (pc := 2) F dX9_meeting_2 ?_
  refine gz_icmp_eq (pc := 3) (tgt := 15) F dX9_meeting_3 (by decide) (by omega) (by omega) (fun c3 => ?_) (fun c3 => ?_)
  · refine gz_const (pc := 15) F dX9_meeting_15 ?_
    refine gz_goto (pc := 16) (tgt := 20) F dX9_meeting_16 (by decide) ?_
    refine gz_eqst (st2 := [vI (bz (p3 = -1 ∨ (0 ≤ p3 ∧ p3 ≤ Mm_n (Md_mm u) - 1)))]) (by exact congrArg (fun x => [vI x]) (bzT (by first | exact Or.inr c12 | exact Or.inl c3))) ?_
    exact J20  
  · refine gz_aload_n (pc := 6) F dX9_meeting_6 rfl 0 rfl ?_
    refine gz_iload (pc := 7) F dX9_meeting_7 4 rfl ?_
    refine gz_callVb (pc := 9) (n := 1) (As := [vI p3]) (rest := []) (bytes := cX9_isMachine) (maxL := 2) (ret := some .boolean) F (ct_X9_isMachine l D cI cJ cZ a u p3 hu (by omega)) gX9_meeting_X9_isMachine rfl ⟨rfl, rfl⟩ (by decide +kernel) ⟨Nat.le_of_ble_eq_true rfl, Nat.le_of_ble_eq_true rfl⟩ rfl [] [] ((List.append_nil _).symm) 9 rfl rfl rfl (Nat.le_of_ble_eq_true rfl) ⟨Nat.zero_le _, Nat.zero_le _⟩ gz_pI_sh dX9_meeting_9 ?_
    refine gz_kIb ((List.append_nil _).symm).symm (fun r9 h9 => ?_)
    subst h9
    refine gz_if_eqb (pc := 12) (tgt := 19) F dX9_meeting_12 (by decide) (fun c12 => ?_) (fun c12 => ?_)
    · refine gz_const (pc := 19) F dX9_meeting_19 ?_
      refine gz_eqst (st2 := [vI (bz (p3 = -1 ∨ (0 ≤ p3 ∧ p3 ≤ Mm_n (Md_mm u) - 1)))]) (by first | exact congrArg (fun x => [vI x]) (bzF (fun h => h.elim c3 c12))) ?_
      exact J20  
    · refine gz_const (pc := 15) F dX9_meeting_15 ?_
      refine gz_goto (pc := 16) (tgt := 20) F dX9_meeting_16 (by decide) ?_
      refine gz_eqst (st2 := [vI (bz (p3 = -1 ∨ (0 ≤ p3 ∧ p3 ≤ Mm_n (Md_mm u) - 1)))]) (by exact congrArg (fun x => [vI x]) (bzT (by first | exact Or.inr c12 | exact Or.inl c3))) ?_
      exact J20  
