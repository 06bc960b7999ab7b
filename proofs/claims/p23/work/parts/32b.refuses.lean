/-! ===== refuses; laid by wip/p23/gen/ref23.py ===== -/
set_option maxHeartbeats 8000000 in
set_option maxRecDepth 100000 in
theorem rf_o0 (l : Launch) (hfl : l.stackTraces = false) (D : va_G) (cI cJ cZ : ClassId) (a : Nat → Nat) (r : RiS) (o : Nat) (f : Int → Int) (x : Int) (hr : RiI r) (hnow : Pl_now (Ri_P r) = 0) (hmc : Mc_n (Pl_mc (Ri_P r)) = 0) (hmt : Mt_n (Pl_mt (Ri_P r)) = 0) (hbu : Bu_n (Pl_bu (Ri_P r)) = 0) (hsw : Sw_n (Ri_S r) = 0) (hf0 : f 0 = 0) (hf1 : f 1 = 0) (hf2 : f 2 = 0) (hf3 : f 3 = 0) (hx : 0 ≤ x ∧ x ≤ 9972) (hp : x % 2 = 1) : gz_G l yL_refuses wsL_refuses { frames := 10, cells := 30, slots := 180, locals := 260 } D cI cJ cZ [.ref (a 0), .ref o, vI x] (RiW cI cJ a r ++ [NA cI o f]) (fun v W1 g => v = some (vI 1) ∧ W1 = RiW cI cJ a r ++ [NA cI o f] ∧ g = 30) 30 180 := by
  refine gh_ofG (cc := cL_refuses) (maxL := 14) (ty := .boolean) (own := RL) hfl (by decide) rfl rfl (Nat.le_of_ble_eq_true rfl) (lv0 := [(0, .ref (a 0)), (1, .ref o), (2, vI x)]) rfl ?_
  intro p e s m args below meth c A Q F FX NC Z
  refine gh_iload_n (pc := 0) F dL_refuses_0 rfl 2 rfl ?_
  refine gh_const (pc := 1) F dL_refuses_1 ?_
  refine gh_irem (pc := 2) (z := (x % 2)) F dL_refuses_2 (by omega) (by omega) rfl ?_
  refine gh_if_ne (pc := 3) (tgt := 10) F dL_refuses_3 (by decide) (by omega) (fun _ => ?_) (fun cz => absurd cz (by omega))
  refine gh_const (pc := 10) F dL_refuses_10 ?_
  refine gh_istore_n (pc := 11) (lv2 := [(3, vI 0), (0, .ref (a 0)), (1, .ref o), (2, vI x)]) F dL_refuses_11 rfl (by decide) rfl ?_
  refine gh_iload_n (pc := 12) F dL_refuses_12 rfl 0 rfl ?_
  refine gh_if_eq (pc := 13) (tgt := 22) F dL_refuses_13 (by decide) (by omega) (fun _ => ?_) (fun cz => absurd cz (by omega))
  refine gh_bipush (pc := 22) F dL_refuses_22 (by decide) ?_
  refine gh_iload_n (pc := 24) F dL_refuses_24 rfl 3 rfl ?_
  refine gh_iadd (pc := 25) (z := (10 + x)) F dL_refuses_25 rfl ?_
  refine gh_istore (pc := 26) (lv2 := [(4, vI (10 + x)), (3, vI 0), (0, .ref (a 0)), (1, .ref o), (2, vI x)]) F dL_refuses_26 (by decide) rfl ?_
  refine gh_iload_n (pc := 28) F dL_refuses_28 rfl 1 rfl ?_
  refine gh_if_eq (pc := 29) (tgt := 38) F dL_refuses_29 (by decide) (by omega) (fun _ => ?_) (fun cz => absurd cz (by omega))
  refine gh_aload_n (pc := 38) F dL_refuses_38 rfl 3 rfl ?_
  refine gh_const (pc := 39) F dL_refuses_39 ?_
  refine gh_iald (pc := 40) (v := 0) F 73 (RiW_na _ _ _ _ _ _) ⟨by decide, by decide⟩ (by decide) hf0 dL_refuses_40 ?_
  refine gh_iload_n (pc := 41) F dL_refuses_41 rfl 4 rfl ?_
  refine gh_iadd (pc := 42) (z := (0 + x)) F dL_refuses_42 rfl ?_
  refine gh_istore (pc := 43) (lv2 := [(5, vI (0 + x)), (4, vI (10 + x)), (3, vI 0), (0, .ref (a 0)), (1, .ref o), (2, vI x)]) F dL_refuses_43 (by decide) rfl ?_
  refine gh_iload_n (pc := 45) F dL_refuses_45 rfl 2 rfl ?_
  refine gh_if_eq (pc := 46) (tgt := 55) F dL_refuses_46 (by decide) (by omega) (fun _ => ?_) (fun cz => absurd cz (by omega))
  refine gh_aload_n (pc := 55) F dL_refuses_55 rfl 4 rfl ?_
  refine gh_const (pc := 56) F dL_refuses_56 ?_
  refine gh_iald (pc := 57) (v := 0) F 73 (RiW_na _ _ _ _ _ _) ⟨by decide, by decide⟩ (by decide) hf1 dL_refuses_57 ?_
  refine gh_iload_n (pc := 58) F dL_refuses_58 rfl 5 rfl ?_
  refine gh_iadd (pc := 59) (z := (0 + x)) F dL_refuses_59 rfl ?_
  refine gh_istore (pc := 60) (lv2 := [(6, vI (0 + x)), (5, vI (0 + x)), (4, vI (10 + x)), (3, vI 0), (0, .ref (a 0)), (1, .ref o), (2, vI x)]) F dL_refuses_60 (by decide) rfl ?_
  refine gh_iload_n (pc := 62) F dL_refuses_62 rfl 3 rfl ?_
  refine gh_if_eq (pc := 63) (tgt := 72) F dL_refuses_63 (by decide) (by omega) (fun _ => ?_) (fun cz => absurd cz (by omega))
  refine gh_aload_n (pc := 72) F dL_refuses_72 rfl 5 rfl ?_
  refine gh_const (pc := 73) F dL_refuses_73 ?_
  refine gh_iald (pc := 74) (v := 0) F 73 (RiW_na _ _ _ _ _ _) ⟨by decide, by decide⟩ (by decide) hf2 dL_refuses_74 ?_
  refine gh_iload_n (pc := 75) F dL_refuses_75 rfl 6 rfl ?_
  refine gh_iadd (pc := 76) (z := (0 + x)) F dL_refuses_76 rfl ?_
  refine gh_istore (pc := 77) (lv2 := [(7, vI (0 + x)), (6, vI (0 + x)), (5, vI (0 + x)), (4, vI (10 + x)), (3, vI 0), (0, .ref (a 0)), (1, .ref o), (2, vI x)]) F dL_refuses_77 (by decide) rfl ?_
  refine gh_iload_n (pc := 79) F dL_refuses_79 rfl 4 rfl ?_
  refine gh_if_eq (pc := 80) (tgt := 89) F dL_refuses_80 (by decide) (by omega) (fun _ => ?_) (fun cz => absurd cz (by omega))
  refine gh_aload_n (pc := 89) F dL_refuses_89 rfl 6 rfl ?_
  refine gh_const (pc := 90) F dL_refuses_90 ?_
  refine gh_iald (pc := 91) (v := 0) F 73 (RiW_na _ _ _ _ _ _) ⟨by decide, by decide⟩ (by decide) hf3 dL_refuses_91 ?_
  refine gh_iload_n (pc := 92) F dL_refuses_92 rfl 7 rfl ?_
  refine gh_iadd (pc := 93) (z := (0 + x)) F dL_refuses_93 rfl ?_
  refine gh_istore (pc := 94) (lv2 := [(8, vI (0 + x)), (7, vI (0 + x)), (6, vI (0 + x)), (5, vI (0 + x)), (4, vI (10 + x)), (3, vI 0), (0, .ref (a 0)), (1, .ref o), (2, vI x)]) F dL_refuses_94 (by decide) rfl ?_
  refine gh_iload_n (pc := 96) F dL_refuses_96 rfl 5 rfl ?_
  refine gh_if_eq (pc := 97) (tgt := 106) F dL_refuses_97 (by decide) (by omega) (fun _ => ?_) (fun cz => absurd cz (by omega))
  refine gh_sipush (pc := 106) F dL_refuses_106 (by decide) ?_
  refine gh_iload_n (pc := 109) F dL_refuses_109 rfl 8 rfl ?_
  refine gh_iadd (pc := 110) (z := (400 + x)) F dL_refuses_110 rfl ?_
  refine gh_istore (pc := 111) (lv2 := [(9, vI (400 + x)), (8, vI (0 + x)), (7, vI (0 + x)), (6, vI (0 + x)), (5, vI (0 + x)), (4, vI (10 + x)), (3, vI 0), (0, .ref (a 0)), (1, .ref o), (2, vI x)]) F dL_refuses_111 (by decide) rfl ?_
  refine gh_aload_n (pc := 113) F dL_refuses_113 rfl 7 rfl ?_
  refine gh_callI (pc := 114) (n := 0) (As := []) (rest := []) (bytes := cX8_slot) (maxL := 1) (ret := some .int) F (ct_X8_slot l D cI cJ cZ a r hr) gL_refuses_X8_slot rfl ⟨rfl, rfl⟩ (by decide +kernel) ⟨Nat.le_of_ble_eq_true rfl, Nat.le_of_ble_eq_true rfl⟩ rfl ([]) ([NA cI o f]) rfl 8 rfl rfl rfl (Nat.le_of_ble_eq_true rfl) ⟨Nat.le_of_ble_eq_true rfl, Nat.le_of_ble_eq_true rfl⟩ dL_refuses_114 (fun q114 hq114 => ?_)
  have hz114 : q114 = 0 := (show q114 = Pl_now (Ri_P r) from hq114).trans hnow
  subst hz114
  refine gh_bipush (pc := 117) F dL_refuses_117 (by decide) ?_
  refine gh_idiv (pc := 119) (z := 0) F dL_refuses_119 (by omega) (by omega) rfl ?_
  refine gh_istore (pc := 120) (lv2 := [(10, vI 0), (9, vI (400 + x)), (8, vI (0 + x)), (7, vI (0 + x)), (6, vI (0 + x)), (5, vI (0 + x)), (4, vI (10 + x)), (3, vI 0), (0, .ref (a 0)), (1, .ref o), (2, vI x)]) F dL_refuses_120 (by decide) rfl ?_
  refine gh_aload_n (pc := 122) F dL_refuses_122 rfl 8 rfl ?_
  refine gh_const (pc := 123) F dL_refuses_123 ?_
  refine gh_iload (pc := 124) F dL_refuses_124 6 rfl ?_
  refine gh_thr (pc := 126) (n := 3) (As := [.ref (a 0), vI 0, vI (10 + x)]) (rest := []) (bytes := cL_machine) (maxL := 4) (hh := [(0, 6, 7, 13), (0, 6, 11, 16), (0, 6, 15, 19)]) (E := xIO) (z := (-2000000001)) F FX NC (ctL_machine l hfl D cI cJ cZ a r 0 (10 + x) hr ⟨by omega, by omega⟩ ⟨by omega, by omega⟩) (Or.inl ⟨by omega, rfl⟩) gz_kN_O gL_refuses_L_machine rfl ⟨rfl, rfl⟩ (by decide +kernel) ⟨Nat.le_of_ble_eq_true rfl, Nat.le_of_ble_eq_true rfl⟩ rfl ([]) ([NA cI o f]) rfl rfl (Nat.le_of_ble_eq_true rfl) ⟨Nat.le_of_ble_eq_true rfl, Nat.le_of_ble_eq_true rfl⟩ (RiW_sh _ _) dL_refuses_126 ?_
  refine gh_ldc (pc := 129) (v := (-2000000001)) F knL_refuses_15 dL_refuses_129 ?_
  refine gh_icmp32_ne (pc := 131) F dL_refuses_131 (tgt := 678) (by decide) ?_
  refine gh_aload_n (pc := 134) F dL_refuses_134 rfl 8 rfl ?_
  refine gh_iload_n (pc := 135) F dL_refuses_135 rfl 7 rfl ?_
  refine gh_if_eq (pc := 136) (tgt := 145) F dL_refuses_136 (by decide) (by omega) (fun _ => ?_) (fun cz => absurd cz (by omega))
  refine gh_bipush (pc := 145) F dL_refuses_145 (by decide) ?_
  refine gh_iload_n (pc := 147) F dL_refuses_147 rfl 10 rfl ?_
  refine gh_iadd (pc := 148) (z := (16 + x)) F dL_refuses_148 rfl ?_
  refine gh_iload_n (pc := 149) F dL_refuses_149 rfl 10 rfl ?_
  refine gh_bipush (pc := 150) F dL_refuses_150 (by decide) ?_
  refine gh_irem (pc := 152) (z := (x % 10)) F dL_refuses_152 (by omega) (by omega) rfl ?_
  refine gh_thr (pc := 153) (n := 3) (As := [.ref (a 0), vI (16 + x), vI (x % 10)]) (rest := []) (bytes := cL_machine) (maxL := 4) (hh := [(0, 6, 7, 13), (0, 6, 11, 16), (0, 6, 15, 19)]) (E := xIA) (z := (-2000000002)) F FX NC (ctL_machine l hfl D cI cJ cZ a r (16 + x) (x % 10) hr ⟨by omega, by omega⟩ ⟨by omega, by omega⟩) (Or.inr ⟨by omega, Or.inl ⟨by omega, rfl⟩⟩) gz_kN_A gL_refuses_L_machine rfl ⟨rfl, rfl⟩ (by decide +kernel) ⟨Nat.le_of_ble_eq_true rfl, Nat.le_of_ble_eq_true rfl⟩ rfl ([]) ([NA cI o f]) rfl rfl (Nat.le_of_ble_eq_true rfl) ⟨Nat.le_of_ble_eq_true rfl, Nat.le_of_ble_eq_true rfl⟩ (RiW_sh _ _) dL_refuses_153 ?_
  refine gh_ldc (pc := 156) (v := (-2000000002)) F knL_refuses_18 dL_refuses_156 ?_
  refine gh_icmp32_ne (pc := 158) F dL_refuses_158 (tgt := 678) (by decide) ?_
  refine gh_aload_n (pc := 161) F dL_refuses_161 rfl 8 rfl ?_
  refine gh_iload (pc := 162) F dL_refuses_162 6 rfl ?_
  refine gh_iload (pc := 164) F dL_refuses_164 0 rfl ?_
  refine gh_iload (pc := 166) F dL_refuses_166 0 rfl ?_
  refine gh_thr (pc := 168) (n := 4) (As := [.ref (a 0), vI (10 + x), vI 0, vI 0]) (rest := []) (bytes := cL_leave) (maxL := 5) (hh := [(0, 8, 9, 13), (0, 8, 14, 16), (0, 8, 19, 19)]) (E := xIO) (z := (-2000000001)) F FX NC (ctL_leave l hfl D cI cJ cZ a r (10 + x) 0 0 hr ⟨by omega, by omega⟩ ⟨by omega, by omega⟩ ⟨by omega, by omega⟩) (Or.inl ⟨by omega, rfl⟩) gz_kN_O gL_refuses_L_leave rfl ⟨rfl, rfl⟩ (by decide +kernel) ⟨Nat.le_of_ble_eq_true rfl, Nat.le_of_ble_eq_true rfl⟩ rfl ([]) ([NA cI o f]) rfl rfl (Nat.le_of_ble_eq_true rfl) ⟨Nat.le_of_ble_eq_true rfl, Nat.le_of_ble_eq_true rfl⟩ (RiW_sh _ _) dL_refuses_168 ?_
  refine gh_ldc (pc := 171) (v := (-2000000001)) F knL_refuses_15 dL_refuses_171 ?_
  refine gh_icmp32_ne (pc := 173) F dL_refuses_173 (tgt := 678) (by decide) ?_
  refine gh_aload_n (pc := 176) F dL_refuses_176 rfl 8 rfl ?_
  refine gh_iload_n (pc := 177) F dL_refuses_177 rfl 10 rfl ?_
  refine gh_bipush (pc := 178) F dL_refuses_178 (by decide) ?_
  refine gh_irem (pc := 180) (z := (x % 10)) F dL_refuses_180 (by omega) (by omega) rfl ?_
  refine gh_iload_n (pc := 181) F dL_refuses_181 rfl 7 rfl ?_
  refine gh_if_eq (pc := 182) (tgt := 194) F dL_refuses_182 (by decide) (by omega) (fun _ => ?_) (fun cz => absurd cz (by omega))
  refine gh_bipush (pc := 194) F dL_refuses_194 (by decide) ?_
  refine gh_iload_n (pc := 196) F dL_refuses_196 rfl 10 rfl ?_
  refine gh_iadd (pc := 197) (z := (50 + x)) F dL_refuses_197 rfl ?_
  refine gh_bipush (pc := 198) F dL_refuses_198 (by decide) ?_
  refine gh_thr (pc := 200) (n := 4) (As := [.ref (a 0), vI (x % 10), vI (50 + x), vI 49]) (rest := []) (bytes := cL_leave) (maxL := 5) (hh := [(0, 8, 9, 13), (0, 8, 14, 16), (0, 8, 19, 19)]) (E := xIA) (z := (-2000000002)) F FX NC (ctL_leave l hfl D cI cJ cZ a r (x % 10) (50 + x) 49 hr ⟨by omega, by omega⟩ ⟨by omega, by omega⟩ ⟨by omega, by omega⟩) (Or.inr ⟨by omega, Or.inl ⟨by omega, rfl⟩⟩) gz_kN_A gL_refuses_L_leave rfl ⟨rfl, rfl⟩ (by decide +kernel) ⟨Nat.le_of_ble_eq_true rfl, Nat.le_of_ble_eq_true rfl⟩ rfl ([]) ([NA cI o f]) rfl rfl (Nat.le_of_ble_eq_true rfl) ⟨Nat.le_of_ble_eq_true rfl, Nat.le_of_ble_eq_true rfl⟩ (RiW_sh _ _) dL_refuses_200 ?_
  refine gh_ldc (pc := 203) (v := (-2000000002)) F knL_refuses_18 dL_refuses_203 ?_
  refine gh_icmp32_ne (pc := 205) F dL_refuses_205 (tgt := 678) (by decide) ?_
  refine gh_aload_n (pc := 208) F dL_refuses_208 rfl 8 rfl ?_
  refine gh_iload_n (pc := 209) F dL_refuses_209 rfl 10 rfl ?_
  refine gh_bipush (pc := 210) F dL_refuses_210 (by decide) ?_
  refine gh_irem (pc := 212) (z := (x % 10)) F dL_refuses_212 (by omega) (by omega) rfl ?_
  refine gh_iload (pc := 213) F dL_refuses_213 0 rfl ?_
  refine gh_iload_n (pc := 215) F dL_refuses_215 rfl 7 rfl ?_
  refine gh_if_eq (pc := 216) (tgt := 228) F dL_refuses_216 (by decide) (by omega) (fun _ => ?_) (fun cz => absurd cz (by omega))
  refine gh_bipush (pc := 228) F dL_refuses_228 (by decide) ?_
  refine gh_iload_n (pc := 230) F dL_refuses_230 rfl 10 rfl ?_
  refine gh_iadd (pc := 231) (z := (50 + x)) F dL_refuses_231 rfl ?_
  refine gh_thr (pc := 232) (n := 4) (As := [.ref (a 0), vI (x % 10), vI 0, vI (50 + x)]) (rest := []) (bytes := cL_leave) (maxL := 5) (hh := [(0, 8, 9, 13), (0, 8, 14, 16), (0, 8, 19, 19)]) (E := xIA) (z := (-2000000002)) F FX NC (ctL_leave l hfl D cI cJ cZ a r (x % 10) 0 (50 + x) hr ⟨by omega, by omega⟩ ⟨by omega, by omega⟩ ⟨by omega, by omega⟩) (Or.inr ⟨by omega, Or.inr ⟨by omega, Or.inl ⟨by omega, rfl⟩⟩⟩) gz_kN_A gL_refuses_L_leave rfl ⟨rfl, rfl⟩ (by decide +kernel) ⟨Nat.le_of_ble_eq_true rfl, Nat.le_of_ble_eq_true rfl⟩ rfl ([]) ([NA cI o f]) rfl rfl (Nat.le_of_ble_eq_true rfl) ⟨Nat.le_of_ble_eq_true rfl, Nat.le_of_ble_eq_true rfl⟩ (RiW_sh _ _) dL_refuses_232 ?_
  refine gh_ldc (pc := 235) (v := (-2000000002)) F knL_refuses_18 dL_refuses_235 ?_
  refine gh_icmp32_ne (pc := 237) F dL_refuses_237 (tgt := 678) (by decide) ?_
  refine gh_aload_n (pc := 240) F dL_refuses_240 rfl 8 rfl ?_
  refine gh_iload (pc := 241) F dL_refuses_241 5 rfl ?_
  refine gh_const (pc := 243) F dL_refuses_243 ?_
  refine gh_aload_n (pc := 244) F dL_refuses_244 rfl 8 rfl ?_
  refine gh_callI (pc := 245) (n := 0) (As := []) (rest := [vI 0, vI (0 + x), .ref (a 0)]) (bytes := cX8_slot) (maxL := 1) (ret := some .int) F (ct_X8_slot l D cI cJ cZ a r hr) gL_refuses_X8_slot rfl ⟨rfl, rfl⟩ (by decide +kernel) ⟨Nat.le_of_ble_eq_true rfl, Nat.le_of_ble_eq_true rfl⟩ rfl ([]) ([NA cI o f]) rfl 8 rfl rfl rfl (Nat.le_of_ble_eq_true rfl) ⟨Nat.le_of_ble_eq_true rfl, Nat.le_of_ble_eq_true rfl⟩ dL_refuses_245 (fun q245 hq245 => ?_)
  have hz245 : q245 = 0 := (show q245 = Pl_now (Ri_P r) from hq245).trans hnow
  subst hz245
  refine gh_sipush (pc := 248) F dL_refuses_248 (by decide) ?_
  refine gh_thr (pc := 251) (n := 5) (As := [.ref (a 0), vI (0 + x), vI 0, vI 0, vI 399]) (rest := []) (bytes := cL_lend) (maxL := 6) (hh := [(0, 10, 11, 13), (0, 10, 16, 16), (0, 10, 21, 19)]) (E := xIO) (z := (-2000000001)) F FX NC (ctL_lend l hfl D cI cJ cZ a r (0 + x) 0 0 399 hr ⟨by omega, by omega⟩ ⟨by omega, by omega⟩ ⟨by omega, by omega⟩ ⟨by omega, by omega⟩) (Or.inl ⟨by omega, rfl⟩) gz_kN_O gL_refuses_L_lend rfl ⟨rfl, rfl⟩ (by decide +kernel) ⟨Nat.le_of_ble_eq_true rfl, Nat.le_of_ble_eq_true rfl⟩ rfl ([]) ([NA cI o f]) rfl rfl (Nat.le_of_ble_eq_true rfl) ⟨Nat.le_of_ble_eq_true rfl, Nat.le_of_ble_eq_true rfl⟩ (RiW_sh _ _) dL_refuses_251 ?_
  refine gh_ldc (pc := 254) (v := (-2000000001)) F knL_refuses_15 dL_refuses_254 ?_
  refine gh_icmp32_ne (pc := 256) F dL_refuses_256 (tgt := 678) (by decide) ?_
  refine gh_aload_n (pc := 259) F dL_refuses_259 rfl 8 rfl ?_
  refine gh_iload (pc := 260) F dL_refuses_260 5 rfl ?_
  refine gh_const (pc := 262) F dL_refuses_262 ?_
  refine gh_thr (pc := 263) (n := 3) (As := [.ref (a 0), vI (0 + x), vI 1]) (rest := []) (bytes := cL_breakDown) (maxL := 4) (hh := [(0, 6, 7, 13), (0, 6, 11, 16)]) (E := xIO) (z := (-2000000001)) F FX NC (ctL_breakDown l hfl D cI cJ cZ a r (0 + x) 1 hr ⟨by omega, by omega⟩ ⟨by omega, by omega⟩) (Or.inl ⟨by omega, rfl⟩) gz_kN_O gL_refuses_L_breakDown rfl ⟨rfl, rfl⟩ (by decide +kernel) ⟨Nat.le_of_ble_eq_true rfl, Nat.le_of_ble_eq_true rfl⟩ rfl ([]) ([NA cI o f]) rfl rfl (Nat.le_of_ble_eq_true rfl) ⟨Nat.le_of_ble_eq_true rfl, Nat.le_of_ble_eq_true rfl⟩ (RiW_sh _ _) dL_refuses_263 ?_
  refine gh_ldc (pc := 266) (v := (-2000000001)) F knL_refuses_15 dL_refuses_266 ?_
  refine gh_icmp32_ne (pc := 268) F dL_refuses_268 (tgt := 678) (by decide) ?_
  refine gh_aload_n (pc := 271) F dL_refuses_271 rfl 8 rfl ?_
  refine gh_const (pc := 272) F dL_refuses_272 ?_
  refine gh_aload_n (pc := 273) F dL_refuses_273 rfl 8 rfl ?_
  refine gh_callI (pc := 274) (n := 0) (As := []) (rest := [vI 1, .ref (a 0)]) (bytes := cX8_slot) (maxL := 1) (ret := some .int) F (ct_X8_slot l D cI cJ cZ a r hr) gL_refuses_X8_slot rfl ⟨rfl, rfl⟩ (by decide +kernel) ⟨Nat.le_of_ble_eq_true rfl, Nat.le_of_ble_eq_true rfl⟩ rfl ([]) ([NA cI o f]) rfl 8 rfl rfl rfl (Nat.le_of_ble_eq_true rfl) ⟨Nat.le_of_ble_eq_true rfl, Nat.le_of_ble_eq_true rfl⟩ dL_refuses_274 (fun q274 hq274 => ?_)
  have hz274 : q274 = 0 := (show q274 = Pl_now (Ri_P r) from hq274).trans hnow
  subst hz274
  refine gh_const (pc := 277) F dL_refuses_277 ?_
  refine gh_iload_n (pc := 278) F dL_refuses_278 rfl 7 rfl ?_
  refine gh_if_eq (pc := 279) (tgt := 289) F dL_refuses_279 (by decide) (by omega) (fun _ => ?_) (fun cz => absurd cz (by omega))
  refine gh_aload_n (pc := 289) F dL_refuses_289 rfl 9 rfl ?_
  refine gh_const (pc := 290) F dL_refuses_290 ?_
  refine gh_iald (pc := 291) (v := 0) F 73 (RiW_na _ _ _ _ _ _) ⟨by decide, by decide⟩ (by decide) hf0 dL_refuses_291 ?_
  refine gh_iload_n (pc := 292) F dL_refuses_292 rfl 10 rfl ?_
  refine gh_iadd (pc := 293) (z := (0 + x)) F dL_refuses_293 rfl ?_
  refine gh_thr (pc := 294) (n := 5) (As := [.ref (a 0), vI 1, vI 0, vI 1, vI (0 + x)]) (rest := []) (bytes := cL_meeting) (maxL := 6) (hh := [(0, 9, 10, 13), (0, 9, 15, 16), (0, 9, 20, 19)]) (E := xIO) (z := (-2000000001)) F FX NC (ctL_meeting l hfl D cI cJ cZ a r 1 0 1 (0 + x) hr ⟨by omega, by omega⟩ ⟨by omega, by omega⟩ ⟨by omega, by omega⟩ ⟨by omega, by omega⟩) (Or.inl ⟨by omega, rfl⟩) gz_kN_O gL_refuses_L_meeting rfl ⟨rfl, rfl⟩ (by decide +kernel) ⟨Nat.le_of_ble_eq_true rfl, Nat.le_of_ble_eq_true rfl⟩ rfl ([]) ([NA cI o f]) rfl rfl (Nat.le_of_ble_eq_true rfl) ⟨Nat.le_of_ble_eq_true rfl, Nat.le_of_ble_eq_true rfl⟩ (RiW_sh _ _) dL_refuses_294 ?_
  refine gh_ldc (pc := 297) (v := (-2000000001)) F knL_refuses_15 dL_refuses_297 ?_
  refine gh_icmp32_ne (pc := 299) F dL_refuses_299 (tgt := 678) (by decide) ?_
  refine gh_aload_n (pc := 302) F dL_refuses_302 rfl 8 rfl ?_
  refine gh_iload_n (pc := 303) F dL_refuses_303 rfl 7 rfl ?_
  refine gh_if_eq (pc := 304) (tgt := 312) F dL_refuses_304 (by decide) (by omega) (fun _ => ?_) (fun cz => absurd cz (by omega))
  refine gh_sipush (pc := 312) F dL_refuses_312 (by decide) ?_
  refine gh_iload_n (pc := 315) F dL_refuses_315 rfl 10 rfl ?_
  refine gh_iadd (pc := 316) (z := (1024 + x)) F dL_refuses_316 rfl ?_
  refine gh_aload_n (pc := 317) F dL_refuses_317 rfl 8 rfl ?_
  refine gh_callI (pc := 318) (n := 0) (As := []) (rest := [vI (1024 + x), .ref (a 0)]) (bytes := cX8_slot) (maxL := 1) (ret := some .int) F (ct_X8_slot l D cI cJ cZ a r hr) gL_refuses_X8_slot rfl ⟨rfl, rfl⟩ (by decide +kernel) ⟨Nat.le_of_ble_eq_true rfl, Nat.le_of_ble_eq_true rfl⟩ rfl ([]) ([NA cI o f]) rfl 8 rfl rfl rfl (Nat.le_of_ble_eq_true rfl) ⟨Nat.le_of_ble_eq_true rfl, Nat.le_of_ble_eq_true rfl⟩ dL_refuses_318 (fun q318 hq318 => ?_)
  have hz318 : q318 = 0 := (show q318 = Pl_now (Ri_P r) from hq318).trans hnow
  subst hz318
  refine gh_const (pc := 321) F dL_refuses_321 ?_
  refine gh_const (pc := 322) F dL_refuses_322 ?_
  refine gh_thr (pc := 323) (n := 5) (As := [.ref (a 0), vI (1024 + x), vI 0, vI 1, vI (-1)]) (rest := []) (bytes := cL_meeting) (maxL := 6) (hh := [(0, 9, 10, 13), (0, 9, 15, 16), (0, 9, 20, 19)]) (E := xIA) (z := (-2000000002)) F FX NC (ctL_meeting l hfl D cI cJ cZ a r (1024 + x) 0 1 (-1) hr ⟨by omega, by omega⟩ ⟨by omega, by omega⟩ ⟨by omega, by omega⟩ ⟨by omega, by omega⟩) (Or.inr ⟨by omega, Or.inl ⟨by omega, rfl⟩⟩) gz_kN_A gL_refuses_L_meeting rfl ⟨rfl, rfl⟩ (by decide +kernel) ⟨Nat.le_of_ble_eq_true rfl, Nat.le_of_ble_eq_true rfl⟩ rfl ([]) ([NA cI o f]) rfl rfl (Nat.le_of_ble_eq_true rfl) ⟨Nat.le_of_ble_eq_true rfl, Nat.le_of_ble_eq_true rfl⟩ (RiW_sh _ _) dL_refuses_323 ?_
  refine gh_ldc (pc := 326) (v := (-2000000002)) F knL_refuses_18 dL_refuses_326 ?_
  refine gh_icmp32_ne (pc := 328) F dL_refuses_328 (tgt := 678) (by decide) ?_
  refine gh_aload_n (pc := 331) F dL_refuses_331 rfl 8 rfl ?_
  refine gh_const (pc := 332) F dL_refuses_332 ?_
  refine gh_iload_n (pc := 333) F dL_refuses_333 rfl 7 rfl ?_
  refine gh_if_eq (pc := 334) (tgt := 348) F dL_refuses_334 (by decide) (by omega) (fun _ => ?_) (fun cz => absurd cz (by omega))
  refine gh_sipush (pc := 348) F dL_refuses_348 (by decide) ?_
  refine gh_iload_n (pc := 351) F dL_refuses_351 rfl 10 rfl ?_
  refine gh_iadd (pc := 352) (z := (400 + x)) F dL_refuses_352 rfl ?_
  refine gh_const (pc := 353) F dL_refuses_353 ?_
  refine gh_const (pc := 354) F dL_refuses_354 ?_
  refine gh_thr (pc := 355) (n := 5) (As := [.ref (a 0), vI 1, vI (400 + x), vI 1, vI (-1)]) (rest := []) (bytes := cL_meeting) (maxL := 6) (hh := [(0, 9, 10, 13), (0, 9, 15, 16), (0, 9, 20, 19)]) (E := xIA) (z := (-2000000002)) F FX NC (ctL_meeting l hfl D cI cJ cZ a r 1 (400 + x) 1 (-1) hr ⟨by omega, by omega⟩ ⟨by omega, by omega⟩ ⟨by omega, by omega⟩ ⟨by omega, by omega⟩) (Or.inr ⟨by omega, Or.inr ⟨by omega, Or.inl ⟨by omega, rfl⟩⟩⟩) gz_kN_A gL_refuses_L_meeting rfl ⟨rfl, rfl⟩ (by decide +kernel) ⟨Nat.le_of_ble_eq_true rfl, Nat.le_of_ble_eq_true rfl⟩ rfl ([]) ([NA cI o f]) rfl rfl (Nat.le_of_ble_eq_true rfl) ⟨Nat.le_of_ble_eq_true rfl, Nat.le_of_ble_eq_true rfl⟩ (RiW_sh _ _) dL_refuses_355 ?_
  refine gh_ldc (pc := 358) (v := (-2000000002)) F knL_refuses_18 dL_refuses_358 ?_
  refine gh_icmp32_ne (pc := 360) F dL_refuses_360 (tgt := 678) (by decide) ?_
  refine gh_aload_n (pc := 363) F dL_refuses_363 rfl 8 rfl ?_
  refine gh_const (pc := 364) F dL_refuses_364 ?_
  refine gh_sipush (pc := 365) F dL_refuses_365 (by decide) ?_
  refine gh_iload_n (pc := 368) F dL_refuses_368 rfl 7 rfl ?_
  refine gh_if_eq (pc := 369) (tgt := 377) F dL_refuses_369 (by decide) (by omega) (fun _ => ?_) (fun cz => absurd cz (by omega))
  refine gh_const (pc := 377) F dL_refuses_377 ?_
  refine gh_iload_n (pc := 378) F dL_refuses_378 rfl 10 rfl ?_
  refine gh_iadd (pc := 379) (z := (5 + x)) F dL_refuses_379 rfl ?_
  refine gh_const (pc := 380) F dL_refuses_380 ?_
  refine gh_thr (pc := 381) (n := 5) (As := [.ref (a 0), vI 1, vI 399, vI (5 + x), vI (-1)]) (rest := []) (bytes := cL_meeting) (maxL := 6) (hh := [(0, 9, 10, 13), (0, 9, 15, 16), (0, 9, 20, 19)]) (E := xIA) (z := (-2000000002)) F FX NC (ctL_meeting l hfl D cI cJ cZ a r 1 399 (5 + x) (-1) hr ⟨by omega, by omega⟩ ⟨by omega, by omega⟩ ⟨by omega, by omega⟩ ⟨by omega, by omega⟩) (Or.inr ⟨by omega, Or.inr ⟨by omega, Or.inr ⟨by omega, Or.inl ⟨by omega, rfl⟩⟩⟩⟩) gz_kN_A gL_refuses_L_meeting rfl ⟨rfl, rfl⟩ (by decide +kernel) ⟨Nat.le_of_ble_eq_true rfl, Nat.le_of_ble_eq_true rfl⟩ rfl ([]) ([NA cI o f]) rfl rfl (Nat.le_of_ble_eq_true rfl) ⟨Nat.le_of_ble_eq_true rfl, Nat.le_of_ble_eq_true rfl⟩ (RiW_sh _ _) dL_refuses_381 ?_
  refine gh_ldc (pc := 384) (v := (-2000000002)) F knL_refuses_18 dL_refuses_384 ?_
  refine gh_icmp32_ne (pc := 386) F dL_refuses_386 (tgt := 678) (by decide) ?_
  refine gh_aload_n (pc := 389) F dL_refuses_389 rfl 8 rfl ?_
  refine gh_const (pc := 390) F dL_refuses_390 ?_
  refine gh_sipush (pc := 391) F dL_refuses_391 (by decide) ?_
  refine gh_const (pc := 394) F dL_refuses_394 ?_
  refine gh_const (pc := 395) F dL_refuses_395 ?_
  refine gh_thr (pc := 396) (n := 5) (As := [.ref (a 0), vI 1, vI 399, vI 2, vI (-1)]) (rest := []) (bytes := cL_meeting) (maxL := 6) (hh := [(0, 9, 10, 13), (0, 9, 15, 16), (0, 9, 20, 19)]) (E := xIA) (z := (-2000000002)) F FX NC (ctL_meeting l hfl D cI cJ cZ a r 1 399 2 (-1) hr ⟨by omega, by omega⟩ ⟨by omega, by omega⟩ ⟨by omega, by omega⟩ ⟨by omega, by omega⟩) (Or.inr ⟨by omega, Or.inr ⟨by omega, Or.inr ⟨by omega, Or.inr ⟨by omega, Or.inl ⟨by omega, rfl⟩⟩⟩⟩⟩) gz_kN_A gL_refuses_L_meeting rfl ⟨rfl, rfl⟩ (by decide +kernel) ⟨Nat.le_of_ble_eq_true rfl, Nat.le_of_ble_eq_true rfl⟩ rfl ([]) ([NA cI o f]) rfl rfl (Nat.le_of_ble_eq_true rfl) ⟨Nat.le_of_ble_eq_true rfl, Nat.le_of_ble_eq_true rfl⟩ (RiW_sh _ _) dL_refuses_396 ?_
  refine gh_ldc (pc := 399) (v := (-2000000002)) F knL_refuses_18 dL_refuses_399 ?_
  refine gh_icmp32_ne (pc := 401) F dL_refuses_401 (tgt := 678) (by decide) ?_
  refine gh_aload_n (pc := 404) F dL_refuses_404 rfl 8 rfl ?_
  refine gh_iload (pc := 405) F dL_refuses_405 4 rfl ?_
  refine gh_sipush (pc := 407) F dL_refuses_407 (by decide) ?_
  refine gh_thr (pc := 410) (n := 3) (As := [.ref (a 0), vI (0 + x), vI 399]) (rest := []) (bytes := cL_move) (maxL := 4) (hh := [(0, 14, 15, 13), (0, 14, 19, 16), (0, 14, 23, 19)]) (E := xIO) (z := (-2000000001)) F FX NC (ctL_move l hfl D cI cJ cZ a r (0 + x) 399 hr ⟨by omega, by omega⟩ ⟨by omega, by omega⟩ (fun k h1 h2 => absurd h2 (by omega))) (Or.inl ⟨by omega, rfl⟩) gz_kN_O gL_refuses_L_move rfl ⟨rfl, rfl⟩ (by decide +kernel) ⟨Nat.le_of_ble_eq_true rfl, Nat.le_of_ble_eq_true rfl⟩ rfl ([]) ([NA cI o f]) rfl rfl (Nat.le_of_ble_eq_true rfl) ⟨Nat.le_of_ble_eq_true rfl, Nat.le_of_ble_eq_true rfl⟩ (RiW_sh _ _) dL_refuses_410 ?_
  refine gh_ldc (pc := 413) (v := (-2000000001)) F knL_refuses_15 dL_refuses_413 ?_
  refine gh_icmp32_ne (pc := 415) F dL_refuses_415 (tgt := 678) (by decide) ?_
  refine gh_aload_n (pc := 418) F dL_refuses_418 rfl 8 rfl ?_
  refine gh_iload (pc := 419) F dL_refuses_419 4 rfl ?_
  refine gh_thr (pc := 421) (n := 2) (As := [.ref (a 0), vI (0 + x)]) (rest := []) (bytes := cL_cancel) (maxL := 3) (hh := [(0, 6, 7, 13), (0, 6, 11, 19)]) (E := xIO) (z := (-2000000001)) F FX NC (ctL_cancel l hfl D cI cJ cZ a r (0 + x) hr ⟨by omega, by omega⟩) (Or.inl ⟨by omega, rfl⟩) gz_kN_O gL_refuses_L_cancel rfl ⟨rfl, rfl⟩ (by decide +kernel) ⟨Nat.le_of_ble_eq_true rfl, Nat.le_of_ble_eq_true rfl⟩ rfl ([]) ([NA cI o f]) rfl rfl (Nat.le_of_ble_eq_true rfl) ⟨Nat.le_of_ble_eq_true rfl, Nat.le_of_ble_eq_true rfl⟩ (RiW_sh _ _) dL_refuses_421 ?_
  refine gh_ldc (pc := 424) (v := (-2000000001)) F knL_refuses_15 dL_refuses_424 ?_
  refine gh_icmp32_ne (pc := 426) F dL_refuses_426 (tgt := 678) (by decide) ?_
  refine gh_aload_n (pc := 429) F dL_refuses_429 rfl 8 rfl ?_
  refine gh_iload (pc := 430) F dL_refuses_430 4 rfl ?_
  refine gh_const (pc := 432) F dL_refuses_432 ?_
  refine gh_thr (pc := 433) (n := 3) (As := [.ref (a 0), vI (0 + x), vI 0]) (rest := []) (bytes := cL_swap) (maxL := 4) (hh := [(0, 6, 7, 13), (0, 6, 11, 16), (0, 6, 15, 19)]) (E := xIO) (z := (-2000000001)) F FX NC (ctL_swap l hfl D cI cJ cZ a r (0 + x) 0 hr ⟨by omega, by omega⟩ ⟨by omega, by omega⟩) (Or.inl ⟨by omega, rfl⟩) gz_kN_O gL_refuses_L_swap rfl ⟨rfl, rfl⟩ (by decide +kernel) ⟨Nat.le_of_ble_eq_true rfl, Nat.le_of_ble_eq_true rfl⟩ rfl ([]) ([NA cI o f]) rfl rfl (Nat.le_of_ble_eq_true rfl) ⟨Nat.le_of_ble_eq_true rfl, Nat.le_of_ble_eq_true rfl⟩ (RiW_sh _ _) dL_refuses_433 ?_
  refine gh_ldc (pc := 436) (v := (-2000000001)) F knL_refuses_15 dL_refuses_436 ?_
  refine gh_icmp32_ne (pc := 438) F dL_refuses_438 (tgt := 678) (by decide) ?_
  refine gh_aload_n (pc := 441) F dL_refuses_441 rfl 8 rfl ?_
  refine gh_iload (pc := 442) F dL_refuses_442 6 rfl ?_
  refine gh_const (pc := 444) F dL_refuses_444 ?_
  refine gh_thr (pc := 445) (n := 3) (As := [.ref (a 0), vI (10 + x), vI 0]) (rest := []) (bytes := cL_agree) (maxL := 4) (hh := [(0, 6, 7, 13), (0, 6, 11, 19)]) (E := xIO) (z := (-2000000001)) F FX NC (ctL_agree l hfl D cI cJ cZ a r (10 + x) 0 hr ⟨by omega, by omega⟩ ⟨by omega, by omega⟩ (fun k h1 h2 => absurd h2 (by omega))) (Or.inl ⟨by omega, rfl⟩) gz_kN_O gL_refuses_L_agree rfl ⟨rfl, rfl⟩ (by decide +kernel) ⟨Nat.le_of_ble_eq_true rfl, Nat.le_of_ble_eq_true rfl⟩ rfl ([]) ([NA cI o f]) rfl rfl (Nat.le_of_ble_eq_true rfl) ⟨Nat.le_of_ble_eq_true rfl, Nat.le_of_ble_eq_true rfl⟩ (RiW_sh _ _) dL_refuses_445 ?_
  refine gh_ldc (pc := 448) (v := (-2000000001)) F knL_refuses_15 dL_refuses_448 ?_
  refine gh_icmp32_ne (pc := 450) F dL_refuses_450 (tgt := 678) (by decide) ?_
  refine gh_aload_n (pc := 453) F dL_refuses_453 rfl 8 rfl ?_
  refine gh_iload_n (pc := 454) F dL_refuses_454 rfl 10 rfl ?_
  refine gh_bipush (pc := 455) F dL_refuses_455 (by decide) ?_
  refine gh_irem (pc := 457) (z := (x % 10)) F dL_refuses_457 (by omega) (by omega) rfl ?_
  refine gh_iload (pc := 458) F dL_refuses_458 2 rfl ?_
  refine gh_thr (pc := 460) (n := 3) (As := [.ref (a 0), vI (x % 10), vI (0 + x)]) (rest := []) (bytes := cL_agree) (maxL := 4) (hh := [(0, 6, 7, 13), (0, 6, 11, 19)]) (E := xIO) (z := (-2000000001)) F FX NC (ctL_agree l hfl D cI cJ cZ a r (x % 10) (0 + x) hr ⟨by omega, by omega⟩ ⟨by omega, by omega⟩ (fun k h1 h2 => absurd h2 (by omega))) (Or.inr ⟨by omega, Or.inl ⟨by omega, rfl⟩⟩) gz_kN_O gL_refuses_L_agree rfl ⟨rfl, rfl⟩ (by decide +kernel) ⟨Nat.le_of_ble_eq_true rfl, Nat.le_of_ble_eq_true rfl⟩ rfl ([]) ([NA cI o f]) rfl rfl (Nat.le_of_ble_eq_true rfl) ⟨Nat.le_of_ble_eq_true rfl, Nat.le_of_ble_eq_true rfl⟩ (RiW_sh _ _) dL_refuses_460 ?_
  refine gh_ldc (pc := 463) (v := (-2000000001)) F knL_refuses_15 dL_refuses_463 ?_
  refine gh_icmp32_ne (pc := 465) F dL_refuses_465 (tgt := 678) (by decide) ?_
  refine gh_aload_n (pc := 468) F dL_refuses_468 rfl 8 rfl ?_
  refine gh_iload_n (pc := 469) F dL_refuses_469 rfl 7 rfl ?_
  refine gh_if_eq (pc := 470) (tgt := 479) F dL_refuses_470 (by decide) (by omega) (fun _ => ?_) (fun cz => absurd cz (by omega))
  refine gh_bipush (pc := 479) F dL_refuses_479 (by decide) ?_
  refine gh_iload_n (pc := 481) F dL_refuses_481 rfl 10 rfl ?_
  refine gh_iadd (pc := 482) (z := (16 + x)) F dL_refuses_482 rfl ?_
  refine gh_const (pc := 483) F dL_refuses_483 ?_
  refine gh_const (pc := 484) F dL_refuses_484 ?_
  refine gh_thr (pc := 485) (n := 4) (As := [.ref (a 0), vI (16 + x), vI 0, vI 1]) (rest := []) (bytes := cL_build) (maxL := 5) (hh := [(0, 7, 8, 16), (0, 7, 13, 19)]) (E := xIA) (z := (-2000000002)) F FX NC (ctL_build l hfl D cI cJ cZ a r (16 + x) 0 1 hr ⟨by omega, by omega⟩ ⟨by omega, by omega⟩ ⟨by omega, by omega⟩) (Or.inl ⟨by omega, rfl⟩) gz_kN_A gL_refuses_L_build rfl ⟨rfl, rfl⟩ (by decide +kernel) ⟨Nat.le_of_ble_eq_true rfl, Nat.le_of_ble_eq_true rfl⟩ rfl ([]) ([NA cI o f]) rfl rfl (Nat.le_of_ble_eq_true rfl) ⟨Nat.le_of_ble_eq_true rfl, Nat.le_of_ble_eq_true rfl⟩ (RiW_sh _ _) dL_refuses_485 ?_
  refine gh_ldc (pc := 488) (v := (-2000000002)) F knL_refuses_18 dL_refuses_488 ?_
  refine gh_icmp32_ne (pc := 490) F dL_refuses_490 (tgt := 678) (by decide) ?_
  refine gh_aload_n (pc := 493) F dL_refuses_493 rfl 8 rfl ?_
  refine gh_const (pc := 494) F dL_refuses_494 ?_
  refine gh_iload_n (pc := 495) F dL_refuses_495 rfl 7 rfl ?_
  refine gh_if_eq (pc := 496) (tgt := 505) F dL_refuses_496 (by decide) (by omega) (fun _ => ?_) (fun cz => absurd cz (by omega))
  refine gh_bipush (pc := 505) F dL_refuses_505 (by decide) ?_
  refine gh_iload_n (pc := 507) F dL_refuses_507 rfl 10 rfl ?_
  refine gh_iadd (pc := 508) (z := (10 + x)) F dL_refuses_508 rfl ?_
  refine gh_const (pc := 509) F dL_refuses_509 ?_
  refine gh_thr (pc := 510) (n := 4) (As := [.ref (a 0), vI 0, vI (10 + x), vI 1]) (rest := []) (bytes := cL_build) (maxL := 5) (hh := [(0, 7, 8, 16), (0, 7, 13, 19)]) (E := xIA) (z := (-2000000002)) F FX NC (ctL_build l hfl D cI cJ cZ a r 0 (10 + x) 1 hr ⟨by omega, by omega⟩ ⟨by omega, by omega⟩ ⟨by omega, by omega⟩) (Or.inr ⟨by omega, Or.inl ⟨by omega, rfl⟩⟩) gz_kN_A gL_refuses_L_build rfl ⟨rfl, rfl⟩ (by decide +kernel) ⟨Nat.le_of_ble_eq_true rfl, Nat.le_of_ble_eq_true rfl⟩ rfl ([]) ([NA cI o f]) rfl rfl (Nat.le_of_ble_eq_true rfl) ⟨Nat.le_of_ble_eq_true rfl, Nat.le_of_ble_eq_true rfl⟩ (RiW_sh _ _) dL_refuses_510 ?_
  refine gh_ldc (pc := 513) (v := (-2000000002)) F knL_refuses_18 dL_refuses_513 ?_
  refine gh_icmp32_ne (pc := 515) F dL_refuses_515 (tgt := 678) (by decide) ?_
  refine gh_aload_n (pc := 518) F dL_refuses_518 rfl 8 rfl ?_
  refine gh_const (pc := 519) F dL_refuses_519 ?_
  refine gh_const (pc := 520) F dL_refuses_520 ?_
  refine gh_iload_n (pc := 521) F dL_refuses_521 rfl 7 rfl ?_
  refine gh_if_eq (pc := 522) (tgt := 530) F dL_refuses_522 (by decide) (by omega) (fun _ => ?_) (fun cz => absurd cz (by omega))
  refine gh_bipush (pc := 530) F dL_refuses_530 (by decide) ?_
  refine gh_iload_n (pc := 532) F dL_refuses_532 rfl 10 rfl ?_
  refine gh_iadd (pc := 533) (z := (7 + x)) F dL_refuses_533 rfl ?_
  refine gh_thr (pc := 534) (n := 4) (As := [.ref (a 0), vI 0, vI 0, vI (7 + x)]) (rest := []) (bytes := cL_build) (maxL := 5) (hh := [(0, 7, 8, 16), (0, 7, 13, 19)]) (E := xIA) (z := (-2000000002)) F FX NC (ctL_build l hfl D cI cJ cZ a r 0 0 (7 + x) hr ⟨by omega, by omega⟩ ⟨by omega, by omega⟩ ⟨by omega, by omega⟩) (Or.inr ⟨by omega, Or.inr ⟨by omega, Or.inl ⟨by omega, rfl⟩⟩⟩) gz_kN_A gL_refuses_L_build rfl ⟨rfl, rfl⟩ (by decide +kernel) ⟨Nat.le_of_ble_eq_true rfl, Nat.le_of_ble_eq_true rfl⟩ rfl ([]) ([NA cI o f]) rfl rfl (Nat.le_of_ble_eq_true rfl) ⟨Nat.le_of_ble_eq_true rfl, Nat.le_of_ble_eq_true rfl⟩ (RiW_sh _ _) dL_refuses_534 ?_
  refine gh_ldc (pc := 537) (v := (-2000000002)) F knL_refuses_18 dL_refuses_537 ?_
  refine gh_icmp32_ne (pc := 539) F dL_refuses_539 (tgt := 678) (by decide) ?_
  refine gh_aload_n (pc := 542) F dL_refuses_542 rfl 8 rfl ?_
  refine gh_iload (pc := 543) F dL_refuses_543 3 rfl ?_
  refine gh_const (pc := 545) F dL_refuses_545 ?_
  refine gh_thr (pc := 546) (n := 3) (As := [.ref (a 0), vI (0 + x), vI 0]) (rest := []) (bytes := cL_urge) (maxL := 4) (hh := [(0, 6, 7, 13), (0, 6, 11, 16), (0, 6, 15, 19)]) (E := xIO) (z := (-2000000001)) F FX NC (ctL_urge l hfl D cI cJ cZ a r (0 + x) 0 hr ⟨by omega, by omega⟩ ⟨by omega, by omega⟩) (Or.inl ⟨by omega, rfl⟩) gz_kN_O gL_refuses_L_urge rfl ⟨rfl, rfl⟩ (by decide +kernel) ⟨Nat.le_of_ble_eq_true rfl, Nat.le_of_ble_eq_true rfl⟩ rfl ([]) ([NA cI o f]) rfl rfl (Nat.le_of_ble_eq_true rfl) ⟨Nat.le_of_ble_eq_true rfl, Nat.le_of_ble_eq_true rfl⟩ (RiW_sh _ _) dL_refuses_546 ?_
  refine gh_ldc (pc := 549) (v := (-2000000001)) F knL_refuses_15 dL_refuses_549 ?_
  refine gh_icmp32_ne (pc := 551) F dL_refuses_551 (tgt := 678) (by decide) ?_
  refine gh_aload_n (pc := 554) F dL_refuses_554 rfl 8 rfl ?_
  refine gh_iload_n (pc := 555) F dL_refuses_555 rfl 7 rfl ?_
  refine gh_if_eq (pc := 556) (tgt := 564) F dL_refuses_556 (by decide) (by omega) (fun _ => ?_) (fun cz => absurd cz (by omega))
  refine gh_bipush (pc := 564) F dL_refuses_564 (by decide) ?_
  refine gh_iload_n (pc := 566) F dL_refuses_566 rfl 10 rfl ?_
  refine gh_iadd (pc := 567) (z := (51 + x)) F dL_refuses_567 rfl ?_
  refine gh_thr (pc := 568) (n := 2) (As := [.ref (a 0), vI (51 + x)]) (rest := []) (bytes := cL_pass) (maxL := 3) (hh := [(0, 5, 6, 16), (0, 5, 10, 19)]) (E := xIA) (z := (-2000000002)) F FX NC (ctL_pass l hfl D cI cJ cZ a r (51 + x) hr ⟨by omega, by omega⟩) (Or.inl ⟨by omega, rfl⟩) gz_kN_A gL_refuses_L_pass rfl ⟨rfl, rfl⟩ (by decide +kernel) ⟨Nat.le_of_ble_eq_true rfl, Nat.le_of_ble_eq_true rfl⟩ rfl ([]) ([NA cI o f]) rfl rfl (Nat.le_of_ble_eq_true rfl) ⟨Nat.le_of_ble_eq_true rfl, Nat.le_of_ble_eq_true rfl⟩ (RiW_sh _ _) dL_refuses_568 ?_
  refine gh_ldc (pc := 571) (v := (-2000000002)) F knL_refuses_18 dL_refuses_571 ?_
  refine gh_icmp32_ne (pc := 573) F dL_refuses_573 (tgt := 678) (by decide) ?_
  refine gh_aload_n (pc := 576) F dL_refuses_576 rfl 8 rfl ?_
  refine gh_iload (pc := 577) F dL_refuses_577 4 rfl ?_
  refine gh_const (pc := 579) F dL_refuses_579 ?_
  refine gh_thr (pc := 580) (n := 3) (As := [.ref (a 0), vI (0 + x), vI 0]) (rest := []) (bytes := cL_meetingOf) (maxL := 4) (hh := [(0, 6, 7, 13), (0, 6, 11, 16)]) (E := xIO) (z := (-2000000001)) F FX NC (ctL_meetingOf l hfl D cI cJ cZ a r (0 + x) 0 hr ⟨by omega, by omega⟩ ⟨by omega, by omega⟩) (Or.inl ⟨by omega, rfl⟩) gz_kN_O gL_refuses_L_meetingOf rfl ⟨rfl, rfl⟩ (by decide +kernel) ⟨Nat.le_of_ble_eq_true rfl, Nat.le_of_ble_eq_true rfl⟩ rfl ([]) ([NA cI o f]) rfl rfl (Nat.le_of_ble_eq_true rfl) ⟨Nat.le_of_ble_eq_true rfl, Nat.le_of_ble_eq_true rfl⟩ (RiW_sh _ _) dL_refuses_580 ?_
  refine gh_ldc (pc := 583) (v := (-2000000001)) F knL_refuses_15 dL_refuses_583 ?_
  refine gh_icmp32_ne (pc := 585) F dL_refuses_585 (tgt := 678) (by decide) ?_
  refine gh_aload_n (pc := 588) F dL_refuses_588 rfl 8 rfl ?_
  refine gh_iload (pc := 589) F dL_refuses_589 2 rfl ?_
  refine gh_thr (pc := 591) (n := 2) (As := [.ref (a 0), vI (0 + x)]) (rest := []) (bytes := cL_swapOf) (maxL := 3) (hh := [(0, 5, 6, 13)]) (E := xIO) (z := (-2000000001)) F FX NC (ctL_swapOf l hfl D cI cJ cZ a r (0 + x) hr ⟨by omega, by omega⟩) (Or.inl ⟨by omega, rfl⟩) gz_kN_O gL_refuses_L_swapOf rfl ⟨rfl, rfl⟩ (by decide +kernel) ⟨Nat.le_of_ble_eq_true rfl, Nat.le_of_ble_eq_true rfl⟩ rfl ([]) ([NA cI o f]) rfl rfl (Nat.le_of_ble_eq_true rfl) ⟨Nat.le_of_ble_eq_true rfl, Nat.le_of_ble_eq_true rfl⟩ (RiW_sh _ _) dL_refuses_591 ?_
  refine gh_ldc (pc := 594) (v := (-2000000001)) F knL_refuses_15 dL_refuses_594 ?_
  refine gh_icmp32_ne (pc := 596) F dL_refuses_596 (tgt := 678) (by decide) ?_
  refine gh_aload_n (pc := 599) F dL_refuses_599 rfl 8 rfl ?_
  refine gh_iload (pc := 600) F dL_refuses_600 3 rfl ?_
  refine gh_const (pc := 602) F dL_refuses_602 ?_
  refine gh_thr (pc := 603) (n := 3) (As := [.ref (a 0), vI (0 + x), vI 0]) (rest := []) (bytes := cL_buildOf) (maxL := 4) (hh := [(0, 6, 7, 13), (0, 6, 11, 16)]) (E := xIO) (z := (-2000000001)) F FX NC (ctL_buildOf l hfl D cI cJ cZ a r (0 + x) 0 hr ⟨by omega, by omega⟩ ⟨by omega, by omega⟩) (Or.inl ⟨by omega, rfl⟩) gz_kN_O gL_refuses_L_buildOf rfl ⟨rfl, rfl⟩ (by decide +kernel) ⟨Nat.le_of_ble_eq_true rfl, Nat.le_of_ble_eq_true rfl⟩ rfl ([]) ([NA cI o f]) rfl rfl (Nat.le_of_ble_eq_true rfl) ⟨Nat.le_of_ble_eq_true rfl, Nat.le_of_ble_eq_true rfl⟩ (RiW_sh _ _) dL_refuses_603 ?_
  refine gh_ldc (pc := 606) (v := (-2000000001)) F knL_refuses_15 dL_refuses_606 ?_
  refine gh_icmp32_ne (pc := 608) F dL_refuses_608 (tgt := 678) (by decide) ?_
  refine gh_aload_n (pc := 611) F dL_refuses_611 rfl 8 rfl ?_
  refine gh_iload (pc := 612) F dL_refuses_612 3 rfl ?_
  refine gh_thr (pc := 614) (n := 2) (As := [.ref (a 0), vI (0 + x)]) (rest := []) (bytes := cL_anew) (maxL := 3) (hh := [(0, 5, 6, 13)]) (E := xIO) (z := (-2000000001)) F FX NC (ctL_anew l hfl D cI cJ cZ a r (0 + x) hr ⟨by omega, by omega⟩) (Or.inl ⟨by omega, rfl⟩) gz_kN_O gL_refuses_L_anew rfl ⟨rfl, rfl⟩ (by decide +kernel) ⟨Nat.le_of_ble_eq_true rfl, Nat.le_of_ble_eq_true rfl⟩ rfl ([]) ([NA cI o f]) rfl rfl (Nat.le_of_ble_eq_true rfl) ⟨Nat.le_of_ble_eq_true rfl, Nat.le_of_ble_eq_true rfl⟩ (RiW_sh _ _) dL_refuses_614 ?_
  refine gh_ldc (pc := 617) (v := (-2000000001)) F knL_refuses_15 dL_refuses_617 ?_
  refine gh_icmp32_ne (pc := 619) F dL_refuses_619 (tgt := 678) (by decide) ?_
  refine gh_aload_n (pc := 622) F dL_refuses_622 rfl 8 rfl ?_
  refine gh_iload (pc := 623) F dL_refuses_623 5 rfl ?_
  refine gh_const (pc := 625) F dL_refuses_625 ?_
  refine gh_thr (pc := 626) (n := 3) (As := [.ref (a 0), vI (0 + x), vI 0]) (rest := []) (bytes := cL_has) (maxL := 4) (hh := [(0, 6, 7, 13), (0, 6, 11, 16)]) (E := xIO) (z := (-2000000001)) F FX NC (ctL_has l hfl D cI cJ cZ a r (0 + x) 0 hr ⟨by omega, by omega⟩ ⟨by omega, by omega⟩) (Or.inl ⟨by omega, rfl⟩) gz_kN_O gL_refuses_L_has rfl ⟨rfl, rfl⟩ (by decide +kernel) ⟨Nat.le_of_ble_eq_true rfl, Nat.le_of_ble_eq_true rfl⟩ rfl ([]) ([NA cI o f]) rfl rfl (Nat.le_of_ble_eq_true rfl) ⟨Nat.le_of_ble_eq_true rfl, Nat.le_of_ble_eq_true rfl⟩ (RiW_sh _ _) dL_refuses_626 ?_
  refine gh_ldc (pc := 629) (v := (-2000000001)) F knL_refuses_15 dL_refuses_629 ?_
  refine gh_icmp32_ne (pc := 631) F dL_refuses_631 (tgt := 678) (by decide) ?_
  refine gh_aload_n (pc := 634) F dL_refuses_634 rfl 8 rfl ?_
  refine gh_iload (pc := 635) F dL_refuses_635 6 rfl ?_
  refine gh_const (pc := 637) F dL_refuses_637 ?_
  refine gh_thr (pc := 638) (n := 3) (As := [.ref (a 0), vI (10 + x), vI 0]) (rest := []) (bytes := cL_isFree) (maxL := 4) (hh := [(0, 14, 15, 13), (0, 14, 19, 16)]) (E := xIO) (z := (-2000000001)) F FX NC (ctL_isFree l hfl D cI cJ cZ a r (10 + x) 0 hr ⟨by omega, by omega⟩ ⟨by omega, by omega⟩) (Or.inl ⟨by omega, rfl⟩) gz_kN_O gL_refuses_L_isFree rfl ⟨rfl, rfl⟩ (by decide +kernel) ⟨Nat.le_of_ble_eq_true rfl, Nat.le_of_ble_eq_true rfl⟩ rfl ([]) ([NA cI o f]) rfl rfl (Nat.le_of_ble_eq_true rfl) ⟨Nat.le_of_ble_eq_true rfl, Nat.le_of_ble_eq_true rfl⟩ (RiW_sh _ _) dL_refuses_638 ?_
  refine gh_ldc (pc := 641) (v := (-2000000001)) F knL_refuses_15 dL_refuses_641 ?_
  refine gh_icmp32_ne (pc := 643) F dL_refuses_643 (tgt := 678) (by decide) ?_
  refine gh_aload_n (pc := 646) F dL_refuses_646 rfl 8 rfl ?_
  refine gh_iload_n (pc := 647) F dL_refuses_647 rfl 10 rfl ?_
  refine gh_bipush (pc := 648) F dL_refuses_648 (by decide) ?_
  refine gh_irem (pc := 650) (z := (x % 10)) F dL_refuses_650 (by omega) (by omega) rfl ?_
  refine gh_iload (pc := 651) F dL_refuses_651 1 rfl ?_
  refine gh_thr (pc := 653) (n := 3) (As := [.ref (a 0), vI (x % 10), vI (400 + x)]) (rest := []) (bytes := cL_isFree) (maxL := 4) (hh := [(0, 14, 15, 13), (0, 14, 19, 16)]) (E := xIA) (z := (-2000000002)) F FX NC (ctL_isFree l hfl D cI cJ cZ a r (x % 10) (400 + x) hr ⟨by omega, by omega⟩ ⟨by omega, by omega⟩) (Or.inr ⟨by omega, Or.inl ⟨by omega, rfl⟩⟩) gz_kN_A gL_refuses_L_isFree rfl ⟨rfl, rfl⟩ (by decide +kernel) ⟨Nat.le_of_ble_eq_true rfl, Nat.le_of_ble_eq_true rfl⟩ rfl ([]) ([NA cI o f]) rfl rfl (Nat.le_of_ble_eq_true rfl) ⟨Nat.le_of_ble_eq_true rfl, Nat.le_of_ble_eq_true rfl⟩ (RiW_sh _ _) dL_refuses_653 ?_
  refine gh_ldc (pc := 656) (v := (-2000000002)) F knL_refuses_18 dL_refuses_656 ?_
  refine gh_icmp32_ne (pc := 658) F dL_refuses_658 (tgt := 678) (by decide) ?_
  refine gh_aload_n (pc := 661) F dL_refuses_661 rfl 8 rfl ?_
  refine gh_iload (pc := 662) F dL_refuses_662 5 rfl ?_
  refine gh_const (pc := 664) F dL_refuses_664 ?_
  refine gh_const (pc := 665) F dL_refuses_665 ?_
  refine gh_thr (pc := 666) (n := 4) (As := [.ref (a 0), vI (0 + x), vI 0, vI 0]) (rest := []) (bytes := cL_diary) (maxL := 5) (hh := [(0, 7, 8, 13), (0, 7, 13, 16)]) (E := xIO) (z := (-2000000001)) F FX NC (ctL_diary l hfl D cI cJ cZ a r (0 + x) 0 0 hr ⟨by omega, by omega⟩ ⟨by omega, by omega⟩ ⟨by omega, by omega⟩) (Or.inl ⟨by omega, rfl⟩) gz_kN_O gL_refuses_L_diary rfl ⟨rfl, rfl⟩ (by decide +kernel) ⟨Nat.le_of_ble_eq_true rfl, Nat.le_of_ble_eq_true rfl⟩ rfl ([]) ([NA cI o f]) rfl rfl (Nat.le_of_ble_eq_true rfl) ⟨Nat.le_of_ble_eq_true rfl, Nat.le_of_ble_eq_true rfl⟩ (RiW_sh _ _) dL_refuses_666 ?_
  refine gh_ldc (pc := 669) (v := (-2000000001)) F knL_refuses_15 dL_refuses_669 ?_
  refine gh_icmp32_ne (pc := 671) F dL_refuses_671 (tgt := 678) (by decide) ?_
  refine gh_const (pc := 674) F dL_refuses_674 ?_
  refine gh_goto (pc := 675) (tgt := 679) F dL_refuses_675 (by decide) ?_
  refine gh_istore (pc := 679) (lv2 := [(11, vI 1), (10, vI 0), (9, vI (400 + x)), (8, vI (0 + x)), (7, vI (0 + x)), (6, vI (0 + x)), (5, vI (0 + x)), (4, vI (10 + x)), (3, vI 0), (0, .ref (a 0)), (1, .ref o), (2, vI x)]) F dL_refuses_679 (by decide) rfl ?_
  refine gh_aload_n (pc := 681) F dL_refuses_681 rfl 10 rfl ?_
  refine gh_const (pc := 682) F dL_refuses_682 ?_
  refine gh_iald (pc := 683) (v := 0) F 73 (RiW_na _ _ _ _ _ _) ⟨by decide, by decide⟩ (by decide) hf0 dL_refuses_683 ?_
  refine gh_if_le (pc := 684) (tgt := 874) F dL_refuses_684 (by decide) (by omega) (fun _ => ?_) (fun cz => absurd cz (by omega))
  refine gh_aload_n (pc := 874) F dL_refuses_874 rfl 10 rfl ?_
  refine gh_const (pc := 875) F dL_refuses_875 ?_
  refine gh_iald (pc := 876) (v := 0) F 73 (RiW_na _ _ _ _ _ _) ⟨by decide, by decide⟩ (by decide) hf1 dL_refuses_876 ?_
  refine gh_if_le (pc := 877) (tgt := 1113) F dL_refuses_877 (by decide) (by omega) (fun _ => ?_) (fun cz => absurd cz (by omega))
  refine gh_aload_n (pc := 1113) F dL_refuses_1113 rfl 10 rfl ?_
  refine gh_const (pc := 1114) F dL_refuses_1114 ?_
  refine gh_iald (pc := 1115) (v := 0) F 73 (RiW_na _ _ _ _ _ _) ⟨by decide, by decide⟩ (by decide) hf2 dL_refuses_1115 ?_
  refine gh_if_ne (pc := 1116) (tgt := 1123) F dL_refuses_1116 (by decide) (by omega) (fun cz => absurd cz (by omega)) (fun _ => ?_)
  refine gh_const (pc := 1119) F dL_refuses_1119 ?_
  refine gh_goto (pc := 1120) (tgt := 1131) F dL_refuses_1120 (by decide) ?_
  refine gh_istore (pc := 1131) (lv2 := [(12, vI 0), (11, vI 1), (10, vI 0), (9, vI (400 + x)), (8, vI (0 + x)), (7, vI (0 + x)), (6, vI (0 + x)), (5, vI (0 + x)), (4, vI (10 + x)), (3, vI 0), (0, .ref (a 0)), (1, .ref o), (2, vI x)]) F dL_refuses_1131 (by decide) rfl ?_
  refine gh_iload (pc := 1133) F dL_refuses_1133 1 rfl ?_
  refine gh_if_eq (pc := 1135) (tgt := 1219) F dL_refuses_1135 (by decide) (by omega) (fun cz => absurd cz (by omega)) (fun _ => ?_)
  refine gh_aload_n (pc := 1138) F dL_refuses_1138 rfl 11 rfl ?_
  refine gh_const (pc := 1139) F dL_refuses_1139 ?_
  refine gh_iald (pc := 1140) (v := 0) F 73 (RiW_na _ _ _ _ _ _) ⟨by decide, by decide⟩ (by decide) hf2 dL_refuses_1140 ?_
  refine gh_if_eq (pc := 1141) (tgt := 1215) F dL_refuses_1141 (by decide) (by omega) (fun _ => ?_) (fun cz => absurd cz (by omega))
  refine gh_const (pc := 1215) F dL_refuses_1215 ?_
  refine gh_goto (pc := 1216) (tgt := 1220) F dL_refuses_1216 (by decide) ?_
  refine gh_istore (pc := 1220) (lv2 := [(11, vI 1), (12, vI 0), (10, vI 0), (9, vI (400 + x)), (8, vI (0 + x)), (7, vI (0 + x)), (6, vI (0 + x)), (5, vI (0 + x)), (4, vI (10 + x)), (3, vI 0), (0, .ref (a 0)), (1, .ref o), (2, vI x)]) F dL_refuses_1220 (by decide) rfl ?_
  refine gh_iload (pc := 1222) F dL_refuses_1222 0 rfl ?_
  refine gh_if_eq (pc := 1224) (tgt := 1267) F dL_refuses_1224 (by decide) (by omega) (fun cz => absurd cz (by omega)) (fun _ => ?_)
  refine gh_aload_n (pc := 1227) F dL_refuses_1227 rfl 11 rfl ?_
  refine gh_const (pc := 1228) F dL_refuses_1228 ?_
  refine gh_iald (pc := 1229) (v := 0) F 73 (RiW_na _ _ _ _ _ _) ⟨by decide, by decide⟩ (by decide) hf3 dL_refuses_1229 ?_
  refine gh_if_eq (pc := 1230) (tgt := 1263) F dL_refuses_1230 (by decide) (by omega) (fun _ => ?_) (fun cz => absurd cz (by omega))
  refine gh_const (pc := 1263) F dL_refuses_1263 ?_
  refine gh_goto (pc := 1264) (tgt := 1268) F dL_refuses_1264 (by decide) ?_
  refine gh_widen (k := 30) (n := 180) (by decide) (by decide) ?_
  exact Z _ _ 1268 _ _ dL_refuses_1268 rfl ⟨rfl, rfl, rfl⟩
