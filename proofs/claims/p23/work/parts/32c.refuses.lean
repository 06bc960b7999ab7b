/-! ===== refuses; laid by wip/p23/gen/ref23.py ===== -/
set_option maxHeartbeats 8000000 in
set_option maxRecDepth 100000 in
theorem rf_e1 (l : Launch) (hfl : l.stackTraces = false) (D : va_G) (cI cJ cZ : ClassId) (a : Nat → Nat) (r : RiS) (o : Nat) (f : Int → Int) (x : Int) (hr : RiI r) (hnow : Pl_now (Ri_P r) = 0) (hmc : Mc_n (Pl_mc (Ri_P r)) = 1) (hmt : Mt_n (Pl_mt (Ri_P r)) = 0) (hbu : Bu_n (Pl_bu (Ri_P r)) = 0) (hsw : Sw_n (Ri_S r) = 0) (hf0 : f 0 = 1) (hf1 : f 1 = 0) (hf2 : f 2 = 0) (hf3 : f 3 = 0) (hx : 0 ≤ x ∧ x ≤ 9972) (hp : x % 2 = 0) : gz_G l yL_refuses wsL_refuses { frames := 10, cells := 37, slots := 222, locals := 260 } D cI cJ cZ [.ref (a 0), .ref o, vI x] (RiW cI cJ a r ++ [NA cI o f]) (fun v W1 g => v = some (vI 1) ∧ W1 = RiW cI cJ a r ++ [NA cI o f] ∧ g = 37) 37 222 := by
  refine gh_ofG (cc := cL_refuses) (maxL := 14) (ty := .boolean) (own := RL) hfl (by decide) rfl rfl (Nat.le_of_ble_eq_true rfl) (lv0 := [(0, .ref (a 0)), (1, .ref o), (2, vI x)]) rfl ?_
  intro p e s m args below meth c A Q F FX NC Z
  refine gh_iload_n (pc := 0) F dL_refuses_0 rfl 2 rfl ?_
  refine gh_const (pc := 1) F dL_refuses_1 ?_
  refine gh_irem (pc := 2) (z := (x % 2)) F dL_refuses_2 (by omega) (by omega) rfl ?_
  refine gh_if_ne (pc := 3) (tgt := 10) F dL_refuses_3 (by decide) (by omega) (fun cz => absurd cz (by omega)) (fun _ => ?_)
  refine gh_const (pc := 6) F dL_refuses_6 ?_
  refine gh_goto (pc := 7) (tgt := 11) F dL_refuses_7 (by decide) ?_
  refine gh_istore_n (pc := 11) (lv2 := [(3, vI 1), (0, .ref (a 0)), (1, .ref o), (2, vI x)]) F dL_refuses_11 rfl (by decide) rfl ?_
  refine gh_iload_n (pc := 12) F dL_refuses_12 rfl 0 rfl ?_
  refine gh_if_eq (pc := 13) (tgt := 22) F dL_refuses_13 (by decide) (by omega) (fun cz => absurd cz (by omega)) (fun _ => ?_)
  refine gh_const (pc := 16) F dL_refuses_16 ?_
  refine gh_iload_n (pc := 17) F dL_refuses_17 rfl 3 rfl ?_
  refine gh_isub (pc := 18) (z := ((-1) - x)) F dL_refuses_18 rfl ?_
  refine gh_goto (pc := 19) (tgt := 26) F dL_refuses_19 (by decide) ?_
  refine gh_istore (pc := 26) (lv2 := [(4, vI ((-1) - x)), (3, vI 1), (0, .ref (a 0)), (1, .ref o), (2, vI x)]) F dL_refuses_26 (by decide) rfl ?_
  refine gh_iload_n (pc := 28) F dL_refuses_28 rfl 1 rfl ?_
  refine gh_if_eq (pc := 29) (tgt := 38) F dL_refuses_29 (by decide) (by omega) (fun cz => absurd cz (by omega)) (fun _ => ?_)
  refine gh_const (pc := 32) F dL_refuses_32 ?_
  refine gh_iload_n (pc := 33) F dL_refuses_33 rfl 4 rfl ?_
  refine gh_isub (pc := 34) (z := ((-1) - x)) F dL_refuses_34 rfl ?_
  refine gh_goto (pc := 35) (tgt := 43) F dL_refuses_35 (by decide) ?_
  refine gh_istore (pc := 43) (lv2 := [(5, vI ((-1) - x)), (4, vI ((-1) - x)), (3, vI 1), (0, .ref (a 0)), (1, .ref o), (2, vI x)]) F dL_refuses_43 (by decide) rfl ?_
  refine gh_iload_n (pc := 45) F dL_refuses_45 rfl 2 rfl ?_
  refine gh_if_eq (pc := 46) (tgt := 55) F dL_refuses_46 (by decide) (by omega) (fun cz => absurd cz (by omega)) (fun _ => ?_)
  refine gh_const (pc := 49) F dL_refuses_49 ?_
  refine gh_iload_n (pc := 50) F dL_refuses_50 rfl 5 rfl ?_
  refine gh_isub (pc := 51) (z := ((-1) - x)) F dL_refuses_51 rfl ?_
  refine gh_goto (pc := 52) (tgt := 60) F dL_refuses_52 (by decide) ?_
  refine gh_istore (pc := 60) (lv2 := [(6, vI ((-1) - x)), (5, vI ((-1) - x)), (4, vI ((-1) - x)), (3, vI 1), (0, .ref (a 0)), (1, .ref o), (2, vI x)]) F dL_refuses_60 (by decide) rfl ?_
  refine gh_iload_n (pc := 62) F dL_refuses_62 rfl 3 rfl ?_
  refine gh_if_eq (pc := 63) (tgt := 72) F dL_refuses_63 (by decide) (by omega) (fun cz => absurd cz (by omega)) (fun _ => ?_)
  refine gh_const (pc := 66) F dL_refuses_66 ?_
  refine gh_iload_n (pc := 67) F dL_refuses_67 rfl 6 rfl ?_
  refine gh_isub (pc := 68) (z := ((-1) - x)) F dL_refuses_68 rfl ?_
  refine gh_goto (pc := 69) (tgt := 77) F dL_refuses_69 (by decide) ?_
  refine gh_istore (pc := 77) (lv2 := [(7, vI ((-1) - x)), (6, vI ((-1) - x)), (5, vI ((-1) - x)), (4, vI ((-1) - x)), (3, vI 1), (0, .ref (a 0)), (1, .ref o), (2, vI x)]) F dL_refuses_77 (by decide) rfl ?_
  refine gh_iload_n (pc := 79) F dL_refuses_79 rfl 4 rfl ?_
  refine gh_if_eq (pc := 80) (tgt := 89) F dL_refuses_80 (by decide) (by omega) (fun cz => absurd cz (by omega)) (fun _ => ?_)
  refine gh_const (pc := 83) F dL_refuses_83 ?_
  refine gh_iload_n (pc := 84) F dL_refuses_84 rfl 7 rfl ?_
  refine gh_isub (pc := 85) (z := ((-1) - x)) F dL_refuses_85 rfl ?_
  refine gh_goto (pc := 86) (tgt := 94) F dL_refuses_86 (by decide) ?_
  refine gh_istore (pc := 94) (lv2 := [(8, vI ((-1) - x)), (7, vI ((-1) - x)), (6, vI ((-1) - x)), (5, vI ((-1) - x)), (4, vI ((-1) - x)), (3, vI 1), (0, .ref (a 0)), (1, .ref o), (2, vI x)]) F dL_refuses_94 (by decide) rfl ?_
  refine gh_iload_n (pc := 96) F dL_refuses_96 rfl 5 rfl ?_
  refine gh_if_eq (pc := 97) (tgt := 106) F dL_refuses_97 (by decide) (by omega) (fun cz => absurd cz (by omega)) (fun _ => ?_)
  refine gh_const (pc := 100) F dL_refuses_100 ?_
  refine gh_iload_n (pc := 101) F dL_refuses_101 rfl 8 rfl ?_
  refine gh_isub (pc := 102) (z := ((-1) - x)) F dL_refuses_102 rfl ?_
  refine gh_goto (pc := 103) (tgt := 111) F dL_refuses_103 (by decide) ?_
  refine gh_istore (pc := 111) (lv2 := [(9, vI ((-1) - x)), (8, vI ((-1) - x)), (7, vI ((-1) - x)), (6, vI ((-1) - x)), (5, vI ((-1) - x)), (4, vI ((-1) - x)), (3, vI 1), (0, .ref (a 0)), (1, .ref o), (2, vI x)]) F dL_refuses_111 (by decide) rfl ?_
  refine gh_aload_n (pc := 113) F dL_refuses_113 rfl 7 rfl ?_
  refine gh_callI (pc := 114) (n := 0) (As := []) (rest := []) (bytes := cX8_slot) (maxL := 1) (ret := some .int) F (ct_X8_slot l D cI cJ cZ a r hr) gL_refuses_X8_slot rfl ⟨rfl, rfl⟩ (by decide +kernel) ⟨Nat.le_of_ble_eq_true rfl, Nat.le_of_ble_eq_true rfl⟩ rfl ([]) ([NA cI o f]) rfl 8 rfl rfl rfl (Nat.le_of_ble_eq_true rfl) ⟨Nat.le_of_ble_eq_true rfl, Nat.le_of_ble_eq_true rfl⟩ dL_refuses_114 (fun q114 hq114 => ?_)
  have hz114 : q114 = 0 := (show q114 = Pl_now (Ri_P r) from hq114).trans hnow
  subst hz114
  refine gh_bipush (pc := 117) F dL_refuses_117 (by decide) ?_
  refine gh_idiv (pc := 119) (z := 0) F dL_refuses_119 (by omega) (by omega) rfl ?_
  refine gh_istore (pc := 120) (lv2 := [(10, vI 0), (9, vI ((-1) - x)), (8, vI ((-1) - x)), (7, vI ((-1) - x)), (6, vI ((-1) - x)), (5, vI ((-1) - x)), (4, vI ((-1) - x)), (3, vI 1), (0, .ref (a 0)), (1, .ref o), (2, vI x)]) F dL_refuses_120 (by decide) rfl ?_
  refine gh_aload_n (pc := 122) F dL_refuses_122 rfl 8 rfl ?_
  refine gh_const (pc := 123) F dL_refuses_123 ?_
  refine gh_iload (pc := 124) F dL_refuses_124 6 rfl ?_
  refine gh_thr (pc := 126) (n := 3) (As := [.ref (a 0), vI 0, vI ((-1) - x)]) (rest := []) (bytes := cL_machine) (maxL := 4) (hh := [(0, 6, 7, 13), (0, 6, 11, 16), (0, 6, 15, 19)]) (E := xIO) (z := (-2000000001)) F FX NC (ctL_machine l hfl D cI cJ cZ a r 0 ((-1) - x) hr ⟨by omega, by omega⟩ ⟨by omega, by omega⟩) (Or.inl ⟨by omega, rfl⟩) gz_kN_O gL_refuses_L_machine rfl ⟨rfl, rfl⟩ (by decide +kernel) ⟨Nat.le_of_ble_eq_true rfl, Nat.le_of_ble_eq_true rfl⟩ rfl ([]) ([NA cI o f]) rfl rfl (Nat.le_of_ble_eq_true rfl) ⟨Nat.le_of_ble_eq_true rfl, Nat.le_of_ble_eq_true rfl⟩ (RiW_sh _ _) dL_refuses_126 ?_
  refine gh_ldc (pc := 129) (v := (-2000000001)) F knL_refuses_15 dL_refuses_129 ?_
  refine gh_icmp32_ne (pc := 131) F dL_refuses_131 (tgt := 678) (by decide) ?_
  refine gh_aload_n (pc := 134) F dL_refuses_134 rfl 8 rfl ?_
  refine gh_iload_n (pc := 135) F dL_refuses_135 rfl 7 rfl ?_
  refine gh_if_eq (pc := 136) (tgt := 145) F dL_refuses_136 (by decide) (by omega) (fun cz => absurd cz (by omega)) (fun _ => ?_)
  refine gh_const (pc := 139) F dL_refuses_139 ?_
  refine gh_iload_n (pc := 140) F dL_refuses_140 rfl 10 rfl ?_
  refine gh_isub (pc := 141) (z := ((-1) - x)) F dL_refuses_141 rfl ?_
  refine gh_goto (pc := 142) (tgt := 149) F dL_refuses_142 (by decide) ?_
  refine gh_iload_n (pc := 149) F dL_refuses_149 rfl 10 rfl ?_
  refine gh_bipush (pc := 150) F dL_refuses_150 (by decide) ?_
  refine gh_irem (pc := 152) (z := (x % 10)) F dL_refuses_152 (by omega) (by omega) rfl ?_
  refine gh_thr (pc := 153) (n := 3) (As := [.ref (a 0), vI ((-1) - x), vI (x % 10)]) (rest := []) (bytes := cL_machine) (maxL := 4) (hh := [(0, 6, 7, 13), (0, 6, 11, 16), (0, 6, 15, 19)]) (E := xIA) (z := (-2000000002)) F FX NC (ctL_machine l hfl D cI cJ cZ a r ((-1) - x) (x % 10) hr ⟨by omega, by omega⟩ ⟨by omega, by omega⟩) (Or.inr ⟨by omega, Or.inl ⟨by omega, rfl⟩⟩) gz_kN_A gL_refuses_L_machine rfl ⟨rfl, rfl⟩ (by decide +kernel) ⟨Nat.le_of_ble_eq_true rfl, Nat.le_of_ble_eq_true rfl⟩ rfl ([]) ([NA cI o f]) rfl rfl (Nat.le_of_ble_eq_true rfl) ⟨Nat.le_of_ble_eq_true rfl, Nat.le_of_ble_eq_true rfl⟩ (RiW_sh _ _) dL_refuses_153 ?_
  refine gh_ldc (pc := 156) (v := (-2000000002)) F knL_refuses_18 dL_refuses_156 ?_
  refine gh_icmp32_ne (pc := 158) F dL_refuses_158 (tgt := 678) (by decide) ?_
  refine gh_aload_n (pc := 161) F dL_refuses_161 rfl 8 rfl ?_
  refine gh_iload (pc := 162) F dL_refuses_162 6 rfl ?_
  refine gh_iload (pc := 164) F dL_refuses_164 0 rfl ?_
  refine gh_iload (pc := 166) F dL_refuses_166 0 rfl ?_
  refine gh_thr (pc := 168) (n := 4) (As := [.ref (a 0), vI ((-1) - x), vI 0, vI 0]) (rest := []) (bytes := cL_leave) (maxL := 5) (hh := [(0, 8, 9, 13), (0, 8, 14, 16), (0, 8, 19, 19)]) (E := xIO) (z := (-2000000001)) F FX NC (ctL_leave l hfl D cI cJ cZ a r ((-1) - x) 0 0 hr ⟨by omega, by omega⟩ ⟨by omega, by omega⟩ ⟨by omega, by omega⟩) (Or.inl ⟨by omega, rfl⟩) gz_kN_O gL_refuses_L_leave rfl ⟨rfl, rfl⟩ (by decide +kernel) ⟨Nat.le_of_ble_eq_true rfl, Nat.le_of_ble_eq_true rfl⟩ rfl ([]) ([NA cI o f]) rfl rfl (Nat.le_of_ble_eq_true rfl) ⟨Nat.le_of_ble_eq_true rfl, Nat.le_of_ble_eq_true rfl⟩ (RiW_sh _ _) dL_refuses_168 ?_
  refine gh_ldc (pc := 171) (v := (-2000000001)) F knL_refuses_15 dL_refuses_171 ?_
  refine gh_icmp32_ne (pc := 173) F dL_refuses_173 (tgt := 678) (by decide) ?_
  refine gh_aload_n (pc := 176) F dL_refuses_176 rfl 8 rfl ?_
  refine gh_iload_n (pc := 177) F dL_refuses_177 rfl 10 rfl ?_
  refine gh_bipush (pc := 178) F dL_refuses_178 (by decide) ?_
  refine gh_irem (pc := 180) (z := (x % 10)) F dL_refuses_180 (by omega) (by omega) rfl ?_
  refine gh_iload_n (pc := 181) F dL_refuses_181 rfl 7 rfl ?_
  refine gh_if_eq (pc := 182) (tgt := 194) F dL_refuses_182 (by decide) (by omega) (fun cz => absurd cz (by omega)) (fun _ => ?_)
  refine gh_iload (pc := 185) F dL_refuses_185 0 rfl ?_
  refine gh_const (pc := 187) F dL_refuses_187 ?_
  refine gh_isub (pc := 188) (z := (-1)) F dL_refuses_188 rfl ?_
  refine gh_iload_n (pc := 189) F dL_refuses_189 rfl 10 rfl ?_
  refine gh_isub (pc := 190) (z := ((-1) - x)) F dL_refuses_190 rfl ?_
  refine gh_goto (pc := 191) (tgt := 198) F dL_refuses_191 (by decide) ?_
  refine gh_bipush (pc := 198) F dL_refuses_198 (by decide) ?_
  refine gh_thr (pc := 200) (n := 4) (As := [.ref (a 0), vI (x % 10), vI ((-1) - x), vI 49]) (rest := []) (bytes := cL_leave) (maxL := 5) (hh := [(0, 8, 9, 13), (0, 8, 14, 16), (0, 8, 19, 19)]) (E := xIA) (z := (-2000000002)) F FX NC (ctL_leave l hfl D cI cJ cZ a r (x % 10) ((-1) - x) 49 hr ⟨by omega, by omega⟩ ⟨by omega, by omega⟩ ⟨by omega, by omega⟩) (Or.inr ⟨by omega, Or.inl ⟨by omega, rfl⟩⟩) gz_kN_A gL_refuses_L_leave rfl ⟨rfl, rfl⟩ (by decide +kernel) ⟨Nat.le_of_ble_eq_true rfl, Nat.le_of_ble_eq_true rfl⟩ rfl ([]) ([NA cI o f]) rfl rfl (Nat.le_of_ble_eq_true rfl) ⟨Nat.le_of_ble_eq_true rfl, Nat.le_of_ble_eq_true rfl⟩ (RiW_sh _ _) dL_refuses_200 ?_
  refine gh_ldc (pc := 203) (v := (-2000000002)) F knL_refuses_18 dL_refuses_203 ?_
  refine gh_icmp32_ne (pc := 205) F dL_refuses_205 (tgt := 678) (by decide) ?_
  refine gh_aload_n (pc := 208) F dL_refuses_208 rfl 8 rfl ?_
  refine gh_iload_n (pc := 209) F dL_refuses_209 rfl 10 rfl ?_
  refine gh_bipush (pc := 210) F dL_refuses_210 (by decide) ?_
  refine gh_irem (pc := 212) (z := (x % 10)) F dL_refuses_212 (by omega) (by omega) rfl ?_
  refine gh_iload (pc := 213) F dL_refuses_213 0 rfl ?_
  refine gh_iload_n (pc := 215) F dL_refuses_215 rfl 7 rfl ?_
  refine gh_if_eq (pc := 216) (tgt := 228) F dL_refuses_216 (by decide) (by omega) (fun cz => absurd cz (by omega)) (fun _ => ?_)
  refine gh_iload (pc := 219) F dL_refuses_219 0 rfl ?_
  refine gh_const (pc := 221) F dL_refuses_221 ?_
  refine gh_isub (pc := 222) (z := (-1)) F dL_refuses_222 rfl ?_
  refine gh_iload_n (pc := 223) F dL_refuses_223 rfl 10 rfl ?_
  refine gh_isub (pc := 224) (z := ((-1) - x)) F dL_refuses_224 rfl ?_
  refine gh_goto (pc := 225) (tgt := 232) F dL_refuses_225 (by decide) ?_
  refine gh_thr (pc := 232) (n := 4) (As := [.ref (a 0), vI (x % 10), vI 0, vI ((-1) - x)]) (rest := []) (bytes := cL_leave) (maxL := 5) (hh := [(0, 8, 9, 13), (0, 8, 14, 16), (0, 8, 19, 19)]) (E := xIA) (z := (-2000000002)) F FX NC (ctL_leave l hfl D cI cJ cZ a r (x % 10) 0 ((-1) - x) hr ⟨by omega, by omega⟩ ⟨by omega, by omega⟩ ⟨by omega, by omega⟩) (Or.inr ⟨by omega, Or.inr ⟨by omega, Or.inl ⟨by omega, rfl⟩⟩⟩) gz_kN_A gL_refuses_L_leave rfl ⟨rfl, rfl⟩ (by decide +kernel) ⟨Nat.le_of_ble_eq_true rfl, Nat.le_of_ble_eq_true rfl⟩ rfl ([]) ([NA cI o f]) rfl rfl (Nat.le_of_ble_eq_true rfl) ⟨Nat.le_of_ble_eq_true rfl, Nat.le_of_ble_eq_true rfl⟩ (RiW_sh _ _) dL_refuses_232 ?_
  refine gh_ldc (pc := 235) (v := (-2000000002)) F knL_refuses_18 dL_refuses_235 ?_
  refine gh_icmp32_ne (pc := 237) F dL_refuses_237 (tgt := 678) (by decide) ?_
  refine gh_aload_n (pc := 240) F dL_refuses_240 rfl 8 rfl ?_
  refine gh_iload (pc := 241) F dL_refuses_241 5 rfl ?_
  refine gh_const (pc := 243) F dL_refuses_243 ?_
  refine gh_aload_n (pc := 244) F dL_refuses_244 rfl 8 rfl ?_
  refine gh_callI (pc := 245) (n := 0) (As := []) (rest := [vI 0, vI ((-1) - x), .ref (a 0)]) (bytes := cX8_slot) (maxL := 1) (ret := some .int) F (ct_X8_slot l D cI cJ cZ a r hr) gL_refuses_X8_slot rfl ⟨rfl, rfl⟩ (by decide +kernel) ⟨Nat.le_of_ble_eq_true rfl, Nat.le_of_ble_eq_true rfl⟩ rfl ([]) ([NA cI o f]) rfl 8 rfl rfl rfl (Nat.le_of_ble_eq_true rfl) ⟨Nat.le_of_ble_eq_true rfl, Nat.le_of_ble_eq_true rfl⟩ dL_refuses_245 (fun q245 hq245 => ?_)
  have hz245 : q245 = 0 := (show q245 = Pl_now (Ri_P r) from hq245).trans hnow
  subst hz245
  refine gh_sipush (pc := 248) F dL_refuses_248 (by decide) ?_
  refine gh_thr (pc := 251) (n := 5) (As := [.ref (a 0), vI ((-1) - x), vI 0, vI 0, vI 399]) (rest := []) (bytes := cL_lend) (maxL := 6) (hh := [(0, 10, 11, 13), (0, 10, 16, 16), (0, 10, 21, 19)]) (E := xIO) (z := (-2000000001)) F FX NC (ctL_lend l hfl D cI cJ cZ a r ((-1) - x) 0 0 399 hr ⟨by omega, by omega⟩ ⟨by omega, by omega⟩ ⟨by omega, by omega⟩ ⟨by omega, by omega⟩) (Or.inl ⟨by omega, rfl⟩) gz_kN_O gL_refuses_L_lend rfl ⟨rfl, rfl⟩ (by decide +kernel) ⟨Nat.le_of_ble_eq_true rfl, Nat.le_of_ble_eq_true rfl⟩ rfl ([]) ([NA cI o f]) rfl rfl (Nat.le_of_ble_eq_true rfl) ⟨Nat.le_of_ble_eq_true rfl, Nat.le_of_ble_eq_true rfl⟩ (RiW_sh _ _) dL_refuses_251 ?_
  refine gh_ldc (pc := 254) (v := (-2000000001)) F knL_refuses_15 dL_refuses_254 ?_
  refine gh_icmp32_ne (pc := 256) F dL_refuses_256 (tgt := 678) (by decide) ?_
  refine gh_aload_n (pc := 259) F dL_refuses_259 rfl 8 rfl ?_
  refine gh_iload (pc := 260) F dL_refuses_260 5 rfl ?_
  refine gh_const (pc := 262) F dL_refuses_262 ?_
  refine gh_thr (pc := 263) (n := 3) (As := [.ref (a 0), vI ((-1) - x), vI 1]) (rest := []) (bytes := cL_breakDown) (maxL := 4) (hh := [(0, 6, 7, 13), (0, 6, 11, 16)]) (E := xIO) (z := (-2000000001)) F FX NC (ctL_breakDown l hfl D cI cJ cZ a r ((-1) - x) 1 hr ⟨by omega, by omega⟩ ⟨by omega, by omega⟩) (Or.inl ⟨by omega, rfl⟩) gz_kN_O gL_refuses_L_breakDown rfl ⟨rfl, rfl⟩ (by decide +kernel) ⟨Nat.le_of_ble_eq_true rfl, Nat.le_of_ble_eq_true rfl⟩ rfl ([]) ([NA cI o f]) rfl rfl (Nat.le_of_ble_eq_true rfl) ⟨Nat.le_of_ble_eq_true rfl, Nat.le_of_ble_eq_true rfl⟩ (RiW_sh _ _) dL_refuses_263 ?_
  refine gh_ldc (pc := 266) (v := (-2000000001)) F knL_refuses_15 dL_refuses_266 ?_
  refine gh_icmp32_ne (pc := 268) F dL_refuses_268 (tgt := 678) (by decide) ?_
  refine gh_aload_n (pc := 271) F dL_refuses_271 rfl 8 rfl ?_
  refine gh_const (pc := 272) F dL_refuses_272 ?_
  refine gh_aload_n (pc := 273) F dL_refuses_273 rfl 8 rfl ?_
  refine gh_callI (pc := 274) (n := 0) (As := []) (rest := [vI 1, .ref (a 0)]) (bytes := cX8_slot) (maxL := 1) (ret := some .int) F (ct_X8_slot l D cI cJ cZ a r hr) gL_refuses_X8_slot rfl ⟨rfl, rfl⟩ (by decide +kernel) ⟨Nat.le_of_ble_eq_true rfl, Nat.le_of_ble_eq_true rfl⟩ rfl ([]) ([NA cI o f]) rfl 8 rfl rfl rfl (Nat.le_of_ble_eq_true rfl) ⟨Nat.le_of_ble_eq_true rfl, Nat.le_of_ble_eq_true rfl⟩ dL_refuses_274 (fun q274 hq274 => ?_)
  have hz274 : q274 = 0 := (show q274 = Pl_now (Ri_P r) from hq274).trans hnow
  subst hz274
  refine gh_const (pc := 277) F dL_refuses_277 ?_
  refine gh_iload_n (pc := 278) F dL_refuses_278 rfl 7 rfl ?_
  refine gh_if_eq (pc := 279) (tgt := 289) F dL_refuses_279 (by decide) (by omega) (fun cz => absurd cz (by omega)) (fun _ => ?_)
  refine gh_bipush (pc := 282) F dL_refuses_282 (by decide) ?_
  refine gh_iload_n (pc := 284) F dL_refuses_284 rfl 10 rfl ?_
  refine gh_isub (pc := 285) (z := ((-2) - x)) F dL_refuses_285 rfl ?_
  refine gh_goto (pc := 286) (tgt := 294) F dL_refuses_286 (by decide) ?_
  refine gh_thr (pc := 294) (n := 5) (As := [.ref (a 0), vI 1, vI 0, vI 1, vI ((-2) - x)]) (rest := []) (bytes := cL_meeting) (maxL := 6) (hh := [(0, 9, 10, 13), (0, 9, 15, 16), (0, 9, 20, 19)]) (E := xIO) (z := (-2000000001)) F FX NC (ctL_meeting l hfl D cI cJ cZ a r 1 0 1 ((-2) - x) hr ⟨by omega, by omega⟩ ⟨by omega, by omega⟩ ⟨by omega, by omega⟩ ⟨by omega, by omega⟩) (Or.inl ⟨by omega, rfl⟩) gz_kN_O gL_refuses_L_meeting rfl ⟨rfl, rfl⟩ (by decide +kernel) ⟨Nat.le_of_ble_eq_true rfl, Nat.le_of_ble_eq_true rfl⟩ rfl ([]) ([NA cI o f]) rfl rfl (Nat.le_of_ble_eq_true rfl) ⟨Nat.le_of_ble_eq_true rfl, Nat.le_of_ble_eq_true rfl⟩ (RiW_sh _ _) dL_refuses_294 ?_
  refine gh_ldc (pc := 297) (v := (-2000000001)) F knL_refuses_15 dL_refuses_297 ?_
  refine gh_icmp32_ne (pc := 299) F dL_refuses_299 (tgt := 678) (by decide) ?_
  refine gh_aload_n (pc := 302) F dL_refuses_302 rfl 8 rfl ?_
  refine gh_iload_n (pc := 303) F dL_refuses_303 rfl 7 rfl ?_
  refine gh_if_eq (pc := 304) (tgt := 312) F dL_refuses_304 (by decide) (by omega) (fun cz => absurd cz (by omega)) (fun _ => ?_)
  refine gh_iload_n (pc := 307) F dL_refuses_307 rfl 10 rfl ?_
  refine gh_ineg (pc := 308) (z := (-x)) F dL_refuses_308 rfl ?_
  refine gh_goto (pc := 309) (tgt := 317) F dL_refuses_309 (by decide) ?_
  refine gh_aload_n (pc := 317) F dL_refuses_317 rfl 8 rfl ?_
  refine gh_callI (pc := 318) (n := 0) (As := []) (rest := [vI (-x), .ref (a 0)]) (bytes := cX8_slot) (maxL := 1) (ret := some .int) F (ct_X8_slot l D cI cJ cZ a r hr) gL_refuses_X8_slot rfl ⟨rfl, rfl⟩ (by decide +kernel) ⟨Nat.le_of_ble_eq_true rfl, Nat.le_of_ble_eq_true rfl⟩ rfl ([]) ([NA cI o f]) rfl 8 rfl rfl rfl (Nat.le_of_ble_eq_true rfl) ⟨Nat.le_of_ble_eq_true rfl, Nat.le_of_ble_eq_true rfl⟩ dL_refuses_318 (fun q318 hq318 => ?_)
  have hz318 : q318 = 0 := (show q318 = Pl_now (Ri_P r) from hq318).trans hnow
  subst hz318
  refine gh_const (pc := 321) F dL_refuses_321 ?_
  refine gh_const (pc := 322) F dL_refuses_322 ?_
  refine gh_thr (pc := 323) (n := 5) (As := [.ref (a 0), vI (-x), vI 0, vI 1, vI (-1)]) (rest := []) (bytes := cL_meeting) (maxL := 6) (hh := [(0, 9, 10, 13), (0, 9, 15, 16), (0, 9, 20, 19)]) (E := xIA) (z := (-2000000002)) F FX NC (ctL_meeting l hfl D cI cJ cZ a r (-x) 0 1 (-1) hr ⟨by omega, by omega⟩ ⟨by omega, by omega⟩ ⟨by omega, by omega⟩ ⟨by omega, by omega⟩) (Or.inr ⟨by omega, Or.inl ⟨by omega, rfl⟩⟩) gz_kN_A gL_refuses_L_meeting rfl ⟨rfl, rfl⟩ (by decide +kernel) ⟨Nat.le_of_ble_eq_true rfl, Nat.le_of_ble_eq_true rfl⟩ rfl ([]) ([NA cI o f]) rfl rfl (Nat.le_of_ble_eq_true rfl) ⟨Nat.le_of_ble_eq_true rfl, Nat.le_of_ble_eq_true rfl⟩ (RiW_sh _ _) dL_refuses_323 ?_
  refine gh_ldc (pc := 326) (v := (-2000000002)) F knL_refuses_18 dL_refuses_326 ?_
  refine gh_icmp32_ne (pc := 328) F dL_refuses_328 (tgt := 678) (by decide) ?_
  refine gh_aload_n (pc := 331) F dL_refuses_331 rfl 8 rfl ?_
  refine gh_const (pc := 332) F dL_refuses_332 ?_
  refine gh_iload_n (pc := 333) F dL_refuses_333 rfl 7 rfl ?_
  refine gh_if_eq (pc := 334) (tgt := 348) F dL_refuses_334 (by decide) (by omega) (fun cz => absurd cz (by omega)) (fun _ => ?_)
  refine gh_aload_n (pc := 337) F dL_refuses_337 rfl 8 rfl ?_
  refine gh_callI (pc := 338) (n := 0) (As := []) (rest := [vI 1, .ref (a 0)]) (bytes := cX8_slot) (maxL := 1) (ret := some .int) F (ct_X8_slot l D cI cJ cZ a r hr) gL_refuses_X8_slot rfl ⟨rfl, rfl⟩ (by decide +kernel) ⟨Nat.le_of_ble_eq_true rfl, Nat.le_of_ble_eq_true rfl⟩ rfl ([]) ([NA cI o f]) rfl 8 rfl rfl rfl (Nat.le_of_ble_eq_true rfl) ⟨Nat.le_of_ble_eq_true rfl, Nat.le_of_ble_eq_true rfl⟩ dL_refuses_338 (fun q338 hq338 => ?_)
  have hz338 : q338 = 0 := (show q338 = Pl_now (Ri_P r) from hq338).trans hnow
  subst hz338
  refine gh_const (pc := 341) F dL_refuses_341 ?_
  refine gh_isub (pc := 342) (z := (-1)) F dL_refuses_342 rfl ?_
  refine gh_iload_n (pc := 343) F dL_refuses_343 rfl 10 rfl ?_
  refine gh_isub (pc := 344) (z := ((-1) - x)) F dL_refuses_344 rfl ?_
  refine gh_goto (pc := 345) (tgt := 353) F dL_refuses_345 (by decide) ?_
  refine gh_const (pc := 353) F dL_refuses_353 ?_
  refine gh_const (pc := 354) F dL_refuses_354 ?_
  refine gh_thr (pc := 355) (n := 5) (As := [.ref (a 0), vI 1, vI ((-1) - x), vI 1, vI (-1)]) (rest := []) (bytes := cL_meeting) (maxL := 6) (hh := [(0, 9, 10, 13), (0, 9, 15, 16), (0, 9, 20, 19)]) (E := xIA) (z := (-2000000002)) F FX NC (ctL_meeting l hfl D cI cJ cZ a r 1 ((-1) - x) 1 (-1) hr ⟨by omega, by omega⟩ ⟨by omega, by omega⟩ ⟨by omega, by omega⟩ ⟨by omega, by omega⟩) (Or.inr ⟨by omega, Or.inr ⟨by omega, Or.inl ⟨by omega, rfl⟩⟩⟩) gz_kN_A gL_refuses_L_meeting rfl ⟨rfl, rfl⟩ (by decide +kernel) ⟨Nat.le_of_ble_eq_true rfl, Nat.le_of_ble_eq_true rfl⟩ rfl ([]) ([NA cI o f]) rfl rfl (Nat.le_of_ble_eq_true rfl) ⟨Nat.le_of_ble_eq_true rfl, Nat.le_of_ble_eq_true rfl⟩ (RiW_sh _ _) dL_refuses_355 ?_
  refine gh_ldc (pc := 358) (v := (-2000000002)) F knL_refuses_18 dL_refuses_358 ?_
  refine gh_icmp32_ne (pc := 360) F dL_refuses_360 (tgt := 678) (by decide) ?_
  refine gh_aload_n (pc := 363) F dL_refuses_363 rfl 8 rfl ?_
  refine gh_const (pc := 364) F dL_refuses_364 ?_
  refine gh_sipush (pc := 365) F dL_refuses_365 (by decide) ?_
  refine gh_iload_n (pc := 368) F dL_refuses_368 rfl 7 rfl ?_
  refine gh_if_eq (pc := 369) (tgt := 377) F dL_refuses_369 (by decide) (by omega) (fun cz => absurd cz (by omega)) (fun _ => ?_)
  refine gh_iload_n (pc := 372) F dL_refuses_372 rfl 10 rfl ?_
  refine gh_ineg (pc := 373) (z := (-x)) F dL_refuses_373 rfl ?_
  refine gh_goto (pc := 374) (tgt := 380) F dL_refuses_374 (by decide) ?_
  refine gh_const (pc := 380) F dL_refuses_380 ?_
  refine gh_thr (pc := 381) (n := 5) (As := [.ref (a 0), vI 1, vI 399, vI (-x), vI (-1)]) (rest := []) (bytes := cL_meeting) (maxL := 6) (hh := [(0, 9, 10, 13), (0, 9, 15, 16), (0, 9, 20, 19)]) (E := xIA) (z := (-2000000002)) F FX NC (ctL_meeting l hfl D cI cJ cZ a r 1 399 (-x) (-1) hr ⟨by omega, by omega⟩ ⟨by omega, by omega⟩ ⟨by omega, by omega⟩ ⟨by omega, by omega⟩) (Or.inr ⟨by omega, Or.inr ⟨by omega, Or.inr ⟨by omega, Or.inl ⟨by omega, rfl⟩⟩⟩⟩) gz_kN_A gL_refuses_L_meeting rfl ⟨rfl, rfl⟩ (by decide +kernel) ⟨Nat.le_of_ble_eq_true rfl, Nat.le_of_ble_eq_true rfl⟩ rfl ([]) ([NA cI o f]) rfl rfl (Nat.le_of_ble_eq_true rfl) ⟨Nat.le_of_ble_eq_true rfl, Nat.le_of_ble_eq_true rfl⟩ (RiW_sh _ _) dL_refuses_381 ?_
  refine gh_ldc (pc := 384) (v := (-2000000002)) F knL_refuses_18 dL_refuses_384 ?_
  refine gh_icmp32_ne (pc := 386) F dL_refuses_386 (tgt := 678) (by decide) ?_
  refine gh_aload_n (pc := 389) F dL_refuses_389 rfl 8 rfl ?_
  refine gh_const (pc := 390) F dL_refuses_390 ?_
  refine gh_sipush (pc := 391) F dL_refuses_391 (by decide) ?_
  refine gh_const (pc := 394) F dL_refuses_394 ?_
  refine gh_const (pc := 395) F dL_refuses_395 ?_
  refine gh_thr (pc := 396) (n := 5) (As := [.ref (a 0), vI 1, vI 399, vI 2, vI (-1)]) (rest := []) (bytes := cL_meeting) (maxL := 6) (hh := [(0, 9, 10, 13), (0, 9, 15, 16), (0, 9, 20, 19)]) (E := xIA) (z := (-2000000002)) F FX NC (ctL_meeting l hfl D cI cJ cZ a r 1 399 2 (-1) hr ⟨by omega, by omega⟩ ⟨by omega, by omega⟩ ⟨by omega, by omega⟩ ⟨by omega, by omega⟩) (Or.inr ⟨by omega, Or.inr ⟨by omega, Or.inr ⟨by omega, Or.inr ⟨by omega, Or.inl ⟨by omega, rfl⟩⟩⟩⟩⟩) gz_kN_A gL_refuses_L_meeting rfl ⟨rfl, rfl⟩ (by decide +kernel) ⟨Nat.le_of_ble_eq_true rfl, Nat.le_of_ble_eq_true rfl⟩ rfl ([]) ([NA cI o f]) rfl rfl (Nat.le_of_ble_eq_true rfl) ⟨Nat.le_of_ble_eq_true rfl, Nat.le_of_ble_eq_true rfl⟩ (RiW_sh _ _) dL_refuses_396 ?_
  refine gh_ldc (pc := 399) (v := (-2000000002)) F knL_refuses_18 dL_refuses_399 ?_
  refine gh_icmp32_ne (pc := 401) F dL_refuses_401 (tgt := 678) (by decide) ?_
  refine gh_aload_n (pc := 404) F dL_refuses_404 rfl 8 rfl ?_
  refine gh_iload (pc := 405) F dL_refuses_405 4 rfl ?_
  refine gh_sipush (pc := 407) F dL_refuses_407 (by decide) ?_
  refine gh_thr (pc := 410) (n := 3) (As := [.ref (a 0), vI ((-1) - x), vI 399]) (rest := []) (bytes := cL_move) (maxL := 4) (hh := [(0, 14, 15, 13), (0, 14, 19, 16), (0, 14, 23, 19)]) (E := xIO) (z := (-2000000001)) F FX NC (ctL_move l hfl D cI cJ cZ a r ((-1) - x) 399 hr ⟨by omega, by omega⟩ ⟨by omega, by omega⟩ (fun k h1 h2 => absurd h2 (by omega))) (Or.inl ⟨by omega, rfl⟩) gz_kN_O gL_refuses_L_move rfl ⟨rfl, rfl⟩ (by decide +kernel) ⟨Nat.le_of_ble_eq_true rfl, Nat.le_of_ble_eq_true rfl⟩ rfl ([]) ([NA cI o f]) rfl rfl (Nat.le_of_ble_eq_true rfl) ⟨Nat.le_of_ble_eq_true rfl, Nat.le_of_ble_eq_true rfl⟩ (RiW_sh _ _) dL_refuses_410 ?_
  refine gh_ldc (pc := 413) (v := (-2000000001)) F knL_refuses_15 dL_refuses_413 ?_
  refine gh_icmp32_ne (pc := 415) F dL_refuses_415 (tgt := 678) (by decide) ?_
  refine gh_aload_n (pc := 418) F dL_refuses_418 rfl 8 rfl ?_
  refine gh_iload (pc := 419) F dL_refuses_419 4 rfl ?_
  refine gh_thr (pc := 421) (n := 2) (As := [.ref (a 0), vI ((-1) - x)]) (rest := []) (bytes := cL_cancel) (maxL := 3) (hh := [(0, 6, 7, 13), (0, 6, 11, 19)]) (E := xIO) (z := (-2000000001)) F FX NC (ctL_cancel l hfl D cI cJ cZ a r ((-1) - x) hr ⟨by omega, by omega⟩) (Or.inl ⟨by omega, rfl⟩) gz_kN_O gL_refuses_L_cancel rfl ⟨rfl, rfl⟩ (by decide +kernel) ⟨Nat.le_of_ble_eq_true rfl, Nat.le_of_ble_eq_true rfl⟩ rfl ([]) ([NA cI o f]) rfl rfl (Nat.le_of_ble_eq_true rfl) ⟨Nat.le_of_ble_eq_true rfl, Nat.le_of_ble_eq_true rfl⟩ (RiW_sh _ _) dL_refuses_421 ?_
  refine gh_ldc (pc := 424) (v := (-2000000001)) F knL_refuses_15 dL_refuses_424 ?_
  refine gh_icmp32_ne (pc := 426) F dL_refuses_426 (tgt := 678) (by decide) ?_
  refine gh_aload_n (pc := 429) F dL_refuses_429 rfl 8 rfl ?_
  refine gh_iload (pc := 430) F dL_refuses_430 4 rfl ?_
  refine gh_const (pc := 432) F dL_refuses_432 ?_
  refine gh_thr (pc := 433) (n := 3) (As := [.ref (a 0), vI ((-1) - x), vI 0]) (rest := []) (bytes := cL_swap) (maxL := 4) (hh := [(0, 6, 7, 13), (0, 6, 11, 16), (0, 6, 15, 19)]) (E := xIO) (z := (-2000000001)) F FX NC (ctL_swap l hfl D cI cJ cZ a r ((-1) - x) 0 hr ⟨by omega, by omega⟩ ⟨by omega, by omega⟩) (Or.inl ⟨by omega, rfl⟩) gz_kN_O gL_refuses_L_swap rfl ⟨rfl, rfl⟩ (by decide +kernel) ⟨Nat.le_of_ble_eq_true rfl, Nat.le_of_ble_eq_true rfl⟩ rfl ([]) ([NA cI o f]) rfl rfl (Nat.le_of_ble_eq_true rfl) ⟨Nat.le_of_ble_eq_true rfl, Nat.le_of_ble_eq_true rfl⟩ (RiW_sh _ _) dL_refuses_433 ?_
  refine gh_ldc (pc := 436) (v := (-2000000001)) F knL_refuses_15 dL_refuses_436 ?_
  refine gh_icmp32_ne (pc := 438) F dL_refuses_438 (tgt := 678) (by decide) ?_
  refine gh_aload_n (pc := 441) F dL_refuses_441 rfl 8 rfl ?_
  refine gh_iload (pc := 442) F dL_refuses_442 6 rfl ?_
  refine gh_const (pc := 444) F dL_refuses_444 ?_
  refine gh_thr (pc := 445) (n := 3) (As := [.ref (a 0), vI ((-1) - x), vI 0]) (rest := []) (bytes := cL_agree) (maxL := 4) (hh := [(0, 6, 7, 13), (0, 6, 11, 19)]) (E := xIO) (z := (-2000000001)) F FX NC (ctL_agree l hfl D cI cJ cZ a r ((-1) - x) 0 hr ⟨by omega, by omega⟩ ⟨by omega, by omega⟩ (fun k h1 h2 => absurd h2 (by omega))) (Or.inl ⟨by omega, rfl⟩) gz_kN_O gL_refuses_L_agree rfl ⟨rfl, rfl⟩ (by decide +kernel) ⟨Nat.le_of_ble_eq_true rfl, Nat.le_of_ble_eq_true rfl⟩ rfl ([]) ([NA cI o f]) rfl rfl (Nat.le_of_ble_eq_true rfl) ⟨Nat.le_of_ble_eq_true rfl, Nat.le_of_ble_eq_true rfl⟩ (RiW_sh _ _) dL_refuses_445 ?_
  refine gh_ldc (pc := 448) (v := (-2000000001)) F knL_refuses_15 dL_refuses_448 ?_
  refine gh_icmp32_ne (pc := 450) F dL_refuses_450 (tgt := 678) (by decide) ?_
  refine gh_aload_n (pc := 453) F dL_refuses_453 rfl 8 rfl ?_
  refine gh_iload_n (pc := 454) F dL_refuses_454 rfl 10 rfl ?_
  refine gh_bipush (pc := 455) F dL_refuses_455 (by decide) ?_
  refine gh_irem (pc := 457) (z := (x % 10)) F dL_refuses_457 (by omega) (by omega) rfl ?_
  refine gh_iload (pc := 458) F dL_refuses_458 2 rfl ?_
  refine gh_thr (pc := 460) (n := 3) (As := [.ref (a 0), vI (x % 10), vI ((-1) - x)]) (rest := []) (bytes := cL_agree) (maxL := 4) (hh := [(0, 6, 7, 13), (0, 6, 11, 19)]) (E := xIO) (z := (-2000000001)) F FX NC (ctL_agree l hfl D cI cJ cZ a r (x % 10) ((-1) - x) hr ⟨by omega, by omega⟩ ⟨by omega, by omega⟩ (fun k h1 h2 => absurd h2 (by omega))) (Or.inr ⟨by omega, Or.inl ⟨by omega, rfl⟩⟩) gz_kN_O gL_refuses_L_agree rfl ⟨rfl, rfl⟩ (by decide +kernel) ⟨Nat.le_of_ble_eq_true rfl, Nat.le_of_ble_eq_true rfl⟩ rfl ([]) ([NA cI o f]) rfl rfl (Nat.le_of_ble_eq_true rfl) ⟨Nat.le_of_ble_eq_true rfl, Nat.le_of_ble_eq_true rfl⟩ (RiW_sh _ _) dL_refuses_460 ?_
  refine gh_ldc (pc := 463) (v := (-2000000001)) F knL_refuses_15 dL_refuses_463 ?_
  refine gh_icmp32_ne (pc := 465) F dL_refuses_465 (tgt := 678) (by decide) ?_
  refine gh_aload_n (pc := 468) F dL_refuses_468 rfl 8 rfl ?_
  refine gh_iload_n (pc := 469) F dL_refuses_469 rfl 7 rfl ?_
  refine gh_if_eq (pc := 470) (tgt := 479) F dL_refuses_470 (by decide) (by omega) (fun cz => absurd cz (by omega)) (fun _ => ?_)
  refine gh_const (pc := 473) F dL_refuses_473 ?_
  refine gh_iload_n (pc := 474) F dL_refuses_474 rfl 10 rfl ?_
  refine gh_isub (pc := 475) (z := ((-1) - x)) F dL_refuses_475 rfl ?_
  refine gh_goto (pc := 476) (tgt := 483) F dL_refuses_476 (by decide) ?_
  refine gh_const (pc := 483) F dL_refuses_483 ?_
  refine gh_const (pc := 484) F dL_refuses_484 ?_
  refine gh_thr (pc := 485) (n := 4) (As := [.ref (a 0), vI ((-1) - x), vI 0, vI 1]) (rest := []) (bytes := cL_build) (maxL := 5) (hh := [(0, 7, 8, 16), (0, 7, 13, 19)]) (E := xIA) (z := (-2000000002)) F FX NC (ctL_build l hfl D cI cJ cZ a r ((-1) - x) 0 1 hr ⟨by omega, by omega⟩ ⟨by omega, by omega⟩ ⟨by omega, by omega⟩) (Or.inl ⟨by omega, rfl⟩) gz_kN_A gL_refuses_L_build rfl ⟨rfl, rfl⟩ (by decide +kernel) ⟨Nat.le_of_ble_eq_true rfl, Nat.le_of_ble_eq_true rfl⟩ rfl ([]) ([NA cI o f]) rfl rfl (Nat.le_of_ble_eq_true rfl) ⟨Nat.le_of_ble_eq_true rfl, Nat.le_of_ble_eq_true rfl⟩ (RiW_sh _ _) dL_refuses_485 ?_
  refine gh_ldc (pc := 488) (v := (-2000000002)) F knL_refuses_18 dL_refuses_488 ?_
  refine gh_icmp32_ne (pc := 490) F dL_refuses_490 (tgt := 678) (by decide) ?_
  refine gh_aload_n (pc := 493) F dL_refuses_493 rfl 8 rfl ?_
  refine gh_const (pc := 494) F dL_refuses_494 ?_
  refine gh_iload_n (pc := 495) F dL_refuses_495 rfl 7 rfl ?_
  refine gh_if_eq (pc := 496) (tgt := 505) F dL_refuses_496 (by decide) (by omega) (fun cz => absurd cz (by omega)) (fun _ => ?_)
  refine gh_const (pc := 499) F dL_refuses_499 ?_
  refine gh_iload_n (pc := 500) F dL_refuses_500 rfl 10 rfl ?_
  refine gh_isub (pc := 501) (z := ((-1) - x)) F dL_refuses_501 rfl ?_
  refine gh_goto (pc := 502) (tgt := 509) F dL_refuses_502 (by decide) ?_
  refine gh_const (pc := 509) F dL_refuses_509 ?_
  refine gh_thr (pc := 510) (n := 4) (As := [.ref (a 0), vI 0, vI ((-1) - x), vI 1]) (rest := []) (bytes := cL_build) (maxL := 5) (hh := [(0, 7, 8, 16), (0, 7, 13, 19)]) (E := xIA) (z := (-2000000002)) F FX NC (ctL_build l hfl D cI cJ cZ a r 0 ((-1) - x) 1 hr ⟨by omega, by omega⟩ ⟨by omega, by omega⟩ ⟨by omega, by omega⟩) (Or.inr ⟨by omega, Or.inl ⟨by omega, rfl⟩⟩) gz_kN_A gL_refuses_L_build rfl ⟨rfl, rfl⟩ (by decide +kernel) ⟨Nat.le_of_ble_eq_true rfl, Nat.le_of_ble_eq_true rfl⟩ rfl ([]) ([NA cI o f]) rfl rfl (Nat.le_of_ble_eq_true rfl) ⟨Nat.le_of_ble_eq_true rfl, Nat.le_of_ble_eq_true rfl⟩ (RiW_sh _ _) dL_refuses_510 ?_
  refine gh_ldc (pc := 513) (v := (-2000000002)) F knL_refuses_18 dL_refuses_513 ?_
  refine gh_icmp32_ne (pc := 515) F dL_refuses_515 (tgt := 678) (by decide) ?_
  refine gh_aload_n (pc := 518) F dL_refuses_518 rfl 8 rfl ?_
  refine gh_const (pc := 519) F dL_refuses_519 ?_
  refine gh_const (pc := 520) F dL_refuses_520 ?_
  refine gh_iload_n (pc := 521) F dL_refuses_521 rfl 7 rfl ?_
  refine gh_if_eq (pc := 522) (tgt := 530) F dL_refuses_522 (by decide) (by omega) (fun cz => absurd cz (by omega)) (fun _ => ?_)
  refine gh_iload_n (pc := 525) F dL_refuses_525 rfl 10 rfl ?_
  refine gh_ineg (pc := 526) (z := (-x)) F dL_refuses_526 rfl ?_
  refine gh_goto (pc := 527) (tgt := 534) F dL_refuses_527 (by decide) ?_
  refine gh_thr (pc := 534) (n := 4) (As := [.ref (a 0), vI 0, vI 0, vI (-x)]) (rest := []) (bytes := cL_build) (maxL := 5) (hh := [(0, 7, 8, 16), (0, 7, 13, 19)]) (E := xIA) (z := (-2000000002)) F FX NC (ctL_build l hfl D cI cJ cZ a r 0 0 (-x) hr ⟨by omega, by omega⟩ ⟨by omega, by omega⟩ ⟨by omega, by omega⟩) (Or.inr ⟨by omega, Or.inr ⟨by omega, Or.inl ⟨by omega, rfl⟩⟩⟩) gz_kN_A gL_refuses_L_build rfl ⟨rfl, rfl⟩ (by decide +kernel) ⟨Nat.le_of_ble_eq_true rfl, Nat.le_of_ble_eq_true rfl⟩ rfl ([]) ([NA cI o f]) rfl rfl (Nat.le_of_ble_eq_true rfl) ⟨Nat.le_of_ble_eq_true rfl, Nat.le_of_ble_eq_true rfl⟩ (RiW_sh _ _) dL_refuses_534 ?_
  refine gh_ldc (pc := 537) (v := (-2000000002)) F knL_refuses_18 dL_refuses_537 ?_
  refine gh_icmp32_ne (pc := 539) F dL_refuses_539 (tgt := 678) (by decide) ?_
  refine gh_aload_n (pc := 542) F dL_refuses_542 rfl 8 rfl ?_
  refine gh_iload (pc := 543) F dL_refuses_543 3 rfl ?_
  refine gh_const (pc := 545) F dL_refuses_545 ?_
  refine gh_thr (pc := 546) (n := 3) (As := [.ref (a 0), vI ((-1) - x), vI 0]) (rest := []) (bytes := cL_urge) (maxL := 4) (hh := [(0, 6, 7, 13), (0, 6, 11, 16), (0, 6, 15, 19)]) (E := xIO) (z := (-2000000001)) F FX NC (ctL_urge l hfl D cI cJ cZ a r ((-1) - x) 0 hr ⟨by omega, by omega⟩ ⟨by omega, by omega⟩) (Or.inl ⟨by omega, rfl⟩) gz_kN_O gL_refuses_L_urge rfl ⟨rfl, rfl⟩ (by decide +kernel) ⟨Nat.le_of_ble_eq_true rfl, Nat.le_of_ble_eq_true rfl⟩ rfl ([]) ([NA cI o f]) rfl rfl (Nat.le_of_ble_eq_true rfl) ⟨Nat.le_of_ble_eq_true rfl, Nat.le_of_ble_eq_true rfl⟩ (RiW_sh _ _) dL_refuses_546 ?_
  refine gh_ldc (pc := 549) (v := (-2000000001)) F knL_refuses_15 dL_refuses_549 ?_
  refine gh_icmp32_ne (pc := 551) F dL_refuses_551 (tgt := 678) (by decide) ?_
  refine gh_aload_n (pc := 554) F dL_refuses_554 rfl 8 rfl ?_
  refine gh_iload_n (pc := 555) F dL_refuses_555 rfl 7 rfl ?_
  refine gh_if_eq (pc := 556) (tgt := 564) F dL_refuses_556 (by decide) (by omega) (fun cz => absurd cz (by omega)) (fun _ => ?_)
  refine gh_iload_n (pc := 559) F dL_refuses_559 rfl 10 rfl ?_
  refine gh_ineg (pc := 560) (z := (-x)) F dL_refuses_560 rfl ?_
  refine gh_goto (pc := 561) (tgt := 568) F dL_refuses_561 (by decide) ?_
  refine gh_thr (pc := 568) (n := 2) (As := [.ref (a 0), vI (-x)]) (rest := []) (bytes := cL_pass) (maxL := 3) (hh := [(0, 5, 6, 16), (0, 5, 10, 19)]) (E := xIA) (z := (-2000000002)) F FX NC (ctL_pass l hfl D cI cJ cZ a r (-x) hr ⟨by omega, by omega⟩) (Or.inl ⟨by omega, rfl⟩) gz_kN_A gL_refuses_L_pass rfl ⟨rfl, rfl⟩ (by decide +kernel) ⟨Nat.le_of_ble_eq_true rfl, Nat.le_of_ble_eq_true rfl⟩ rfl ([]) ([NA cI o f]) rfl rfl (Nat.le_of_ble_eq_true rfl) ⟨Nat.le_of_ble_eq_true rfl, Nat.le_of_ble_eq_true rfl⟩ (RiW_sh _ _) dL_refuses_568 ?_
  refine gh_ldc (pc := 571) (v := (-2000000002)) F knL_refuses_18 dL_refuses_571 ?_
  refine gh_icmp32_ne (pc := 573) F dL_refuses_573 (tgt := 678) (by decide) ?_
  refine gh_aload_n (pc := 576) F dL_refuses_576 rfl 8 rfl ?_
  refine gh_iload (pc := 577) F dL_refuses_577 4 rfl ?_
  refine gh_const (pc := 579) F dL_refuses_579 ?_
  refine gh_thr (pc := 580) (n := 3) (As := [.ref (a 0), vI ((-1) - x), vI 0]) (rest := []) (bytes := cL_meetingOf) (maxL := 4) (hh := [(0, 6, 7, 13), (0, 6, 11, 16)]) (E := xIO) (z := (-2000000001)) F FX NC (ctL_meetingOf l hfl D cI cJ cZ a r ((-1) - x) 0 hr ⟨by omega, by omega⟩ ⟨by omega, by omega⟩) (Or.inl ⟨by omega, rfl⟩) gz_kN_O gL_refuses_L_meetingOf rfl ⟨rfl, rfl⟩ (by decide +kernel) ⟨Nat.le_of_ble_eq_true rfl, Nat.le_of_ble_eq_true rfl⟩ rfl ([]) ([NA cI o f]) rfl rfl (Nat.le_of_ble_eq_true rfl) ⟨Nat.le_of_ble_eq_true rfl, Nat.le_of_ble_eq_true rfl⟩ (RiW_sh _ _) dL_refuses_580 ?_
  refine gh_ldc (pc := 583) (v := (-2000000001)) F knL_refuses_15 dL_refuses_583 ?_
  refine gh_icmp32_ne (pc := 585) F dL_refuses_585 (tgt := 678) (by decide) ?_
  refine gh_aload_n (pc := 588) F dL_refuses_588 rfl 8 rfl ?_
  refine gh_iload (pc := 589) F dL_refuses_589 2 rfl ?_
  refine gh_thr (pc := 591) (n := 2) (As := [.ref (a 0), vI ((-1) - x)]) (rest := []) (bytes := cL_swapOf) (maxL := 3) (hh := [(0, 5, 6, 13)]) (E := xIO) (z := (-2000000001)) F FX NC (ctL_swapOf l hfl D cI cJ cZ a r ((-1) - x) hr ⟨by omega, by omega⟩) (Or.inl ⟨by omega, rfl⟩) gz_kN_O gL_refuses_L_swapOf rfl ⟨rfl, rfl⟩ (by decide +kernel) ⟨Nat.le_of_ble_eq_true rfl, Nat.le_of_ble_eq_true rfl⟩ rfl ([]) ([NA cI o f]) rfl rfl (Nat.le_of_ble_eq_true rfl) ⟨Nat.le_of_ble_eq_true rfl, Nat.le_of_ble_eq_true rfl⟩ (RiW_sh _ _) dL_refuses_591 ?_
  refine gh_ldc (pc := 594) (v := (-2000000001)) F knL_refuses_15 dL_refuses_594 ?_
  refine gh_icmp32_ne (pc := 596) F dL_refuses_596 (tgt := 678) (by decide) ?_
  refine gh_aload_n (pc := 599) F dL_refuses_599 rfl 8 rfl ?_
  refine gh_iload (pc := 600) F dL_refuses_600 3 rfl ?_
  refine gh_const (pc := 602) F dL_refuses_602 ?_
  refine gh_thr (pc := 603) (n := 3) (As := [.ref (a 0), vI ((-1) - x), vI 0]) (rest := []) (bytes := cL_buildOf) (maxL := 4) (hh := [(0, 6, 7, 13), (0, 6, 11, 16)]) (E := xIO) (z := (-2000000001)) F FX NC (ctL_buildOf l hfl D cI cJ cZ a r ((-1) - x) 0 hr ⟨by omega, by omega⟩ ⟨by omega, by omega⟩) (Or.inl ⟨by omega, rfl⟩) gz_kN_O gL_refuses_L_buildOf rfl ⟨rfl, rfl⟩ (by decide +kernel) ⟨Nat.le_of_ble_eq_true rfl, Nat.le_of_ble_eq_true rfl⟩ rfl ([]) ([NA cI o f]) rfl rfl (Nat.le_of_ble_eq_true rfl) ⟨Nat.le_of_ble_eq_true rfl, Nat.le_of_ble_eq_true rfl⟩ (RiW_sh _ _) dL_refuses_603 ?_
  refine gh_ldc (pc := 606) (v := (-2000000001)) F knL_refuses_15 dL_refuses_606 ?_
  refine gh_icmp32_ne (pc := 608) F dL_refuses_608 (tgt := 678) (by decide) ?_
  refine gh_aload_n (pc := 611) F dL_refuses_611 rfl 8 rfl ?_
  refine gh_iload (pc := 612) F dL_refuses_612 3 rfl ?_
  refine gh_thr (pc := 614) (n := 2) (As := [.ref (a 0), vI ((-1) - x)]) (rest := []) (bytes := cL_anew) (maxL := 3) (hh := [(0, 5, 6, 13)]) (E := xIO) (z := (-2000000001)) F FX NC (ctL_anew l hfl D cI cJ cZ a r ((-1) - x) hr ⟨by omega, by omega⟩) (Or.inl ⟨by omega, rfl⟩) gz_kN_O gL_refuses_L_anew rfl ⟨rfl, rfl⟩ (by decide +kernel) ⟨Nat.le_of_ble_eq_true rfl, Nat.le_of_ble_eq_true rfl⟩ rfl ([]) ([NA cI o f]) rfl rfl (Nat.le_of_ble_eq_true rfl) ⟨Nat.le_of_ble_eq_true rfl, Nat.le_of_ble_eq_true rfl⟩ (RiW_sh _ _) dL_refuses_614 ?_
  refine gh_ldc (pc := 617) (v := (-2000000001)) F knL_refuses_15 dL_refuses_617 ?_
  refine gh_icmp32_ne (pc := 619) F dL_refuses_619 (tgt := 678) (by decide) ?_
  refine gh_aload_n (pc := 622) F dL_refuses_622 rfl 8 rfl ?_
  refine gh_iload (pc := 623) F dL_refuses_623 5 rfl ?_
  refine gh_const (pc := 625) F dL_refuses_625 ?_
  refine gh_thr (pc := 626) (n := 3) (As := [.ref (a 0), vI ((-1) - x), vI 0]) (rest := []) (bytes := cL_has) (maxL := 4) (hh := [(0, 6, 7, 13), (0, 6, 11, 16)]) (E := xIO) (z := (-2000000001)) F FX NC (ctL_has l hfl D cI cJ cZ a r ((-1) - x) 0 hr ⟨by omega, by omega⟩ ⟨by omega, by omega⟩) (Or.inl ⟨by omega, rfl⟩) gz_kN_O gL_refuses_L_has rfl ⟨rfl, rfl⟩ (by decide +kernel) ⟨Nat.le_of_ble_eq_true rfl, Nat.le_of_ble_eq_true rfl⟩ rfl ([]) ([NA cI o f]) rfl rfl (Nat.le_of_ble_eq_true rfl) ⟨Nat.le_of_ble_eq_true rfl, Nat.le_of_ble_eq_true rfl⟩ (RiW_sh _ _) dL_refuses_626 ?_
  refine gh_ldc (pc := 629) (v := (-2000000001)) F knL_refuses_15 dL_refuses_629 ?_
  refine gh_icmp32_ne (pc := 631) F dL_refuses_631 (tgt := 678) (by decide) ?_
  refine gh_aload_n (pc := 634) F dL_refuses_634 rfl 8 rfl ?_
  refine gh_iload (pc := 635) F dL_refuses_635 6 rfl ?_
  refine gh_const (pc := 637) F dL_refuses_637 ?_
  refine gh_thr (pc := 638) (n := 3) (As := [.ref (a 0), vI ((-1) - x), vI 0]) (rest := []) (bytes := cL_isFree) (maxL := 4) (hh := [(0, 14, 15, 13), (0, 14, 19, 16)]) (E := xIO) (z := (-2000000001)) F FX NC (ctL_isFree l hfl D cI cJ cZ a r ((-1) - x) 0 hr ⟨by omega, by omega⟩ ⟨by omega, by omega⟩) (Or.inl ⟨by omega, rfl⟩) gz_kN_O gL_refuses_L_isFree rfl ⟨rfl, rfl⟩ (by decide +kernel) ⟨Nat.le_of_ble_eq_true rfl, Nat.le_of_ble_eq_true rfl⟩ rfl ([]) ([NA cI o f]) rfl rfl (Nat.le_of_ble_eq_true rfl) ⟨Nat.le_of_ble_eq_true rfl, Nat.le_of_ble_eq_true rfl⟩ (RiW_sh _ _) dL_refuses_638 ?_
  refine gh_ldc (pc := 641) (v := (-2000000001)) F knL_refuses_15 dL_refuses_641 ?_
  refine gh_icmp32_ne (pc := 643) F dL_refuses_643 (tgt := 678) (by decide) ?_
  refine gh_aload_n (pc := 646) F dL_refuses_646 rfl 8 rfl ?_
  refine gh_iload_n (pc := 647) F dL_refuses_647 rfl 10 rfl ?_
  refine gh_bipush (pc := 648) F dL_refuses_648 (by decide) ?_
  refine gh_irem (pc := 650) (z := (x % 10)) F dL_refuses_650 (by omega) (by omega) rfl ?_
  refine gh_iload (pc := 651) F dL_refuses_651 1 rfl ?_
  refine gh_thr (pc := 653) (n := 3) (As := [.ref (a 0), vI (x % 10), vI ((-1) - x)]) (rest := []) (bytes := cL_isFree) (maxL := 4) (hh := [(0, 14, 15, 13), (0, 14, 19, 16)]) (E := xIA) (z := (-2000000002)) F FX NC (ctL_isFree l hfl D cI cJ cZ a r (x % 10) ((-1) - x) hr ⟨by omega, by omega⟩ ⟨by omega, by omega⟩) (Or.inr ⟨by omega, Or.inl ⟨by omega, rfl⟩⟩) gz_kN_A gL_refuses_L_isFree rfl ⟨rfl, rfl⟩ (by decide +kernel) ⟨Nat.le_of_ble_eq_true rfl, Nat.le_of_ble_eq_true rfl⟩ rfl ([]) ([NA cI o f]) rfl rfl (Nat.le_of_ble_eq_true rfl) ⟨Nat.le_of_ble_eq_true rfl, Nat.le_of_ble_eq_true rfl⟩ (RiW_sh _ _) dL_refuses_653 ?_
  refine gh_ldc (pc := 656) (v := (-2000000002)) F knL_refuses_18 dL_refuses_656 ?_
  refine gh_icmp32_ne (pc := 658) F dL_refuses_658 (tgt := 678) (by decide) ?_
  refine gh_aload_n (pc := 661) F dL_refuses_661 rfl 8 rfl ?_
  refine gh_iload (pc := 662) F dL_refuses_662 5 rfl ?_
  refine gh_const (pc := 664) F dL_refuses_664 ?_
  refine gh_const (pc := 665) F dL_refuses_665 ?_
  refine gh_thr (pc := 666) (n := 4) (As := [.ref (a 0), vI ((-1) - x), vI 0, vI 0]) (rest := []) (bytes := cL_diary) (maxL := 5) (hh := [(0, 7, 8, 13), (0, 7, 13, 16)]) (E := xIO) (z := (-2000000001)) F FX NC (ctL_diary l hfl D cI cJ cZ a r ((-1) - x) 0 0 hr ⟨by omega, by omega⟩ ⟨by omega, by omega⟩ ⟨by omega, by omega⟩) (Or.inl ⟨by omega, rfl⟩) gz_kN_O gL_refuses_L_diary rfl ⟨rfl, rfl⟩ (by decide +kernel) ⟨Nat.le_of_ble_eq_true rfl, Nat.le_of_ble_eq_true rfl⟩ rfl ([]) ([NA cI o f]) rfl rfl (Nat.le_of_ble_eq_true rfl) ⟨Nat.le_of_ble_eq_true rfl, Nat.le_of_ble_eq_true rfl⟩ (RiW_sh _ _) dL_refuses_666 ?_
  refine gh_ldc (pc := 669) (v := (-2000000001)) F knL_refuses_15 dL_refuses_669 ?_
  refine gh_icmp32_ne (pc := 671) F dL_refuses_671 (tgt := 678) (by decide) ?_
  refine gh_const (pc := 674) F dL_refuses_674 ?_
  refine gh_goto (pc := 675) (tgt := 679) F dL_refuses_675 (by decide) ?_
  refine gh_istore (pc := 679) (lv2 := [(11, vI 1), (10, vI 0), (9, vI ((-1) - x)), (8, vI ((-1) - x)), (7, vI ((-1) - x)), (6, vI ((-1) - x)), (5, vI ((-1) - x)), (4, vI ((-1) - x)), (3, vI 1), (0, .ref (a 0)), (1, .ref o), (2, vI x)]) F dL_refuses_679 (by decide) rfl ?_
  refine gh_aload_n (pc := 681) F dL_refuses_681 rfl 10 rfl ?_
  refine gh_const (pc := 682) F dL_refuses_682 ?_
  refine gh_iald (pc := 683) (v := 1) F 73 (RiW_na _ _ _ _ _ _) ⟨by decide, by decide⟩ (by decide) hf0 dL_refuses_683 ?_
  refine gh_if_le (pc := 684) (tgt := 874) F dL_refuses_684 (by decide) (by omega) (fun cz => absurd cz (by omega)) (fun _ => ?_)
  refine gh_iload (pc := 687) F dL_refuses_687 0 rfl ?_
  refine gh_if_eq (pc := 689) (tgt := 874) F dL_refuses_689 (by decide) (by omega) (fun cz => absurd cz (by omega)) (fun _ => ?_)
  refine gh_iload_n (pc := 692) F dL_refuses_692 rfl 11 rfl ?_
  refine gh_const (pc := 693) F dL_refuses_693 ?_
  refine gh_idiv (pc := 694) (z := (x / 3)) F dL_refuses_694 (by omega) (by omega) rfl ?_
  refine gh_aload_n (pc := 695) F dL_refuses_695 rfl 10 rfl ?_
  refine gh_const (pc := 696) F dL_refuses_696 ?_
  refine gh_iald (pc := 697) (v := 1) F 73 (RiW_na _ _ _ _ _ _) ⟨by decide, by decide⟩ (by decide) hf0 dL_refuses_697 ?_
  refine gh_irem (pc := 698) (z := ((x / 3) % 1)) F dL_refuses_698 (by omega) (by omega) rfl ?_
  refine gh_istore (pc := 699) (lv2 := [(12, vI ((x / 3) % 1)), (11, vI 1), (10, vI 0), (9, vI ((-1) - x)), (8, vI ((-1) - x)), (7, vI ((-1) - x)), (6, vI ((-1) - x)), (5, vI ((-1) - x)), (4, vI ((-1) - x)), (3, vI 1), (0, .ref (a 0)), (1, .ref o), (2, vI x)]) F dL_refuses_699 (by decide) rfl ?_
  refine gh_aload_n (pc := 701) F dL_refuses_701 rfl 10 rfl ?_
  refine gh_iload (pc := 702) F dL_refuses_702 0 rfl ?_
  refine gh_iload (pc := 704) F dL_refuses_704 8 rfl ?_
  refine gh_aload_n (pc := 706) F dL_refuses_706 rfl 10 rfl ?_
  refine gh_callI (pc := 707) (n := 0) (As := []) (rest := [vI ((-1) - x), vI ((x / 3) % 1), .ref (a 0)]) (bytes := cX8_slot) (maxL := 1) (ret := some .int) F (ct_X8_slot l D cI cJ cZ a r hr) gL_refuses_X8_slot rfl ⟨rfl, rfl⟩ (by decide +kernel) ⟨Nat.le_of_ble_eq_true rfl, Nat.le_of_ble_eq_true rfl⟩ rfl ([]) ([NA cI o f]) rfl 8 rfl rfl rfl (Nat.le_of_ble_eq_true rfl) ⟨Nat.le_of_ble_eq_true rfl, Nat.le_of_ble_eq_true rfl⟩ dL_refuses_707 (fun q707 hq707 => ?_)
  have hz707 : q707 = 0 := (show q707 = Pl_now (Ri_P r) from hq707).trans hnow
  subst hz707
  refine gh_sipush (pc := 710) F dL_refuses_710 (by decide) ?_
  refine gh_thr (pc := 713) (n := 5) (As := [.ref (a 0), vI ((x / 3) % 1), vI ((-1) - x), vI 0, vI 399]) (rest := []) (bytes := cL_lend) (maxL := 6) (hh := [(0, 10, 11, 13), (0, 10, 16, 16), (0, 10, 21, 19)]) (E := xIO) (z := (-2000000001)) F FX NC (ctL_lend l hfl D cI cJ cZ a r ((x / 3) % 1) ((-1) - x) 0 399 hr ⟨by omega, by omega⟩ ⟨by omega, by omega⟩ ⟨by omega, by omega⟩ ⟨by omega, by omega⟩) (Or.inr ⟨by omega, Or.inl ⟨by omega, rfl⟩⟩) gz_kN_O gL_refuses_L_lend rfl ⟨rfl, rfl⟩ (by decide +kernel) ⟨Nat.le_of_ble_eq_true rfl, Nat.le_of_ble_eq_true rfl⟩ rfl ([]) ([NA cI o f]) rfl rfl (Nat.le_of_ble_eq_true rfl) ⟨Nat.le_of_ble_eq_true rfl, Nat.le_of_ble_eq_true rfl⟩ (RiW_sh _ _) dL_refuses_713 ?_
  refine gh_ldc (pc := 716) (v := (-2000000001)) F knL_refuses_15 dL_refuses_716 ?_
  refine gh_icmp32_ne (pc := 718) F dL_refuses_718 (tgt := 871) (by decide) ?_
  refine gh_aload_n (pc := 721) F dL_refuses_721 rfl 10 rfl ?_
  refine gh_iload (pc := 722) F dL_refuses_722 0 rfl ?_
  refine gh_const (pc := 724) F dL_refuses_724 ?_
  refine gh_iload_n (pc := 725) F dL_refuses_725 rfl 9 rfl ?_
  refine gh_if_eq (pc := 726) (tgt := 740) F dL_refuses_726 (by decide) (by omega) (fun cz => absurd cz (by omega)) (fun _ => ?_)
  refine gh_aload_n (pc := 729) F dL_refuses_729 rfl 10 rfl ?_
  refine gh_callI (pc := 730) (n := 0) (As := []) (rest := [vI 0, vI ((x / 3) % 1), .ref (a 0)]) (bytes := cX8_slot) (maxL := 1) (ret := some .int) F (ct_X8_slot l D cI cJ cZ a r hr) gL_refuses_X8_slot rfl ⟨rfl, rfl⟩ (by decide +kernel) ⟨Nat.le_of_ble_eq_true rfl, Nat.le_of_ble_eq_true rfl⟩ rfl ([]) ([NA cI o f]) rfl 8 rfl rfl rfl (Nat.le_of_ble_eq_true rfl) ⟨Nat.le_of_ble_eq_true rfl, Nat.le_of_ble_eq_true rfl⟩ dL_refuses_730 (fun q730 hq730 => ?_)
  have hz730 : q730 = 0 := (show q730 = Pl_now (Ri_P r) from hq730).trans hnow
  subst hz730
  refine gh_const (pc := 733) F dL_refuses_733 ?_
  refine gh_isub (pc := 734) (z := (-1)) F dL_refuses_734 rfl ?_
  refine gh_iload_n (pc := 735) F dL_refuses_735 rfl 12 rfl ?_
  refine gh_isub (pc := 736) (z := ((-1) - x)) F dL_refuses_736 rfl ?_
  refine gh_goto (pc := 737) (tgt := 745) F dL_refuses_737 (by decide) ?_
  refine gh_sipush (pc := 745) F dL_refuses_745 (by decide) ?_
  refine gh_thr (pc := 748) (n := 5) (As := [.ref (a 0), vI ((x / 3) % 1), vI 0, vI ((-1) - x), vI 399]) (rest := []) (bytes := cL_lend) (maxL := 6) (hh := [(0, 10, 11, 13), (0, 10, 16, 16), (0, 10, 21, 19)]) (E := xIA) (z := (-2000000002)) F FX NC (ctL_lend l hfl D cI cJ cZ a r ((x / 3) % 1) 0 ((-1) - x) 399 hr ⟨by omega, by omega⟩ ⟨by omega, by omega⟩ ⟨by omega, by omega⟩ ⟨by omega, by omega⟩) (Or.inr ⟨by omega, Or.inr ⟨by omega, Or.inl ⟨by omega, rfl⟩⟩⟩) gz_kN_A gL_refuses_L_lend rfl ⟨rfl, rfl⟩ (by decide +kernel) ⟨Nat.le_of_ble_eq_true rfl, Nat.le_of_ble_eq_true rfl⟩ rfl ([]) ([NA cI o f]) rfl rfl (Nat.le_of_ble_eq_true rfl) ⟨Nat.le_of_ble_eq_true rfl, Nat.le_of_ble_eq_true rfl⟩ (RiW_sh _ _) dL_refuses_748 ?_
  refine gh_ldc (pc := 751) (v := (-2000000002)) F knL_refuses_18 dL_refuses_751 ?_
  refine gh_icmp32_ne (pc := 753) F dL_refuses_753 (tgt := 871) (by decide) ?_
  refine gh_aload_n (pc := 756) F dL_refuses_756 rfl 10 rfl ?_
  refine gh_iload (pc := 757) F dL_refuses_757 0 rfl ?_
  refine gh_const (pc := 759) F dL_refuses_759 ?_
  refine gh_sipush (pc := 760) F dL_refuses_760 (by decide) ?_
  refine gh_iload_n (pc := 763) F dL_refuses_763 rfl 9 rfl ?_
  refine gh_if_eq (pc := 764) (tgt := 775) F dL_refuses_764 (by decide) (by omega) (fun cz => absurd cz (by omega)) (fun _ => ?_)
  refine gh_sipush (pc := 767) F dL_refuses_767 (by decide) ?_
  refine gh_iload_n (pc := 770) F dL_refuses_770 rfl 12 rfl ?_
  refine gh_isub (pc := 771) (z := (398 - x)) F dL_refuses_771 rfl ?_
  refine gh_goto (pc := 772) (tgt := 780) F dL_refuses_772 (by decide) ?_
  refine gh_thr (pc := 780) (n := 5) (As := [.ref (a 0), vI ((x / 3) % 1), vI 0, vI 399, vI (398 - x)]) (rest := []) (bytes := cL_lend) (maxL := 6) (hh := [(0, 10, 11, 13), (0, 10, 16, 16), (0, 10, 21, 19)]) (E := xIA) (z := (-2000000002)) F FX NC (ctL_lend l hfl D cI cJ cZ a r ((x / 3) % 1) 0 399 (398 - x) hr ⟨by omega, by omega⟩ ⟨by omega, by omega⟩ ⟨by omega, by omega⟩ ⟨by omega, by omega⟩) (Or.inr ⟨by omega, Or.inr ⟨by omega, Or.inr ⟨by omega, Or.inl ⟨by omega, rfl⟩⟩⟩⟩) gz_kN_A gL_refuses_L_lend rfl ⟨rfl, rfl⟩ (by decide +kernel) ⟨Nat.le_of_ble_eq_true rfl, Nat.le_of_ble_eq_true rfl⟩ rfl ([]) ([NA cI o f]) rfl rfl (Nat.le_of_ble_eq_true rfl) ⟨Nat.le_of_ble_eq_true rfl, Nat.le_of_ble_eq_true rfl⟩ (RiW_sh _ _) dL_refuses_780 ?_
  refine gh_ldc (pc := 783) (v := (-2000000002)) F knL_refuses_18 dL_refuses_783 ?_
  refine gh_icmp32_ne (pc := 785) F dL_refuses_785 (tgt := 871) (by decide) ?_
  refine gh_aload_n (pc := 788) F dL_refuses_788 rfl 10 rfl ?_
  refine gh_iload (pc := 789) F dL_refuses_789 0 rfl ?_
  refine gh_iload_n (pc := 791) F dL_refuses_791 rfl 9 rfl ?_
  refine gh_if_eq (pc := 792) (tgt := 801) F dL_refuses_792 (by decide) (by omega) (fun cz => absurd cz (by omega)) (fun _ => ?_)
  refine gh_const (pc := 795) F dL_refuses_795 ?_
  refine gh_iload_n (pc := 796) F dL_refuses_796 rfl 12 rfl ?_
  refine gh_isub (pc := 797) (z := ((-1) - x)) F dL_refuses_797 rfl ?_
  refine gh_goto (pc := 798) (tgt := 805) F dL_refuses_798 (by decide) ?_
  refine gh_thr (pc := 805) (n := 3) (As := [.ref (a 0), vI ((x / 3) % 1), vI ((-1) - x)]) (rest := []) (bytes := cL_breakDown) (maxL := 4) (hh := [(0, 6, 7, 13), (0, 6, 11, 16)]) (E := xIA) (z := (-2000000002)) F FX NC (ctL_breakDown l hfl D cI cJ cZ a r ((x / 3) % 1) ((-1) - x) hr ⟨by omega, by omega⟩ ⟨by omega, by omega⟩) (Or.inr ⟨by omega, Or.inl ⟨by omega, rfl⟩⟩) gz_kN_A gL_refuses_L_breakDown rfl ⟨rfl, rfl⟩ (by decide +kernel) ⟨Nat.le_of_ble_eq_true rfl, Nat.le_of_ble_eq_true rfl⟩ rfl ([]) ([NA cI o f]) rfl rfl (Nat.le_of_ble_eq_true rfl) ⟨Nat.le_of_ble_eq_true rfl, Nat.le_of_ble_eq_true rfl⟩ (RiW_sh _ _) dL_refuses_805 ?_
  refine gh_ldc (pc := 808) (v := (-2000000002)) F knL_refuses_18 dL_refuses_808 ?_
  refine gh_icmp32_ne (pc := 810) F dL_refuses_810 (tgt := 871) (by decide) ?_
  refine gh_aload_n (pc := 813) F dL_refuses_813 rfl 10 rfl ?_
  refine gh_iload (pc := 814) F dL_refuses_814 0 rfl ?_
  refine gh_iload (pc := 816) F dL_refuses_816 3 rfl ?_
  refine gh_thr (pc := 818) (n := 3) (As := [.ref (a 0), vI ((x / 3) % 1), vI ((-1) - x)]) (rest := []) (bytes := cL_has) (maxL := 4) (hh := [(0, 6, 7, 13), (0, 6, 11, 16)]) (E := xIA) (z := (-2000000002)) F FX NC (ctL_has l hfl D cI cJ cZ a r ((x / 3) % 1) ((-1) - x) hr ⟨by omega, by omega⟩ ⟨by omega, by omega⟩) (Or.inr ⟨by omega, Or.inl ⟨by omega, rfl⟩⟩) gz_kN_A gL_refuses_L_has rfl ⟨rfl, rfl⟩ (by decide +kernel) ⟨Nat.le_of_ble_eq_true rfl, Nat.le_of_ble_eq_true rfl⟩ rfl ([]) ([NA cI o f]) rfl rfl (Nat.le_of_ble_eq_true rfl) ⟨Nat.le_of_ble_eq_true rfl, Nat.le_of_ble_eq_true rfl⟩ (RiW_sh _ _) dL_refuses_818 ?_
  refine gh_ldc (pc := 821) (v := (-2000000002)) F knL_refuses_18 dL_refuses_821 ?_
  refine gh_icmp32_ne (pc := 823) F dL_refuses_823 (tgt := 871) (by decide) ?_
  refine gh_aload_n (pc := 826) F dL_refuses_826 rfl 10 rfl ?_
  refine gh_iload (pc := 827) F dL_refuses_827 0 rfl ?_
  refine gh_const (pc := 829) F dL_refuses_829 ?_
  refine gh_const (pc := 830) F dL_refuses_830 ?_
  refine gh_iload_n (pc := 831) F dL_refuses_831 rfl 12 rfl ?_
  refine gh_isub (pc := 832) (z := ((-1) - x)) F dL_refuses_832 rfl ?_
  refine gh_thr (pc := 833) (n := 4) (As := [.ref (a 0), vI ((x / 3) % 1), vI 0, vI ((-1) - x)]) (rest := []) (bytes := cL_diary) (maxL := 5) (hh := [(0, 7, 8, 13), (0, 7, 13, 16)]) (E := xIO) (z := (-2000000001)) F FX NC (ctL_diary l hfl D cI cJ cZ a r ((x / 3) % 1) 0 ((-1) - x) hr ⟨by omega, by omega⟩ ⟨by omega, by omega⟩ ⟨by omega, by omega⟩) (Or.inr ⟨by omega, Or.inl ⟨by omega, rfl⟩⟩) gz_kN_O gL_refuses_L_diary rfl ⟨rfl, rfl⟩ (by decide +kernel) ⟨Nat.le_of_ble_eq_true rfl, Nat.le_of_ble_eq_true rfl⟩ rfl ([]) ([NA cI o f]) rfl rfl (Nat.le_of_ble_eq_true rfl) ⟨Nat.le_of_ble_eq_true rfl, Nat.le_of_ble_eq_true rfl⟩ (RiW_sh _ _) dL_refuses_833 ?_
  refine gh_ldc (pc := 836) (v := (-2000000001)) F knL_refuses_15 dL_refuses_836 ?_
  refine gh_icmp32_ne (pc := 838) F dL_refuses_838 (tgt := 871) (by decide) ?_
  refine gh_aload_n (pc := 841) F dL_refuses_841 rfl 10 rfl ?_
  refine gh_iload (pc := 842) F dL_refuses_842 0 rfl ?_
  refine gh_iload_n (pc := 844) F dL_refuses_844 rfl 9 rfl ?_
  refine gh_if_eq (pc := 845) (tgt := 854) F dL_refuses_845 (by decide) (by omega) (fun cz => absurd cz (by omega)) (fun _ => ?_)
  refine gh_const (pc := 848) F dL_refuses_848 ?_
  refine gh_iload_n (pc := 849) F dL_refuses_849 rfl 12 rfl ?_
  refine gh_isub (pc := 850) (z := ((-1) - x)) F dL_refuses_850 rfl ?_
  refine gh_goto (pc := 851) (tgt := 858) F dL_refuses_851 (by decide) ?_
  refine gh_const (pc := 858) F dL_refuses_858 ?_
  refine gh_thr (pc := 859) (n := 4) (As := [.ref (a 0), vI ((x / 3) % 1), vI ((-1) - x), vI 0]) (rest := []) (bytes := cL_diary) (maxL := 5) (hh := [(0, 7, 8, 13), (0, 7, 13, 16)]) (E := xIA) (z := (-2000000002)) F FX NC (ctL_diary l hfl D cI cJ cZ a r ((x / 3) % 1) ((-1) - x) 0 hr ⟨by omega, by omega⟩ ⟨by omega, by omega⟩ ⟨by omega, by omega⟩) (Or.inr ⟨by omega, Or.inr ⟨by omega, Or.inl ⟨by omega, rfl⟩⟩⟩) gz_kN_A gL_refuses_L_diary rfl ⟨rfl, rfl⟩ (by decide +kernel) ⟨Nat.le_of_ble_eq_true rfl, Nat.le_of_ble_eq_true rfl⟩ rfl ([]) ([NA cI o f]) rfl rfl (Nat.le_of_ble_eq_true rfl) ⟨Nat.le_of_ble_eq_true rfl, Nat.le_of_ble_eq_true rfl⟩ (RiW_sh _ _) dL_refuses_859 ?_
  refine gh_ldc (pc := 862) (v := (-2000000002)) F knL_refuses_18 dL_refuses_862 ?_
  refine gh_icmp32_ne (pc := 864) F dL_refuses_864 (tgt := 871) (by decide) ?_
  refine gh_const (pc := 867) F dL_refuses_867 ?_
  refine gh_goto (pc := 868) (tgt := 872) F dL_refuses_868 (by decide) ?_
  refine gh_istore (pc := 872) (lv2 := [(11, vI 1), (12, vI ((x / 3) % 1)), (10, vI 0), (9, vI ((-1) - x)), (8, vI ((-1) - x)), (7, vI ((-1) - x)), (6, vI ((-1) - x)), (5, vI ((-1) - x)), (4, vI ((-1) - x)), (3, vI 1), (0, .ref (a 0)), (1, .ref o), (2, vI x)]) F dL_refuses_872 (by decide) rfl ?_
  refine gh_aload_n (pc := 874) F dL_refuses_874 rfl 11 rfl ?_
  refine gh_const (pc := 875) F dL_refuses_875 ?_
  refine gh_iald (pc := 876) (v := 0) F 73 (RiW_na _ _ _ _ _ _) ⟨by decide, by decide⟩ (by decide) hf1 dL_refuses_876 ?_
  refine gh_if_le (pc := 877) (tgt := 1113) F dL_refuses_877 (by decide) (by omega) (fun _ => ?_) (fun cz => absurd cz (by omega))
  refine gh_aload_n (pc := 1113) F dL_refuses_1113 rfl 11 rfl ?_
  refine gh_const (pc := 1114) F dL_refuses_1114 ?_
  refine gh_iald (pc := 1115) (v := 0) F 73 (RiW_na _ _ _ _ _ _) ⟨by decide, by decide⟩ (by decide) hf2 dL_refuses_1115 ?_
  refine gh_if_ne (pc := 1116) (tgt := 1123) F dL_refuses_1116 (by decide) (by omega) (fun cz => absurd cz (by omega)) (fun _ => ?_)
  refine gh_const (pc := 1119) F dL_refuses_1119 ?_
  refine gh_goto (pc := 1120) (tgt := 1131) F dL_refuses_1120 (by decide) ?_
  refine gh_istore (pc := 1131) (lv2 := [(12, vI 0), (11, vI 1), (10, vI 0), (9, vI ((-1) - x)), (8, vI ((-1) - x)), (7, vI ((-1) - x)), (6, vI ((-1) - x)), (5, vI ((-1) - x)), (4, vI ((-1) - x)), (3, vI 1), (0, .ref (a 0)), (1, .ref o), (2, vI x)]) F dL_refuses_1131 (by decide) rfl ?_
  refine gh_iload (pc := 1133) F dL_refuses_1133 1 rfl ?_
  refine gh_if_eq (pc := 1135) (tgt := 1219) F dL_refuses_1135 (by decide) (by omega) (fun cz => absurd cz (by omega)) (fun _ => ?_)
  refine gh_aload_n (pc := 1138) F dL_refuses_1138 rfl 11 rfl ?_
  refine gh_const (pc := 1139) F dL_refuses_1139 ?_
  refine gh_iald (pc := 1140) (v := 0) F 73 (RiW_na _ _ _ _ _ _) ⟨by decide, by decide⟩ (by decide) hf2 dL_refuses_1140 ?_
  refine gh_if_eq (pc := 1141) (tgt := 1215) F dL_refuses_1141 (by decide) (by omega) (fun _ => ?_) (fun cz => absurd cz (by omega))
  refine gh_const (pc := 1215) F dL_refuses_1215 ?_
  refine gh_goto (pc := 1216) (tgt := 1220) F dL_refuses_1216 (by decide) ?_
  refine gh_istore (pc := 1220) (lv2 := [(11, vI 1), (12, vI 0), (10, vI 0), (9, vI ((-1) - x)), (8, vI ((-1) - x)), (7, vI ((-1) - x)), (6, vI ((-1) - x)), (5, vI ((-1) - x)), (4, vI ((-1) - x)), (3, vI 1), (0, .ref (a 0)), (1, .ref o), (2, vI x)]) F dL_refuses_1220 (by decide) rfl ?_
  refine gh_iload (pc := 1222) F dL_refuses_1222 0 rfl ?_
  refine gh_if_eq (pc := 1224) (tgt := 1267) F dL_refuses_1224 (by decide) (by omega) (fun cz => absurd cz (by omega)) (fun _ => ?_)
  refine gh_aload_n (pc := 1227) F dL_refuses_1227 rfl 11 rfl ?_
  refine gh_const (pc := 1228) F dL_refuses_1228 ?_
  refine gh_iald (pc := 1229) (v := 0) F 73 (RiW_na _ _ _ _ _ _) ⟨by decide, by decide⟩ (by decide) hf3 dL_refuses_1229 ?_
  refine gh_if_eq (pc := 1230) (tgt := 1263) F dL_refuses_1230 (by decide) (by omega) (fun _ => ?_) (fun cz => absurd cz (by omega))
  refine gh_const (pc := 1263) F dL_refuses_1263 ?_
  refine gh_goto (pc := 1264) (tgt := 1268) F dL_refuses_1264 (by decide) ?_
  refine gh_widen (k := 37) (n := 222) (by decide) (by decide) ?_
  exact Z _ _ 1268 _ _ dL_refuses_1268 rfl ⟨rfl, rfl, rfl⟩
