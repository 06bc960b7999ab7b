/-! ===== the law's walk, from its first draw to the third call of 'refuses'; laid by wip/p23/gen/law23.py ===== -/
/-- a room as roomy as the walk wants it -/
abbrev bigR : Room := { frames := 20, cells := 1000, slots := 20000, locals := 1000 }
theorem RiN_sh {cI cJ : ClassId} {a : Nat → Nat} {x : Nat × va_E} (r r2 : RiS) : (RiW cI cJ a r ++ [x]).map Prod.fst = (RiW cI cJ a r2 ++ [x]).map Prod.fst := by
  rw [List.map_append, List.map_append, RiW_sh r r2]
section GHL
variable {p : Program} {l : Launch} {e : Env} {s : State} {m : MethodId} {args : Array Value} {below : List Frame} {meth : Method} {c : Code} {D : va_G} {A : Nat → Prop} {Q : State → Prop}
variable {cI cJ cZ : ClassId}
theorem knL_law_140 : Cond.constant RL 140 (zI 2000000000) ∈ lw_tbl := lwn_k140
set_option maxHeartbeats 16000000 in
set_option maxRecDepth 100000 in
theorem law_far (hfl : l.stackTraces = false) (F : gF p s m args c cL_law 11 RL lw_tbl D cI cJ cZ A) (FX : gFX l s A) (NC : gz_NC s) {bs L : Nat} {xs : Nat → Int32} (hX : va_X bs L xs s s.heap) (hbl : bs < s.heap.size) (hbA : ¬ A bs) (hL : L < 2147483648) {a b : Nat → Nat} {o : Nat} (hQ : ∀ t : State, s.heap.size + 264 ≤ t.heap.size → Q t) : gH 147 p l e bigR s m args below meth c D A 11 Q 147 8876 (RiW cI cJ a Ri0 ++ (RiW cI cJ b Ri0 ++ [NA cI o (fun _ => 0)])) [(3, .ref o), (2, .ref (b 0)), (1, .ref (a 0)), (0, .ref bs)] [] 20 := by
  refine gh_bipush (pc := 20) F dL_law_20 (by decide) ?_
  refine gh_aload_n (pc := 22) F dL_law_22 rfl 3 rfl ?_
  refine gh_const (pc := 23) F dL_law_23 ?_
  refine gh_callD (pc := 24) (n := 2) (As := [.ref bs, vI 0]) (rest := [vI 40]) (bytes := cL_drawn) (maxL := 2) (ret := some .int) F hX hbl hbA (dr l hfl D cI cJ cZ bs L xs hL 0 ⟨by omega, by omega⟩) gF_drawn rfl ⟨rfl, rfl⟩ (by decide +kernel) ⟨Nat.le_of_ble_eq_true rfl, Nat.le_of_ble_eq_true rfl⟩ rfl rfl (Nat.le_of_ble_eq_true rfl) ⟨Nat.le_of_ble_eq_true rfl, Nat.le_of_ble_eq_true rfl⟩ (fun v W1 g1 h => h.2.1) dL_law_24 (fun v1 g1 hv1 => ?_)
  obtain ⟨⟨d1, rfl, hd1⟩, -, rfl⟩ := hv1
  refine gh_bipush (pc := 27) F dL_law_27 (by decide) ?_
  refine gh_irem (pc := 29) (z := (d1 % 31)) F dL_law_29 (by omega) (by omega) rfl ?_
  refine gh_iadd (pc := 30) (z := (40 + (d1 % 31))) F dL_law_30 rfl ?_
  refine gh_istore (pc := 31) (lv2 := [(4, vI (40 + (d1 % 31))), (3, .ref o), (2, .ref (b 0)), (1, .ref (a 0)), (0, .ref bs)]) F dL_law_31 (by decide) rfl ?_
  refine gh_const (pc := 33) F dL_law_33 ?_
  refine gh_istore (pc := 34) (lv2 := [(5, vI 1), (4, vI (40 + (d1 % 31))), (3, .ref o), (2, .ref (b 0)), (1, .ref (a 0)), (0, .ref bs)]) F dL_law_34 (by decide) rfl ?_
  refine gh_const (pc := 36) F dL_law_36 ?_
  refine gh_istore (pc := 37) (lv2 := [(6, vI 0), (5, vI 1), (4, vI (40 + (d1 % 31))), (3, .ref o), (2, .ref (b 0)), (1, .ref (a 0)), (0, .ref bs)]) F dL_law_37 (by decide) rfl ?_
  refine gh_iload (pc := 39) F dL_law_39 0 rfl ?_
  refine gh_iload (pc := 41) F dL_law_41 2 rfl ?_
  refine gh_icmp_ge (pc := 43) (tgt := 364) F dL_law_43 (by decide) (by omega) (by omega) (fun cz => absurd cz (by omega)) (fun _ => ?_)
  refine gh_iload (pc := 46) F dL_law_46 1 rfl ?_
  refine gh_if_eq (pc := 48) (tgt := 364) F dL_law_48 (by decide) (by omega) (fun cz => absurd cz (by omega)) (fun _ => ?_)
  refine gh_aload_n (pc := 51) F dL_law_51 rfl 6 rfl ?_
  refine gh_const (pc := 52) F dL_law_52 ?_
  refine gh_iload (pc := 53) F dL_law_53 0 rfl ?_
  refine gh_iadd (pc := 55) (z := 1) F dL_law_55 rfl ?_
  refine gh_callD (pc := 56) (n := 2) (As := [.ref bs, vI 1]) (rest := []) (bytes := cL_drawn) (maxL := 2) (ret := some .int) F hX hbl hbA (dr l hfl D cI cJ cZ bs L xs hL 1 ⟨by omega, by omega⟩) gF_drawn rfl ⟨rfl, rfl⟩ (by decide +kernel) ⟨Nat.le_of_ble_eq_true rfl, Nat.le_of_ble_eq_true rfl⟩ rfl rfl (Nat.le_of_ble_eq_true rfl) ⟨Nat.le_of_ble_eq_true rfl, Nat.le_of_ble_eq_true rfl⟩ (fun v W1 g1 h => h.2.1) dL_law_56 (fun v2 g2 hv2 => ?_)
  obtain ⟨⟨d2, rfl, hd2⟩, -, rfl⟩ := hv2
  refine gh_ldc (pc := 59) (v := 2000000000) F knL_law_140 dL_law_59 ?_
  refine gh_irem (pc := 61) (z := (d2 % 2000000000)) F dL_law_61 (by omega) (by omega) rfl ?_
  refine gh_istore (pc := 62) (lv2 := [(7, vI (d2 % 2000000000)), (6, vI 0), (5, vI 1), (4, vI (40 + (d1 % 31))), (3, .ref o), (2, .ref (b 0)), (1, .ref (a 0)), (0, .ref bs)]) F dL_law_62 (by decide) rfl ?_
  refine gh_iload (pc := 64) F dL_law_64 1 rfl ?_
  refine gh_const (pc := 66) F dL_law_66 ?_
  refine gh_icmp_ge (pc := 67) (tgt := 81) F dL_law_67 (by decide) (by omega) (by omega) (fun cz => absurd cz (by omega)) (fun _ => ?_)
  refine gh_bipush (pc := 70) F dL_law_70 (by decide) ?_
  refine gh_iload (pc := 72) F dL_law_72 0 rfl ?_
  refine gh_bipush (pc := 74) F dL_law_74 (by decide) ?_
  refine gh_idiv (pc := 76) (z := ((d2 % 2000000000) / 20)) F dL_law_76 (by omega) (by omega) rfl ?_
  refine gh_imul (pc := 77) (z := (20 * ((d2 % 2000000000) / 20))) F dL_law_77 rfl ?_
  refine gh_goto (pc := 78) (tgt := 123) F dL_law_78 (by decide) ?_
  obtain ⟨x0, hxe0⟩ : ∃ z : Int, z = (20 * ((d2 % 2000000000) / 20)) := ⟨_, rfl⟩
  have hxr0 : 0 ≤ x0 ∧ x0 < 2000000000 := by omega
  have hxm0 : x0 % 20 = 0 := by omega
  refine gh_eqst (st2 := [vI x0]) (by rw [hxe0]; rfl) ?_
  clear hxe0
  refine gh_istore (pc := 123) (lv2 := [(7, vI x0), (6, vI 0), (5, vI 1), (4, vI (40 + (d1 % 31))), (3, .ref o), (2, .ref (b 0)), (1, .ref (a 0)), (0, .ref bs)]) F dL_law_123 (by decide) rfl ?_
  refine gh_aload_n (pc := 125) F dL_law_125 rfl 6 rfl ?_
  refine gh_aload_n (pc := 126) F dL_law_126 rfl 4 rfl ?_
  refine gh_iload (pc := 127) F dL_law_127 0 rfl ?_
  refine gh_rot ?_
  refine gh_callSG (pc := 129) (n := 3) (As := [.ref (a 0), .ref o, vI x0]) (rest := []) (bytes := cL_act) (maxL := 6) (ret := some .int) F FX NC (ac_0 l hfl D cI cJ cZ a Ri0 o (fun _ => 0) x0 Ri0_I rfl rfl rfl rfl rfl rfl rfl rfl rfl ⟨by omega, by omega⟩ (by omega)) gF_act rfl ⟨rfl, rfl⟩ (by decide +kernel) ⟨Nat.le_of_ble_eq_true rfl, Nat.le_of_ble_eq_true rfl⟩ rfl (RiW cI cJ b Ri0) [] (by rw [List.append_nil]) rfl (Nat.le_of_ble_eq_true rfl) ⟨Nat.le_of_ble_eq_true rfl, Nat.le_of_ble_eq_true rfl⟩ (fun v W1 g1 h => by rw [h.2.1]; exact RiN_sh _ _) dL_law_129 (fun v3 W3 g3 hv3 => ?_)
  obtain ⟨rfl, rfl, rfl⟩ := hv3
  refine gh_eqw (ws2 := RiW cI cJ b Ri0 ++ (RiW cI cJ a (Ri_tell Ri0 0 (1 + ((x0 / 20) % 15)) (((x0 / 20) / 15) % 6) 0 0) ++ [NA cI o (fun _ => 0)])) (by rw [List.append_nil]) ?_
  refine gh_rot ?_
  obtain ⟨r1, hr1⟩ : ∃ z : RiS, z = (Ri_tell Ri0 0 (1 + ((x0 / 20) % 15)) (((x0 / 20) / 15) % 6) 0 0) := ⟨_, rfl⟩
  rw [← hr1]
  have hI1 : RiI r1 := by rw [hr1]; exact Ri_tell_I Ri0_I (by omega) ⟨by omega, by omega⟩ ⟨by omega, by omega⟩ (by decide) (by decide)
  have hnow1 : Pl_now (Ri_P r1) = 0 := by rw [hr1]; rfl
  have hmc1 : Mc_n (Pl_mc (Ri_P r1)) = 1 := by rw [hr1]; rfl
  have hmt1 : Mt_n (Pl_mt (Ri_P r1)) = 0 := by rw [hr1]; rfl
  have hbu1 : Bu_n (Pl_bu (Ri_P r1)) = 0 := by rw [hr1]; rfl
  have hsw1 : Sw_n (Ri_S r1) = 0 := by rw [hr1]; rfl
  refine gh_istore (pc := 132) (lv2 := [(8, vI 0), (7, vI x0), (6, vI 0), (5, vI 1), (4, vI (40 + (d1 % 31))), (3, .ref o), (2, .ref (b 0)), (1, .ref (a 0)), (0, .ref bs)]) F dL_law_132 (by decide) rfl ?_
  refine gh_aload_n (pc := 134) F dL_law_134 rfl 6 rfl ?_
  refine gh_aload_n (pc := 135) F dL_law_135 rfl 5 rfl ?_
  refine gh_iload (pc := 136) F dL_law_136 1 rfl ?_
  refine gh_sipush (pc := 138) F dL_law_138 (by decide) ?_
  refine gh_irem (pc := 141) (z := (x0 % 9973)) F dL_law_141 (by omega) (by omega) rfl ?_
  refine gh_callSG (pc := 142) (n := 3) (As := [.ref (b 0), .ref o, vI (x0 % 9973)]) (rest := []) (bytes := cL_refuses) (maxL := 14) (ret := some .boolean) F FX NC (rf_0 l hfl D cI cJ cZ b Ri0 o (fun _ => 0) (x0 % 9973) Ri0_I rfl rfl rfl rfl rfl rfl rfl rfl rfl ⟨by omega, by omega⟩) gF_refuses rfl ⟨rfl, rfl⟩ (by decide +kernel) ⟨Nat.le_of_ble_eq_true rfl, Nat.le_of_ble_eq_true rfl⟩ rfl (RiW cI cJ a r1) [] (by rw [List.append_nil]) rfl (Nat.le_of_ble_eq_true rfl) ⟨Nat.le_of_ble_eq_true rfl, Nat.le_of_ble_eq_true rfl⟩ (fun v W1 g1 h => by rw [h.2.1]) dL_law_142 (fun v4 W4 g4 hv4 => ?_)
  obtain ⟨rfl, rfl, rfl⟩ := hv4
  refine gh_eqw (ws2 := RiW cI cJ a r1 ++ (RiW cI cJ b Ri0 ++ [NA cI o (fun _ => 0)])) (by rw [List.append_nil]) ?_
  refine gh_if_eq (pc := 145) (tgt := 164) F dL_law_145 (by decide) (by omega) (fun cz => absurd cz (by omega)) (fun _ => ?_)
  refine gh_aload_n (pc := 148) F dL_law_148 rfl 6 rfl ?_
  refine gh_aload_n (pc := 149) F dL_law_149 rfl 5 rfl ?_
  refine gh_iload (pc := 150) F dL_law_150 1 rfl ?_
  refine gh_callSG (pc := 152) (n := 3) (As := [.ref (b 0), .ref o, vI x0]) (rest := []) (bytes := cL_act) (maxL := 6) (ret := some .int) F FX NC (ac_0 l hfl D cI cJ cZ b Ri0 o (fun _ => 0) x0 Ri0_I rfl rfl rfl rfl rfl rfl rfl rfl rfl ⟨by omega, by omega⟩ (by omega)) gF_act rfl ⟨rfl, rfl⟩ (by decide +kernel) ⟨Nat.le_of_ble_eq_true rfl, Nat.le_of_ble_eq_true rfl⟩ rfl (RiW cI cJ a r1) [] (by rw [List.append_nil]) rfl (Nat.le_of_ble_eq_true rfl) ⟨Nat.le_of_ble_eq_true rfl, Nat.le_of_ble_eq_true rfl⟩ (fun v W1 g1 h => by rw [h.2.1]; exact RiN_sh _ _) dL_law_152 (fun v5 W5 g5 hv5 => ?_)
  obtain ⟨rfl, rfl, rfl⟩ := hv5
  refine gh_eqw (ws2 := RiW cI cJ a r1 ++ (RiW cI cJ b (Ri_tell Ri0 0 (1 + ((x0 / 20) % 15)) (((x0 / 20) / 15) % 6) 0 0) ++ [NA cI o (fun _ => 0)])) (by rw [List.append_nil]) ?_
  rw [← hr1]
  refine gh_iload (pc := 155) F dL_law_155 0 rfl ?_
  refine gh_icmp32_ne (pc := 157) F dL_law_157 (tgt := 164) (by decide) ?_
  refine gh_const (pc := 160) F dL_law_160 ?_
  refine gh_goto (pc := 161) (tgt := 165) F dL_law_161 (by decide) ?_
  refine gh_istore (pc := 165) (lv2 := [(5, vI 1), (8, vI 0), (7, vI x0), (6, vI 0), (4, vI (40 + (d1 % 31))), (3, .ref o), (2, .ref (b 0)), (1, .ref (a 0)), (0, .ref bs)]) F dL_law_165 (by decide) rfl ?_
  refine gh_iload (pc := 167) F dL_law_167 2 rfl ?_
  refine gh_bipush (pc := 169) F dL_law_169 (by decide) ?_
  refine gh_irem (pc := 171) (z := (x0 % 20)) F dL_law_171 (by omega) (by omega) rfl ?_
  refine gh_istore (pc := 172) (lv2 := [(9, vI (x0 % 20)), (5, vI 1), (8, vI 0), (7, vI x0), (6, vI 0), (4, vI (40 + (d1 % 31))), (3, .ref o), (2, .ref (b 0)), (1, .ref (a 0)), (0, .ref bs)]) F dL_law_172 (by decide) rfl ?_
  refine gh_iload (pc := 174) F dL_law_174 2 rfl ?_
  refine gh_if_lt (pc := 176) (tgt := 183) F dL_law_176 (by decide) (by omega) (fun cz => absurd cz (by omega)) (fun _ => ?_)
  refine gh_const (pc := 179) F dL_law_179 ?_
  refine gh_goto (pc := 180) (tgt := 184) F dL_law_180 (by decide) ?_
  refine gh_istore (pc := 184) (lv2 := [(10, vI 1), (9, vI (x0 % 20)), (5, vI 1), (8, vI 0), (7, vI x0), (6, vI 0), (4, vI (40 + (d1 % 31))), (3, .ref o), (2, .ref (b 0)), (1, .ref (a 0)), (0, .ref bs)]) F dL_law_184 (by decide) rfl ?_
  refine gh_aload_n (pc := 186) F dL_law_186 rfl 7 rfl ?_
  refine gh_const (pc := 187) F dL_law_187 ?_
  refine gh_dup2 (pc := 188) F dL_law_188 rfl rfl ?_
  refine gh_iald (pc := 189) (v := 0) F 146 (LwW_na _ _ _ _ _ _ _ _) ⟨by decide, by decide⟩ (by decide) rfl dL_law_189 ?_
  refine gh_iload (pc := 190) F dL_law_190 1 rfl ?_
  refine gh_if_ne (pc := 192) (tgt := 204) F dL_law_192 (by decide) (by omega) (fun cz => absurd cz (by omega)) (fun _ => ?_)
  refine gh_iload (pc := 195) F dL_law_195 0 rfl ?_
  refine gh_if_eq (pc := 197) (tgt := 204) F dL_law_197 (by decide) (by omega) (fun cz => absurd cz (by omega)) (fun _ => ?_)
  refine gh_const (pc := 200) F dL_law_200 ?_
  refine gh_goto (pc := 201) (tgt := 205) F dL_law_201 (by decide) ?_
  refine gh_iadd (pc := 205) (z := 1) F dL_law_205 rfl ?_
  refine gh_iast (pc := 206) (ws2 := RiW cI cJ a r1 ++ (RiW cI cJ b r1 ++ [NA cI o (zU (fun _ => 0) 0 1)])) F 146 (LwW_na _ _ _ _ _ _ _ _) ⟨by decide, by decide⟩ (by decide) (LwW_naset _ _ _ _ _ _ _ _ _) dL_law_206 ?_
  refine gh_aload_n (pc := 207) F dL_law_207 rfl 7 rfl ?_
  refine gh_const (pc := 208) F dL_law_208 ?_
  refine gh_dup2 (pc := 209) F dL_law_209 rfl rfl ?_
  refine gh_iald (pc := 210) (v := 0) F 146 (LwW_na _ _ _ _ _ _ _ _) ⟨by decide, by decide⟩ (by decide) (by first | rfl | simp [zU]) dL_law_210 ?_
  refine gh_iload (pc := 211) F dL_law_211 1 rfl ?_
  refine gh_const (pc := 213) F dL_law_213 ?_
  refine gh_icmp_lt (pc := 214) (tgt := 232) F dL_law_214 (by decide) (by omega) (by omega) (fun _ => ?_) (fun cz => absurd cz (by omega))
  refine gh_const (pc := 232) F dL_law_232 ?_
  refine gh_iadd (pc := 233) (z := 0) F dL_law_233 rfl ?_
  refine gh_iast (pc := 234) (ws2 := RiW cI cJ a r1 ++ (RiW cI cJ b r1 ++ [NA cI o (zU (zU (fun _ => 0) 0 1) 1 0)])) F 146 (LwW_na _ _ _ _ _ _ _ _) ⟨by decide, by decide⟩ (by decide) (LwW_naset _ _ _ _ _ _ _ _ _) dL_law_234 ?_
  refine gh_aload_n (pc := 235) F dL_law_235 rfl 7 rfl ?_
  refine gh_const (pc := 236) F dL_law_236 ?_
  refine gh_dup2 (pc := 237) F dL_law_237 rfl rfl ?_
  refine gh_iald (pc := 238) (v := 0) F 146 (LwW_na _ _ _ _ _ _ _ _) ⟨by decide, by decide⟩ (by decide) (by first | rfl | simp [zU]) dL_law_238 ?_
  refine gh_iload (pc := 239) F dL_law_239 1 rfl ?_
  refine gh_bipush (pc := 241) F dL_law_241 (by decide) ?_
  refine gh_icmp_lt (pc := 243) (tgt := 262) F dL_law_243 (by decide) (by omega) (by omega) (fun _ => ?_) (fun cz => absurd cz (by omega))
  refine gh_const (pc := 262) F dL_law_262 ?_
  refine gh_iadd (pc := 263) (z := 0) F dL_law_263 rfl ?_
  refine gh_iast (pc := 264) (ws2 := RiW cI cJ a r1 ++ (RiW cI cJ b r1 ++ [NA cI o (zU (zU (zU (fun _ => 0) 0 1) 1 0) 2 0)])) F 146 (LwW_na _ _ _ _ _ _ _ _) ⟨by decide, by decide⟩ (by decide) (LwW_naset _ _ _ _ _ _ _ _ _) dL_law_264 ?_
  refine gh_aload_n (pc := 265) F dL_law_265 rfl 7 rfl ?_
  refine gh_const (pc := 266) F dL_law_266 ?_
  refine gh_dup2 (pc := 267) F dL_law_267 rfl rfl ?_
  refine gh_iald (pc := 268) (v := 0) F 146 (LwW_na _ _ _ _ _ _ _ _) ⟨by decide, by decide⟩ (by decide) (by first | rfl | simp [zU]) dL_law_268 ?_
  refine gh_iload (pc := 269) F dL_law_269 1 rfl ?_
  refine gh_bipush (pc := 271) F dL_law_271 (by decide) ?_
  refine gh_icmp_ne (pc := 273) (tgt := 285) F dL_law_273 (by decide) (by omega) (by omega) (fun _ => ?_) (fun cz => absurd cz (by omega))
  refine gh_const (pc := 285) F dL_law_285 ?_
  refine gh_iadd (pc := 286) (z := 0) F dL_law_286 rfl ?_
  refine gh_iast (pc := 287) (ws2 := RiW cI cJ a r1 ++ (RiW cI cJ b r1 ++ [NA cI o (zU (zU (zU (zU (fun _ => 0) 0 1) 1 0) 2 0) 3 0)])) F 146 (LwW_na _ _ _ _ _ _ _ _) ⟨by decide, by decide⟩ (by decide) (LwW_naset _ _ _ _ _ _ _ _ _) dL_law_287 ?_
  obtain ⟨f1, hf1e⟩ : ∃ z : Int → Int, z = (zU (zU (zU (zU (fun _ => 0) 0 1) 1 0) 2 0) 3 0) := ⟨_, rfl⟩
  rw [← hf1e]
  have hn0 : f1 0 = 1 := by rw [hf1e]; first | rfl | simp [zU]
  have hn1 : f1 1 = 0 := by rw [hf1e]; first | rfl | simp [zU]
  have hn2 : f1 2 = 0 := by rw [hf1e]; first | rfl | simp [zU]
  have hn3 : f1 3 = 0 := by rw [hf1e]; first | rfl | simp [zU]
  refine gh_iload (pc := 288) F dL_law_288 2 rfl ?_
  refine gh_if_eq (pc := 290) (tgt := 355) F dL_law_290 (by decide) (by omega) (fun cz => absurd cz (by omega)) (fun _ => ?_)
  refine gh_aload_n (pc := 293) F dL_law_293 rfl 8 rfl ?_
  refine gh_aload_n (pc := 294) F dL_law_294 rfl 7 rfl ?_
  refine gh_iload (pc := 295) F dL_law_295 4 rfl ?_
  refine gh_sipush (pc := 297) F dL_law_297 (by decide) ?_
  refine gh_irem (pc := 300) (z := (x0 % 499)) F dL_law_300 (by omega) (by omega) rfl ?_
  refine gh_callSG (pc := 301) (n := 3) (As := [.ref (b 0), .ref o, vI (x0 % 499)]) (rest := []) (bytes := cL_refuses) (maxL := 14) (ret := some .boolean) F FX NC (rf_1 l hfl D cI cJ cZ b r1 o f1 (x0 % 499) hI1 hnow1 hmc1 hmt1 hbu1 hsw1 hn0 hn1 hn2 hn3 ⟨by omega, by omega⟩) gF_refuses rfl ⟨rfl, rfl⟩ (by decide +kernel) ⟨Nat.le_of_ble_eq_true rfl, Nat.le_of_ble_eq_true rfl⟩ rfl (RiW cI cJ a r1) [] (by rw [List.append_nil]) rfl (Nat.le_of_ble_eq_true rfl) ⟨Nat.le_of_ble_eq_true rfl, Nat.le_of_ble_eq_true rfl⟩ (fun v W1 g1 h => by rw [h.2.1]) dL_law_301 (fun v6 W6 g6 hv6 => ?_)
  obtain ⟨rfl, rfl, rfl⟩ := hv6
  refine gh_eqw (ws2 := RiW cI cJ a r1 ++ (RiW cI cJ b r1 ++ [NA cI o f1])) (by rw [List.append_nil]) ?_
  refine gh_if_eq (pc := 304) (tgt := 355) F dL_law_304 (by decide) (by omega) (fun cz => absurd cz (by omega)) (fun _ => ?_)
  refine gh_aload_n (pc := 307) F dL_law_307 rfl 9 rfl ?_
  refine gh_aload_n (pc := 308) F dL_law_308 rfl 8 rfl ?_
  refine gh_aload_n (pc := 309) F dL_law_309 rfl 7 rfl ?_
  refine gh_iload (pc := 310) F dL_law_310 5 rfl ?_
  refine gh_const (pc := 312) F dL_law_312 ?_
  refine gh_irem (pc := 313) (z := 0) F dL_law_313 (by omega) (by omega) rfl ?_
  refine gh_if_ne (pc := 314) (tgt := 326) F dL_law_314 (by decide) (by omega) (fun cz => absurd cz (by omega)) (fun _ => ?_)
  refine gh_const (pc := 317) F dL_law_317 ?_
  refine gh_aload_n (pc := 318) F dL_law_318 rfl 9 rfl ?_
  refine gh_callI (pc := 319) (n := 0) (As := []) (rest := [vI 3, .ref o, .ref (b 0), .ref (a 0)]) (bytes := cX8_slot) (maxL := 1) (ret := some .int) F (ct_X8_slot l D cI cJ cZ a r1 hI1) gF_slot rfl ⟨rfl, rfl⟩ (by decide +kernel) ⟨Nat.le_of_ble_eq_true rfl, Nat.le_of_ble_eq_true rfl⟩ rfl ([]) (RiW cI cJ b r1 ++ [NA cI o f1]) rfl 8 rfl rfl rfl (Nat.le_of_ble_eq_true rfl) ⟨Nat.le_of_ble_eq_true rfl, Nat.le_of_ble_eq_true rfl⟩ dL_law_319 (fun q319 hq319 => ?_)
  have hz319 : q319 = 0 := (show q319 = Pl_now (Ri_P r1) from hq319).trans hnow1
  subst hz319
  refine gh_imul (pc := 322) (z := 0) F dL_law_322 rfl ?_
  refine gh_goto (pc := 323) (tgt := 330) F dL_law_323 (by decide) ?_
  refine gh_callSG (pc := 330) (n := 4) (As := [.ref (a 0), .ref (b 0), .ref o, vI 0]) (rest := []) (bytes := cL_isAlike) (maxL := 10) (ret := some .boolean) F FX NC (al_1 l hfl D cI cJ cZ a b r1 o f1 hI1 hnow1 hmc1 hmt1 hbu1 hsw1 hn0 hn1 hn2 hn3) gF_isAlike rfl ⟨rfl, rfl⟩ (by decide +kernel) ⟨Nat.le_of_ble_eq_true rfl, Nat.le_of_ble_eq_true rfl⟩ rfl [] [] (by rw [List.append_nil, List.nil_append]) rfl (Nat.le_of_ble_eq_true rfl) ⟨Nat.le_of_ble_eq_true rfl, Nat.le_of_ble_eq_true rfl⟩ (fun v W1 g1 h => by rw [h.2.1]) dL_law_330 (fun v7 W7 g7 hv7 => ?_)
  obtain ⟨rfl, rfl, rfl⟩ := hv7
  refine gh_eqw (ws2 := RiW cI cJ a r1 ++ (RiW cI cJ b r1 ++ [NA cI o f1])) (by rw [List.append_nil, List.nil_append]) ?_
  refine gh_if_eq (pc := 333) (tgt := 355) F dL_law_333 (by decide) (by omega) (fun cz => absurd cz (by omega)) (fun _ => ?_)
  refine gh_iload (pc := 336) F dL_law_336 5 rfl ?_
  refine gh_const (pc := 338) F dL_law_338 ?_
  refine gh_irem (pc := 339) (z := 0) F dL_law_339 (by omega) (by omega) rfl ?_
  refine gh_if_gt (pc := 340) (tgt := 351) F dL_law_340 (by decide) (by omega) (fun cz => absurd cz (by omega)) (fun _ => ?_)
  refine gh_aload_n (pc := 343) F dL_law_343 rfl 8 rfl ?_
  refine gh_aload_n (pc := 344) F dL_law_344 rfl 7 rfl ?_
  refine gh_callSG (pc := 345) (n := 2) (As := [.ref (b 0), .ref o]) (rest := []) (bytes := cL_isWhole) (maxL := 9) (ret := some .boolean) F FX NC (wh_1 l hfl D cI cJ cZ b r1 o f1 hI1 hnow1 hmc1 hmt1 hbu1 hsw1 hn0 hn1 hn2 hn3) gF_isWhole rfl ⟨rfl, rfl⟩ (by decide +kernel) ⟨Nat.le_of_ble_eq_true rfl, Nat.le_of_ble_eq_true rfl⟩ rfl (RiW cI cJ a r1) [] (by rw [List.append_nil]) rfl (Nat.le_of_ble_eq_true rfl) ⟨Nat.le_of_ble_eq_true rfl, Nat.le_of_ble_eq_true rfl⟩ (fun v W1 g1 h => by rw [h.2.1]) dL_law_345 (fun v8 W8 g8 hv8 => ?_)
  obtain ⟨rfl, rfl, rfl⟩ := hv8
  refine gh_eqw (ws2 := RiW cI cJ a r1 ++ (RiW cI cJ b r1 ++ [NA cI o f1])) (by rw [List.append_nil]) ?_
  refine gh_if_eq (pc := 348) (tgt := 355) F dL_law_348 (by decide) (by omega) (fun cz => absurd cz (by omega)) (fun _ => ?_)
  refine gh_const (pc := 351) F dL_law_351 ?_
  refine gh_goto (pc := 352) (tgt := 356) F dL_law_352 (by decide) ?_
  refine gh_istore (pc := 356) (lv2 := [(5, vI 1), (10, vI 1), (9, vI (x0 % 20)), (8, vI 0), (7, vI x0), (6, vI 0), (4, vI (40 + (d1 % 31))), (3, .ref o), (2, .ref (b 0)), (1, .ref (a 0)), (0, .ref bs)]) F dL_law_356 (by decide) rfl ?_
  refine gh_iinc (pc := 358) (lv2 := [(6, vI 1), (5, vI 1), (10, vI 1), (9, vI (x0 % 20)), (8, vI 0), (7, vI x0), (4, vI (40 + (d1 % 31))), (3, .ref o), (2, .ref (b 0)), (1, .ref (a 0)), (0, .ref bs)]) F dL_law_358 5 rfl (by decide) rfl ?_
  refine gh_goto (pc := 361) (tgt := 39) F dL_law_361 (by decide) ?_
  refine gh_iload (pc := 39) F dL_law_39 0 rfl ?_
  refine gh_iload (pc := 41) F dL_law_41 6 rfl ?_
  refine gh_icmp_ge (pc := 43) (tgt := 364) F dL_law_43 (by decide) (by omega) (by omega) (fun cz => absurd cz (by omega)) (fun _ => ?_)
  refine gh_iload (pc := 46) F dL_law_46 1 rfl ?_
  refine gh_if_eq (pc := 48) (tgt := 364) F dL_law_48 (by decide) (by omega) (fun cz => absurd cz (by omega)) (fun _ => ?_)
  refine gh_aload_n (pc := 51) F dL_law_51 rfl 10 rfl ?_
  refine gh_const (pc := 52) F dL_law_52 ?_
  refine gh_iload (pc := 53) F dL_law_53 0 rfl ?_
  refine gh_iadd (pc := 55) (z := 2) F dL_law_55 rfl ?_
  refine gh_callD (pc := 56) (n := 2) (As := [.ref bs, vI 2]) (rest := []) (bytes := cL_drawn) (maxL := 2) (ret := some .int) F hX hbl hbA (dr l hfl D cI cJ cZ bs L xs hL 2 ⟨by omega, by omega⟩) gF_drawn rfl ⟨rfl, rfl⟩ (by decide +kernel) ⟨Nat.le_of_ble_eq_true rfl, Nat.le_of_ble_eq_true rfl⟩ rfl rfl (Nat.le_of_ble_eq_true rfl) ⟨Nat.le_of_ble_eq_true rfl, Nat.le_of_ble_eq_true rfl⟩ (fun v W1 g1 h => h.2.1) dL_law_56 (fun v9 g9 hv9 => ?_)
  obtain ⟨⟨d9, rfl, hd9⟩, -, rfl⟩ := hv9
  refine gh_ldc (pc := 59) (v := 2000000000) F knL_law_140 dL_law_59 ?_
  refine gh_irem (pc := 61) (z := (d9 % 2000000000)) F dL_law_61 (by omega) (by omega) rfl ?_
  refine gh_istore (pc := 62) (lv2 := [(7, vI (d9 % 2000000000)), (6, vI 1), (5, vI 1), (10, vI 1), (9, vI (x0 % 20)), (8, vI 0), (4, vI (40 + (d1 % 31))), (3, .ref o), (2, .ref (b 0)), (1, .ref (a 0)), (0, .ref bs)]) F dL_law_62 (by decide) rfl ?_
  refine gh_iload (pc := 64) F dL_law_64 1 rfl ?_
  refine gh_const (pc := 66) F dL_law_66 ?_
  refine gh_icmp_ge (pc := 67) (tgt := 81) F dL_law_67 (by decide) (by omega) (by omega) (fun cz => absurd cz (by omega)) (fun _ => ?_)
  refine gh_bipush (pc := 70) F dL_law_70 (by decide) ?_
  refine gh_iload (pc := 72) F dL_law_72 0 rfl ?_
  refine gh_bipush (pc := 74) F dL_law_74 (by decide) ?_
  refine gh_idiv (pc := 76) (z := ((d9 % 2000000000) / 20)) F dL_law_76 (by omega) (by omega) rfl ?_
  refine gh_imul (pc := 77) (z := (20 * ((d9 % 2000000000) / 20))) F dL_law_77 rfl ?_
  refine gh_goto (pc := 78) (tgt := 123) F dL_law_78 (by decide) ?_
  obtain ⟨x1, hxe1⟩ : ∃ z : Int, z = (20 * ((d9 % 2000000000) / 20)) := ⟨_, rfl⟩
  have hxr1 : 0 ≤ x1 ∧ x1 < 2000000000 := by omega
  have hxm1 : x1 % 20 = 0 := by omega
  refine gh_eqst (st2 := [vI x1]) (by rw [hxe1]; rfl) ?_
  clear hxe1
  refine gh_istore (pc := 123) (lv2 := [(7, vI x1), (6, vI 1), (5, vI 1), (10, vI 1), (9, vI (x0 % 20)), (8, vI 0), (4, vI (40 + (d1 % 31))), (3, .ref o), (2, .ref (b 0)), (1, .ref (a 0)), (0, .ref bs)]) F dL_law_123 (by decide) rfl ?_
  refine gh_aload_n (pc := 125) F dL_law_125 rfl 9 rfl ?_
  refine gh_aload_n (pc := 126) F dL_law_126 rfl 7 rfl ?_
  refine gh_iload (pc := 127) F dL_law_127 0 rfl ?_
  refine gh_rot ?_
  refine gh_callSG (pc := 129) (n := 3) (As := [.ref (a 0), .ref o, vI x1]) (rest := []) (bytes := cL_act) (maxL := 6) (ret := some .int) F FX NC (ac_1 l hfl D cI cJ cZ a r1 o f1 x1 hI1 hnow1 hmc1 hmt1 hbu1 hsw1 hn0 hn1 hn2 hn3 ⟨by omega, by omega⟩ (by omega)) gF_act rfl ⟨rfl, rfl⟩ (by decide +kernel) ⟨Nat.le_of_ble_eq_true rfl, Nat.le_of_ble_eq_true rfl⟩ rfl (RiW cI cJ b r1) [] (by rw [List.append_nil]) rfl (Nat.le_of_ble_eq_true rfl) ⟨Nat.le_of_ble_eq_true rfl, Nat.le_of_ble_eq_true rfl⟩ (fun v W1 g1 h => by rw [h.2.1]; exact RiN_sh _ _) dL_law_129 (fun v10 W10 g10 hv10 => ?_)
  obtain ⟨rfl, rfl, rfl⟩ := hv10
  refine gh_eqw (ws2 := RiW cI cJ b r1 ++ (RiW cI cJ a (Ri_tell r1 0 (1 + ((x1 / 20) % 15)) (((x1 / 20) / 15) % 6) 0 0) ++ [NA cI o f1])) (by rw [List.append_nil]) ?_
  refine gh_rot ?_
  refine gh_istore (pc := 132) (lv2 := [(8, vI 1), (7, vI x1), (6, vI 1), (5, vI 1), (10, vI 1), (9, vI (x0 % 20)), (4, vI (40 + (d1 % 31))), (3, .ref o), (2, .ref (b 0)), (1, .ref (a 0)), (0, .ref bs)]) F dL_law_132 (by decide) rfl ?_
  refine gh_aload_n (pc := 134) F dL_law_134 rfl 8 rfl ?_
  refine gh_aload_n (pc := 135) F dL_law_135 rfl 7 rfl ?_
  refine gh_iload (pc := 136) F dL_law_136 1 rfl ?_
  refine gh_sipush (pc := 138) F dL_law_138 (by decide) ?_
  refine gh_irem (pc := 141) (z := (x1 % 9973)) F dL_law_141 (by omega) (by omega) rfl ?_
  refine gh_callSG (pc := 142) (n := 3) (As := [.ref (b 0), .ref o, vI (x1 % 9973)]) (rest := []) (bytes := cL_refuses) (maxL := 14) (ret := some .boolean) F FX NC (rf_1 l hfl D cI cJ cZ b r1 o f1 (x1 % 9973) hI1 hnow1 hmc1 hmt1 hbu1 hsw1 hn0 hn1 hn2 hn3 ⟨by omega, by omega⟩) gF_refuses rfl ⟨rfl, rfl⟩ (by decide +kernel) ⟨Nat.le_of_ble_eq_true rfl, Nat.le_of_ble_eq_true rfl⟩ rfl (RiW cI cJ a (Ri_tell r1 0 (1 + ((x1 / 20) % 15)) (((x1 / 20) / 15) % 6) 0 0)) [] (by rw [List.append_nil]) rfl (Nat.le_of_ble_eq_true rfl) ⟨Nat.le_of_ble_eq_true rfl, Nat.le_of_ble_eq_true rfl⟩ (fun v W1 g1 h => by rw [h.2.1]) dL_law_142 (fun v11 W11 g11 hv11 => ?_)
  obtain ⟨rfl, rfl, rfl⟩ := hv11
  refine gh_eqw (ws2 := RiW cI cJ a (Ri_tell r1 0 (1 + ((x1 / 20) % 15)) (((x1 / 20) / 15) % 6) 0 0) ++ (RiW cI cJ b r1 ++ [NA cI o f1])) (by rw [List.append_nil]) ?_
  exact gh_stop (N := 264) (by decide) hQ
end GHL
