/-! ===== the law's cases, laid by wip/whole/gen/law.py ===== -/
section GZKa
variable {p : Program} {l : Launch} {e : Env} {s : State} {m : MethodId} {args : Array Value} {below : List Frame} {meth : Method} {c : Code} {D : va_G} {A : Nat → Prop} {Q : State → Prop} {cells slots : Nat}
variable {cI cJ cZ : ClassId}
set_option maxHeartbeats 4000000 in
set_option maxRecDepth 100000 in
theorem law_k0 (hfl : l.stackTraces = false) (F : gF p s m args c cL_law 7 RL wsL_law D cI cJ cZ A) (FX : gFX l s A) (NC : gz_NC s) {bs L : Nat} {xs : Nat → Int32} (hX : va_X bs L xs s s.heap) (hbl : bs < s.heap.size) (hbA : ¬ A bs) (hL : L < 2147483648) {a b : Nat → Nat} {o : Nat} {r : RiS} {u : MdS} {f : Nat → Int64} {j : Nat} {i : Int} (h : RR j r u) (hj : j < 512) (hi : 0 ≤ i ∧ i + 5 ≤ (L : Int)) (hcs : cells + 1 ≤ 1139 ∧ slots + 6 ≤ 13920) (kk : ∀ (r2 : RiS) (u2 : MdS) (f2 : Nat → Int64), RR (j + 1) r2 u2 → gG p l e room_1 s m args below meth c D A 7 Q (cells + 1) (slots + 6) (LwW cI cJ cZ a b o r2 u2 f2) (lvS bs (a 0) (b 0) o i) [] 1427) : gG p l e room_1 s m args below meth c D A 7 Q cells slots (LwW cI cJ cZ a b o r u f) (lvS bs (a 0) (b 0) o i) [] 132 := by
  refine gz_aload_n (pc := 132) F dL_law_132 rfl 1 rfl ?_
  refine gz_arg (pc := 133) (k := 1) F hX hbl hbA ⟨by omega, by omega⟩ hL 0 4 rfl rfl dL_law_133 dL_law_134 dL_law_136 dL_law_137 dL_law_138 ?_
  refine gz_arg (pc := 139) (k := 2) F hX hbl hbA ⟨by omega, by omega⟩ hL 0 4 rfl rfl dL_law_139 dL_law_140 dL_law_142 dL_law_143 dL_law_144 ?_
  refine gz_aload_n (pc := 145) F dL_law_145 rfl 3 rfl ?_
  refine gz_callSY (pc := 146) (n := 4) (As := [.ref (a 0), vI (sv xs (i + 1)), vI (sv xs (i + 2)), .ref o]) (rest := []) (bytes := cL_machine) (maxL := 5) (ret := some .int) (hh := [(0, 10, 13, 13), (0, 10, 17, 15), (0, 10, 21, 17)]) F FX NC (ctL_machine l hfl D cI cJ cZ a r o f (sv xs (i + 1)) (sv xs (i + 2)) h.1 (sv_r _ _) (sv_r _ _)) gL_law_L_machine rfl ⟨rfl, rfl⟩ (by decide +kernel) ⟨Nat.le_of_ble_eq_true rfl, Nat.le_of_ble_eq_true rfl⟩ rfl (MdW cI cZ b u) [] (by rw [List.append_nil]) rfl (Nat.le_of_ble_eq_true rfl) hcs (gz_pW_sh (RiO_sh _ _)) dL_law_146 (fun v W1 hv => ?_)
  obtain ⟨r1, f1, K, rfl, rfl, hK, hKr, h0, h1⟩ := pW_out gz_c3_r hv
  refine gz_eqw (ws2 := LwW cI cJ cZ a b o r1 u f1) (by rw [List.append_nil]) ?_
  refine gz_istore (pc := 149) (lv2 := (5, vI K) :: lvS bs (a 0) (b 0) o i) F dL_law_149 (by decide) rfl ?_
  refine gz_aload_n (pc := 151) F dL_law_151 rfl 3 rfl ?_
  refine gz_arg (pc := 152) (k := 1) F hX hbl hbA ⟨by omega, by omega⟩ hL 1 5 rfl rfl dL_law_152 dL_law_153 dL_law_155 dL_law_156 dL_law_157 ?_
  refine gz_arg (pc := 158) (k := 2) F hX hbl hbA ⟨by omega, by omega⟩ hL 1 5 rfl rfl dL_law_158 dL_law_159 dL_law_161 dL_law_162 dL_law_163 ?_
  refine gz_callVb (pc := 164) (n := 2) (As := [vI (sv xs (i + 1)), vI (sv xs (i + 2))]) (rest := []) (bytes := cX9_machine) (maxL := 3) (ret := some .int) F (ct_X9_machine l D cI cJ cZ b u (sv xs (i + 1)) (sv xs (i + 2)) h.2.1 (sv_r _ _) (sv_r _ _)) gL_law_X9_machine rfl ⟨rfl, rfl⟩ (by decide +kernel) ⟨Nat.le_of_ble_eq_true rfl, Nat.le_of_ble_eq_true rfl⟩ rfl [] (RiW cI cJ a r1 ++ [OuC cJ o f1]) rfl 9 rfl rfl rfl (Nat.le_of_ble_eq_true rfl) hcs (gz_pK_sh (MdW_sh _ _) (fun k => MdW_sh _ _)) dL_law_164 (fun v W1 hv => ?_)
  obtain ⟨u3, B, rfl, rfl, hth, hR, hB⟩ := pK_out h (st_machine h hj (sv xs (i + 1)) (sv xs (i + 2))) hK h0 h1 hv
  refine gz_istore (pc := 167) (lv2 := (6, vI B) :: (5, vI K) :: lvS bs (a 0) (b 0) o i) F dL_law_167 (by decide) rfl ?_
  refine gz_eqw (ws2 := LwW cI cJ cZ a b o r1 u3 f1) rfl ?_
  exact gz_tailI F 169 hR.2.1 hth hKr (fun q => (hB q).1) hcs dL_law_169 dL_law_170 dL_law_173 dL_law_175 dL_law_180 dL_law_182 dL_law_185 dL_law_186 dL_law_187 dL_law_188 dL_law_190 dL_law_191 dL_law_192 dL_law_197 (by decide) (kk r1 u3 f1 hR)

set_option maxHeartbeats 4000000 in
set_option maxRecDepth 100000 in
theorem law_k1 (hfl : l.stackTraces = false) (F : gF p s m args c cL_law 7 RL wsL_law D cI cJ cZ A) (FX : gFX l s A) (NC : gz_NC s) {bs L : Nat} {xs : Nat → Int32} (hX : va_X bs L xs s s.heap) (hbl : bs < s.heap.size) (hbA : ¬ A bs) (hL : L < 2147483648) {a b : Nat → Nat} {o : Nat} {r : RiS} {u : MdS} {f : Nat → Int64} {j : Nat} {i : Int} (h : RR j r u) (hj : j < 512) (hi : 0 ≤ i ∧ i + 5 ≤ (L : Int)) (hcs : cells + 1 ≤ 1139 ∧ slots + 6 ≤ 13920) (kk : ∀ (r2 : RiS) (u2 : MdS) (f2 : Nat → Int64), RR (j + 1) r2 u2 → gG p l e room_1 s m args below meth c D A 7 Q (cells + 1) (slots + 6) (LwW cI cJ cZ a b o r2 u2 f2) (lvS bs (a 0) (b 0) o i) [] 1427) : gG p l e room_1 s m args below meth c D A 7 Q cells slots (LwW cI cJ cZ a b o r u f) (lvS bs (a 0) (b 0) o i) [] 200 := by
  refine gz_aload_n (pc := 200) F dL_law_200 rfl 1 rfl ?_
  refine gz_arg (pc := 201) (k := 1) F hX hbl hbA ⟨by omega, by omega⟩ hL 0 4 rfl rfl dL_law_201 dL_law_202 dL_law_204 dL_law_205 dL_law_206 ?_
  refine gz_arg (pc := 207) (k := 2) F hX hbl hbA ⟨by omega, by omega⟩ hL 0 4 rfl rfl dL_law_207 dL_law_208 dL_law_210 dL_law_211 dL_law_212 ?_
  refine gz_arg (pc := 213) (k := 3) F hX hbl hbA ⟨by omega, by omega⟩ hL 0 4 rfl rfl dL_law_213 dL_law_214 dL_law_216 dL_law_217 dL_law_218 ?_
  refine gz_callSY (pc := 219) (n := 4) (As := [.ref (a 0), vI (sv xs (i + 1)), vI (sv xs (i + 2)), vI (sv xs (i + 3))]) (rest := []) (bytes := cL_leave) (maxL := 5) (ret := some .int) (hh := [(0, 7, 10, 13), (0, 7, 14, 15), (0, 7, 18, 17)]) F FX NC (ctL_leave l hfl D cI cJ cZ a r (sv xs (i + 1)) (sv xs (i + 2)) (sv xs (i + 3)) h.1 (sv_r _ _) (sv_r _ _) (sv_r _ _)) gL_law_L_leave rfl ⟨rfl, rfl⟩ (by decide +kernel) ⟨Nat.le_of_ble_eq_true rfl, Nat.le_of_ble_eq_true rfl⟩ rfl (MdW cI cZ b u) [OuC cJ o f] rfl rfl (Nat.le_of_ble_eq_true rfl) hcs (gz_pW_sh (RiW_sh _ _)) dL_law_219 (fun v W1 hv => ?_)
  obtain ⟨r1, K, rfl, rfl, hK, hKr, h0, h1⟩ := pW_void gz_c3_r hv
  refine gz_eqw (ws2 := LwW cI cJ cZ a b o r1 u f) rfl ?_
  refine gz_istore (pc := 222) (lv2 := (5, vI K) :: lvS bs (a 0) (b 0) o i) F dL_law_222 (by decide) rfl ?_
  refine gz_aload_n (pc := 224) F dL_law_224 rfl 3 rfl ?_
  refine gz_arg (pc := 225) (k := 1) F hX hbl hbA ⟨by omega, by omega⟩ hL 1 5 rfl rfl dL_law_225 dL_law_226 dL_law_228 dL_law_229 dL_law_230 ?_
  refine gz_arg (pc := 231) (k := 2) F hX hbl hbA ⟨by omega, by omega⟩ hL 1 5 rfl rfl dL_law_231 dL_law_232 dL_law_234 dL_law_235 dL_law_236 ?_
  refine gz_arg (pc := 237) (k := 3) F hX hbl hbA ⟨by omega, by omega⟩ hL 1 5 rfl rfl dL_law_237 dL_law_238 dL_law_240 dL_law_241 dL_law_242 ?_
  refine gz_callVb (pc := 243) (n := 3) (As := [vI (sv xs (i + 1)), vI (sv xs (i + 2)), vI (sv xs (i + 3))]) (rest := []) (bytes := cX9_leave) (maxL := 8) (ret := none) F (ct_X9_leave l D cI cJ cZ b u (sv xs (i + 1)) (sv xs (i + 2)) (sv xs (i + 3)) h.2.1 (sv_r _ _) (sv_r _ _) (sv_r _ _)) gL_law_X9_leave rfl ⟨rfl, rfl⟩ (by decide +kernel) ⟨Nat.le_of_ble_eq_true rfl, Nat.le_of_ble_eq_true rfl⟩ rfl [] (RiW cI cJ a r1 ++ [OuC cJ o f]) rfl 9 rfl rfl rfl (Nat.le_of_ble_eq_true rfl) hcs (gz_pK_sh (MdW_sh _ _) (fun k => MdW_sh _ _)) dL_law_243 (fun v W1 hv => ?_)
  obtain ⟨u3, rfl, rfl, hth, hR⟩ := pK_void h (st_leave h hj (sv xs (i + 1)) (sv xs (i + 2)) (sv xs (i + 3))) hK h0 h1 hv
  refine gz_eqw (ws2 := LwW cI cJ cZ a b o r1 u3 f) rfl ?_
  exact gz_tailV F 246 hR.2.1 hth hKr hcs dL_law_246 dL_law_247 dL_law_250 dL_law_252 dL_law_257 (by decide) (kk r1 u3 f hR)

set_option maxHeartbeats 4000000 in
set_option maxRecDepth 100000 in
theorem law_k2 (hfl : l.stackTraces = false) (F : gF p s m args c cL_law 7 RL wsL_law D cI cJ cZ A) (FX : gFX l s A) (NC : gz_NC s) {bs L : Nat} {xs : Nat → Int32} (hX : va_X bs L xs s s.heap) (hbl : bs < s.heap.size) (hbA : ¬ A bs) (hL : L < 2147483648) {a b : Nat → Nat} {o : Nat} {r : RiS} {u : MdS} {f : Nat → Int64} {j : Nat} {i : Int} (h : RR j r u) (hj : j < 512) (hi : 0 ≤ i ∧ i + 5 ≤ (L : Int)) (hcs : cells + 1 ≤ 1139 ∧ slots + 6 ≤ 13920) (kk : ∀ (r2 : RiS) (u2 : MdS) (f2 : Nat → Int64), RR (j + 1) r2 u2 → gG p l e room_1 s m args below meth c D A 7 Q (cells + 1) (slots + 6) (LwW cI cJ cZ a b o r2 u2 f2) (lvS bs (a 0) (b 0) o i) [] 1427) : gG p l e room_1 s m args below meth c D A 7 Q cells slots (LwW cI cJ cZ a b o r u f) (lvS bs (a 0) (b 0) o i) [] 260 := by
  refine gz_aload_n (pc := 260) F dL_law_260 rfl 1 rfl ?_
  refine gz_arg (pc := 261) (k := 1) F hX hbl hbA ⟨by omega, by omega⟩ hL 0 4 rfl rfl dL_law_261 dL_law_262 dL_law_264 dL_law_265 dL_law_266 ?_
  refine gz_arg (pc := 267) (k := 2) F hX hbl hbA ⟨by omega, by omega⟩ hL 0 4 rfl rfl dL_law_267 dL_law_268 dL_law_270 dL_law_271 dL_law_272 ?_
  refine gz_arg (pc := 273) (k := 3) F hX hbl hbA ⟨by omega, by omega⟩ hL 0 4 rfl rfl dL_law_273 dL_law_274 dL_law_276 dL_law_277 dL_law_278 ?_
  refine gz_arg (pc := 279) (k := 4) F hX hbl hbA ⟨by omega, by omega⟩ hL 0 4 rfl rfl dL_law_279 dL_law_280 dL_law_282 dL_law_283 dL_law_284 ?_
  refine gz_callSY (pc := 285) (n := 5) (As := [.ref (a 0), vI (sv xs (i + 1)), vI (sv xs (i + 2)), vI (sv xs (i + 3)), vI (sv xs (i + 4))]) (rest := []) (bytes := cL_lend) (maxL := 6) (ret := some .int) (hh := [(0, 9, 12, 13), (0, 9, 16, 15), (0, 9, 20, 17)]) F FX NC (ctL_lend l hfl D cI cJ cZ a r (sv xs (i + 1)) (sv xs (i + 2)) (sv xs (i + 3)) (sv xs (i + 4)) h.1 (sv_r _ _) (sv_r _ _) (sv_r _ _) (sv_r _ _)) gL_law_L_lend rfl ⟨rfl, rfl⟩ (by decide +kernel) ⟨Nat.le_of_ble_eq_true rfl, Nat.le_of_ble_eq_true rfl⟩ rfl (MdW cI cZ b u) [OuC cJ o f] rfl rfl (Nat.le_of_ble_eq_true rfl) hcs (gz_pW_sh (RiW_sh _ _)) dL_law_285 (fun v W1 hv => ?_)
  obtain ⟨r1, K, rfl, rfl, hK, hKr, h0, h1⟩ := pW_void gz_c3_r hv
  refine gz_eqw (ws2 := LwW cI cJ cZ a b o r1 u f) rfl ?_
  refine gz_istore (pc := 288) (lv2 := (5, vI K) :: lvS bs (a 0) (b 0) o i) F dL_law_288 (by decide) rfl ?_
  refine gz_aload_n (pc := 290) F dL_law_290 rfl 3 rfl ?_
  refine gz_arg (pc := 291) (k := 1) F hX hbl hbA ⟨by omega, by omega⟩ hL 1 5 rfl rfl dL_law_291 dL_law_292 dL_law_294 dL_law_295 dL_law_296 ?_
  refine gz_arg (pc := 297) (k := 2) F hX hbl hbA ⟨by omega, by omega⟩ hL 1 5 rfl rfl dL_law_297 dL_law_298 dL_law_300 dL_law_301 dL_law_302 ?_
  refine gz_arg (pc := 303) (k := 3) F hX hbl hbA ⟨by omega, by omega⟩ hL 1 5 rfl rfl dL_law_303 dL_law_304 dL_law_306 dL_law_307 dL_law_308 ?_
  refine gz_arg (pc := 309) (k := 4) F hX hbl hbA ⟨by omega, by omega⟩ hL 1 5 rfl rfl dL_law_309 dL_law_310 dL_law_312 dL_law_313 dL_law_314 ?_
  refine gz_callVb (pc := 315) (n := 4) (As := [vI (sv xs (i + 1)), vI (sv xs (i + 2)), vI (sv xs (i + 3)), vI (sv xs (i + 4))]) (rest := []) (bytes := cX9_lend) (maxL := 7) (ret := none) F (ct_X9_lend l D cI cJ cZ b u (sv xs (i + 1)) (sv xs (i + 2)) (sv xs (i + 3)) (sv xs (i + 4)) h.2.1 (sv_r _ _) (sv_r _ _) (sv_r _ _) (sv_r _ _)) gL_law_X9_lend rfl ⟨rfl, rfl⟩ (by decide +kernel) ⟨Nat.le_of_ble_eq_true rfl, Nat.le_of_ble_eq_true rfl⟩ rfl [] (RiW cI cJ a r1 ++ [OuC cJ o f]) rfl 9 rfl rfl rfl (Nat.le_of_ble_eq_true rfl) hcs (gz_pK_sh (MdW_sh _ _) (fun k => MdW_sh _ _)) dL_law_315 (fun v W1 hv => ?_)
  obtain ⟨u3, rfl, rfl, hth, hR⟩ := pK_void h (st_lend h hj (sv xs (i + 1)) (sv xs (i + 2)) (sv xs (i + 3)) (sv xs (i + 4))) hK h0 h1 hv
  refine gz_eqw (ws2 := LwW cI cJ cZ a b o r1 u3 f) rfl ?_
  exact gz_tailV F 318 hR.2.1 hth hKr hcs dL_law_318 dL_law_319 dL_law_322 dL_law_324 dL_law_329 (by decide) (kk r1 u3 f hR)

set_option maxHeartbeats 4000000 in
set_option maxRecDepth 100000 in
theorem law_k3 (hfl : l.stackTraces = false) (F : gF p s m args c cL_law 7 RL wsL_law D cI cJ cZ A) (FX : gFX l s A) (NC : gz_NC s) {bs L : Nat} {xs : Nat → Int32} (hX : va_X bs L xs s s.heap) (hbl : bs < s.heap.size) (hbA : ¬ A bs) (hL : L < 2147483648) {a b : Nat → Nat} {o : Nat} {r : RiS} {u : MdS} {f : Nat → Int64} {j : Nat} {i : Int} (h : RR j r u) (hj : j < 512) (hi : 0 ≤ i ∧ i + 5 ≤ (L : Int)) (hcs : cells + 1 ≤ 1139 ∧ slots + 6 ≤ 13920) (kk : ∀ (r2 : RiS) (u2 : MdS) (f2 : Nat → Int64), RR (j + 1) r2 u2 → gG p l e room_1 s m args below meth c D A 7 Q (cells + 1) (slots + 6) (LwW cI cJ cZ a b o r2 u2 f2) (lvS bs (a 0) (b 0) o i) [] 1427) : gG p l e room_1 s m args below meth c D A 7 Q cells slots (LwW cI cJ cZ a b o r u f) (lvS bs (a 0) (b 0) o i) [] 332 := by
  refine gz_aload_n (pc := 332) F dL_law_332 rfl 1 rfl ?_
  refine gz_arg (pc := 333) (k := 1) F hX hbl hbA ⟨by omega, by omega⟩ hL 0 4 rfl rfl dL_law_333 dL_law_334 dL_law_336 dL_law_337 dL_law_338 ?_
  refine gz_arg (pc := 339) (k := 2) F hX hbl hbA ⟨by omega, by omega⟩ hL 0 4 rfl rfl dL_law_339 dL_law_340 dL_law_342 dL_law_343 dL_law_344 ?_
  refine gz_aload_n (pc := 345) F dL_law_345 rfl 3 rfl ?_
  refine gz_callSY (pc := 346) (n := 4) (As := [.ref (a 0), vI (sv xs (i + 1)), vI (sv xs (i + 2)), .ref o]) (rest := []) (bytes := cL_breakDown) (maxL := 5) (ret := some .int) (hh := [(0, 10, 13, 13), (0, 10, 17, 15)]) F FX NC (ctL_breakDown l hfl D cI cJ cZ a r o f (sv xs (i + 1)) (sv xs (i + 2)) h.1 (sv_r _ _) (sv_r _ _)) gL_law_L_breakDown rfl ⟨rfl, rfl⟩ (by decide +kernel) ⟨Nat.le_of_ble_eq_true rfl, Nat.le_of_ble_eq_true rfl⟩ rfl (MdW cI cZ b u) [] (by rw [List.append_nil]) rfl (Nat.le_of_ble_eq_true rfl) hcs (gz_pW_sh (RiO_sh _ _)) dL_law_346 (fun v W1 hv => ?_)
  obtain ⟨r1, f1, K, rfl, rfl, hK, hKr, h0, h1⟩ := pW_out gz_c2_r hv
  refine gz_eqw (ws2 := LwW cI cJ cZ a b o r1 u f1) (by rw [List.append_nil]) ?_
  refine gz_istore (pc := 349) (lv2 := (5, vI K) :: lvS bs (a 0) (b 0) o i) F dL_law_349 (by decide) rfl ?_
  refine gz_aload_n (pc := 351) F dL_law_351 rfl 3 rfl ?_
  refine gz_arg (pc := 352) (k := 1) F hX hbl hbA ⟨by omega, by omega⟩ hL 1 5 rfl rfl dL_law_352 dL_law_353 dL_law_355 dL_law_356 dL_law_357 ?_
  refine gz_arg (pc := 358) (k := 2) F hX hbl hbA ⟨by omega, by omega⟩ hL 1 5 rfl rfl dL_law_358 dL_law_359 dL_law_361 dL_law_362 dL_law_363 ?_
  refine gz_callVb (pc := 364) (n := 2) (As := [vI (sv xs (i + 1)), vI (sv xs (i + 2))]) (rest := []) (bytes := cX9_breakDown) (maxL := 5) (ret := some .int) F (ct_X9_breakDown l D cI cJ cZ b u (sv xs (i + 1)) (sv xs (i + 2)) h.2.1 (sv_r _ _) (sv_r _ _)) gL_law_X9_breakDown rfl ⟨rfl, rfl⟩ (by decide +kernel) ⟨Nat.le_of_ble_eq_true rfl, Nat.le_of_ble_eq_true rfl⟩ rfl [] (RiW cI cJ a r1 ++ [OuC cJ o f1]) rfl 9 rfl rfl rfl (Nat.le_of_ble_eq_true rfl) hcs (gz_pK_sh (MdW_sh _ _) (fun k => MdW_sh _ _)) dL_law_364 (fun v W1 hv => ?_)
  obtain ⟨u3, B, rfl, rfl, hth, hR, hB⟩ := pK_out h (st_breakDown h hj (sv xs (i + 1)) (sv xs (i + 2))) hK h0 h1 hv
  refine gz_istore (pc := 367) (lv2 := (6, vI B) :: (5, vI K) :: lvS bs (a 0) (b 0) o i) F dL_law_367 (by decide) rfl ?_
  refine gz_eqw (ws2 := LwW cI cJ cZ a b o r1 u3 f1) rfl ?_
  exact gz_tailI F 369 hR.2.1 hth hKr (fun q => (hB q).1) hcs dL_law_369 dL_law_370 dL_law_373 dL_law_375 dL_law_380 dL_law_382 dL_law_385 dL_law_386 dL_law_387 dL_law_388 dL_law_390 dL_law_391 dL_law_392 dL_law_397 (by decide) (kk r1 u3 f1 hR)

set_option maxHeartbeats 4000000 in
set_option maxRecDepth 100000 in
theorem law_k4 (hfl : l.stackTraces = false) (F : gF p s m args c cL_law 7 RL wsL_law D cI cJ cZ A) (FX : gFX l s A) (NC : gz_NC s) {bs L : Nat} {xs : Nat → Int32} (hX : va_X bs L xs s s.heap) (hbl : bs < s.heap.size) (hbA : ¬ A bs) (hL : L < 2147483648) {a b : Nat → Nat} {o : Nat} {r : RiS} {u : MdS} {f : Nat → Int64} {j : Nat} {i : Int} (h : RR j r u) (hj : j < 512) (hi : 0 ≤ i ∧ i + 5 ≤ (L : Int)) (hcs : cells + 1 ≤ 1139 ∧ slots + 6 ≤ 13920) (kk : ∀ (r2 : RiS) (u2 : MdS) (f2 : Nat → Int64), RR (j + 1) r2 u2 → gG p l e room_1 s m args below meth c D A 7 Q (cells + 1) (slots + 6) (LwW cI cJ cZ a b o r2 u2 f2) (lvS bs (a 0) (b 0) o i) [] 1427) : gG p l e room_1 s m args below meth c D A 7 Q cells slots (LwW cI cJ cZ a b o r u f) (lvS bs (a 0) (b 0) o i) [] 400 := by
  refine gz_aload_n (pc := 400) F dL_law_400 rfl 1 rfl ?_
  refine gz_arg (pc := 401) (k := 1) F hX hbl hbA ⟨by omega, by omega⟩ hL 0 4 rfl rfl dL_law_401 dL_law_402 dL_law_404 dL_law_405 dL_law_406 ?_
  refine gz_arg (pc := 407) (k := 2) F hX hbl hbA ⟨by omega, by omega⟩ hL 0 4 rfl rfl dL_law_407 dL_law_408 dL_law_410 dL_law_411 dL_law_412 ?_
  refine gz_arg (pc := 413) (k := 3) F hX hbl hbA ⟨by omega, by omega⟩ hL 0 4 rfl rfl dL_law_413 dL_law_414 dL_law_416 dL_law_417 dL_law_418 ?_
  refine gz_arg (pc := 419) (k := 4) F hX hbl hbA ⟨by omega, by omega⟩ hL 0 4 rfl rfl dL_law_419 dL_law_420 dL_law_422 dL_law_423 dL_law_424 ?_
  refine gz_aload_n (pc := 425) F dL_law_425 rfl 3 rfl ?_
  refine gz_callSY (pc := 426) (n := 6) (As := [.ref (a 0), vI (sv xs (i + 1)), vI (sv xs (i + 2)), vI (sv xs (i + 3)), vI (sv xs (i + 4)), .ref o]) (rest := []) (bytes := cL_meeting) (maxL := 7) (ret := some .int) (hh := [(0, 14, 17, 13), (0, 14, 21, 15), (0, 14, 25, 17)]) F FX NC (ctL_meeting l hfl D cI cJ cZ a r o f (sv xs (i + 1)) (sv xs (i + 2)) (sv xs (i + 3)) (sv xs (i + 4)) h.1 (sv_r _ _) (sv_r _ _) (sv_r _ _) (sv_r _ _)) gL_law_L_meeting rfl ⟨rfl, rfl⟩ (by decide +kernel) ⟨Nat.le_of_ble_eq_true rfl, Nat.le_of_ble_eq_true rfl⟩ rfl (MdW cI cZ b u) [] (by rw [List.append_nil]) rfl (Nat.le_of_ble_eq_true rfl) hcs (gz_pW_sh (RiO_sh _ _)) dL_law_426 (fun v W1 hv => ?_)
  obtain ⟨r1, f1, K, rfl, rfl, hK, hKr, h0, h1⟩ := pW_out gz_c3_r hv
  refine gz_eqw (ws2 := LwW cI cJ cZ a b o r1 u f1) (by rw [List.append_nil]) ?_
  refine gz_istore (pc := 429) (lv2 := (5, vI K) :: lvS bs (a 0) (b 0) o i) F dL_law_429 (by decide) rfl ?_
  refine gz_aload_n (pc := 431) F dL_law_431 rfl 3 rfl ?_
  refine gz_arg (pc := 432) (k := 1) F hX hbl hbA ⟨by omega, by omega⟩ hL 1 5 rfl rfl dL_law_432 dL_law_433 dL_law_435 dL_law_436 dL_law_437 ?_
  refine gz_arg (pc := 438) (k := 2) F hX hbl hbA ⟨by omega, by omega⟩ hL 1 5 rfl rfl dL_law_438 dL_law_439 dL_law_441 dL_law_442 dL_law_443 ?_
  refine gz_arg (pc := 444) (k := 3) F hX hbl hbA ⟨by omega, by omega⟩ hL 1 5 rfl rfl dL_law_444 dL_law_445 dL_law_447 dL_law_448 dL_law_449 ?_
  refine gz_arg (pc := 450) (k := 4) F hX hbl hbA ⟨by omega, by omega⟩ hL 1 5 rfl rfl dL_law_450 dL_law_451 dL_law_453 dL_law_454 dL_law_455 ?_
  refine gz_callVb (pc := 456) (n := 4) (As := [vI (sv xs (i + 1)), vI (sv xs (i + 2)), vI (sv xs (i + 3)), vI (sv xs (i + 4))]) (rest := []) (bytes := cX9_meeting) (maxL := 8) (ret := some .int) F (ct_X9_meeting l D cI cJ cZ b u (sv xs (i + 1)) (sv xs (i + 2)) (sv xs (i + 3)) (sv xs (i + 4)) h.2.1 (sv_r _ _) (sv_r _ _) (sv_r _ _) (sv_r _ _)) gL_law_X9_meeting rfl ⟨rfl, rfl⟩ (by decide +kernel) ⟨Nat.le_of_ble_eq_true rfl, Nat.le_of_ble_eq_true rfl⟩ rfl [] (RiW cI cJ a r1 ++ [OuC cJ o f1]) rfl 9 rfl rfl rfl (Nat.le_of_ble_eq_true rfl) hcs (gz_pK_sh (MdW_sh _ _) (fun k => MdW_sh _ _)) dL_law_456 (fun v W1 hv => ?_)
  obtain ⟨u3, B, rfl, rfl, hth, hR, hB⟩ := pK_out h (st_meeting h hj (sv xs (i + 1)) (sv xs (i + 2)) (sv xs (i + 3)) (sv xs (i + 4))) hK h0 h1 hv
  refine gz_istore (pc := 459) (lv2 := (6, vI B) :: (5, vI K) :: lvS bs (a 0) (b 0) o i) F dL_law_459 (by decide) rfl ?_
  refine gz_eqw (ws2 := LwW cI cJ cZ a b o r1 u3 f1) rfl ?_
  exact gz_tailI F 461 hR.2.1 hth hKr (fun q => (hB q).1) hcs dL_law_461 dL_law_462 dL_law_465 dL_law_467 dL_law_472 dL_law_474 dL_law_477 dL_law_478 dL_law_479 dL_law_480 dL_law_482 dL_law_483 dL_law_484 dL_law_489 (by decide) (kk r1 u3 f1 hR)

set_option maxHeartbeats 4000000 in
set_option maxRecDepth 100000 in
theorem law_k5 (hfl : l.stackTraces = false) (F : gF p s m args c cL_law 7 RL wsL_law D cI cJ cZ A) (FX : gFX l s A) (NC : gz_NC s) {bs L : Nat} {xs : Nat → Int32} (hX : va_X bs L xs s s.heap) (hbl : bs < s.heap.size) (hbA : ¬ A bs) (hL : L < 2147483648) {a b : Nat → Nat} {o : Nat} {r : RiS} {u : MdS} {f : Nat → Int64} {j : Nat} {i : Int} (h : RR j r u) (hj : j < 512) (hi : 0 ≤ i ∧ i + 5 ≤ (L : Int)) (hcs : cells + 1 ≤ 1139 ∧ slots + 6 ≤ 13920) (kk : ∀ (r2 : RiS) (u2 : MdS) (f2 : Nat → Int64), RR (j + 1) r2 u2 → gG p l e room_1 s m args below meth c D A 7 Q (cells + 1) (slots + 6) (LwW cI cJ cZ a b o r2 u2 f2) (lvS bs (a 0) (b 0) o i) [] 1427) : gG p l e room_1 s m args below meth c D A 7 Q cells slots (LwW cI cJ cZ a b o r u f) (lvS bs (a 0) (b 0) o i) [] 492 := by
  refine gz_aload_n (pc := 492) F dL_law_492 rfl 1 rfl ?_
  refine gz_arg (pc := 493) (k := 1) F hX hbl hbA ⟨by omega, by omega⟩ hL 0 4 rfl rfl dL_law_493 dL_law_494 dL_law_496 dL_law_497 dL_law_498 ?_
  refine gz_arg (pc := 499) (k := 2) F hX hbl hbA ⟨by omega, by omega⟩ hL 0 4 rfl rfl dL_law_499 dL_law_500 dL_law_502 dL_law_503 dL_law_504 ?_
  refine gz_aload_n (pc := 505) F dL_law_505 rfl 3 rfl ?_
  refine gz_callSY (pc := 506) (n := 4) (As := [.ref (a 0), vI (sv xs (i + 1)), vI (sv xs (i + 2)), .ref o]) (rest := []) (bytes := cL_move) (maxL := 5) (ret := some .int) (hh := [(0, 17, 20, 13), (0, 17, 24, 15), (0, 17, 28, 17)]) F FX NC (ctL_move l hfl D cI cJ cZ a r o f (sv xs (i + 1)) (sv xs (i + 2)) h.1 (sv_r _ _) (sv_r _ _) (Pl_J_L h.2.2.2.1)) gL_law_L_move rfl ⟨rfl, rfl⟩ (by decide +kernel) ⟨Nat.le_of_ble_eq_true rfl, Nat.le_of_ble_eq_true rfl⟩ rfl (MdW cI cZ b u) [] (by rw [List.append_nil]) rfl (Nat.le_of_ble_eq_true rfl) hcs (gz_pW_sh (RiO_sh _ _)) dL_law_506 (fun v W1 hv => ?_)
  obtain ⟨r1, f1, K, rfl, rfl, hK, hKr, h0, h1⟩ := pW_out gz_c3_r hv
  refine gz_eqw (ws2 := LwW cI cJ cZ a b o r1 u f1) (by rw [List.append_nil]) ?_
  refine gz_istore (pc := 509) (lv2 := (5, vI K) :: lvS bs (a 0) (b 0) o i) F dL_law_509 (by decide) rfl ?_
  refine gz_aload_n (pc := 511) F dL_law_511 rfl 3 rfl ?_
  refine gz_arg (pc := 512) (k := 1) F hX hbl hbA ⟨by omega, by omega⟩ hL 1 5 rfl rfl dL_law_512 dL_law_513 dL_law_515 dL_law_516 dL_law_517 ?_
  refine gz_arg (pc := 518) (k := 2) F hX hbl hbA ⟨by omega, by omega⟩ hL 1 5 rfl rfl dL_law_518 dL_law_519 dL_law_521 dL_law_522 dL_law_523 ?_
  refine gz_callVb (pc := 524) (n := 2) (As := [vI (sv xs (i + 1)), vI (sv xs (i + 2))]) (rest := []) (bytes := cX9_move) (maxL := 6) (ret := some .boolean) F (ct_X9_move l D cI cJ cZ b u (sv xs (i + 1)) (sv xs (i + 2)) h.2.1 (sv_r _ _) (sv_r _ _)) gL_law_X9_move rfl ⟨rfl, rfl⟩ (by decide +kernel) ⟨Nat.le_of_ble_eq_true rfl, Nat.le_of_ble_eq_true rfl⟩ rfl [] (RiW cI cJ a r1 ++ [OuC cJ o f1]) rfl 9 rfl rfl rfl (Nat.le_of_ble_eq_true rfl) hcs (gz_pK_sh (MdW_sh _ _) (fun k => MdW_sh _ _)) dL_law_524 (fun v W1 hv => ?_)
  obtain ⟨u3, B, rfl, rfl, hth, hR, hB⟩ := pK_out h (st_move h hj (sv xs (i + 1)) (sv xs (i + 2))) hK h0 h1 hv
  refine gz_istore (pc := 527) (lv2 := (6, vI B) :: (5, vI K) :: lvS bs (a 0) (b 0) o i) F dL_law_527 (by decide) rfl ?_
  refine gz_eqw (ws2 := LwW cI cJ cZ a b o r1 u3 f1) rfl ?_
  exact gz_tailB F 529 hR.2.1 hth hKr (fun q => (hB q).1) (fun q => by rw [(hB q).2]; exact bz_or _) hcs dL_law_529 dL_law_530 dL_law_533 dL_law_535 dL_law_540 dL_law_542 dL_law_545 dL_law_546 dL_law_547 dL_law_548 dL_law_550 dL_law_553 dL_law_554 dL_law_557 dL_law_558 dL_law_559 dL_law_564 (by decide) (kk r1 u3 f1 hR)

set_option maxHeartbeats 4000000 in
set_option maxRecDepth 100000 in
theorem law_k6 (hfl : l.stackTraces = false) (F : gF p s m args c cL_law 7 RL wsL_law D cI cJ cZ A) (FX : gFX l s A) (NC : gz_NC s) {bs L : Nat} {xs : Nat → Int32} (hX : va_X bs L xs s s.heap) (hbl : bs < s.heap.size) (hbA : ¬ A bs) (hL : L < 2147483648) {a b : Nat → Nat} {o : Nat} {r : RiS} {u : MdS} {f : Nat → Int64} {j : Nat} {i : Int} (h : RR j r u) (hj : j < 512) (hi : 0 ≤ i ∧ i + 5 ≤ (L : Int)) (hcs : cells + 1 ≤ 1139 ∧ slots + 6 ≤ 13920) (kk : ∀ (r2 : RiS) (u2 : MdS) (f2 : Nat → Int64), RR (j + 1) r2 u2 → gG p l e room_1 s m args below meth c D A 7 Q (cells + 1) (slots + 6) (LwW cI cJ cZ a b o r2 u2 f2) (lvS bs (a 0) (b 0) o i) [] 1427) : gG p l e room_1 s m args below meth c D A 7 Q cells slots (LwW cI cJ cZ a b o r u f) (lvS bs (a 0) (b 0) o i) [] 567 := by
  refine gz_aload_n (pc := 567) F dL_law_567 rfl 1 rfl ?_
  refine gz_arg (pc := 568) (k := 1) F hX hbl hbA ⟨by omega, by omega⟩ hL 0 4 rfl rfl dL_law_568 dL_law_569 dL_law_571 dL_law_572 dL_law_573 ?_
  refine gz_callSY (pc := 574) (n := 2) (As := [.ref (a 0), vI (sv xs (i + 1))]) (rest := []) (bytes := cL_cancel) (maxL := 3) (ret := some .int) (hh := [(0, 5, 8, 13), (0, 5, 11, 17)]) F FX NC (ctL_cancel l hfl D cI cJ cZ a r (sv xs (i + 1)) h.1 (sv_r _ _)) gL_law_L_cancel rfl ⟨rfl, rfl⟩ (by decide +kernel) ⟨Nat.le_of_ble_eq_true rfl, Nat.le_of_ble_eq_true rfl⟩ rfl (MdW cI cZ b u) [OuC cJ o f] rfl rfl (Nat.le_of_ble_eq_true rfl) hcs (gz_pW_sh (RiW_sh _ _)) dL_law_574 (fun v W1 hv => ?_)
  obtain ⟨r1, K, rfl, rfl, hK, hKr, h0, h1⟩ := pW_void gz_c2_r hv
  refine gz_eqw (ws2 := LwW cI cJ cZ a b o r1 u f) rfl ?_
  refine gz_istore (pc := 577) (lv2 := (5, vI K) :: lvS bs (a 0) (b 0) o i) F dL_law_577 (by decide) rfl ?_
  refine gz_aload_n (pc := 579) F dL_law_579 rfl 3 rfl ?_
  refine gz_arg (pc := 580) (k := 1) F hX hbl hbA ⟨by omega, by omega⟩ hL 1 5 rfl rfl dL_law_580 dL_law_581 dL_law_583 dL_law_584 dL_law_585 ?_
  refine gz_callVb (pc := 586) (n := 1) (As := [vI (sv xs (i + 1))]) (rest := []) (bytes := cX9_cancel) (maxL := 3) (ret := none) F (ct_X9_cancel l D cI cJ cZ b u (sv xs (i + 1)) h.2.1 (sv_r _ _)) gL_law_X9_cancel rfl ⟨rfl, rfl⟩ (by decide +kernel) ⟨Nat.le_of_ble_eq_true rfl, Nat.le_of_ble_eq_true rfl⟩ rfl [] (RiW cI cJ a r1 ++ [OuC cJ o f]) rfl 9 rfl rfl rfl (Nat.le_of_ble_eq_true rfl) hcs (gz_pK_sh (MdW_sh _ _) (fun k => MdW_sh _ _)) dL_law_586 (fun v W1 hv => ?_)
  obtain ⟨u3, rfl, rfl, hth, hR⟩ := pK_void h (st_cancel h hj (sv xs (i + 1))) hK h0 h1 hv
  refine gz_eqw (ws2 := LwW cI cJ cZ a b o r1 u3 f) rfl ?_
  exact gz_tailV F 589 hR.2.1 hth hKr hcs dL_law_589 dL_law_590 dL_law_593 dL_law_595 dL_law_600 (by decide) (kk r1 u3 f hR)
end GZKa
