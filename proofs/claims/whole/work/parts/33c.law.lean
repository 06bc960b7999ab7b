/-! ===== the law's cases, laid by wip/whole/gen/law.py ===== -/
section GZKc
variable {p : Program} {l : Launch} {e : Env} {s : State} {m : MethodId} {args : Array Value} {below : List Frame} {meth : Method} {c : Code} {D : va_G} {A : Nat → Prop} {Q : State → Prop} {cells slots : Nat}
variable {cI cJ cZ : ClassId}
set_option maxHeartbeats 4000000 in
set_option maxRecDepth 100000 in
theorem law_k14 (hfl : l.stackTraces = false) (F : gF p s m args c cL_law 7 RL wsL_law D cI cJ cZ A) (FX : gFX l s A) (NC : gz_NC s) {bs L : Nat} {xs : Nat → Int32} (hX : va_X bs L xs s s.heap) (hbl : bs < s.heap.size) (hbA : ¬ A bs) (hL : L < 2147483648) {a b : Nat → Nat} {o : Nat} {r : RiS} {u : MdS} {f : Nat → Int64} {j : Nat} {i : Int} (h : RR j r u) (hj : j < 512) (hi : 0 ≤ i ∧ i + 5 ≤ (L : Int)) (hcs : cells + 1 ≤ 1139 ∧ slots + 6 ≤ 13920) (kk : ∀ (r2 : RiS) (u2 : MdS) (f2 : Nat → Int64), RR (j + 1) r2 u2 → gG p l e room_1 s m args below meth c D A 7 Q (cells + 1) (slots + 6) (LwW cI cJ cZ a b o r2 u2 f2) (lvS bs (a 0) (b 0) o i) [] 1427) : gG p l e room_1 s m args below meth c D A 7 Q cells slots (LwW cI cJ cZ a b o r u f) (lvS bs (a 0) (b 0) o i) [] 1024 := by
  refine gz_aload_n (pc := 1024) F dL_law_1024 rfl 1 rfl ?_
  refine gz_arg (pc := 1025) (k := 1) F hX hbl hbA ⟨by omega, by omega⟩ hL 0 4 rfl rfl dL_law_1025 dL_law_1026 dL_law_1028 dL_law_1029 dL_law_1030 ?_
  refine gz_aload_n (pc := 1031) F dL_law_1031 rfl 3 rfl ?_
  refine gz_callSY (pc := 1032) (n := 3) (As := [.ref (a 0), vI (sv xs (i + 1)), .ref o]) (rest := []) (bytes := cL_swapOf) (maxL := 4) (ret := some .int) (hh := [(0, 9, 12, 13)]) F FX NC (ctL_swapOf l hfl D cI cJ cZ a r o f (sv xs (i + 1)) h.1 (sv_r _ _)) gL_law_L_swapOf rfl ⟨rfl, rfl⟩ (by decide +kernel) ⟨Nat.le_of_ble_eq_true rfl, Nat.le_of_ble_eq_true rfl⟩ rfl (MdW cI cZ b u) [] (by rw [List.append_nil]) rfl (Nat.le_of_ble_eq_true rfl) hcs (gz_pW_sh (RiO_sh _ _)) dL_law_1032 (fun v W1 hv => ?_)
  obtain ⟨r1, f1, K, rfl, rfl, hK, hKr, h0, h1⟩ := pW_out gz_c2_r hv
  refine gz_eqw (ws2 := LwW cI cJ cZ a b o r1 u f1) (by rw [List.append_nil]) ?_
  refine gz_istore (pc := 1035) (lv2 := (5, vI K) :: lvS bs (a 0) (b 0) o i) F dL_law_1035 (by decide) rfl ?_
  refine gz_aload_n (pc := 1037) F dL_law_1037 rfl 3 rfl ?_
  refine gz_arg (pc := 1038) (k := 1) F hX hbl hbA ⟨by omega, by omega⟩ hL 1 5 rfl rfl dL_law_1038 dL_law_1039 dL_law_1041 dL_law_1042 dL_law_1043 ?_
  refine gz_callVb (pc := 1044) (n := 1) (As := [vI (sv xs (i + 1))]) (rest := []) (bytes := cX9_swapOf) (maxL := 2) (ret := some .int) F (ct_X9_swapOf l D cI cJ cZ b u (sv xs (i + 1)) h.2.1 (sv_r _ _)) gL_law_X9_swapOf rfl ⟨rfl, rfl⟩ (by decide +kernel) ⟨Nat.le_of_ble_eq_true rfl, Nat.le_of_ble_eq_true rfl⟩ rfl [] (RiW cI cJ a r1 ++ [OuC cJ o f1]) rfl 9 rfl rfl rfl (Nat.le_of_ble_eq_true rfl) hcs (gz_pK_sh (MdW_sh _ _) (fun k => MdW_sh _ _)) dL_law_1044 (fun v W1 hv => ?_)
  obtain ⟨u3, B, rfl, rfl, hth, hR, hB⟩ := pK_out h (st_swapOf h (sv xs (i + 1))) hK h0 h1 hv
  refine gz_istore (pc := 1047) (lv2 := (6, vI B) :: (5, vI K) :: lvS bs (a 0) (b 0) o i) F dL_law_1047 (by decide) rfl ?_
  refine gz_eqw (ws2 := LwW cI cJ cZ a b o r1 u3 f1) rfl ?_
  exact gz_tailI F 1049 hR.2.1 hth hKr (fun q => (hB q).1) hcs dL_law_1049 dL_law_1050 dL_law_1053 dL_law_1055 dL_law_1060 dL_law_1062 dL_law_1065 dL_law_1066 dL_law_1067 dL_law_1068 dL_law_1070 dL_law_1071 dL_law_1072 dL_law_1077 (by decide) (kk r1 u3 f1 hR)

set_option maxHeartbeats 4000000 in
set_option maxRecDepth 100000 in
theorem law_k15 (hfl : l.stackTraces = false) (F : gF p s m args c cL_law 7 RL wsL_law D cI cJ cZ A) (FX : gFX l s A) (NC : gz_NC s) {bs L : Nat} {xs : Nat → Int32} (hX : va_X bs L xs s s.heap) (hbl : bs < s.heap.size) (hbA : ¬ A bs) (hL : L < 2147483648) {a b : Nat → Nat} {o : Nat} {r : RiS} {u : MdS} {f : Nat → Int64} {j : Nat} {i : Int} (h : RR j r u) (hj : j < 512) (hi : 0 ≤ i ∧ i + 5 ≤ (L : Int)) (hcs : cells + 1 ≤ 1139 ∧ slots + 6 ≤ 13920) (kk : ∀ (r2 : RiS) (u2 : MdS) (f2 : Nat → Int64), RR (j + 1) r2 u2 → gG p l e room_1 s m args below meth c D A 7 Q (cells + 1) (slots + 6) (LwW cI cJ cZ a b o r2 u2 f2) (lvS bs (a 0) (b 0) o i) [] 1427) : gG p l e room_1 s m args below meth c D A 7 Q cells slots (LwW cI cJ cZ a b o r u f) (lvS bs (a 0) (b 0) o i) [] 1080 := by
  refine gz_aload_n (pc := 1080) F dL_law_1080 rfl 1 rfl ?_
  refine gz_arg (pc := 1081) (k := 1) F hX hbl hbA ⟨by omega, by omega⟩ hL 0 4 rfl rfl dL_law_1081 dL_law_1082 dL_law_1084 dL_law_1085 dL_law_1086 ?_
  refine gz_arg (pc := 1087) (k := 2) F hX hbl hbA ⟨by omega, by omega⟩ hL 0 4 rfl rfl dL_law_1087 dL_law_1088 dL_law_1090 dL_law_1091 dL_law_1092 ?_
  refine gz_aload_n (pc := 1093) F dL_law_1093 rfl 3 rfl ?_
  refine gz_callSY (pc := 1094) (n := 4) (As := [.ref (a 0), vI (sv xs (i + 1)), vI (sv xs (i + 2)), .ref o]) (rest := []) (bytes := cL_buildOf) (maxL := 5) (ret := some .int) (hh := [(0, 10, 13, 13), (0, 10, 17, 15)]) F FX NC (ctL_buildOf l hfl D cI cJ cZ a r o f (sv xs (i + 1)) (sv xs (i + 2)) h.1 (sv_r _ _) (sv_r _ _)) gL_law_L_buildOf rfl ⟨rfl, rfl⟩ (by decide +kernel) ⟨Nat.le_of_ble_eq_true rfl, Nat.le_of_ble_eq_true rfl⟩ rfl (MdW cI cZ b u) [] (by rw [List.append_nil]) rfl (Nat.le_of_ble_eq_true rfl) hcs (gz_pW_sh (RiO_sh _ _)) dL_law_1094 (fun v W1 hv => ?_)
  obtain ⟨r1, f1, K, rfl, rfl, hK, hKr, h0, h1⟩ := pW_out gz_c2_r hv
  refine gz_eqw (ws2 := LwW cI cJ cZ a b o r1 u f1) (by rw [List.append_nil]) ?_
  refine gz_istore (pc := 1097) (lv2 := (5, vI K) :: lvS bs (a 0) (b 0) o i) F dL_law_1097 (by decide) rfl ?_
  refine gz_aload_n (pc := 1099) F dL_law_1099 rfl 3 rfl ?_
  refine gz_arg (pc := 1100) (k := 1) F hX hbl hbA ⟨by omega, by omega⟩ hL 1 5 rfl rfl dL_law_1100 dL_law_1101 dL_law_1103 dL_law_1104 dL_law_1105 ?_
  refine gz_arg (pc := 1106) (k := 2) F hX hbl hbA ⟨by omega, by omega⟩ hL 1 5 rfl rfl dL_law_1106 dL_law_1107 dL_law_1109 dL_law_1110 dL_law_1111 ?_
  refine gz_callVb (pc := 1112) (n := 2) (As := [vI (sv xs (i + 1)), vI (sv xs (i + 2))]) (rest := []) (bytes := cX9_buildOf) (maxL := 3) (ret := some .int) F (ct_X9_buildOf l D cI cJ cZ b u (sv xs (i + 1)) (sv xs (i + 2)) h.2.1 (sv_r _ _) (sv_r _ _)) gL_law_X9_buildOf rfl ⟨rfl, rfl⟩ (by decide +kernel) ⟨Nat.le_of_ble_eq_true rfl, Nat.le_of_ble_eq_true rfl⟩ rfl [] (RiW cI cJ a r1 ++ [OuC cJ o f1]) rfl 9 rfl rfl rfl (Nat.le_of_ble_eq_true rfl) hcs (gz_pK_sh (MdW_sh _ _) (fun k => MdW_sh _ _)) dL_law_1112 (fun v W1 hv => ?_)
  obtain ⟨u3, B, rfl, rfl, hth, hR, hB⟩ := pK_out h (st_buildOf h (sv xs (i + 1)) (sv xs (i + 2))) hK h0 h1 hv
  refine gz_istore (pc := 1115) (lv2 := (6, vI B) :: (5, vI K) :: lvS bs (a 0) (b 0) o i) F dL_law_1115 (by decide) rfl ?_
  refine gz_eqw (ws2 := LwW cI cJ cZ a b o r1 u3 f1) rfl ?_
  exact gz_tailI F 1117 hR.2.1 hth hKr (fun q => (hB q).1) hcs dL_law_1117 dL_law_1118 dL_law_1121 dL_law_1123 dL_law_1128 dL_law_1130 dL_law_1133 dL_law_1134 dL_law_1135 dL_law_1136 dL_law_1138 dL_law_1139 dL_law_1140 dL_law_1145 (by decide) (kk r1 u3 f1 hR)

set_option maxHeartbeats 4000000 in
set_option maxRecDepth 100000 in
theorem law_k16 (hfl : l.stackTraces = false) (F : gF p s m args c cL_law 7 RL wsL_law D cI cJ cZ A) (FX : gFX l s A) (NC : gz_NC s) {bs L : Nat} {xs : Nat → Int32} (hX : va_X bs L xs s s.heap) (hbl : bs < s.heap.size) (hbA : ¬ A bs) (hL : L < 2147483648) {a b : Nat → Nat} {o : Nat} {r : RiS} {u : MdS} {f : Nat → Int64} {j : Nat} {i : Int} (h : RR j r u) (hj : j < 512) (hi : 0 ≤ i ∧ i + 5 ≤ (L : Int)) (hcs : cells + 1 ≤ 1139 ∧ slots + 6 ≤ 13920) (kk : ∀ (r2 : RiS) (u2 : MdS) (f2 : Nat → Int64), RR (j + 1) r2 u2 → gG p l e room_1 s m args below meth c D A 7 Q (cells + 1) (slots + 6) (LwW cI cJ cZ a b o r2 u2 f2) (lvS bs (a 0) (b 0) o i) [] 1427) : gG p l e room_1 s m args below meth c D A 7 Q cells slots (LwW cI cJ cZ a b o r u f) (lvS bs (a 0) (b 0) o i) [] 1148 := by
  refine gz_aload_n (pc := 1148) F dL_law_1148 rfl 1 rfl ?_
  refine gz_arg (pc := 1149) (k := 1) F hX hbl hbA ⟨by omega, by omega⟩ hL 0 4 rfl rfl dL_law_1149 dL_law_1150 dL_law_1152 dL_law_1153 dL_law_1154 ?_
  refine gz_aload_n (pc := 1155) F dL_law_1155 rfl 3 rfl ?_
  refine gz_callSY (pc := 1156) (n := 3) (As := [.ref (a 0), vI (sv xs (i + 1)), .ref o]) (rest := []) (bytes := cL_beganAnew) (maxL := 4) (ret := some .int) (hh := [(0, 9, 12, 13)]) F FX NC (ctL_beganAnew l hfl D cI cJ cZ a r o f (sv xs (i + 1)) h.1 (sv_r _ _)) gL_law_L_beganAnew rfl ⟨rfl, rfl⟩ (by decide +kernel) ⟨Nat.le_of_ble_eq_true rfl, Nat.le_of_ble_eq_true rfl⟩ rfl (MdW cI cZ b u) [] (by rw [List.append_nil]) rfl (Nat.le_of_ble_eq_true rfl) hcs (gz_pW_sh (RiO_sh _ _)) dL_law_1156 (fun v W1 hv => ?_)
  obtain ⟨r1, f1, K, rfl, rfl, hK, hKr, h0, h1⟩ := pW_out gz_c2_r hv
  refine gz_eqw (ws2 := LwW cI cJ cZ a b o r1 u f1) (by rw [List.append_nil]) ?_
  refine gz_istore (pc := 1159) (lv2 := (5, vI K) :: lvS bs (a 0) (b 0) o i) F dL_law_1159 (by decide) rfl ?_
  refine gz_aload_n (pc := 1161) F dL_law_1161 rfl 3 rfl ?_
  refine gz_arg (pc := 1162) (k := 1) F hX hbl hbA ⟨by omega, by omega⟩ hL 1 5 rfl rfl dL_law_1162 dL_law_1163 dL_law_1165 dL_law_1166 dL_law_1167 ?_
  refine gz_callVb (pc := 1168) (n := 1) (As := [vI (sv xs (i + 1))]) (rest := []) (bytes := cX9_beganAnew) (maxL := 2) (ret := some .int) F (ct_X9_beganAnew l D cI cJ cZ b u (sv xs (i + 1)) h.2.1 (sv_r _ _)) gL_law_X9_beganAnew rfl ⟨rfl, rfl⟩ (by decide +kernel) ⟨Nat.le_of_ble_eq_true rfl, Nat.le_of_ble_eq_true rfl⟩ rfl [] (RiW cI cJ a r1 ++ [OuC cJ o f1]) rfl 9 rfl rfl rfl (Nat.le_of_ble_eq_true rfl) hcs (gz_pK_sh (MdW_sh _ _) (fun k => MdW_sh _ _)) dL_law_1168 (fun v W1 hv => ?_)
  obtain ⟨u3, B, rfl, rfl, hth, hR, hB⟩ := pK_out h (st_beganAnew h (sv xs (i + 1))) hK h0 h1 hv
  refine gz_istore (pc := 1171) (lv2 := (6, vI B) :: (5, vI K) :: lvS bs (a 0) (b 0) o i) F dL_law_1171 (by decide) rfl ?_
  refine gz_eqw (ws2 := LwW cI cJ cZ a b o r1 u3 f1) rfl ?_
  exact gz_tailI F 1173 hR.2.1 hth hKr (fun q => (hB q).1) hcs dL_law_1173 dL_law_1174 dL_law_1177 dL_law_1179 dL_law_1184 dL_law_1186 dL_law_1189 dL_law_1190 dL_law_1191 dL_law_1192 dL_law_1194 dL_law_1195 dL_law_1196 dL_law_1201 (by decide) (kk r1 u3 f1 hR)

set_option maxHeartbeats 4000000 in
set_option maxRecDepth 100000 in
theorem law_k17 (hfl : l.stackTraces = false) (F : gF p s m args c cL_law 7 RL wsL_law D cI cJ cZ A) (FX : gFX l s A) (NC : gz_NC s) {bs L : Nat} {xs : Nat → Int32} (hX : va_X bs L xs s s.heap) (hbl : bs < s.heap.size) (hbA : ¬ A bs) (hL : L < 2147483648) {a b : Nat → Nat} {o : Nat} {r : RiS} {u : MdS} {f : Nat → Int64} {j : Nat} {i : Int} (h : RR j r u) (hj : j < 512) (hi : 0 ≤ i ∧ i + 5 ≤ (L : Int)) (hcs : cells + 1 ≤ 1139 ∧ slots + 6 ≤ 13920) (kk : ∀ (r2 : RiS) (u2 : MdS) (f2 : Nat → Int64), RR (j + 1) r2 u2 → gG p l e room_1 s m args below meth c D A 7 Q (cells + 1) (slots + 6) (LwW cI cJ cZ a b o r2 u2 f2) (lvS bs (a 0) (b 0) o i) [] 1427) : gG p l e room_1 s m args below meth c D A 7 Q cells slots (LwW cI cJ cZ a b o r u f) (lvS bs (a 0) (b 0) o i) [] 1204 := by
  refine gz_aload_n (pc := 1204) F dL_law_1204 rfl 1 rfl ?_
  refine gz_arg (pc := 1205) (k := 1) F hX hbl hbA ⟨by omega, by omega⟩ hL 0 4 rfl rfl dL_law_1205 dL_law_1206 dL_law_1208 dL_law_1209 dL_law_1210 ?_
  refine gz_arg (pc := 1211) (k := 2) F hX hbl hbA ⟨by omega, by omega⟩ hL 0 4 rfl rfl dL_law_1211 dL_law_1212 dL_law_1214 dL_law_1215 dL_law_1216 ?_
  refine gz_aload_n (pc := 1217) F dL_law_1217 rfl 3 rfl ?_
  refine gz_callSY (pc := 1218) (n := 4) (As := [.ref (a 0), vI (sv xs (i + 1)), vI (sv xs (i + 2)), .ref o]) (rest := []) (bytes := cL_has) (maxL := 5) (ret := some .int) (hh := [(0, 10, 13, 13), (0, 10, 17, 15)]) F FX NC (ctL_has l hfl D cI cJ cZ a r o f (sv xs (i + 1)) (sv xs (i + 2)) h.1 (sv_r _ _) (sv_r _ _)) gL_law_L_has rfl ⟨rfl, rfl⟩ (by decide +kernel) ⟨Nat.le_of_ble_eq_true rfl, Nat.le_of_ble_eq_true rfl⟩ rfl (MdW cI cZ b u) [] (by rw [List.append_nil]) rfl (Nat.le_of_ble_eq_true rfl) hcs (gz_pW_sh (RiO_sh _ _)) dL_law_1218 (fun v W1 hv => ?_)
  obtain ⟨r1, f1, K, rfl, rfl, hK, hKr, h0, h1⟩ := pW_out gz_c2_r hv
  refine gz_eqw (ws2 := LwW cI cJ cZ a b o r1 u f1) (by rw [List.append_nil]) ?_
  refine gz_istore (pc := 1221) (lv2 := (5, vI K) :: lvS bs (a 0) (b 0) o i) F dL_law_1221 (by decide) rfl ?_
  refine gz_aload_n (pc := 1223) F dL_law_1223 rfl 3 rfl ?_
  refine gz_arg (pc := 1224) (k := 1) F hX hbl hbA ⟨by omega, by omega⟩ hL 1 5 rfl rfl dL_law_1224 dL_law_1225 dL_law_1227 dL_law_1228 dL_law_1229 ?_
  refine gz_arg (pc := 1230) (k := 2) F hX hbl hbA ⟨by omega, by omega⟩ hL 1 5 rfl rfl dL_law_1230 dL_law_1231 dL_law_1233 dL_law_1234 dL_law_1235 ?_
  refine gz_callVb (pc := 1236) (n := 2) (As := [vI (sv xs (i + 1)), vI (sv xs (i + 2))]) (rest := []) (bytes := cX9_has) (maxL := 3) (ret := some .int) F (ct_X9_has l D cI cJ cZ b u (sv xs (i + 1)) (sv xs (i + 2)) h.2.1 (sv_r _ _) (sv_r _ _)) gL_law_X9_has rfl ⟨rfl, rfl⟩ (by decide +kernel) ⟨Nat.le_of_ble_eq_true rfl, Nat.le_of_ble_eq_true rfl⟩ rfl [] (RiW cI cJ a r1 ++ [OuC cJ o f1]) rfl 9 rfl rfl rfl (Nat.le_of_ble_eq_true rfl) hcs (gz_pK_sh (MdW_sh _ _) (fun k => MdW_sh _ _)) dL_law_1236 (fun v W1 hv => ?_)
  obtain ⟨u3, B, rfl, rfl, hth, hR, hB⟩ := pK_out h (st_has h (sv xs (i + 1)) (sv xs (i + 2))) hK h0 h1 hv
  refine gz_istore (pc := 1239) (lv2 := (6, vI B) :: (5, vI K) :: lvS bs (a 0) (b 0) o i) F dL_law_1239 (by decide) rfl ?_
  refine gz_eqw (ws2 := LwW cI cJ cZ a b o r1 u3 f1) rfl ?_
  exact gz_tailI F 1241 hR.2.1 hth hKr (fun q => (hB q).1) hcs dL_law_1241 dL_law_1242 dL_law_1245 dL_law_1247 dL_law_1252 dL_law_1254 dL_law_1257 dL_law_1258 dL_law_1259 dL_law_1260 dL_law_1262 dL_law_1263 dL_law_1264 dL_law_1269 (by decide) (kk r1 u3 f1 hR)

set_option maxHeartbeats 4000000 in
set_option maxRecDepth 100000 in
theorem law_k18 (hfl : l.stackTraces = false) (F : gF p s m args c cL_law 7 RL wsL_law D cI cJ cZ A) (FX : gFX l s A) (NC : gz_NC s) {bs L : Nat} {xs : Nat → Int32} (hX : va_X bs L xs s s.heap) (hbl : bs < s.heap.size) (hbA : ¬ A bs) (hL : L < 2147483648) {a b : Nat → Nat} {o : Nat} {r : RiS} {u : MdS} {f : Nat → Int64} {j : Nat} {i : Int} (h : RR j r u) (hj : j < 512) (hi : 0 ≤ i ∧ i + 5 ≤ (L : Int)) (hcs : cells + 1 ≤ 1139 ∧ slots + 6 ≤ 13920) (kk : ∀ (r2 : RiS) (u2 : MdS) (f2 : Nat → Int64), RR (j + 1) r2 u2 → gG p l e room_1 s m args below meth c D A 7 Q (cells + 1) (slots + 6) (LwW cI cJ cZ a b o r2 u2 f2) (lvS bs (a 0) (b 0) o i) [] 1427) : gG p l e room_1 s m args below meth c D A 7 Q cells slots (LwW cI cJ cZ a b o r u f) (lvS bs (a 0) (b 0) o i) [] 1272 := by
  refine gz_aload_n (pc := 1272) F dL_law_1272 rfl 1 rfl ?_
  refine gz_arg (pc := 1273) (k := 1) F hX hbl hbA ⟨by omega, by omega⟩ hL 0 4 rfl rfl dL_law_1273 dL_law_1274 dL_law_1276 dL_law_1277 dL_law_1278 ?_
  refine gz_arg (pc := 1279) (k := 2) F hX hbl hbA ⟨by omega, by omega⟩ hL 0 4 rfl rfl dL_law_1279 dL_law_1280 dL_law_1282 dL_law_1283 dL_law_1284 ?_
  refine gz_aload_n (pc := 1285) F dL_law_1285 rfl 3 rfl ?_
  refine gz_callSY (pc := 1286) (n := 4) (As := [.ref (a 0), vI (sv xs (i + 1)), vI (sv xs (i + 2)), .ref o]) (rest := []) (bytes := cL_isFree) (maxL := 5) (ret := some .int) (hh := [(0, 17, 20, 13), (0, 17, 24, 15)]) F FX NC (ctL_isFree l hfl D cI cJ cZ a r o f (sv xs (i + 1)) (sv xs (i + 2)) h.1 (sv_r _ _) (sv_r _ _)) gL_law_L_isFree rfl ⟨rfl, rfl⟩ (by decide +kernel) ⟨Nat.le_of_ble_eq_true rfl, Nat.le_of_ble_eq_true rfl⟩ rfl (MdW cI cZ b u) [] (by rw [List.append_nil]) rfl (Nat.le_of_ble_eq_true rfl) hcs (gz_pW_sh (RiO_sh _ _)) dL_law_1286 (fun v W1 hv => ?_)
  obtain ⟨r1, f1, K, rfl, rfl, hK, hKr, h0, h1⟩ := pW_out gz_c2_r hv
  refine gz_eqw (ws2 := LwW cI cJ cZ a b o r1 u f1) (by rw [List.append_nil]) ?_
  refine gz_istore (pc := 1289) (lv2 := (5, vI K) :: lvS bs (a 0) (b 0) o i) F dL_law_1289 (by decide) rfl ?_
  refine gz_aload_n (pc := 1291) F dL_law_1291 rfl 3 rfl ?_
  refine gz_arg (pc := 1292) (k := 1) F hX hbl hbA ⟨by omega, by omega⟩ hL 1 5 rfl rfl dL_law_1292 dL_law_1293 dL_law_1295 dL_law_1296 dL_law_1297 ?_
  refine gz_arg (pc := 1298) (k := 2) F hX hbl hbA ⟨by omega, by omega⟩ hL 1 5 rfl rfl dL_law_1298 dL_law_1299 dL_law_1301 dL_law_1302 dL_law_1303 ?_
  refine gz_callVb (pc := 1304) (n := 2) (As := [vI (sv xs (i + 1)), vI (sv xs (i + 2))]) (rest := []) (bytes := cX9_isFree) (maxL := 3) (ret := some .boolean) F (ct_X9_isFree l D cI cJ cZ b u (sv xs (i + 1)) (sv xs (i + 2)) h.2.1 (sv_r _ _) (sv_r _ _)) gL_law_X9_isFree rfl ⟨rfl, rfl⟩ (by decide +kernel) ⟨Nat.le_of_ble_eq_true rfl, Nat.le_of_ble_eq_true rfl⟩ rfl [] (RiW cI cJ a r1 ++ [OuC cJ o f1]) rfl 9 rfl rfl rfl (Nat.le_of_ble_eq_true rfl) hcs (gz_pK_sh (MdW_sh _ _) (fun k => MdW_sh _ _)) dL_law_1304 (fun v W1 hv => ?_)
  obtain ⟨u3, B, rfl, rfl, hth, hR, hB⟩ := pK_out h (st_isFree h (sv xs (i + 1)) (sv xs (i + 2))) hK h0 h1 hv
  refine gz_istore (pc := 1307) (lv2 := (6, vI B) :: (5, vI K) :: lvS bs (a 0) (b 0) o i) F dL_law_1307 (by decide) rfl ?_
  refine gz_eqw (ws2 := LwW cI cJ cZ a b o r1 u3 f1) rfl ?_
  exact gz_tailB F 1309 hR.2.1 hth hKr (fun q => (hB q).1) (fun q => by rw [(hB q).2]; exact bz_or _) hcs dL_law_1309 dL_law_1310 dL_law_1313 dL_law_1315 dL_law_1320 dL_law_1322 dL_law_1325 dL_law_1326 dL_law_1327 dL_law_1328 dL_law_1330 dL_law_1333 dL_law_1334 dL_law_1337 dL_law_1338 dL_law_1339 dL_law_1344 (by decide) (kk r1 u3 f1 hR)

set_option maxHeartbeats 4000000 in
set_option maxRecDepth 100000 in
theorem law_k19 (hfl : l.stackTraces = false) (F : gF p s m args c cL_law 7 RL wsL_law D cI cJ cZ A) (FX : gFX l s A) (NC : gz_NC s) {bs L : Nat} {xs : Nat → Int32} (hX : va_X bs L xs s s.heap) (hbl : bs < s.heap.size) (hbA : ¬ A bs) (hL : L < 2147483648) {a b : Nat → Nat} {o : Nat} {r : RiS} {u : MdS} {f : Nat → Int64} {j : Nat} {i : Int} (h : RR j r u) (hj : j < 512) (hi : 0 ≤ i ∧ i + 5 ≤ (L : Int)) (hcs : cells + 1 ≤ 1139 ∧ slots + 6 ≤ 13920) (kk : ∀ (r2 : RiS) (u2 : MdS) (f2 : Nat → Int64), RR (j + 1) r2 u2 → gG p l e room_1 s m args below meth c D A 7 Q (cells + 1) (slots + 6) (LwW cI cJ cZ a b o r2 u2 f2) (lvS bs (a 0) (b 0) o i) [] 1427) : gG p l e room_1 s m args below meth c D A 7 Q cells slots (LwW cI cJ cZ a b o r u f) (lvS bs (a 0) (b 0) o i) [] 1347 := by
  refine gz_aload_n (pc := 1347) F dL_law_1347 rfl 1 rfl ?_
  refine gz_arg (pc := 1348) (k := 1) F hX hbl hbA ⟨by omega, by omega⟩ hL 0 4 rfl rfl dL_law_1348 dL_law_1349 dL_law_1351 dL_law_1352 dL_law_1353 ?_
  refine gz_arg (pc := 1354) (k := 2) F hX hbl hbA ⟨by omega, by omega⟩ hL 0 4 rfl rfl dL_law_1354 dL_law_1355 dL_law_1357 dL_law_1358 dL_law_1359 ?_
  refine gz_arg (pc := 1360) (k := 3) F hX hbl hbA ⟨by omega, by omega⟩ hL 0 4 rfl rfl dL_law_1360 dL_law_1361 dL_law_1363 dL_law_1364 dL_law_1365 ?_
  refine gz_aload_n (pc := 1366) F dL_law_1366 rfl 3 rfl ?_
  refine gz_callSY (pc := 1367) (n := 5) (As := [.ref (a 0), vI (sv xs (i + 1)), vI (sv xs (i + 2)), vI (sv xs (i + 3)), .ref o]) (rest := []) (bytes := cL_diary) (maxL := 6) (ret := some .int) (hh := [(0, 12, 15, 13), (0, 12, 19, 15)]) F FX NC (ctL_diary l hfl D cI cJ cZ a r o f (sv xs (i + 1)) (sv xs (i + 2)) (sv xs (i + 3)) h.1 (sv_r _ _) (sv_r _ _) (sv_r _ _)) gL_law_L_diary rfl ⟨rfl, rfl⟩ (by decide +kernel) ⟨Nat.le_of_ble_eq_true rfl, Nat.le_of_ble_eq_true rfl⟩ rfl (MdW cI cZ b u) [] (by rw [List.append_nil]) rfl (Nat.le_of_ble_eq_true rfl) hcs (gz_pW_sh (RiO_sh _ _)) dL_law_1367 (fun v W1 hv => ?_)
  obtain ⟨r1, f1, K, rfl, rfl, hK, hKr, h0, h1⟩ := pW_out gz_c2_r hv
  refine gz_eqw (ws2 := LwW cI cJ cZ a b o r1 u f1) (by rw [List.append_nil]) ?_
  refine gz_istore (pc := 1370) (lv2 := (5, vI K) :: lvS bs (a 0) (b 0) o i) F dL_law_1370 (by decide) rfl ?_
  refine gz_aload_n (pc := 1372) F dL_law_1372 rfl 3 rfl ?_
  refine gz_arg (pc := 1373) (k := 1) F hX hbl hbA ⟨by omega, by omega⟩ hL 1 5 rfl rfl dL_law_1373 dL_law_1374 dL_law_1376 dL_law_1377 dL_law_1378 ?_
  refine gz_arg (pc := 1379) (k := 2) F hX hbl hbA ⟨by omega, by omega⟩ hL 1 5 rfl rfl dL_law_1379 dL_law_1380 dL_law_1382 dL_law_1383 dL_law_1384 ?_
  refine gz_arg (pc := 1385) (k := 3) F hX hbl hbA ⟨by omega, by omega⟩ hL 1 5 rfl rfl dL_law_1385 dL_law_1386 dL_law_1388 dL_law_1389 dL_law_1390 ?_
  refine gz_callVb (pc := 1391) (n := 3) (As := [vI (sv xs (i + 1)), vI (sv xs (i + 2)), vI (sv xs (i + 3))]) (rest := []) (bytes := cX9_diary) (maxL := 8) (ret := some .char) F (ct_X9_diary l D cI cJ cZ b u (sv xs (i + 1)) (sv xs (i + 2)) (sv xs (i + 3)) h.2.1 (sv_r _ _) (sv_r _ _) (sv_r _ _)) gL_law_X9_diary rfl ⟨rfl, rfl⟩ (by decide +kernel) ⟨Nat.le_of_ble_eq_true rfl, Nat.le_of_ble_eq_true rfl⟩ rfl [] (RiW cI cJ a r1 ++ [OuC cJ o f1]) rfl 9 rfl rfl rfl (Nat.le_of_ble_eq_true rfl) hcs (gz_pK_sh (MdW_sh _ _) (fun k => MdW_sh _ _)) dL_law_1391 (fun v W1 hv => ?_)
  obtain ⟨u3, B, rfl, rfl, hth, hR, hB⟩ := pK_out h (st_diary h (sv xs (i + 1)) (sv xs (i + 2)) (sv xs (i + 3))) hK h0 h1 hv
  refine gz_istore (pc := 1394) (lv2 := (6, vI B) :: (5, vI K) :: lvS bs (a 0) (b 0) o i) F dL_law_1394 (by decide) rfl ?_
  refine gz_eqw (ws2 := LwW cI cJ cZ a b o r1 u3 f1) rfl ?_
  exact gz_tailI F 1396 hR.2.1 hth hKr (fun q => (hB q).1) hcs dL_law_1396 dL_law_1397 dL_law_1400 dL_law_1402 dL_law_1407 dL_law_1409 dL_law_1412 dL_law_1413 dL_law_1414 dL_law_1415 dL_law_1417 dL_law_1418 dL_law_1419 dL_law_1424 (by decide) (kk r1 u3 f1 hR)
end GZKc
