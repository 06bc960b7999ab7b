/-! ===== act, isAlike, isWhole, drawn; laid by wip/p23/gen/rest23.py ===== -/
set_option maxRecDepth 100000 in
theorem LwW_na (cI cJ : ClassId) (a b : Nat → Nat) (r r2 : RiS) (o : Nat) (f : Int → Int) : (RiW cI cJ a r ++ (RiW cI cJ b r2 ++ [NA cI o f]))[146]? = some (o, .inl (cI, 4, .inl (zA f))) := rfl
set_option maxRecDepth 100000 in
theorem LwW_naset (cI cJ : ClassId) (a b : Nat → Nat) (r r2 : RiS) (o : Nat) (f : Int → Int) (x : Nat × va_E) : (RiW cI cJ a r ++ (RiW cI cJ b r2 ++ [NA cI o f])).set 146 x = RiW cI cJ a r ++ (RiW cI cJ b r2 ++ [x]) := rfl
/-- refuses, whatever x is -/
theorem rf_0 (l : Launch) (hfl : l.stackTraces = false) (D : va_G) (cI cJ cZ : ClassId) (a : Nat → Nat) (r : RiS) (o : Nat) (f : Int → Int) (x : Int) (hr : RiI r) (hnow : Pl_now (Ri_P r) = 0) (hmc : Mc_n (Pl_mc (Ri_P r)) = 0) (hmt : Mt_n (Pl_mt (Ri_P r)) = 0) (hbu : Bu_n (Pl_bu (Ri_P r)) = 0) (hsw : Sw_n (Ri_S r) = 0) (hf0 : f 0 = 0) (hf1 : f 1 = 0) (hf2 : f 2 = 0) (hf3 : f 3 = 0) (hx : 0 ≤ x ∧ x ≤ 9972) : gz_G l yL_refuses wsL_refuses { frames := 10, cells := 30, slots := 180, locals := 260 } D cI cJ cZ [.ref (a 0), .ref o, vI x] (RiW cI cJ a r ++ [NA cI o f]) (fun v W1 g => v = some (vI 1) ∧ W1 = RiW cI cJ a r ++ [NA cI o f] ∧ g = 30) 30 180 := by
  rcases Int.emod_two_eq x with h | h
  · exact rf_e0 l hfl D cI cJ cZ a r o f x hr hnow hmc hmt hbu hsw hf0 hf1 hf2 hf3 hx h
  · exact rf_o0 l hfl D cI cJ cZ a r o f x hr hnow hmc hmt hbu hsw hf0 hf1 hf2 hf3 hx h
theorem rf_1 (l : Launch) (hfl : l.stackTraces = false) (D : va_G) (cI cJ cZ : ClassId) (a : Nat → Nat) (r : RiS) (o : Nat) (f : Int → Int) (x : Int) (hr : RiI r) (hnow : Pl_now (Ri_P r) = 0) (hmc : Mc_n (Pl_mc (Ri_P r)) = 1) (hmt : Mt_n (Pl_mt (Ri_P r)) = 0) (hbu : Bu_n (Pl_bu (Ri_P r)) = 0) (hsw : Sw_n (Ri_S r) = 0) (hf0 : f 0 = 1) (hf1 : f 1 = 0) (hf2 : f 2 = 0) (hf3 : f 3 = 0) (hx : 0 ≤ x ∧ x ≤ 9972) : gz_G l yL_refuses wsL_refuses { frames := 10, cells := 37, slots := 222, locals := 260 } D cI cJ cZ [.ref (a 0), .ref o, vI x] (RiW cI cJ a r ++ [NA cI o f]) (fun v W1 g => v = some (vI 1) ∧ W1 = RiW cI cJ a r ++ [NA cI o f] ∧ g = 37) 37 222 := by
  rcases Int.emod_two_eq x with h | h
  · exact rf_e1 l hfl D cI cJ cZ a r o f x hr hnow hmc hmt hbu hsw hf0 hf1 hf2 hf3 hx h
  · exact rf_o1 l hfl D cI cJ cZ a r o f x hr hnow hmc hmt hbu hsw hf0 hf1 hf2 hf3 hx h
set_option maxHeartbeats 8000000 in
set_option maxRecDepth 100000 in
theorem ac_0 (l : Launch) (hfl : l.stackTraces = false) (D : va_G) (cI cJ cZ : ClassId) (a : Nat → Nat) (r : RiS) (o : Nat) (f : Int → Int) (x : Int) (hr : RiI r) (hnow : Pl_now (Ri_P r) = 0) (hmc : Mc_n (Pl_mc (Ri_P r)) = 0) (hmt : Mt_n (Pl_mt (Ri_P r)) = 0) (hbu : Bu_n (Pl_bu (Ri_P r)) = 0) (hsw : Sw_n (Ri_S r) = 0) (hf0 : f 0 = 0) (hf1 : f 1 = 0) (hf2 : f 2 = 0) (hf3 : f 3 = 0) (hx : 0 ≤ x ∧ x < 2000000000) (hx20 : x % 20 = 0) : gz_G l yL_act wsL_act { frames := 10, cells := 1, slots := 6, locals := 260 } D cI cJ cZ [.ref (a 0), .ref o, vI x] (RiW cI cJ a r ++ [NA cI o f]) (fun v W1 g => v = some (vI 0) ∧ W1 = RiW cI cJ a (Ri_tell r 0 (1 + ((x / 20) % 15)) (((x / 20) / 15) % 6) 0 0) ++ [NA cI o f] ∧ g = 0) 1 6 := by
  refine gh_ofG (cc := cL_act) (maxL := 6) (ty := .int) (own := RL) hfl (by decide) rfl rfl (Nat.le_of_ble_eq_true rfl) (lv0 := [(0, .ref (a 0)), (1, .ref o), (2, vI x)]) rfl ?_
  intro p e s m args below meth c A Q F FX NC Z
  refine gh_iload_n (pc := 0) F dL_act_0 rfl 2 rfl ?_
  refine gh_bipush (pc := 1) F dL_act_1 (by decide) ?_
  refine gh_idiv (pc := 3) (z := (x / 20)) F dL_act_3 (by omega) (by omega) rfl ?_
  refine gh_istore_n (pc := 4) (lv2 := [(3, vI (x / 20)), (0, .ref (a 0)), (1, .ref o), (2, vI x)]) F dL_act_4 rfl (by decide) rfl ?_
  refine gh_aload_n (pc := 5) F dL_act_5 rfl 2 rfl ?_
  refine gh_const (pc := 6) F dL_act_6 ?_
  refine gh_iald (pc := 7) (v := 0) F 73 (RiW_na _ _ _ _ _ _) ⟨by decide, by decide⟩ (by decide) hf0 dL_act_7 ?_
  refine gh_if_ne (pc := 8) (tgt := 15) F dL_act_8 (by decide) (by omega) (fun cz => absurd cz (by omega)) (fun _ => ?_)
  refine gh_const (pc := 11) F dL_act_11 ?_
  refine gh_goto (pc := 12) (tgt := 20) F dL_act_12 (by decide) ?_
  refine gh_istore (pc := 20) (lv2 := [(4, vI 0), (3, vI (x / 20)), (0, .ref (a 0)), (1, .ref o), (2, vI x)]) F dL_act_20 (by decide) rfl ?_
  refine gh_aload_n (pc := 22) F dL_act_22 rfl 3 rfl ?_
  refine gh_const (pc := 23) F dL_act_23 ?_
  refine gh_iald (pc := 24) (v := 0) F 73 (RiW_na _ _ _ _ _ _) ⟨by decide, by decide⟩ (by decide) hf1 dL_act_24 ?_
  refine gh_if_ne (pc := 25) (tgt := 32) F dL_act_25 (by decide) (by omega) (fun cz => absurd cz (by omega)) (fun _ => ?_)
  refine gh_const (pc := 28) F dL_act_28 ?_
  refine gh_goto (pc := 29) (tgt := 54) F dL_act_29 (by decide) ?_
  refine gh_istore (pc := 54) (lv2 := [(5, vI 0), (4, vI 0), (3, vI (x / 20)), (0, .ref (a 0)), (1, .ref o), (2, vI x)]) F dL_act_54 (by decide) rfl ?_
  refine gh_iload_n (pc := 56) F dL_act_56 rfl 5 rfl ?_
  refine gh_bipush (pc := 57) F dL_act_57 (by decide) ?_
  refine gh_irem (pc := 59) (z := (x % 20)) F dL_act_59 (by omega) (by omega) rfl ?_
  refine gh_tabIn (pc := 60) (tgt := 140) (k := 0) F dL_act_60 (by omega) (by decide) rfl (by decide) ?_
  refine gh_aload_n (pc := 140) F dL_act_140 rfl 3 rfl ?_
  refine gh_const (pc := 141) F dL_act_141 ?_
  refine gh_iload_n (pc := 142) F dL_act_142 rfl 2 rfl ?_
  refine gh_bipush (pc := 143) F dL_act_143 (by decide) ?_
  refine gh_irem (pc := 145) (z := ((x / 20) % 15)) F dL_act_145 (by omega) (by omega) rfl ?_
  refine gh_iadd (pc := 146) (z := (1 + ((x / 20) % 15))) F dL_act_146 rfl ?_
  refine gh_iload_n (pc := 147) F dL_act_147 rfl 2 rfl ?_
  refine gh_bipush (pc := 148) F dL_act_148 (by decide) ?_
  refine gh_idiv (pc := 150) (z := ((x / 20) / 15)) F dL_act_150 (by omega) (by omega) rfl ?_
  refine gh_bipush (pc := 151) F dL_act_151 (by decide) ?_
  refine gh_irem (pc := 153) (z := (((x / 20) / 15) % 6)) F dL_act_153 (by omega) (by omega) rfl ?_
  refine gh_ret (pc := 154) (n := 3) (As := [.ref (a 0), vI (1 + ((x / 20) % 15)), vI (((x / 20) / 15) % 6)]) (rest := []) (bytes := cL_machine) (maxL := 4) (hh := [(0, 6, 7, 13), (0, 6, 11, 16), (0, 6, 15, 19)]) (v0 := vI (Mc_n (Pl_mc (Ri_P r)))) F FX NC (ctL_machine l hfl D cI cJ cZ a r (1 + ((x / 20) % 15)) (((x / 20) / 15) % 6) hr ⟨by omega, by omega⟩ ⟨by omega, by omega⟩) ⟨by omega, by omega, by omega, trivial⟩ gL_act_L_machine rfl ⟨rfl, rfl⟩ (by decide +kernel) ⟨Nat.le_of_ble_eq_true rfl, Nat.le_of_ble_eq_true rfl⟩ rfl ([]) ([NA cI o f]) rfl rfl (Nat.le_of_ble_eq_true rfl) ⟨Nat.le_of_ble_eq_true rfl, Nat.le_of_ble_eq_true rfl⟩ (RiW_sh _ _) dL_act_154 ?_
  exact Z _ _ 157 _ _ dL_act_157 rfl ⟨by rw [hmc], rfl, rfl⟩
set_option maxHeartbeats 8000000 in
set_option maxRecDepth 100000 in
theorem ac_1 (l : Launch) (hfl : l.stackTraces = false) (D : va_G) (cI cJ cZ : ClassId) (a : Nat → Nat) (r : RiS) (o : Nat) (f : Int → Int) (x : Int) (hr : RiI r) (hnow : Pl_now (Ri_P r) = 0) (hmc : Mc_n (Pl_mc (Ri_P r)) = 1) (hmt : Mt_n (Pl_mt (Ri_P r)) = 0) (hbu : Bu_n (Pl_bu (Ri_P r)) = 0) (hsw : Sw_n (Ri_S r) = 0) (hf0 : f 0 = 1) (hf1 : f 1 = 0) (hf2 : f 2 = 0) (hf3 : f 3 = 0) (hx : 0 ≤ x ∧ x < 2000000000) (hx20 : x % 20 = 0) : gz_G l yL_act wsL_act { frames := 10, cells := 1, slots := 6, locals := 260 } D cI cJ cZ [.ref (a 0), .ref o, vI x] (RiW cI cJ a r ++ [NA cI o f]) (fun v W1 g => v = some (vI 1) ∧ W1 = RiW cI cJ a (Ri_tell r 0 (1 + ((x / 20) % 15)) (((x / 20) / 15) % 6) 0 0) ++ [NA cI o f] ∧ g = 0) 1 6 := by
  refine gh_ofG (cc := cL_act) (maxL := 6) (ty := .int) (own := RL) hfl (by decide) rfl rfl (Nat.le_of_ble_eq_true rfl) (lv0 := [(0, .ref (a 0)), (1, .ref o), (2, vI x)]) rfl ?_
  intro p e s m args below meth c A Q F FX NC Z
  refine gh_iload_n (pc := 0) F dL_act_0 rfl 2 rfl ?_
  refine gh_bipush (pc := 1) F dL_act_1 (by decide) ?_
  refine gh_idiv (pc := 3) (z := (x / 20)) F dL_act_3 (by omega) (by omega) rfl ?_
  refine gh_istore_n (pc := 4) (lv2 := [(3, vI (x / 20)), (0, .ref (a 0)), (1, .ref o), (2, vI x)]) F dL_act_4 rfl (by decide) rfl ?_
  refine gh_aload_n (pc := 5) F dL_act_5 rfl 2 rfl ?_
  refine gh_const (pc := 6) F dL_act_6 ?_
  refine gh_iald (pc := 7) (v := 1) F 73 (RiW_na _ _ _ _ _ _) ⟨by decide, by decide⟩ (by decide) hf0 dL_act_7 ?_
  refine gh_if_ne (pc := 8) (tgt := 15) F dL_act_8 (by decide) (by omega) (fun _ => ?_) (fun cz => absurd cz (by omega))
  refine gh_iload_n (pc := 15) F dL_act_15 rfl 0 rfl ?_
  refine gh_aload_n (pc := 16) F dL_act_16 rfl 2 rfl ?_
  refine gh_const (pc := 17) F dL_act_17 ?_
  refine gh_iald (pc := 18) (v := 1) F 73 (RiW_na _ _ _ _ _ _) ⟨by decide, by decide⟩ (by decide) hf0 dL_act_18 ?_
  refine gh_irem (pc := 19) (z := ((x / 20) % 1)) F dL_act_19 (by omega) (by omega) rfl ?_
  refine gh_istore (pc := 20) (lv2 := [(4, vI ((x / 20) % 1)), (3, vI (x / 20)), (0, .ref (a 0)), (1, .ref o), (2, vI x)]) F dL_act_20 (by decide) rfl ?_
  refine gh_aload_n (pc := 22) F dL_act_22 rfl 3 rfl ?_
  refine gh_const (pc := 23) F dL_act_23 ?_
  refine gh_iald (pc := 24) (v := 0) F 73 (RiW_na _ _ _ _ _ _) ⟨by decide, by decide⟩ (by decide) hf1 dL_act_24 ?_
  refine gh_if_ne (pc := 25) (tgt := 32) F dL_act_25 (by decide) (by omega) (fun cz => absurd cz (by omega)) (fun _ => ?_)
  refine gh_const (pc := 28) F dL_act_28 ?_
  refine gh_goto (pc := 29) (tgt := 54) F dL_act_29 (by decide) ?_
  refine gh_istore (pc := 54) (lv2 := [(5, vI 0), (4, vI ((x / 20) % 1)), (3, vI (x / 20)), (0, .ref (a 0)), (1, .ref o), (2, vI x)]) F dL_act_54 (by decide) rfl ?_
  refine gh_iload_n (pc := 56) F dL_act_56 rfl 5 rfl ?_
  refine gh_bipush (pc := 57) F dL_act_57 (by decide) ?_
  refine gh_irem (pc := 59) (z := (x % 20)) F dL_act_59 (by omega) (by omega) rfl ?_
  refine gh_tabIn (pc := 60) (tgt := 140) (k := 0) F dL_act_60 (by omega) (by decide) rfl (by decide) ?_
  refine gh_aload_n (pc := 140) F dL_act_140 rfl 3 rfl ?_
  refine gh_const (pc := 141) F dL_act_141 ?_
  refine gh_iload_n (pc := 142) F dL_act_142 rfl 2 rfl ?_
  refine gh_bipush (pc := 143) F dL_act_143 (by decide) ?_
  refine gh_irem (pc := 145) (z := ((x / 20) % 15)) F dL_act_145 (by omega) (by omega) rfl ?_
  refine gh_iadd (pc := 146) (z := (1 + ((x / 20) % 15))) F dL_act_146 rfl ?_
  refine gh_iload_n (pc := 147) F dL_act_147 rfl 2 rfl ?_
  refine gh_bipush (pc := 148) F dL_act_148 (by decide) ?_
  refine gh_idiv (pc := 150) (z := ((x / 20) / 15)) F dL_act_150 (by omega) (by omega) rfl ?_
  refine gh_bipush (pc := 151) F dL_act_151 (by decide) ?_
  refine gh_irem (pc := 153) (z := (((x / 20) / 15) % 6)) F dL_act_153 (by omega) (by omega) rfl ?_
  refine gh_ret (pc := 154) (n := 3) (As := [.ref (a 0), vI (1 + ((x / 20) % 15)), vI (((x / 20) / 15) % 6)]) (rest := []) (bytes := cL_machine) (maxL := 4) (hh := [(0, 6, 7, 13), (0, 6, 11, 16), (0, 6, 15, 19)]) (v0 := vI (Mc_n (Pl_mc (Ri_P r)))) F FX NC (ctL_machine l hfl D cI cJ cZ a r (1 + ((x / 20) % 15)) (((x / 20) / 15) % 6) hr ⟨by omega, by omega⟩ ⟨by omega, by omega⟩) ⟨by omega, by omega, by omega, trivial⟩ gL_act_L_machine rfl ⟨rfl, rfl⟩ (by decide +kernel) ⟨Nat.le_of_ble_eq_true rfl, Nat.le_of_ble_eq_true rfl⟩ rfl ([]) ([NA cI o f]) rfl rfl (Nat.le_of_ble_eq_true rfl) ⟨Nat.le_of_ble_eq_true rfl, Nat.le_of_ble_eq_true rfl⟩ (RiW_sh _ _) dL_act_154 ?_
  exact Z _ _ 157 _ _ dL_act_157 rfl ⟨by rw [hmc], rfl, rfl⟩
set_option maxHeartbeats 8000000 in
set_option maxRecDepth 100000 in
theorem wh_1 (l : Launch) (hfl : l.stackTraces = false) (D : va_G) (cI cJ cZ : ClassId) (a : Nat → Nat) (r : RiS) (o : Nat) (f : Int → Int) (hr : RiI r) (hnow : Pl_now (Ri_P r) = 0) (hmc : Mc_n (Pl_mc (Ri_P r)) = 1) (hmt : Mt_n (Pl_mt (Ri_P r)) = 0) (hbu : Bu_n (Pl_bu (Ri_P r)) = 0) (hsw : Sw_n (Ri_S r) = 0) (hf0 : f 0 = 1) (hf1 : f 1 = 0) (hf2 : f 2 = 0) (hf3 : f 3 = 0) : gz_G l yL_isWhole wsL_isWhole { frames := 10, cells := 0, slots := 0, locals := 260 } D cI cJ cZ [.ref (a 0), .ref o] (RiW cI cJ a r ++ [NA cI o f]) (fun v W1 g => v = some (vI 1) ∧ W1 = RiW cI cJ a r ++ [NA cI o f] ∧ g = 0) 0 0 := by
  refine gh_ofG (cc := cL_isWhole) (maxL := 9) (ty := .boolean) (own := RL) hfl (by decide) rfl rfl (Nat.le_of_ble_eq_true rfl) (lv0 := [(0, .ref (a 0)), (1, .ref o)]) rfl ?_
  intro p e s m args below meth c A Q F FX NC Z
  refine gh_const (pc := 0) F dL_isWhole_0 ?_
  refine gh_istore_n (pc := 1) (lv2 := [(2, vI 1), (0, .ref (a 0)), (1, .ref o)]) F dL_isWhole_1 rfl (by decide) rfl ?_
  refine gh_const (pc := 2) F dL_isWhole_2 ?_
  refine gh_istore_n (pc := 3) (lv2 := [(3, vI 0), (2, vI 1), (0, .ref (a 0)), (1, .ref o)]) F dL_isWhole_3 rfl (by decide) rfl ?_
  refine gh_iload_n (pc := 4) F dL_isWhole_4 rfl 0 rfl ?_
  refine gh_aload_n (pc := 5) F dL_isWhole_5 rfl 3 rfl ?_
  refine gh_const (pc := 6) F dL_isWhole_6 ?_
  refine gh_iald (pc := 7) (v := 0) F 73 (RiW_na _ _ _ _ _ _) ⟨by decide, by decide⟩ (by decide) hf2 dL_isWhole_7 ?_
  refine gh_icmp_ge (pc := 8) (tgt := 186) F dL_isWhole_8 (by decide) (by omega) (by omega) (fun _ => ?_) (fun cz => absurd cz (by omega))
  refine gh_const (pc := 186) F dL_isWhole_186 ?_
  refine gh_istore_n (pc := 187) (lv2 := [(3, vI 0), (2, vI 1), (0, .ref (a 0)), (1, .ref o)]) F dL_isWhole_187 rfl (by decide) rfl ?_
  refine gh_iload_n (pc := 188) F dL_isWhole_188 rfl 0 rfl ?_
  refine gh_aload_n (pc := 189) F dL_isWhole_189 rfl 3 rfl ?_
  refine gh_const (pc := 190) F dL_isWhole_190 ?_
  refine gh_iald (pc := 191) (v := 0) F 73 (RiW_na _ _ _ _ _ _) ⟨by decide, by decide⟩ (by decide) hf1 dL_isWhole_191 ?_
  refine gh_icmp_ge (pc := 192) (tgt := 581) F dL_isWhole_192 (by decide) (by omega) (by omega) (fun _ => ?_) (fun cz => absurd cz (by omega))
  refine gh_iload_n (pc := 581) F dL_isWhole_581 rfl 1 rfl ?_
  exact Z _ _ 582 _ _ dL_isWhole_582 rfl ⟨rfl, rfl, rfl⟩
