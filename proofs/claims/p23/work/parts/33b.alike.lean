/-! ===== act, isAlike, isWhole, drawn; laid by wip/p23/gen/rest23.py ===== -/
set_option maxHeartbeats 8000000 in
set_option maxRecDepth 100000 in
theorem al_1 (l : Launch) (hfl : l.stackTraces = false) (D : va_G) (cI cJ cZ : ClassId) (a : Nat → Nat) (b : Nat → Nat) (r : RiS) (o : Nat) (f : Int → Int) (hr : RiI r) (hnow : Pl_now (Ri_P r) = 0) (hmc : Mc_n (Pl_mc (Ri_P r)) = 1) (hmt : Mt_n (Pl_mt (Ri_P r)) = 0) (hbu : Bu_n (Pl_bu (Ri_P r)) = 0) (hsw : Sw_n (Ri_S r) = 0) (hf0 : f 0 = 1) (hf1 : f 1 = 0) (hf2 : f 2 = 0) (hf3 : f 3 = 0) : gz_G l yL_isAlike wsL_isAlike { frames := 10, cells := 62, slots := 372, locals := 260 } D cI cJ cZ [.ref (a 0), .ref (b 0), .ref o, vI 0] (RiW cI cJ a r ++ (RiW cI cJ b r ++ [NA cI o f])) (fun v W1 g => v = some (vI 1) ∧ W1 = RiW cI cJ a r ++ (RiW cI cJ b r ++ [NA cI o f]) ∧ g = 40) 62 372 := by
  refine gh_ofG (cc := cL_isAlike) (maxL := 10) (ty := .boolean) (own := RL) hfl (by decide) rfl rfl (Nat.le_of_ble_eq_true rfl) (lv0 := [(0, .ref (a 0)), (1, .ref (b 0)), (2, .ref o), (3, vI 0)]) rfl ?_
  intro p e s m args below meth c A Q F FX NC Z
  refine gh_aload_n (pc := 0) F dL_isAlike_0 rfl 2 rfl ?_
  refine gh_const (pc := 1) F dL_isAlike_1 ?_
  refine gh_iald (pc := 2) (v := 1) F 146 (LwW_na _ _ _ _ _ _ _ _) ⟨by decide, by decide⟩ (by decide) hf0 dL_isAlike_2 ?_
  refine gh_if_ne (pc := 3) (tgt := 10) F dL_isAlike_3 (by decide) (by omega) (fun _ => ?_) (fun cz => absurd cz (by omega))
  refine gh_iload_n (pc := 10) F dL_isAlike_10 rfl 3 rfl ?_
  refine gh_aload_n (pc := 11) F dL_isAlike_11 rfl 2 rfl ?_
  refine gh_const (pc := 12) F dL_isAlike_12 ?_
  refine gh_iald (pc := 13) (v := 1) F 146 (LwW_na _ _ _ _ _ _ _ _) ⟨by decide, by decide⟩ (by decide) hf0 dL_isAlike_13 ?_
  refine gh_irem (pc := 14) (z := 0) F dL_isAlike_14 (by omega) (by omega) rfl ?_
  refine gh_istore (pc := 15) (lv2 := [(4, vI 0), (0, .ref (a 0)), (1, .ref (b 0)), (2, .ref o), (3, vI 0)]) F dL_isAlike_15 (by decide) rfl ?_
  refine gh_aload_n (pc := 17) F dL_isAlike_17 rfl 3 rfl ?_
  refine gh_const (pc := 18) F dL_isAlike_18 ?_
  refine gh_iald (pc := 19) (v := 0) F 146 (LwW_na _ _ _ _ _ _ _ _) ⟨by decide, by decide⟩ (by decide) hf1 dL_isAlike_19 ?_
  refine gh_if_ne (pc := 20) (tgt := 27) F dL_isAlike_20 (by decide) (by omega) (fun cz => absurd cz (by omega)) (fun _ => ?_)
  refine gh_const (pc := 23) F dL_isAlike_23 ?_
  refine gh_goto (pc := 24) (tgt := 32) F dL_isAlike_24 (by decide) ?_
  refine gh_istore (pc := 32) (lv2 := [(5, vI 0), (4, vI 0), (0, .ref (a 0)), (1, .ref (b 0)), (2, .ref o), (3, vI 0)]) F dL_isAlike_32 (by decide) rfl ?_
  refine gh_aload_n (pc := 34) F dL_isAlike_34 rfl 4 rfl ?_
  refine gh_const (pc := 35) F dL_isAlike_35 ?_
  refine gh_iald (pc := 36) (v := 0) F 146 (LwW_na _ _ _ _ _ _ _ _) ⟨by decide, by decide⟩ (by decide) hf2 dL_isAlike_36 ?_
  refine gh_if_ne (pc := 37) (tgt := 44) F dL_isAlike_37 (by decide) (by omega) (fun cz => absurd cz (by omega)) (fun _ => ?_)
  refine gh_const (pc := 40) F dL_isAlike_40 ?_
  refine gh_goto (pc := 41) (tgt := 49) F dL_isAlike_41 (by decide) ?_
  refine gh_istore (pc := 49) (lv2 := [(6, vI 0), (5, vI 0), (4, vI 0), (0, .ref (a 0)), (1, .ref (b 0)), (2, .ref o), (3, vI 0)]) F dL_isAlike_49 (by decide) rfl ?_
  refine gh_iload_n (pc := 51) F dL_isAlike_51 rfl 6 rfl ?_
  refine gh_const (pc := 52) F dL_isAlike_52 ?_
  refine gh_idiv (pc := 53) (z := 0) F dL_isAlike_53 (by omega) (by omega) rfl ?_
  refine gh_sipush (pc := 54) F dL_isAlike_54 (by decide) ?_
  refine gh_irem (pc := 57) (z := 0) F dL_isAlike_57 (by omega) (by omega) rfl ?_
  refine gh_istore (pc := 58) (lv2 := [(7, vI 0), (6, vI 0), (5, vI 0), (4, vI 0), (0, .ref (a 0)), (1, .ref (b 0)), (2, .ref o), (3, vI 0)]) F dL_isAlike_58 (by decide) rfl ?_
  refine gh_aload_n (pc := 60) F dL_isAlike_60 rfl 4 rfl ?_
  refine gh_callI (pc := 61) (n := 0) (As := []) (rest := []) (bytes := cX8_slot) (maxL := 1) (ret := some .int) F (ct_X8_slot l D cI cJ cZ a r hr) gL_isAlike_X8_slot rfl ⟨rfl, rfl⟩ (by decide +kernel) ⟨Nat.le_of_ble_eq_true rfl, Nat.le_of_ble_eq_true rfl⟩ rfl ([]) (RiW cI cJ b r ++ [NA cI o f]) rfl 8 rfl rfl rfl (Nat.le_of_ble_eq_true rfl) ⟨Nat.le_of_ble_eq_true rfl, Nat.le_of_ble_eq_true rfl⟩ dL_isAlike_61 (fun q61 hq61 => ?_)
  have hz61 : q61 = 0 := (show q61 = Pl_now (Ri_P r) from hq61).trans hnow
  subst hz61
  refine gh_aload_n (pc := 64) F dL_isAlike_64 rfl 5 rfl ?_
  refine gh_callI (pc := 65) (n := 0) (As := []) (rest := [vI 0]) (bytes := cX8_slot) (maxL := 1) (ret := some .int) F (ct_X8_slot l D cI cJ cZ b r hr) gL_isAlike_X8_slot rfl ⟨rfl, rfl⟩ (by decide +kernel) ⟨Nat.le_of_ble_eq_true rfl, Nat.le_of_ble_eq_true rfl⟩ rfl (RiW cI cJ a r) ([NA cI o f]) rfl 8 rfl rfl rfl (Nat.le_of_ble_eq_true rfl) ⟨Nat.le_of_ble_eq_true rfl, Nat.le_of_ble_eq_true rfl⟩ dL_isAlike_65 (fun q65 hq65 => ?_)
  have hz65 : q65 = 0 := (show q65 = Pl_now (Ri_P r) from hq65).trans hnow
  subst hz65
  refine gh_icmp32_ne (pc := 68) F dL_isAlike_68 (tgt := 151) (by decide) ?_
  refine gh_aload_n (pc := 71) F dL_isAlike_71 rfl 4 rfl ?_
  refine gh_iload_n (pc := 72) F dL_isAlike_72 rfl 7 rfl ?_
  refine gh_bipush (pc := 73) F dL_isAlike_73 (by decide) ?_
  refine gh_irem (pc := 75) (z := 0) F dL_isAlike_75 (by omega) (by omega) rfl ?_
  refine gh_thr (pc := 76) (n := 2) (As := [.ref (a 0), vI 0]) (rest := []) (bytes := cL_swapOf) (maxL := 3) (hh := [(0, 5, 6, 13)]) (E := xIO) (z := (-2000000001)) F FX NC (ctL_swapOf l hfl D cI cJ cZ a r 0 hr ⟨by omega, by omega⟩) (Or.inl ⟨by omega, rfl⟩) gz_kN_O gL_isAlike_L_swapOf rfl ⟨rfl, rfl⟩ (by decide +kernel) ⟨Nat.le_of_ble_eq_true rfl, Nat.le_of_ble_eq_true rfl⟩ rfl ([]) (RiW cI cJ b r ++ [NA cI o f]) rfl rfl (Nat.le_of_ble_eq_true rfl) ⟨Nat.le_of_ble_eq_true rfl, Nat.le_of_ble_eq_true rfl⟩ (RiW_sh _ _) dL_isAlike_76 ?_
  refine gh_aload_n (pc := 79) F dL_isAlike_79 rfl 5 rfl ?_
  refine gh_iload_n (pc := 80) F dL_isAlike_80 rfl 7 rfl ?_
  refine gh_bipush (pc := 81) F dL_isAlike_81 (by decide) ?_
  refine gh_irem (pc := 83) (z := 0) F dL_isAlike_83 (by omega) (by omega) rfl ?_
  refine gh_thr (pc := 84) (n := 2) (As := [.ref (b 0), vI 0]) (rest := [vI (-2000000001)]) (bytes := cL_swapOf) (maxL := 3) (hh := [(0, 5, 6, 13)]) (E := xIO) (z := (-2000000001)) F FX NC (ctL_swapOf l hfl D cI cJ cZ b r 0 hr ⟨by omega, by omega⟩) (Or.inl ⟨by omega, rfl⟩) gz_kN_O gL_isAlike_L_swapOf rfl ⟨rfl, rfl⟩ (by decide +kernel) ⟨Nat.le_of_ble_eq_true rfl, Nat.le_of_ble_eq_true rfl⟩ rfl (RiW cI cJ a r) ([NA cI o f]) rfl rfl (Nat.le_of_ble_eq_true rfl) ⟨Nat.le_of_ble_eq_true rfl, Nat.le_of_ble_eq_true rfl⟩ (RiW_sh _ _) dL_isAlike_84 ?_
  refine gh_icmp32_ne (pc := 87) F dL_isAlike_87 (tgt := 151) (by decide) ?_
  refine gh_aload_n (pc := 90) F dL_isAlike_90 rfl 4 rfl ?_
  refine gh_iload (pc := 91) F dL_isAlike_91 1 rfl ?_
  refine gh_thr (pc := 93) (n := 2) (As := [.ref (a 0), vI 0]) (rest := []) (bytes := cL_anew) (maxL := 3) (hh := [(0, 5, 6, 13)]) (E := xIO) (z := (-2000000001)) F FX NC (ctL_anew l hfl D cI cJ cZ a r 0 hr ⟨by omega, by omega⟩) (Or.inl ⟨by omega, rfl⟩) gz_kN_O gL_isAlike_L_anew rfl ⟨rfl, rfl⟩ (by decide +kernel) ⟨Nat.le_of_ble_eq_true rfl, Nat.le_of_ble_eq_true rfl⟩ rfl ([]) (RiW cI cJ b r ++ [NA cI o f]) rfl rfl (Nat.le_of_ble_eq_true rfl) ⟨Nat.le_of_ble_eq_true rfl, Nat.le_of_ble_eq_true rfl⟩ (RiW_sh _ _) dL_isAlike_93 ?_
  refine gh_aload_n (pc := 96) F dL_isAlike_96 rfl 5 rfl ?_
  refine gh_iload (pc := 97) F dL_isAlike_97 1 rfl ?_
  refine gh_thr (pc := 99) (n := 2) (As := [.ref (b 0), vI 0]) (rest := [vI (-2000000001)]) (bytes := cL_anew) (maxL := 3) (hh := [(0, 5, 6, 13)]) (E := xIO) (z := (-2000000001)) F FX NC (ctL_anew l hfl D cI cJ cZ b r 0 hr ⟨by omega, by omega⟩) (Or.inl ⟨by omega, rfl⟩) gz_kN_O gL_isAlike_L_anew rfl ⟨rfl, rfl⟩ (by decide +kernel) ⟨Nat.le_of_ble_eq_true rfl, Nat.le_of_ble_eq_true rfl⟩ rfl (RiW cI cJ a r) ([NA cI o f]) rfl rfl (Nat.le_of_ble_eq_true rfl) ⟨Nat.le_of_ble_eq_true rfl, Nat.le_of_ble_eq_true rfl⟩ (RiW_sh _ _) dL_isAlike_99 ?_
  refine gh_icmp32_ne (pc := 102) F dL_isAlike_102 (tgt := 151) (by decide) ?_
  refine gh_aload_n (pc := 105) F dL_isAlike_105 rfl 4 rfl ?_
  refine gh_iload (pc := 106) F dL_isAlike_106 3 rfl ?_
  refine gh_iload (pc := 108) F dL_isAlike_108 0 rfl ?_
  refine gh_ret (pc := 110) (n := 3) (As := [.ref (a 0), vI 0, vI 0]) (rest := []) (bytes := cL_has) (maxL := 4) (hh := [(0, 6, 7, 13), (0, 6, 11, 16)]) (v0 := vI (Pl_hold (Ri_P r) 0 0)) F FX NC (ctL_has l hfl D cI cJ cZ a r 0 0 hr ⟨by omega, by omega⟩ ⟨by omega, by omega⟩) ⟨by omega, by omega, trivial⟩ gL_isAlike_L_has rfl ⟨rfl, rfl⟩ (by decide +kernel) ⟨Nat.le_of_ble_eq_true rfl, Nat.le_of_ble_eq_true rfl⟩ rfl ([]) (RiW cI cJ b r ++ [NA cI o f]) rfl rfl (Nat.le_of_ble_eq_true rfl) ⟨Nat.le_of_ble_eq_true rfl, Nat.le_of_ble_eq_true rfl⟩ (RiW_sh _ _) dL_isAlike_110 ?_
  refine gh_aload_n (pc := 113) F dL_isAlike_113 rfl 5 rfl ?_
  refine gh_iload (pc := 114) F dL_isAlike_114 3 rfl ?_
  refine gh_iload (pc := 116) F dL_isAlike_116 0 rfl ?_
  refine gh_ret (pc := 118) (n := 3) (As := [.ref (b 0), vI 0, vI 0]) (rest := [vI (Pl_hold (Ri_P r) 0 0)]) (bytes := cL_has) (maxL := 4) (hh := [(0, 6, 7, 13), (0, 6, 11, 16)]) (v0 := vI (Pl_hold (Ri_P r) 0 0)) F FX NC (ctL_has l hfl D cI cJ cZ b r 0 0 hr ⟨by omega, by omega⟩ ⟨by omega, by omega⟩) ⟨by omega, by omega, trivial⟩ gL_isAlike_L_has rfl ⟨rfl, rfl⟩ (by decide +kernel) ⟨Nat.le_of_ble_eq_true rfl, Nat.le_of_ble_eq_true rfl⟩ rfl (RiW cI cJ a r) ([NA cI o f]) rfl rfl (Nat.le_of_ble_eq_true rfl) ⟨Nat.le_of_ble_eq_true rfl, Nat.le_of_ble_eq_true rfl⟩ (RiW_sh _ _) dL_isAlike_118 ?_
  refine gh_icmp32_ne (pc := 121) F dL_isAlike_121 (tgt := 151) (by decide) ?_
  refine gh_aload_n (pc := 124) F dL_isAlike_124 rfl 4 rfl ?_
  refine gh_iload_n (pc := 125) F dL_isAlike_125 rfl 7 rfl ?_
  refine gh_bipush (pc := 126) F dL_isAlike_126 (by decide) ?_
  refine gh_irem (pc := 128) (z := 0) F dL_isAlike_128 (by omega) (by omega) rfl ?_
  refine gh_iload (pc := 129) F dL_isAlike_129 0 rfl ?_
  refine gh_ret (pc := 131) (n := 3) (As := [.ref (a 0), vI 0, vI 0]) (rest := []) (bytes := cL_isFree) (maxL := 4) (hh := [(0, 14, 15, 13), (0, 14, 19, 16)]) (v0 := vI (bz (¬ (Mt_busy (Pl_mt (Ri_P r)) (Mt_n (Pl_mt (Ri_P r))) (0 : Int).toNat 0 1 (-1) ∨ Lv_off (Pl_lv (Ri_P r)) ((0 : Int).toNat : Int) 0)))) F FX NC (ctL_isFree l hfl D cI cJ cZ a r 0 0 hr ⟨by omega, by omega⟩ ⟨by omega, by omega⟩) ⟨by omega, by omega, trivial⟩ gL_isAlike_L_isFree rfl ⟨rfl, rfl⟩ (by decide +kernel) ⟨Nat.le_of_ble_eq_true rfl, Nat.le_of_ble_eq_true rfl⟩ rfl ([]) (RiW cI cJ b r ++ [NA cI o f]) rfl rfl (Nat.le_of_ble_eq_true rfl) ⟨Nat.le_of_ble_eq_true rfl, Nat.le_of_ble_eq_true rfl⟩ (RiW_sh _ _) dL_isAlike_131 ?_
  refine gh_aload_n (pc := 134) F dL_isAlike_134 rfl 5 rfl ?_
  refine gh_iload_n (pc := 135) F dL_isAlike_135 rfl 7 rfl ?_
  refine gh_bipush (pc := 136) F dL_isAlike_136 (by decide) ?_
  refine gh_irem (pc := 138) (z := 0) F dL_isAlike_138 (by omega) (by omega) rfl ?_
  refine gh_iload (pc := 139) F dL_isAlike_139 0 rfl ?_
  refine gh_ret (pc := 141) (n := 3) (As := [.ref (b 0), vI 0, vI 0]) (rest := [vI (bz (¬ (Mt_busy (Pl_mt (Ri_P r)) (Mt_n (Pl_mt (Ri_P r))) (0 : Int).toNat 0 1 (-1) ∨ Lv_off (Pl_lv (Ri_P r)) ((0 : Int).toNat : Int) 0)))]) (bytes := cL_isFree) (maxL := 4) (hh := [(0, 14, 15, 13), (0, 14, 19, 16)]) (v0 := vI (bz (¬ (Mt_busy (Pl_mt (Ri_P r)) (Mt_n (Pl_mt (Ri_P r))) (0 : Int).toNat 0 1 (-1) ∨ Lv_off (Pl_lv (Ri_P r)) ((0 : Int).toNat : Int) 0)))) F FX NC (ctL_isFree l hfl D cI cJ cZ b r 0 0 hr ⟨by omega, by omega⟩ ⟨by omega, by omega⟩) ⟨by omega, by omega, trivial⟩ gL_isAlike_L_isFree rfl ⟨rfl, rfl⟩ (by decide +kernel) ⟨Nat.le_of_ble_eq_true rfl, Nat.le_of_ble_eq_true rfl⟩ rfl (RiW cI cJ a r) ([NA cI o f]) rfl rfl (Nat.le_of_ble_eq_true rfl) ⟨Nat.le_of_ble_eq_true rfl, Nat.le_of_ble_eq_true rfl⟩ (RiW_sh _ _) dL_isAlike_141 ?_
  refine gh_icmp32_ne (pc := 144) F dL_isAlike_144 (tgt := 151) (by decide) ?_
  refine gh_const (pc := 147) F dL_isAlike_147 ?_
  refine gh_goto (pc := 148) (tgt := 152) F dL_isAlike_148 (by decide) ?_
  refine gh_istore (pc := 152) (lv2 := [(8, vI 1), (7, vI 0), (6, vI 0), (5, vI 0), (4, vI 0), (0, .ref (a 0)), (1, .ref (b 0)), (2, .ref o), (3, vI 0)]) F dL_isAlike_152 (by decide) rfl ?_
  refine gh_const (pc := 154) F dL_isAlike_154 ?_
  refine gh_istore (pc := 155) (lv2 := [(9, vI 0), (8, vI 1), (7, vI 0), (6, vI 0), (5, vI 0), (4, vI 0), (0, .ref (a 0)), (1, .ref (b 0)), (2, .ref o), (3, vI 0)]) F dL_isAlike_155 (by decide) rfl ?_
  refine gh_iload (pc := 157) F dL_isAlike_157 0 rfl ?_
  refine gh_bipush (pc := 159) F dL_isAlike_159 (by decide) ?_
  refine gh_icmp_ge (pc := 161) (tgt := 249) F dL_isAlike_161 (by decide) (by omega) (by omega) (fun cz => absurd cz (by omega)) (fun _ => ?_)
  refine gh_iload (pc := 164) F dL_isAlike_164 1 rfl ?_
  refine gh_if_eq (pc := 166) (tgt := 249) F dL_isAlike_166 (by decide) (by omega) (fun cz => absurd cz (by omega)) (fun _ => ?_)
  refine gh_aload_n (pc := 169) F dL_isAlike_169 rfl 6 rfl ?_
  refine gh_iload (pc := 170) F dL_isAlike_170 4 rfl ?_
  refine gh_iload (pc := 172) F dL_isAlike_172 0 rfl ?_
  refine gh_thr (pc := 174) (n := 3) (As := [.ref (a 0), vI 0, vI 0]) (rest := []) (bytes := cL_meetingOf) (maxL := 4) (hh := [(0, 6, 7, 13), (0, 6, 11, 16)]) (E := xIO) (z := (-2000000001)) F FX NC (ctL_meetingOf l hfl D cI cJ cZ a r 0 0 hr ⟨by omega, by omega⟩ ⟨by omega, by omega⟩) (Or.inl ⟨by omega, rfl⟩) gz_kN_O gL_isAlike_L_meetingOf rfl ⟨rfl, rfl⟩ (by decide +kernel) ⟨Nat.le_of_ble_eq_true rfl, Nat.le_of_ble_eq_true rfl⟩ rfl ([]) (RiW cI cJ b r ++ [NA cI o f]) rfl rfl (Nat.le_of_ble_eq_true rfl) ⟨Nat.le_of_ble_eq_true rfl, Nat.le_of_ble_eq_true rfl⟩ (RiW_sh _ _) dL_isAlike_174 ?_
  refine gh_aload_n (pc := 177) F dL_isAlike_177 rfl 7 rfl ?_
  refine gh_iload (pc := 178) F dL_isAlike_178 4 rfl ?_
  refine gh_iload (pc := 180) F dL_isAlike_180 0 rfl ?_
  refine gh_thr (pc := 182) (n := 3) (As := [.ref (b 0), vI 0, vI 0]) (rest := [vI (-2000000001)]) (bytes := cL_meetingOf) (maxL := 4) (hh := [(0, 6, 7, 13), (0, 6, 11, 16)]) (E := xIO) (z := (-2000000001)) F FX NC (ctL_meetingOf l hfl D cI cJ cZ b r 0 0 hr ⟨by omega, by omega⟩ ⟨by omega, by omega⟩) (Or.inl ⟨by omega, rfl⟩) gz_kN_O gL_isAlike_L_meetingOf rfl ⟨rfl, rfl⟩ (by decide +kernel) ⟨Nat.le_of_ble_eq_true rfl, Nat.le_of_ble_eq_true rfl⟩ rfl (RiW cI cJ a r) ([NA cI o f]) rfl rfl (Nat.le_of_ble_eq_true rfl) ⟨Nat.le_of_ble_eq_true rfl, Nat.le_of_ble_eq_true rfl⟩ (RiW_sh _ _) dL_isAlike_182 ?_
  refine gh_icmp32_ne (pc := 185) F dL_isAlike_185 (tgt := 240) (by decide) ?_
  refine gh_aload_n (pc := 188) F dL_isAlike_188 rfl 6 rfl ?_
  refine gh_iload (pc := 189) F dL_isAlike_189 3 rfl ?_
  refine gh_iload (pc := 191) F dL_isAlike_191 0 rfl ?_
  refine gh_thr (pc := 193) (n := 3) (As := [.ref (a 0), vI 0, vI 0]) (rest := []) (bytes := cL_buildOf) (maxL := 4) (hh := [(0, 6, 7, 13), (0, 6, 11, 16)]) (E := xIO) (z := (-2000000001)) F FX NC (ctL_buildOf l hfl D cI cJ cZ a r 0 0 hr ⟨by omega, by omega⟩ ⟨by omega, by omega⟩) (Or.inl ⟨by omega, rfl⟩) gz_kN_O gL_isAlike_L_buildOf rfl ⟨rfl, rfl⟩ (by decide +kernel) ⟨Nat.le_of_ble_eq_true rfl, Nat.le_of_ble_eq_true rfl⟩ rfl ([]) (RiW cI cJ b r ++ [NA cI o f]) rfl rfl (Nat.le_of_ble_eq_true rfl) ⟨Nat.le_of_ble_eq_true rfl, Nat.le_of_ble_eq_true rfl⟩ (RiW_sh _ _) dL_isAlike_193 ?_
  refine gh_aload_n (pc := 196) F dL_isAlike_196 rfl 7 rfl ?_
  refine gh_iload (pc := 197) F dL_isAlike_197 3 rfl ?_
  refine gh_iload (pc := 199) F dL_isAlike_199 0 rfl ?_
  refine gh_thr (pc := 201) (n := 3) (As := [.ref (b 0), vI 0, vI 0]) (rest := [vI (-2000000001)]) (bytes := cL_buildOf) (maxL := 4) (hh := [(0, 6, 7, 13), (0, 6, 11, 16)]) (E := xIO) (z := (-2000000001)) F FX NC (ctL_buildOf l hfl D cI cJ cZ b r 0 0 hr ⟨by omega, by omega⟩ ⟨by omega, by omega⟩) (Or.inl ⟨by omega, rfl⟩) gz_kN_O gL_isAlike_L_buildOf rfl ⟨rfl, rfl⟩ (by decide +kernel) ⟨Nat.le_of_ble_eq_true rfl, Nat.le_of_ble_eq_true rfl⟩ rfl (RiW cI cJ a r) ([NA cI o f]) rfl rfl (Nat.le_of_ble_eq_true rfl) ⟨Nat.le_of_ble_eq_true rfl, Nat.le_of_ble_eq_true rfl⟩ (RiW_sh _ _) dL_isAlike_201 ?_
  refine gh_icmp32_ne (pc := 204) F dL_isAlike_204 (tgt := 240) (by decide) ?_
  refine gh_aload_n (pc := 207) F dL_isAlike_207 rfl 6 rfl ?_
  refine gh_iload (pc := 208) F dL_isAlike_208 5 rfl ?_
  refine gh_iload (pc := 210) F dL_isAlike_210 2 rfl ?_
  refine gh_bipush (pc := 212) F dL_isAlike_212 (by decide) ?_
  refine gh_idiv (pc := 214) (z := 0) F dL_isAlike_214 (by omega) (by omega) rfl ?_
  refine gh_iload (pc := 215) F dL_isAlike_215 0 rfl ?_
  refine gh_ret (pc := 217) (n := 4) (As := [.ref (a 0), vI 0, vI 0, vI 0]) (rest := []) (bytes := cL_diary) (maxL := 5) (hh := [(0, 7, 8, 13), (0, 7, 13, 16)]) (v0 := vI (Dy (Ri_dy r 0 0) 0 8 0)) F FX NC (ctL_diary l hfl D cI cJ cZ a r 0 0 0 hr ⟨by omega, by omega⟩ ⟨by omega, by omega⟩ ⟨by omega, by omega⟩) ⟨by omega, by omega, by omega, trivial⟩ gL_isAlike_L_diary rfl ⟨rfl, rfl⟩ (by decide +kernel) ⟨Nat.le_of_ble_eq_true rfl, Nat.le_of_ble_eq_true rfl⟩ rfl ([]) (RiW cI cJ b r ++ [NA cI o f]) rfl rfl (Nat.le_of_ble_eq_true rfl) ⟨Nat.le_of_ble_eq_true rfl, Nat.le_of_ble_eq_true rfl⟩ (RiW_sh _ _) dL_isAlike_217 ?_
  refine gh_aload_n (pc := 220) F dL_isAlike_220 rfl 7 rfl ?_
  refine gh_iload (pc := 221) F dL_isAlike_221 5 rfl ?_
  refine gh_iload (pc := 223) F dL_isAlike_223 2 rfl ?_
  refine gh_bipush (pc := 225) F dL_isAlike_225 (by decide) ?_
  refine gh_idiv (pc := 227) (z := 0) F dL_isAlike_227 (by omega) (by omega) rfl ?_
  refine gh_iload (pc := 228) F dL_isAlike_228 0 rfl ?_
  refine gh_ret (pc := 230) (n := 4) (As := [.ref (b 0), vI 0, vI 0, vI 0]) (rest := [vI (Dy (Ri_dy r 0 0) 0 8 0)]) (bytes := cL_diary) (maxL := 5) (hh := [(0, 7, 8, 13), (0, 7, 13, 16)]) (v0 := vI (Dy (Ri_dy r 0 0) 0 8 0)) F FX NC (ctL_diary l hfl D cI cJ cZ b r 0 0 0 hr ⟨by omega, by omega⟩ ⟨by omega, by omega⟩ ⟨by omega, by omega⟩) ⟨by omega, by omega, by omega, trivial⟩ gL_isAlike_L_diary rfl ⟨rfl, rfl⟩ (by decide +kernel) ⟨Nat.le_of_ble_eq_true rfl, Nat.le_of_ble_eq_true rfl⟩ rfl (RiW cI cJ a r) ([NA cI o f]) rfl rfl (Nat.le_of_ble_eq_true rfl) ⟨Nat.le_of_ble_eq_true rfl, Nat.le_of_ble_eq_true rfl⟩ (RiW_sh _ _) dL_isAlike_230 ?_
  refine gh_icmp32_ne (pc := 233) F dL_isAlike_233 (tgt := 240) (by decide) ?_
  refine gh_const (pc := 236) F dL_isAlike_236 ?_
  refine gh_goto (pc := 237) (tgt := 241) F dL_isAlike_237 (by decide) ?_
  refine gh_istore (pc := 241) (lv2 := [(8, vI 1), (9, vI 0), (7, vI 0), (6, vI 0), (5, vI 0), (4, vI 0), (0, .ref (a 0)), (1, .ref (b 0)), (2, .ref o), (3, vI 0)]) F dL_isAlike_241 (by decide) rfl ?_
  refine gh_iinc (pc := 243) (lv2 := [(9, vI 1), (8, vI 1), (7, vI 0), (6, vI 0), (5, vI 0), (4, vI 0), (0, .ref (a 0)), (1, .ref (b 0)), (2, .ref o), (3, vI 0)]) F dL_isAlike_243 1 rfl (by decide) rfl ?_
  refine gh_goto (pc := 246) (tgt := 157) F dL_isAlike_246 (by decide) ?_
  refine gh_iload (pc := 157) F dL_isAlike_157 0 rfl ?_
  refine gh_bipush (pc := 159) F dL_isAlike_159 (by decide) ?_
  refine gh_icmp_ge (pc := 161) (tgt := 249) F dL_isAlike_161 (by decide) (by omega) (by omega) (fun cz => absurd cz (by omega)) (fun _ => ?_)
  refine gh_iload (pc := 164) F dL_isAlike_164 1 rfl ?_
  refine gh_if_eq (pc := 166) (tgt := 249) F dL_isAlike_166 (by decide) (by omega) (fun cz => absurd cz (by omega)) (fun _ => ?_)
  refine gh_aload_n (pc := 169) F dL_isAlike_169 rfl 6 rfl ?_
  refine gh_iload (pc := 170) F dL_isAlike_170 4 rfl ?_
  refine gh_iload (pc := 172) F dL_isAlike_172 0 rfl ?_
  refine gh_thr (pc := 174) (n := 3) (As := [.ref (a 0), vI 0, vI 1]) (rest := []) (bytes := cL_meetingOf) (maxL := 4) (hh := [(0, 6, 7, 13), (0, 6, 11, 16)]) (E := xIO) (z := (-2000000001)) F FX NC (ctL_meetingOf l hfl D cI cJ cZ a r 0 1 hr ⟨by omega, by omega⟩ ⟨by omega, by omega⟩) (Or.inl ⟨by omega, rfl⟩) gz_kN_O gL_isAlike_L_meetingOf rfl ⟨rfl, rfl⟩ (by decide +kernel) ⟨Nat.le_of_ble_eq_true rfl, Nat.le_of_ble_eq_true rfl⟩ rfl ([]) (RiW cI cJ b r ++ [NA cI o f]) rfl rfl (Nat.le_of_ble_eq_true rfl) ⟨Nat.le_of_ble_eq_true rfl, Nat.le_of_ble_eq_true rfl⟩ (RiW_sh _ _) dL_isAlike_174 ?_
  refine gh_aload_n (pc := 177) F dL_isAlike_177 rfl 7 rfl ?_
  refine gh_iload (pc := 178) F dL_isAlike_178 4 rfl ?_
  refine gh_iload (pc := 180) F dL_isAlike_180 0 rfl ?_
  refine gh_thr (pc := 182) (n := 3) (As := [.ref (b 0), vI 0, vI 1]) (rest := [vI (-2000000001)]) (bytes := cL_meetingOf) (maxL := 4) (hh := [(0, 6, 7, 13), (0, 6, 11, 16)]) (E := xIO) (z := (-2000000001)) F FX NC (ctL_meetingOf l hfl D cI cJ cZ b r 0 1 hr ⟨by omega, by omega⟩ ⟨by omega, by omega⟩) (Or.inl ⟨by omega, rfl⟩) gz_kN_O gL_isAlike_L_meetingOf rfl ⟨rfl, rfl⟩ (by decide +kernel) ⟨Nat.le_of_ble_eq_true rfl, Nat.le_of_ble_eq_true rfl⟩ rfl (RiW cI cJ a r) ([NA cI o f]) rfl rfl (Nat.le_of_ble_eq_true rfl) ⟨Nat.le_of_ble_eq_true rfl, Nat.le_of_ble_eq_true rfl⟩ (RiW_sh _ _) dL_isAlike_182 ?_
  refine gh_icmp32_ne (pc := 185) F dL_isAlike_185 (tgt := 240) (by decide) ?_
  refine gh_aload_n (pc := 188) F dL_isAlike_188 rfl 6 rfl ?_
  refine gh_iload (pc := 189) F dL_isAlike_189 3 rfl ?_
  refine gh_iload (pc := 191) F dL_isAlike_191 0 rfl ?_
  refine gh_thr (pc := 193) (n := 3) (As := [.ref (a 0), vI 0, vI 1]) (rest := []) (bytes := cL_buildOf) (maxL := 4) (hh := [(0, 6, 7, 13), (0, 6, 11, 16)]) (E := xIO) (z := (-2000000001)) F FX NC (ctL_buildOf l hfl D cI cJ cZ a r 0 1 hr ⟨by omega, by omega⟩ ⟨by omega, by omega⟩) (Or.inl ⟨by omega, rfl⟩) gz_kN_O gL_isAlike_L_buildOf rfl ⟨rfl, rfl⟩ (by decide +kernel) ⟨Nat.le_of_ble_eq_true rfl, Nat.le_of_ble_eq_true rfl⟩ rfl ([]) (RiW cI cJ b r ++ [NA cI o f]) rfl rfl (Nat.le_of_ble_eq_true rfl) ⟨Nat.le_of_ble_eq_true rfl, Nat.le_of_ble_eq_true rfl⟩ (RiW_sh _ _) dL_isAlike_193 ?_
  refine gh_aload_n (pc := 196) F dL_isAlike_196 rfl 7 rfl ?_
  refine gh_iload (pc := 197) F dL_isAlike_197 3 rfl ?_
  refine gh_iload (pc := 199) F dL_isAlike_199 0 rfl ?_
  refine gh_thr (pc := 201) (n := 3) (As := [.ref (b 0), vI 0, vI 1]) (rest := [vI (-2000000001)]) (bytes := cL_buildOf) (maxL := 4) (hh := [(0, 6, 7, 13), (0, 6, 11, 16)]) (E := xIO) (z := (-2000000001)) F FX NC (ctL_buildOf l hfl D cI cJ cZ b r 0 1 hr ⟨by omega, by omega⟩ ⟨by omega, by omega⟩) (Or.inl ⟨by omega, rfl⟩) gz_kN_O gL_isAlike_L_buildOf rfl ⟨rfl, rfl⟩ (by decide +kernel) ⟨Nat.le_of_ble_eq_true rfl, Nat.le_of_ble_eq_true rfl⟩ rfl (RiW cI cJ a r) ([NA cI o f]) rfl rfl (Nat.le_of_ble_eq_true rfl) ⟨Nat.le_of_ble_eq_true rfl, Nat.le_of_ble_eq_true rfl⟩ (RiW_sh _ _) dL_isAlike_201 ?_
  refine gh_icmp32_ne (pc := 204) F dL_isAlike_204 (tgt := 240) (by decide) ?_
  refine gh_aload_n (pc := 207) F dL_isAlike_207 rfl 6 rfl ?_
  refine gh_iload (pc := 208) F dL_isAlike_208 5 rfl ?_
  refine gh_iload (pc := 210) F dL_isAlike_210 2 rfl ?_
  refine gh_bipush (pc := 212) F dL_isAlike_212 (by decide) ?_
  refine gh_idiv (pc := 214) (z := 0) F dL_isAlike_214 (by omega) (by omega) rfl ?_
  refine gh_iload (pc := 215) F dL_isAlike_215 0 rfl ?_
  refine gh_ret (pc := 217) (n := 4) (As := [.ref (a 0), vI 0, vI 0, vI 1]) (rest := []) (bytes := cL_diary) (maxL := 5) (hh := [(0, 7, 8, 13), (0, 7, 13, 16)]) (v0 := vI (Dy (Ri_dy r 0 0) 1 8 0)) F FX NC (ctL_diary l hfl D cI cJ cZ a r 0 0 1 hr ⟨by omega, by omega⟩ ⟨by omega, by omega⟩ ⟨by omega, by omega⟩) ⟨by omega, by omega, by omega, trivial⟩ gL_isAlike_L_diary rfl ⟨rfl, rfl⟩ (by decide +kernel) ⟨Nat.le_of_ble_eq_true rfl, Nat.le_of_ble_eq_true rfl⟩ rfl ([]) (RiW cI cJ b r ++ [NA cI o f]) rfl rfl (Nat.le_of_ble_eq_true rfl) ⟨Nat.le_of_ble_eq_true rfl, Nat.le_of_ble_eq_true rfl⟩ (RiW_sh _ _) dL_isAlike_217 ?_
  refine gh_aload_n (pc := 220) F dL_isAlike_220 rfl 7 rfl ?_
  refine gh_iload (pc := 221) F dL_isAlike_221 5 rfl ?_
  refine gh_iload (pc := 223) F dL_isAlike_223 2 rfl ?_
  refine gh_bipush (pc := 225) F dL_isAlike_225 (by decide) ?_
  refine gh_idiv (pc := 227) (z := 0) F dL_isAlike_227 (by omega) (by omega) rfl ?_
  refine gh_iload (pc := 228) F dL_isAlike_228 0 rfl ?_
  refine gh_ret (pc := 230) (n := 4) (As := [.ref (b 0), vI 0, vI 0, vI 1]) (rest := [vI (Dy (Ri_dy r 0 0) 1 8 0)]) (bytes := cL_diary) (maxL := 5) (hh := [(0, 7, 8, 13), (0, 7, 13, 16)]) (v0 := vI (Dy (Ri_dy r 0 0) 1 8 0)) F FX NC (ctL_diary l hfl D cI cJ cZ b r 0 0 1 hr ⟨by omega, by omega⟩ ⟨by omega, by omega⟩ ⟨by omega, by omega⟩) ⟨by omega, by omega, by omega, trivial⟩ gL_isAlike_L_diary rfl ⟨rfl, rfl⟩ (by decide +kernel) ⟨Nat.le_of_ble_eq_true rfl, Nat.le_of_ble_eq_true rfl⟩ rfl (RiW cI cJ a r) ([NA cI o f]) rfl rfl (Nat.le_of_ble_eq_true rfl) ⟨Nat.le_of_ble_eq_true rfl, Nat.le_of_ble_eq_true rfl⟩ (RiW_sh _ _) dL_isAlike_230 ?_
  refine gh_icmp32_ne (pc := 233) F dL_isAlike_233 (tgt := 240) (by decide) ?_
  refine gh_const (pc := 236) F dL_isAlike_236 ?_
  refine gh_goto (pc := 237) (tgt := 241) F dL_isAlike_237 (by decide) ?_
  refine gh_istore (pc := 241) (lv2 := [(8, vI 1), (9, vI 1), (7, vI 0), (6, vI 0), (5, vI 0), (4, vI 0), (0, .ref (a 0)), (1, .ref (b 0)), (2, .ref o), (3, vI 0)]) F dL_isAlike_241 (by decide) rfl ?_
  refine gh_iinc (pc := 243) (lv2 := [(9, vI 2), (8, vI 1), (7, vI 0), (6, vI 0), (5, vI 0), (4, vI 0), (0, .ref (a 0)), (1, .ref (b 0)), (2, .ref o), (3, vI 0)]) F dL_isAlike_243 1 rfl (by decide) rfl ?_
  refine gh_goto (pc := 246) (tgt := 157) F dL_isAlike_246 (by decide) ?_
  refine gh_iload (pc := 157) F dL_isAlike_157 0 rfl ?_
  refine gh_bipush (pc := 159) F dL_isAlike_159 (by decide) ?_
  refine gh_icmp_ge (pc := 161) (tgt := 249) F dL_isAlike_161 (by decide) (by omega) (by omega) (fun cz => absurd cz (by omega)) (fun _ => ?_)
  refine gh_iload (pc := 164) F dL_isAlike_164 1 rfl ?_
  refine gh_if_eq (pc := 166) (tgt := 249) F dL_isAlike_166 (by decide) (by omega) (fun cz => absurd cz (by omega)) (fun _ => ?_)
  refine gh_aload_n (pc := 169) F dL_isAlike_169 rfl 6 rfl ?_
  refine gh_iload (pc := 170) F dL_isAlike_170 4 rfl ?_
  refine gh_iload (pc := 172) F dL_isAlike_172 0 rfl ?_
  refine gh_thr (pc := 174) (n := 3) (As := [.ref (a 0), vI 0, vI 2]) (rest := []) (bytes := cL_meetingOf) (maxL := 4) (hh := [(0, 6, 7, 13), (0, 6, 11, 16)]) (E := xIO) (z := (-2000000001)) F FX NC (ctL_meetingOf l hfl D cI cJ cZ a r 0 2 hr ⟨by omega, by omega⟩ ⟨by omega, by omega⟩) (Or.inl ⟨by omega, rfl⟩) gz_kN_O gL_isAlike_L_meetingOf rfl ⟨rfl, rfl⟩ (by decide +kernel) ⟨Nat.le_of_ble_eq_true rfl, Nat.le_of_ble_eq_true rfl⟩ rfl ([]) (RiW cI cJ b r ++ [NA cI o f]) rfl rfl (Nat.le_of_ble_eq_true rfl) ⟨Nat.le_of_ble_eq_true rfl, Nat.le_of_ble_eq_true rfl⟩ (RiW_sh _ _) dL_isAlike_174 ?_
  refine gh_aload_n (pc := 177) F dL_isAlike_177 rfl 7 rfl ?_
  refine gh_iload (pc := 178) F dL_isAlike_178 4 rfl ?_
  refine gh_iload (pc := 180) F dL_isAlike_180 0 rfl ?_
  refine gh_thr (pc := 182) (n := 3) (As := [.ref (b 0), vI 0, vI 2]) (rest := [vI (-2000000001)]) (bytes := cL_meetingOf) (maxL := 4) (hh := [(0, 6, 7, 13), (0, 6, 11, 16)]) (E := xIO) (z := (-2000000001)) F FX NC (ctL_meetingOf l hfl D cI cJ cZ b r 0 2 hr ⟨by omega, by omega⟩ ⟨by omega, by omega⟩) (Or.inl ⟨by omega, rfl⟩) gz_kN_O gL_isAlike_L_meetingOf rfl ⟨rfl, rfl⟩ (by decide +kernel) ⟨Nat.le_of_ble_eq_true rfl, Nat.le_of_ble_eq_true rfl⟩ rfl (RiW cI cJ a r) ([NA cI o f]) rfl rfl (Nat.le_of_ble_eq_true rfl) ⟨Nat.le_of_ble_eq_true rfl, Nat.le_of_ble_eq_true rfl⟩ (RiW_sh _ _) dL_isAlike_182 ?_
  refine gh_icmp32_ne (pc := 185) F dL_isAlike_185 (tgt := 240) (by decide) ?_
  refine gh_aload_n (pc := 188) F dL_isAlike_188 rfl 6 rfl ?_
  refine gh_iload (pc := 189) F dL_isAlike_189 3 rfl ?_
  refine gh_iload (pc := 191) F dL_isAlike_191 0 rfl ?_
  refine gh_thr (pc := 193) (n := 3) (As := [.ref (a 0), vI 0, vI 2]) (rest := []) (bytes := cL_buildOf) (maxL := 4) (hh := [(0, 6, 7, 13), (0, 6, 11, 16)]) (E := xIO) (z := (-2000000001)) F FX NC (ctL_buildOf l hfl D cI cJ cZ a r 0 2 hr ⟨by omega, by omega⟩ ⟨by omega, by omega⟩) (Or.inl ⟨by omega, rfl⟩) gz_kN_O gL_isAlike_L_buildOf rfl ⟨rfl, rfl⟩ (by decide +kernel) ⟨Nat.le_of_ble_eq_true rfl, Nat.le_of_ble_eq_true rfl⟩ rfl ([]) (RiW cI cJ b r ++ [NA cI o f]) rfl rfl (Nat.le_of_ble_eq_true rfl) ⟨Nat.le_of_ble_eq_true rfl, Nat.le_of_ble_eq_true rfl⟩ (RiW_sh _ _) dL_isAlike_193 ?_
  refine gh_aload_n (pc := 196) F dL_isAlike_196 rfl 7 rfl ?_
  refine gh_iload (pc := 197) F dL_isAlike_197 3 rfl ?_
  refine gh_iload (pc := 199) F dL_isAlike_199 0 rfl ?_
  refine gh_thr (pc := 201) (n := 3) (As := [.ref (b 0), vI 0, vI 2]) (rest := [vI (-2000000001)]) (bytes := cL_buildOf) (maxL := 4) (hh := [(0, 6, 7, 13), (0, 6, 11, 16)]) (E := xIO) (z := (-2000000001)) F FX NC (ctL_buildOf l hfl D cI cJ cZ b r 0 2 hr ⟨by omega, by omega⟩ ⟨by omega, by omega⟩) (Or.inl ⟨by omega, rfl⟩) gz_kN_O gL_isAlike_L_buildOf rfl ⟨rfl, rfl⟩ (by decide +kernel) ⟨Nat.le_of_ble_eq_true rfl, Nat.le_of_ble_eq_true rfl⟩ rfl (RiW cI cJ a r) ([NA cI o f]) rfl rfl (Nat.le_of_ble_eq_true rfl) ⟨Nat.le_of_ble_eq_true rfl, Nat.le_of_ble_eq_true rfl⟩ (RiW_sh _ _) dL_isAlike_201 ?_
  refine gh_icmp32_ne (pc := 204) F dL_isAlike_204 (tgt := 240) (by decide) ?_
  refine gh_aload_n (pc := 207) F dL_isAlike_207 rfl 6 rfl ?_
  refine gh_iload (pc := 208) F dL_isAlike_208 5 rfl ?_
  refine gh_iload (pc := 210) F dL_isAlike_210 2 rfl ?_
  refine gh_bipush (pc := 212) F dL_isAlike_212 (by decide) ?_
  refine gh_idiv (pc := 214) (z := 0) F dL_isAlike_214 (by omega) (by omega) rfl ?_
  refine gh_iload (pc := 215) F dL_isAlike_215 0 rfl ?_
  refine gh_ret (pc := 217) (n := 4) (As := [.ref (a 0), vI 0, vI 0, vI 2]) (rest := []) (bytes := cL_diary) (maxL := 5) (hh := [(0, 7, 8, 13), (0, 7, 13, 16)]) (v0 := vI (Dy (Ri_dy r 0 0) 2 8 0)) F FX NC (ctL_diary l hfl D cI cJ cZ a r 0 0 2 hr ⟨by omega, by omega⟩ ⟨by omega, by omega⟩ ⟨by omega, by omega⟩) ⟨by omega, by omega, by omega, trivial⟩ gL_isAlike_L_diary rfl ⟨rfl, rfl⟩ (by decide +kernel) ⟨Nat.le_of_ble_eq_true rfl, Nat.le_of_ble_eq_true rfl⟩ rfl ([]) (RiW cI cJ b r ++ [NA cI o f]) rfl rfl (Nat.le_of_ble_eq_true rfl) ⟨Nat.le_of_ble_eq_true rfl, Nat.le_of_ble_eq_true rfl⟩ (RiW_sh _ _) dL_isAlike_217 ?_
  refine gh_aload_n (pc := 220) F dL_isAlike_220 rfl 7 rfl ?_
  refine gh_iload (pc := 221) F dL_isAlike_221 5 rfl ?_
  refine gh_iload (pc := 223) F dL_isAlike_223 2 rfl ?_
  refine gh_bipush (pc := 225) F dL_isAlike_225 (by decide) ?_
  refine gh_idiv (pc := 227) (z := 0) F dL_isAlike_227 (by omega) (by omega) rfl ?_
  refine gh_iload (pc := 228) F dL_isAlike_228 0 rfl ?_
  refine gh_ret (pc := 230) (n := 4) (As := [.ref (b 0), vI 0, vI 0, vI 2]) (rest := [vI (Dy (Ri_dy r 0 0) 2 8 0)]) (bytes := cL_diary) (maxL := 5) (hh := [(0, 7, 8, 13), (0, 7, 13, 16)]) (v0 := vI (Dy (Ri_dy r 0 0) 2 8 0)) F FX NC (ctL_diary l hfl D cI cJ cZ b r 0 0 2 hr ⟨by omega, by omega⟩ ⟨by omega, by omega⟩ ⟨by omega, by omega⟩) ⟨by omega, by omega, by omega, trivial⟩ gL_isAlike_L_diary rfl ⟨rfl, rfl⟩ (by decide +kernel) ⟨Nat.le_of_ble_eq_true rfl, Nat.le_of_ble_eq_true rfl⟩ rfl (RiW cI cJ a r) ([NA cI o f]) rfl rfl (Nat.le_of_ble_eq_true rfl) ⟨Nat.le_of_ble_eq_true rfl, Nat.le_of_ble_eq_true rfl⟩ (RiW_sh _ _) dL_isAlike_230 ?_
  refine gh_icmp32_ne (pc := 233) F dL_isAlike_233 (tgt := 240) (by decide) ?_
  refine gh_const (pc := 236) F dL_isAlike_236 ?_
  refine gh_goto (pc := 237) (tgt := 241) F dL_isAlike_237 (by decide) ?_
  refine gh_istore (pc := 241) (lv2 := [(8, vI 1), (9, vI 2), (7, vI 0), (6, vI 0), (5, vI 0), (4, vI 0), (0, .ref (a 0)), (1, .ref (b 0)), (2, .ref o), (3, vI 0)]) F dL_isAlike_241 (by decide) rfl ?_
  refine gh_iinc (pc := 243) (lv2 := [(9, vI 3), (8, vI 1), (7, vI 0), (6, vI 0), (5, vI 0), (4, vI 0), (0, .ref (a 0)), (1, .ref (b 0)), (2, .ref o), (3, vI 0)]) F dL_isAlike_243 1 rfl (by decide) rfl ?_
  refine gh_goto (pc := 246) (tgt := 157) F dL_isAlike_246 (by decide) ?_
  refine gh_iload (pc := 157) F dL_isAlike_157 0 rfl ?_
  refine gh_bipush (pc := 159) F dL_isAlike_159 (by decide) ?_
  refine gh_icmp_ge (pc := 161) (tgt := 249) F dL_isAlike_161 (by decide) (by omega) (by omega) (fun cz => absurd cz (by omega)) (fun _ => ?_)
  refine gh_iload (pc := 164) F dL_isAlike_164 1 rfl ?_
  refine gh_if_eq (pc := 166) (tgt := 249) F dL_isAlike_166 (by decide) (by omega) (fun cz => absurd cz (by omega)) (fun _ => ?_)
  refine gh_aload_n (pc := 169) F dL_isAlike_169 rfl 6 rfl ?_
  refine gh_iload (pc := 170) F dL_isAlike_170 4 rfl ?_
  refine gh_iload (pc := 172) F dL_isAlike_172 0 rfl ?_
  refine gh_thr (pc := 174) (n := 3) (As := [.ref (a 0), vI 0, vI 3]) (rest := []) (bytes := cL_meetingOf) (maxL := 4) (hh := [(0, 6, 7, 13), (0, 6, 11, 16)]) (E := xIO) (z := (-2000000001)) F FX NC (ctL_meetingOf l hfl D cI cJ cZ a r 0 3 hr ⟨by omega, by omega⟩ ⟨by omega, by omega⟩) (Or.inl ⟨by omega, rfl⟩) gz_kN_O gL_isAlike_L_meetingOf rfl ⟨rfl, rfl⟩ (by decide +kernel) ⟨Nat.le_of_ble_eq_true rfl, Nat.le_of_ble_eq_true rfl⟩ rfl ([]) (RiW cI cJ b r ++ [NA cI o f]) rfl rfl (Nat.le_of_ble_eq_true rfl) ⟨Nat.le_of_ble_eq_true rfl, Nat.le_of_ble_eq_true rfl⟩ (RiW_sh _ _) dL_isAlike_174 ?_
  refine gh_aload_n (pc := 177) F dL_isAlike_177 rfl 7 rfl ?_
  refine gh_iload (pc := 178) F dL_isAlike_178 4 rfl ?_
  refine gh_iload (pc := 180) F dL_isAlike_180 0 rfl ?_
  refine gh_thr (pc := 182) (n := 3) (As := [.ref (b 0), vI 0, vI 3]) (rest := [vI (-2000000001)]) (bytes := cL_meetingOf) (maxL := 4) (hh := [(0, 6, 7, 13), (0, 6, 11, 16)]) (E := xIO) (z := (-2000000001)) F FX NC (ctL_meetingOf l hfl D cI cJ cZ b r 0 3 hr ⟨by omega, by omega⟩ ⟨by omega, by omega⟩) (Or.inl ⟨by omega, rfl⟩) gz_kN_O gL_isAlike_L_meetingOf rfl ⟨rfl, rfl⟩ (by decide +kernel) ⟨Nat.le_of_ble_eq_true rfl, Nat.le_of_ble_eq_true rfl⟩ rfl (RiW cI cJ a r) ([NA cI o f]) rfl rfl (Nat.le_of_ble_eq_true rfl) ⟨Nat.le_of_ble_eq_true rfl, Nat.le_of_ble_eq_true rfl⟩ (RiW_sh _ _) dL_isAlike_182 ?_
  refine gh_icmp32_ne (pc := 185) F dL_isAlike_185 (tgt := 240) (by decide) ?_
  refine gh_aload_n (pc := 188) F dL_isAlike_188 rfl 6 rfl ?_
  refine gh_iload (pc := 189) F dL_isAlike_189 3 rfl ?_
  refine gh_iload (pc := 191) F dL_isAlike_191 0 rfl ?_
  refine gh_thr (pc := 193) (n := 3) (As := [.ref (a 0), vI 0, vI 3]) (rest := []) (bytes := cL_buildOf) (maxL := 4) (hh := [(0, 6, 7, 13), (0, 6, 11, 16)]) (E := xIO) (z := (-2000000001)) F FX NC (ctL_buildOf l hfl D cI cJ cZ a r 0 3 hr ⟨by omega, by omega⟩ ⟨by omega, by omega⟩) (Or.inl ⟨by omega, rfl⟩) gz_kN_O gL_isAlike_L_buildOf rfl ⟨rfl, rfl⟩ (by decide +kernel) ⟨Nat.le_of_ble_eq_true rfl, Nat.le_of_ble_eq_true rfl⟩ rfl ([]) (RiW cI cJ b r ++ [NA cI o f]) rfl rfl (Nat.le_of_ble_eq_true rfl) ⟨Nat.le_of_ble_eq_true rfl, Nat.le_of_ble_eq_true rfl⟩ (RiW_sh _ _) dL_isAlike_193 ?_
  refine gh_aload_n (pc := 196) F dL_isAlike_196 rfl 7 rfl ?_
  refine gh_iload (pc := 197) F dL_isAlike_197 3 rfl ?_
  refine gh_iload (pc := 199) F dL_isAlike_199 0 rfl ?_
  refine gh_thr (pc := 201) (n := 3) (As := [.ref (b 0), vI 0, vI 3]) (rest := [vI (-2000000001)]) (bytes := cL_buildOf) (maxL := 4) (hh := [(0, 6, 7, 13), (0, 6, 11, 16)]) (E := xIO) (z := (-2000000001)) F FX NC (ctL_buildOf l hfl D cI cJ cZ b r 0 3 hr ⟨by omega, by omega⟩ ⟨by omega, by omega⟩) (Or.inl ⟨by omega, rfl⟩) gz_kN_O gL_isAlike_L_buildOf rfl ⟨rfl, rfl⟩ (by decide +kernel) ⟨Nat.le_of_ble_eq_true rfl, Nat.le_of_ble_eq_true rfl⟩ rfl (RiW cI cJ a r) ([NA cI o f]) rfl rfl (Nat.le_of_ble_eq_true rfl) ⟨Nat.le_of_ble_eq_true rfl, Nat.le_of_ble_eq_true rfl⟩ (RiW_sh _ _) dL_isAlike_201 ?_
  refine gh_icmp32_ne (pc := 204) F dL_isAlike_204 (tgt := 240) (by decide) ?_
  refine gh_aload_n (pc := 207) F dL_isAlike_207 rfl 6 rfl ?_
  refine gh_iload (pc := 208) F dL_isAlike_208 5 rfl ?_
  refine gh_iload (pc := 210) F dL_isAlike_210 2 rfl ?_
  refine gh_bipush (pc := 212) F dL_isAlike_212 (by decide) ?_
  refine gh_idiv (pc := 214) (z := 0) F dL_isAlike_214 (by omega) (by omega) rfl ?_
  refine gh_iload (pc := 215) F dL_isAlike_215 0 rfl ?_
  refine gh_ret (pc := 217) (n := 4) (As := [.ref (a 0), vI 0, vI 0, vI 3]) (rest := []) (bytes := cL_diary) (maxL := 5) (hh := [(0, 7, 8, 13), (0, 7, 13, 16)]) (v0 := vI (Dy (Ri_dy r 0 0) 3 8 0)) F FX NC (ctL_diary l hfl D cI cJ cZ a r 0 0 3 hr ⟨by omega, by omega⟩ ⟨by omega, by omega⟩ ⟨by omega, by omega⟩) ⟨by omega, by omega, by omega, trivial⟩ gL_isAlike_L_diary rfl ⟨rfl, rfl⟩ (by decide +kernel) ⟨Nat.le_of_ble_eq_true rfl, Nat.le_of_ble_eq_true rfl⟩ rfl ([]) (RiW cI cJ b r ++ [NA cI o f]) rfl rfl (Nat.le_of_ble_eq_true rfl) ⟨Nat.le_of_ble_eq_true rfl, Nat.le_of_ble_eq_true rfl⟩ (RiW_sh _ _) dL_isAlike_217 ?_
  refine gh_aload_n (pc := 220) F dL_isAlike_220 rfl 7 rfl ?_
  refine gh_iload (pc := 221) F dL_isAlike_221 5 rfl ?_
  refine gh_iload (pc := 223) F dL_isAlike_223 2 rfl ?_
  refine gh_bipush (pc := 225) F dL_isAlike_225 (by decide) ?_
  refine gh_idiv (pc := 227) (z := 0) F dL_isAlike_227 (by omega) (by omega) rfl ?_
  refine gh_iload (pc := 228) F dL_isAlike_228 0 rfl ?_
  refine gh_ret (pc := 230) (n := 4) (As := [.ref (b 0), vI 0, vI 0, vI 3]) (rest := [vI (Dy (Ri_dy r 0 0) 3 8 0)]) (bytes := cL_diary) (maxL := 5) (hh := [(0, 7, 8, 13), (0, 7, 13, 16)]) (v0 := vI (Dy (Ri_dy r 0 0) 3 8 0)) F FX NC (ctL_diary l hfl D cI cJ cZ b r 0 0 3 hr ⟨by omega, by omega⟩ ⟨by omega, by omega⟩ ⟨by omega, by omega⟩) ⟨by omega, by omega, by omega, trivial⟩ gL_isAlike_L_diary rfl ⟨rfl, rfl⟩ (by decide +kernel) ⟨Nat.le_of_ble_eq_true rfl, Nat.le_of_ble_eq_true rfl⟩ rfl (RiW cI cJ a r) ([NA cI o f]) rfl rfl (Nat.le_of_ble_eq_true rfl) ⟨Nat.le_of_ble_eq_true rfl, Nat.le_of_ble_eq_true rfl⟩ (RiW_sh _ _) dL_isAlike_230 ?_
  refine gh_icmp32_ne (pc := 233) F dL_isAlike_233 (tgt := 240) (by decide) ?_
  refine gh_const (pc := 236) F dL_isAlike_236 ?_
  refine gh_goto (pc := 237) (tgt := 241) F dL_isAlike_237 (by decide) ?_
  refine gh_istore (pc := 241) (lv2 := [(8, vI 1), (9, vI 3), (7, vI 0), (6, vI 0), (5, vI 0), (4, vI 0), (0, .ref (a 0)), (1, .ref (b 0)), (2, .ref o), (3, vI 0)]) F dL_isAlike_241 (by decide) rfl ?_
  refine gh_iinc (pc := 243) (lv2 := [(9, vI 4), (8, vI 1), (7, vI 0), (6, vI 0), (5, vI 0), (4, vI 0), (0, .ref (a 0)), (1, .ref (b 0)), (2, .ref o), (3, vI 0)]) F dL_isAlike_243 1 rfl (by decide) rfl ?_
  refine gh_goto (pc := 246) (tgt := 157) F dL_isAlike_246 (by decide) ?_
  refine gh_iload (pc := 157) F dL_isAlike_157 0 rfl ?_
  refine gh_bipush (pc := 159) F dL_isAlike_159 (by decide) ?_
  refine gh_icmp_ge (pc := 161) (tgt := 249) F dL_isAlike_161 (by decide) (by omega) (by omega) (fun cz => absurd cz (by omega)) (fun _ => ?_)
  refine gh_iload (pc := 164) F dL_isAlike_164 1 rfl ?_
  refine gh_if_eq (pc := 166) (tgt := 249) F dL_isAlike_166 (by decide) (by omega) (fun cz => absurd cz (by omega)) (fun _ => ?_)
  refine gh_aload_n (pc := 169) F dL_isAlike_169 rfl 6 rfl ?_
  refine gh_iload (pc := 170) F dL_isAlike_170 4 rfl ?_
  refine gh_iload (pc := 172) F dL_isAlike_172 0 rfl ?_
  refine gh_thr (pc := 174) (n := 3) (As := [.ref (a 0), vI 0, vI 4]) (rest := []) (bytes := cL_meetingOf) (maxL := 4) (hh := [(0, 6, 7, 13), (0, 6, 11, 16)]) (E := xIO) (z := (-2000000001)) F FX NC (ctL_meetingOf l hfl D cI cJ cZ a r 0 4 hr ⟨by omega, by omega⟩ ⟨by omega, by omega⟩) (Or.inl ⟨by omega, rfl⟩) gz_kN_O gL_isAlike_L_meetingOf rfl ⟨rfl, rfl⟩ (by decide +kernel) ⟨Nat.le_of_ble_eq_true rfl, Nat.le_of_ble_eq_true rfl⟩ rfl ([]) (RiW cI cJ b r ++ [NA cI o f]) rfl rfl (Nat.le_of_ble_eq_true rfl) ⟨Nat.le_of_ble_eq_true rfl, Nat.le_of_ble_eq_true rfl⟩ (RiW_sh _ _) dL_isAlike_174 ?_
  refine gh_aload_n (pc := 177) F dL_isAlike_177 rfl 7 rfl ?_
  refine gh_iload (pc := 178) F dL_isAlike_178 4 rfl ?_
  refine gh_iload (pc := 180) F dL_isAlike_180 0 rfl ?_
  refine gh_thr (pc := 182) (n := 3) (As := [.ref (b 0), vI 0, vI 4]) (rest := [vI (-2000000001)]) (bytes := cL_meetingOf) (maxL := 4) (hh := [(0, 6, 7, 13), (0, 6, 11, 16)]) (E := xIO) (z := (-2000000001)) F FX NC (ctL_meetingOf l hfl D cI cJ cZ b r 0 4 hr ⟨by omega, by omega⟩ ⟨by omega, by omega⟩) (Or.inl ⟨by omega, rfl⟩) gz_kN_O gL_isAlike_L_meetingOf rfl ⟨rfl, rfl⟩ (by decide +kernel) ⟨Nat.le_of_ble_eq_true rfl, Nat.le_of_ble_eq_true rfl⟩ rfl (RiW cI cJ a r) ([NA cI o f]) rfl rfl (Nat.le_of_ble_eq_true rfl) ⟨Nat.le_of_ble_eq_true rfl, Nat.le_of_ble_eq_true rfl⟩ (RiW_sh _ _) dL_isAlike_182 ?_
  refine gh_icmp32_ne (pc := 185) F dL_isAlike_185 (tgt := 240) (by decide) ?_
  refine gh_aload_n (pc := 188) F dL_isAlike_188 rfl 6 rfl ?_
  refine gh_iload (pc := 189) F dL_isAlike_189 3 rfl ?_
  refine gh_iload (pc := 191) F dL_isAlike_191 0 rfl ?_
  refine gh_thr (pc := 193) (n := 3) (As := [.ref (a 0), vI 0, vI 4]) (rest := []) (bytes := cL_buildOf) (maxL := 4) (hh := [(0, 6, 7, 13), (0, 6, 11, 16)]) (E := xIO) (z := (-2000000001)) F FX NC (ctL_buildOf l hfl D cI cJ cZ a r 0 4 hr ⟨by omega, by omega⟩ ⟨by omega, by omega⟩) (Or.inl ⟨by omega, rfl⟩) gz_kN_O gL_isAlike_L_buildOf rfl ⟨rfl, rfl⟩ (by decide +kernel) ⟨Nat.le_of_ble_eq_true rfl, Nat.le_of_ble_eq_true rfl⟩ rfl ([]) (RiW cI cJ b r ++ [NA cI o f]) rfl rfl (Nat.le_of_ble_eq_true rfl) ⟨Nat.le_of_ble_eq_true rfl, Nat.le_of_ble_eq_true rfl⟩ (RiW_sh _ _) dL_isAlike_193 ?_
  refine gh_aload_n (pc := 196) F dL_isAlike_196 rfl 7 rfl ?_
  refine gh_iload (pc := 197) F dL_isAlike_197 3 rfl ?_
  refine gh_iload (pc := 199) F dL_isAlike_199 0 rfl ?_
  refine gh_thr (pc := 201) (n := 3) (As := [.ref (b 0), vI 0, vI 4]) (rest := [vI (-2000000001)]) (bytes := cL_buildOf) (maxL := 4) (hh := [(0, 6, 7, 13), (0, 6, 11, 16)]) (E := xIO) (z := (-2000000001)) F FX NC (ctL_buildOf l hfl D cI cJ cZ b r 0 4 hr ⟨by omega, by omega⟩ ⟨by omega, by omega⟩) (Or.inl ⟨by omega, rfl⟩) gz_kN_O gL_isAlike_L_buildOf rfl ⟨rfl, rfl⟩ (by decide +kernel) ⟨Nat.le_of_ble_eq_true rfl, Nat.le_of_ble_eq_true rfl⟩ rfl (RiW cI cJ a r) ([NA cI o f]) rfl rfl (Nat.le_of_ble_eq_true rfl) ⟨Nat.le_of_ble_eq_true rfl, Nat.le_of_ble_eq_true rfl⟩ (RiW_sh _ _) dL_isAlike_201 ?_
  refine gh_icmp32_ne (pc := 204) F dL_isAlike_204 (tgt := 240) (by decide) ?_
  refine gh_aload_n (pc := 207) F dL_isAlike_207 rfl 6 rfl ?_
  refine gh_iload (pc := 208) F dL_isAlike_208 5 rfl ?_
  refine gh_iload (pc := 210) F dL_isAlike_210 2 rfl ?_
  refine gh_bipush (pc := 212) F dL_isAlike_212 (by decide) ?_
  refine gh_idiv (pc := 214) (z := 0) F dL_isAlike_214 (by omega) (by omega) rfl ?_
  refine gh_iload (pc := 215) F dL_isAlike_215 0 rfl ?_
  refine gh_ret (pc := 217) (n := 4) (As := [.ref (a 0), vI 0, vI 0, vI 4]) (rest := []) (bytes := cL_diary) (maxL := 5) (hh := [(0, 7, 8, 13), (0, 7, 13, 16)]) (v0 := vI (Dy (Ri_dy r 0 0) 4 8 0)) F FX NC (ctL_diary l hfl D cI cJ cZ a r 0 0 4 hr ⟨by omega, by omega⟩ ⟨by omega, by omega⟩ ⟨by omega, by omega⟩) ⟨by omega, by omega, by omega, trivial⟩ gL_isAlike_L_diary rfl ⟨rfl, rfl⟩ (by decide +kernel) ⟨Nat.le_of_ble_eq_true rfl, Nat.le_of_ble_eq_true rfl⟩ rfl ([]) (RiW cI cJ b r ++ [NA cI o f]) rfl rfl (Nat.le_of_ble_eq_true rfl) ⟨Nat.le_of_ble_eq_true rfl, Nat.le_of_ble_eq_true rfl⟩ (RiW_sh _ _) dL_isAlike_217 ?_
  refine gh_aload_n (pc := 220) F dL_isAlike_220 rfl 7 rfl ?_
  refine gh_iload (pc := 221) F dL_isAlike_221 5 rfl ?_
  refine gh_iload (pc := 223) F dL_isAlike_223 2 rfl ?_
  refine gh_bipush (pc := 225) F dL_isAlike_225 (by decide) ?_
  refine gh_idiv (pc := 227) (z := 0) F dL_isAlike_227 (by omega) (by omega) rfl ?_
  refine gh_iload (pc := 228) F dL_isAlike_228 0 rfl ?_
  refine gh_ret (pc := 230) (n := 4) (As := [.ref (b 0), vI 0, vI 0, vI 4]) (rest := [vI (Dy (Ri_dy r 0 0) 4 8 0)]) (bytes := cL_diary) (maxL := 5) (hh := [(0, 7, 8, 13), (0, 7, 13, 16)]) (v0 := vI (Dy (Ri_dy r 0 0) 4 8 0)) F FX NC (ctL_diary l hfl D cI cJ cZ b r 0 0 4 hr ⟨by omega, by omega⟩ ⟨by omega, by omega⟩ ⟨by omega, by omega⟩) ⟨by omega, by omega, by omega, trivial⟩ gL_isAlike_L_diary rfl ⟨rfl, rfl⟩ (by decide +kernel) ⟨Nat.le_of_ble_eq_true rfl, Nat.le_of_ble_eq_true rfl⟩ rfl (RiW cI cJ a r) ([NA cI o f]) rfl rfl (Nat.le_of_ble_eq_true rfl) ⟨Nat.le_of_ble_eq_true rfl, Nat.le_of_ble_eq_true rfl⟩ (RiW_sh _ _) dL_isAlike_230 ?_
  refine gh_icmp32_ne (pc := 233) F dL_isAlike_233 (tgt := 240) (by decide) ?_
  refine gh_const (pc := 236) F dL_isAlike_236 ?_
  refine gh_goto (pc := 237) (tgt := 241) F dL_isAlike_237 (by decide) ?_
  refine gh_istore (pc := 241) (lv2 := [(8, vI 1), (9, vI 4), (7, vI 0), (6, vI 0), (5, vI 0), (4, vI 0), (0, .ref (a 0)), (1, .ref (b 0)), (2, .ref o), (3, vI 0)]) F dL_isAlike_241 (by decide) rfl ?_
  refine gh_iinc (pc := 243) (lv2 := [(9, vI 5), (8, vI 1), (7, vI 0), (6, vI 0), (5, vI 0), (4, vI 0), (0, .ref (a 0)), (1, .ref (b 0)), (2, .ref o), (3, vI 0)]) F dL_isAlike_243 1 rfl (by decide) rfl ?_
  refine gh_goto (pc := 246) (tgt := 157) F dL_isAlike_246 (by decide) ?_
  refine gh_iload (pc := 157) F dL_isAlike_157 0 rfl ?_
  refine gh_bipush (pc := 159) F dL_isAlike_159 (by decide) ?_
  refine gh_icmp_ge (pc := 161) (tgt := 249) F dL_isAlike_161 (by decide) (by omega) (by omega) (fun cz => absurd cz (by omega)) (fun _ => ?_)
  refine gh_iload (pc := 164) F dL_isAlike_164 1 rfl ?_
  refine gh_if_eq (pc := 166) (tgt := 249) F dL_isAlike_166 (by decide) (by omega) (fun cz => absurd cz (by omega)) (fun _ => ?_)
  refine gh_aload_n (pc := 169) F dL_isAlike_169 rfl 6 rfl ?_
  refine gh_iload (pc := 170) F dL_isAlike_170 4 rfl ?_
  refine gh_iload (pc := 172) F dL_isAlike_172 0 rfl ?_
  refine gh_thr (pc := 174) (n := 3) (As := [.ref (a 0), vI 0, vI 5]) (rest := []) (bytes := cL_meetingOf) (maxL := 4) (hh := [(0, 6, 7, 13), (0, 6, 11, 16)]) (E := xIO) (z := (-2000000001)) F FX NC (ctL_meetingOf l hfl D cI cJ cZ a r 0 5 hr ⟨by omega, by omega⟩ ⟨by omega, by omega⟩) (Or.inl ⟨by omega, rfl⟩) gz_kN_O gL_isAlike_L_meetingOf rfl ⟨rfl, rfl⟩ (by decide +kernel) ⟨Nat.le_of_ble_eq_true rfl, Nat.le_of_ble_eq_true rfl⟩ rfl ([]) (RiW cI cJ b r ++ [NA cI o f]) rfl rfl (Nat.le_of_ble_eq_true rfl) ⟨Nat.le_of_ble_eq_true rfl, Nat.le_of_ble_eq_true rfl⟩ (RiW_sh _ _) dL_isAlike_174 ?_
  refine gh_aload_n (pc := 177) F dL_isAlike_177 rfl 7 rfl ?_
  refine gh_iload (pc := 178) F dL_isAlike_178 4 rfl ?_
  refine gh_iload (pc := 180) F dL_isAlike_180 0 rfl ?_
  refine gh_thr (pc := 182) (n := 3) (As := [.ref (b 0), vI 0, vI 5]) (rest := [vI (-2000000001)]) (bytes := cL_meetingOf) (maxL := 4) (hh := [(0, 6, 7, 13), (0, 6, 11, 16)]) (E := xIO) (z := (-2000000001)) F FX NC (ctL_meetingOf l hfl D cI cJ cZ b r 0 5 hr ⟨by omega, by omega⟩ ⟨by omega, by omega⟩) (Or.inl ⟨by omega, rfl⟩) gz_kN_O gL_isAlike_L_meetingOf rfl ⟨rfl, rfl⟩ (by decide +kernel) ⟨Nat.le_of_ble_eq_true rfl, Nat.le_of_ble_eq_true rfl⟩ rfl (RiW cI cJ a r) ([NA cI o f]) rfl rfl (Nat.le_of_ble_eq_true rfl) ⟨Nat.le_of_ble_eq_true rfl, Nat.le_of_ble_eq_true rfl⟩ (RiW_sh _ _) dL_isAlike_182 ?_
  refine gh_icmp32_ne (pc := 185) F dL_isAlike_185 (tgt := 240) (by decide) ?_
  refine gh_aload_n (pc := 188) F dL_isAlike_188 rfl 6 rfl ?_
  refine gh_iload (pc := 189) F dL_isAlike_189 3 rfl ?_
  refine gh_iload (pc := 191) F dL_isAlike_191 0 rfl ?_
  refine gh_thr (pc := 193) (n := 3) (As := [.ref (a 0), vI 0, vI 5]) (rest := []) (bytes := cL_buildOf) (maxL := 4) (hh := [(0, 6, 7, 13), (0, 6, 11, 16)]) (E := xIO) (z := (-2000000001)) F FX NC (ctL_buildOf l hfl D cI cJ cZ a r 0 5 hr ⟨by omega, by omega⟩ ⟨by omega, by omega⟩) (Or.inl ⟨by omega, rfl⟩) gz_kN_O gL_isAlike_L_buildOf rfl ⟨rfl, rfl⟩ (by decide +kernel) ⟨Nat.le_of_ble_eq_true rfl, Nat.le_of_ble_eq_true rfl⟩ rfl ([]) (RiW cI cJ b r ++ [NA cI o f]) rfl rfl (Nat.le_of_ble_eq_true rfl) ⟨Nat.le_of_ble_eq_true rfl, Nat.le_of_ble_eq_true rfl⟩ (RiW_sh _ _) dL_isAlike_193 ?_
  refine gh_aload_n (pc := 196) F dL_isAlike_196 rfl 7 rfl ?_
  refine gh_iload (pc := 197) F dL_isAlike_197 3 rfl ?_
  refine gh_iload (pc := 199) F dL_isAlike_199 0 rfl ?_
  refine gh_thr (pc := 201) (n := 3) (As := [.ref (b 0), vI 0, vI 5]) (rest := [vI (-2000000001)]) (bytes := cL_buildOf) (maxL := 4) (hh := [(0, 6, 7, 13), (0, 6, 11, 16)]) (E := xIO) (z := (-2000000001)) F FX NC (ctL_buildOf l hfl D cI cJ cZ b r 0 5 hr ⟨by omega, by omega⟩ ⟨by omega, by omega⟩) (Or.inl ⟨by omega, rfl⟩) gz_kN_O gL_isAlike_L_buildOf rfl ⟨rfl, rfl⟩ (by decide +kernel) ⟨Nat.le_of_ble_eq_true rfl, Nat.le_of_ble_eq_true rfl⟩ rfl (RiW cI cJ a r) ([NA cI o f]) rfl rfl (Nat.le_of_ble_eq_true rfl) ⟨Nat.le_of_ble_eq_true rfl, Nat.le_of_ble_eq_true rfl⟩ (RiW_sh _ _) dL_isAlike_201 ?_
  refine gh_icmp32_ne (pc := 204) F dL_isAlike_204 (tgt := 240) (by decide) ?_
  refine gh_aload_n (pc := 207) F dL_isAlike_207 rfl 6 rfl ?_
  refine gh_iload (pc := 208) F dL_isAlike_208 5 rfl ?_
  refine gh_iload (pc := 210) F dL_isAlike_210 2 rfl ?_
  refine gh_bipush (pc := 212) F dL_isAlike_212 (by decide) ?_
  refine gh_idiv (pc := 214) (z := 0) F dL_isAlike_214 (by omega) (by omega) rfl ?_
  refine gh_iload (pc := 215) F dL_isAlike_215 0 rfl ?_
  refine gh_ret (pc := 217) (n := 4) (As := [.ref (a 0), vI 0, vI 0, vI 5]) (rest := []) (bytes := cL_diary) (maxL := 5) (hh := [(0, 7, 8, 13), (0, 7, 13, 16)]) (v0 := vI (Dy (Ri_dy r 0 0) 5 8 0)) F FX NC (ctL_diary l hfl D cI cJ cZ a r 0 0 5 hr ⟨by omega, by omega⟩ ⟨by omega, by omega⟩ ⟨by omega, by omega⟩) ⟨by omega, by omega, by omega, trivial⟩ gL_isAlike_L_diary rfl ⟨rfl, rfl⟩ (by decide +kernel) ⟨Nat.le_of_ble_eq_true rfl, Nat.le_of_ble_eq_true rfl⟩ rfl ([]) (RiW cI cJ b r ++ [NA cI o f]) rfl rfl (Nat.le_of_ble_eq_true rfl) ⟨Nat.le_of_ble_eq_true rfl, Nat.le_of_ble_eq_true rfl⟩ (RiW_sh _ _) dL_isAlike_217 ?_
  refine gh_aload_n (pc := 220) F dL_isAlike_220 rfl 7 rfl ?_
  refine gh_iload (pc := 221) F dL_isAlike_221 5 rfl ?_
  refine gh_iload (pc := 223) F dL_isAlike_223 2 rfl ?_
  refine gh_bipush (pc := 225) F dL_isAlike_225 (by decide) ?_
  refine gh_idiv (pc := 227) (z := 0) F dL_isAlike_227 (by omega) (by omega) rfl ?_
  refine gh_iload (pc := 228) F dL_isAlike_228 0 rfl ?_
  refine gh_ret (pc := 230) (n := 4) (As := [.ref (b 0), vI 0, vI 0, vI 5]) (rest := [vI (Dy (Ri_dy r 0 0) 5 8 0)]) (bytes := cL_diary) (maxL := 5) (hh := [(0, 7, 8, 13), (0, 7, 13, 16)]) (v0 := vI (Dy (Ri_dy r 0 0) 5 8 0)) F FX NC (ctL_diary l hfl D cI cJ cZ b r 0 0 5 hr ⟨by omega, by omega⟩ ⟨by omega, by omega⟩ ⟨by omega, by omega⟩) ⟨by omega, by omega, by omega, trivial⟩ gL_isAlike_L_diary rfl ⟨rfl, rfl⟩ (by decide +kernel) ⟨Nat.le_of_ble_eq_true rfl, Nat.le_of_ble_eq_true rfl⟩ rfl (RiW cI cJ a r) ([NA cI o f]) rfl rfl (Nat.le_of_ble_eq_true rfl) ⟨Nat.le_of_ble_eq_true rfl, Nat.le_of_ble_eq_true rfl⟩ (RiW_sh _ _) dL_isAlike_230 ?_
  refine gh_icmp32_ne (pc := 233) F dL_isAlike_233 (tgt := 240) (by decide) ?_
  refine gh_const (pc := 236) F dL_isAlike_236 ?_
  refine gh_goto (pc := 237) (tgt := 241) F dL_isAlike_237 (by decide) ?_
  refine gh_istore (pc := 241) (lv2 := [(8, vI 1), (9, vI 5), (7, vI 0), (6, vI 0), (5, vI 0), (4, vI 0), (0, .ref (a 0)), (1, .ref (b 0)), (2, .ref o), (3, vI 0)]) F dL_isAlike_241 (by decide) rfl ?_
  refine gh_iinc (pc := 243) (lv2 := [(9, vI 6), (8, vI 1), (7, vI 0), (6, vI 0), (5, vI 0), (4, vI 0), (0, .ref (a 0)), (1, .ref (b 0)), (2, .ref o), (3, vI 0)]) F dL_isAlike_243 1 rfl (by decide) rfl ?_
  refine gh_goto (pc := 246) (tgt := 157) F dL_isAlike_246 (by decide) ?_
  refine gh_iload (pc := 157) F dL_isAlike_157 0 rfl ?_
  refine gh_bipush (pc := 159) F dL_isAlike_159 (by decide) ?_
  refine gh_icmp_ge (pc := 161) (tgt := 249) F dL_isAlike_161 (by decide) (by omega) (by omega) (fun cz => absurd cz (by omega)) (fun _ => ?_)
  refine gh_iload (pc := 164) F dL_isAlike_164 1 rfl ?_
  refine gh_if_eq (pc := 166) (tgt := 249) F dL_isAlike_166 (by decide) (by omega) (fun cz => absurd cz (by omega)) (fun _ => ?_)
  refine gh_aload_n (pc := 169) F dL_isAlike_169 rfl 6 rfl ?_
  refine gh_iload (pc := 170) F dL_isAlike_170 4 rfl ?_
  refine gh_iload (pc := 172) F dL_isAlike_172 0 rfl ?_
  refine gh_thr (pc := 174) (n := 3) (As := [.ref (a 0), vI 0, vI 6]) (rest := []) (bytes := cL_meetingOf) (maxL := 4) (hh := [(0, 6, 7, 13), (0, 6, 11, 16)]) (E := xIO) (z := (-2000000001)) F FX NC (ctL_meetingOf l hfl D cI cJ cZ a r 0 6 hr ⟨by omega, by omega⟩ ⟨by omega, by omega⟩) (Or.inl ⟨by omega, rfl⟩) gz_kN_O gL_isAlike_L_meetingOf rfl ⟨rfl, rfl⟩ (by decide +kernel) ⟨Nat.le_of_ble_eq_true rfl, Nat.le_of_ble_eq_true rfl⟩ rfl ([]) (RiW cI cJ b r ++ [NA cI o f]) rfl rfl (Nat.le_of_ble_eq_true rfl) ⟨Nat.le_of_ble_eq_true rfl, Nat.le_of_ble_eq_true rfl⟩ (RiW_sh _ _) dL_isAlike_174 ?_
  refine gh_aload_n (pc := 177) F dL_isAlike_177 rfl 7 rfl ?_
  refine gh_iload (pc := 178) F dL_isAlike_178 4 rfl ?_
  refine gh_iload (pc := 180) F dL_isAlike_180 0 rfl ?_
  refine gh_thr (pc := 182) (n := 3) (As := [.ref (b 0), vI 0, vI 6]) (rest := [vI (-2000000001)]) (bytes := cL_meetingOf) (maxL := 4) (hh := [(0, 6, 7, 13), (0, 6, 11, 16)]) (E := xIO) (z := (-2000000001)) F FX NC (ctL_meetingOf l hfl D cI cJ cZ b r 0 6 hr ⟨by omega, by omega⟩ ⟨by omega, by omega⟩) (Or.inl ⟨by omega, rfl⟩) gz_kN_O gL_isAlike_L_meetingOf rfl ⟨rfl, rfl⟩ (by decide +kernel) ⟨Nat.le_of_ble_eq_true rfl, Nat.le_of_ble_eq_true rfl⟩ rfl (RiW cI cJ a r) ([NA cI o f]) rfl rfl (Nat.le_of_ble_eq_true rfl) ⟨Nat.le_of_ble_eq_true rfl, Nat.le_of_ble_eq_true rfl⟩ (RiW_sh _ _) dL_isAlike_182 ?_
  refine gh_icmp32_ne (pc := 185) F dL_isAlike_185 (tgt := 240) (by decide) ?_
  refine gh_aload_n (pc := 188) F dL_isAlike_188 rfl 6 rfl ?_
  refine gh_iload (pc := 189) F dL_isAlike_189 3 rfl ?_
  refine gh_iload (pc := 191) F dL_isAlike_191 0 rfl ?_
  refine gh_thr (pc := 193) (n := 3) (As := [.ref (a 0), vI 0, vI 6]) (rest := []) (bytes := cL_buildOf) (maxL := 4) (hh := [(0, 6, 7, 13), (0, 6, 11, 16)]) (E := xIO) (z := (-2000000001)) F FX NC (ctL_buildOf l hfl D cI cJ cZ a r 0 6 hr ⟨by omega, by omega⟩ ⟨by omega, by omega⟩) (Or.inl ⟨by omega, rfl⟩) gz_kN_O gL_isAlike_L_buildOf rfl ⟨rfl, rfl⟩ (by decide +kernel) ⟨Nat.le_of_ble_eq_true rfl, Nat.le_of_ble_eq_true rfl⟩ rfl ([]) (RiW cI cJ b r ++ [NA cI o f]) rfl rfl (Nat.le_of_ble_eq_true rfl) ⟨Nat.le_of_ble_eq_true rfl, Nat.le_of_ble_eq_true rfl⟩ (RiW_sh _ _) dL_isAlike_193 ?_
  refine gh_aload_n (pc := 196) F dL_isAlike_196 rfl 7 rfl ?_
  refine gh_iload (pc := 197) F dL_isAlike_197 3 rfl ?_
  refine gh_iload (pc := 199) F dL_isAlike_199 0 rfl ?_
  refine gh_thr (pc := 201) (n := 3) (As := [.ref (b 0), vI 0, vI 6]) (rest := [vI (-2000000001)]) (bytes := cL_buildOf) (maxL := 4) (hh := [(0, 6, 7, 13), (0, 6, 11, 16)]) (E := xIO) (z := (-2000000001)) F FX NC (ctL_buildOf l hfl D cI cJ cZ b r 0 6 hr ⟨by omega, by omega⟩ ⟨by omega, by omega⟩) (Or.inl ⟨by omega, rfl⟩) gz_kN_O gL_isAlike_L_buildOf rfl ⟨rfl, rfl⟩ (by decide +kernel) ⟨Nat.le_of_ble_eq_true rfl, Nat.le_of_ble_eq_true rfl⟩ rfl (RiW cI cJ a r) ([NA cI o f]) rfl rfl (Nat.le_of_ble_eq_true rfl) ⟨Nat.le_of_ble_eq_true rfl, Nat.le_of_ble_eq_true rfl⟩ (RiW_sh _ _) dL_isAlike_201 ?_
  refine gh_icmp32_ne (pc := 204) F dL_isAlike_204 (tgt := 240) (by decide) ?_
  refine gh_aload_n (pc := 207) F dL_isAlike_207 rfl 6 rfl ?_
  refine gh_iload (pc := 208) F dL_isAlike_208 5 rfl ?_
  refine gh_iload (pc := 210) F dL_isAlike_210 2 rfl ?_
  refine gh_bipush (pc := 212) F dL_isAlike_212 (by decide) ?_
  refine gh_idiv (pc := 214) (z := 0) F dL_isAlike_214 (by omega) (by omega) rfl ?_
  refine gh_iload (pc := 215) F dL_isAlike_215 0 rfl ?_
  refine gh_ret (pc := 217) (n := 4) (As := [.ref (a 0), vI 0, vI 0, vI 6]) (rest := []) (bytes := cL_diary) (maxL := 5) (hh := [(0, 7, 8, 13), (0, 7, 13, 16)]) (v0 := vI (Dy (Ri_dy r 0 0) 6 8 0)) F FX NC (ctL_diary l hfl D cI cJ cZ a r 0 0 6 hr ⟨by omega, by omega⟩ ⟨by omega, by omega⟩ ⟨by omega, by omega⟩) ⟨by omega, by omega, by omega, trivial⟩ gL_isAlike_L_diary rfl ⟨rfl, rfl⟩ (by decide +kernel) ⟨Nat.le_of_ble_eq_true rfl, Nat.le_of_ble_eq_true rfl⟩ rfl ([]) (RiW cI cJ b r ++ [NA cI o f]) rfl rfl (Nat.le_of_ble_eq_true rfl) ⟨Nat.le_of_ble_eq_true rfl, Nat.le_of_ble_eq_true rfl⟩ (RiW_sh _ _) dL_isAlike_217 ?_
  refine gh_aload_n (pc := 220) F dL_isAlike_220 rfl 7 rfl ?_
  refine gh_iload (pc := 221) F dL_isAlike_221 5 rfl ?_
  refine gh_iload (pc := 223) F dL_isAlike_223 2 rfl ?_
  refine gh_bipush (pc := 225) F dL_isAlike_225 (by decide) ?_
  refine gh_idiv (pc := 227) (z := 0) F dL_isAlike_227 (by omega) (by omega) rfl ?_
  refine gh_iload (pc := 228) F dL_isAlike_228 0 rfl ?_
  refine gh_ret (pc := 230) (n := 4) (As := [.ref (b 0), vI 0, vI 0, vI 6]) (rest := [vI (Dy (Ri_dy r 0 0) 6 8 0)]) (bytes := cL_diary) (maxL := 5) (hh := [(0, 7, 8, 13), (0, 7, 13, 16)]) (v0 := vI (Dy (Ri_dy r 0 0) 6 8 0)) F FX NC (ctL_diary l hfl D cI cJ cZ b r 0 0 6 hr ⟨by omega, by omega⟩ ⟨by omega, by omega⟩ ⟨by omega, by omega⟩) ⟨by omega, by omega, by omega, trivial⟩ gL_isAlike_L_diary rfl ⟨rfl, rfl⟩ (by decide +kernel) ⟨Nat.le_of_ble_eq_true rfl, Nat.le_of_ble_eq_true rfl⟩ rfl (RiW cI cJ a r) ([NA cI o f]) rfl rfl (Nat.le_of_ble_eq_true rfl) ⟨Nat.le_of_ble_eq_true rfl, Nat.le_of_ble_eq_true rfl⟩ (RiW_sh _ _) dL_isAlike_230 ?_
  refine gh_icmp32_ne (pc := 233) F dL_isAlike_233 (tgt := 240) (by decide) ?_
  refine gh_const (pc := 236) F dL_isAlike_236 ?_
  refine gh_goto (pc := 237) (tgt := 241) F dL_isAlike_237 (by decide) ?_
  refine gh_istore (pc := 241) (lv2 := [(8, vI 1), (9, vI 6), (7, vI 0), (6, vI 0), (5, vI 0), (4, vI 0), (0, .ref (a 0)), (1, .ref (b 0)), (2, .ref o), (3, vI 0)]) F dL_isAlike_241 (by decide) rfl ?_
  refine gh_iinc (pc := 243) (lv2 := [(9, vI 7), (8, vI 1), (7, vI 0), (6, vI 0), (5, vI 0), (4, vI 0), (0, .ref (a 0)), (1, .ref (b 0)), (2, .ref o), (3, vI 0)]) F dL_isAlike_243 1 rfl (by decide) rfl ?_
  refine gh_goto (pc := 246) (tgt := 157) F dL_isAlike_246 (by decide) ?_
  refine gh_iload (pc := 157) F dL_isAlike_157 0 rfl ?_
  refine gh_bipush (pc := 159) F dL_isAlike_159 (by decide) ?_
  refine gh_icmp_ge (pc := 161) (tgt := 249) F dL_isAlike_161 (by decide) (by omega) (by omega) (fun cz => absurd cz (by omega)) (fun _ => ?_)
  refine gh_iload (pc := 164) F dL_isAlike_164 1 rfl ?_
  refine gh_if_eq (pc := 166) (tgt := 249) F dL_isAlike_166 (by decide) (by omega) (fun cz => absurd cz (by omega)) (fun _ => ?_)
  refine gh_aload_n (pc := 169) F dL_isAlike_169 rfl 6 rfl ?_
  refine gh_iload (pc := 170) F dL_isAlike_170 4 rfl ?_
  refine gh_iload (pc := 172) F dL_isAlike_172 0 rfl ?_
  refine gh_thr (pc := 174) (n := 3) (As := [.ref (a 0), vI 0, vI 7]) (rest := []) (bytes := cL_meetingOf) (maxL := 4) (hh := [(0, 6, 7, 13), (0, 6, 11, 16)]) (E := xIO) (z := (-2000000001)) F FX NC (ctL_meetingOf l hfl D cI cJ cZ a r 0 7 hr ⟨by omega, by omega⟩ ⟨by omega, by omega⟩) (Or.inl ⟨by omega, rfl⟩) gz_kN_O gL_isAlike_L_meetingOf rfl ⟨rfl, rfl⟩ (by decide +kernel) ⟨Nat.le_of_ble_eq_true rfl, Nat.le_of_ble_eq_true rfl⟩ rfl ([]) (RiW cI cJ b r ++ [NA cI o f]) rfl rfl (Nat.le_of_ble_eq_true rfl) ⟨Nat.le_of_ble_eq_true rfl, Nat.le_of_ble_eq_true rfl⟩ (RiW_sh _ _) dL_isAlike_174 ?_
  refine gh_aload_n (pc := 177) F dL_isAlike_177 rfl 7 rfl ?_
  refine gh_iload (pc := 178) F dL_isAlike_178 4 rfl ?_
  refine gh_iload (pc := 180) F dL_isAlike_180 0 rfl ?_
  refine gh_thr (pc := 182) (n := 3) (As := [.ref (b 0), vI 0, vI 7]) (rest := [vI (-2000000001)]) (bytes := cL_meetingOf) (maxL := 4) (hh := [(0, 6, 7, 13), (0, 6, 11, 16)]) (E := xIO) (z := (-2000000001)) F FX NC (ctL_meetingOf l hfl D cI cJ cZ b r 0 7 hr ⟨by omega, by omega⟩ ⟨by omega, by omega⟩) (Or.inl ⟨by omega, rfl⟩) gz_kN_O gL_isAlike_L_meetingOf rfl ⟨rfl, rfl⟩ (by decide +kernel) ⟨Nat.le_of_ble_eq_true rfl, Nat.le_of_ble_eq_true rfl⟩ rfl (RiW cI cJ a r) ([NA cI o f]) rfl rfl (Nat.le_of_ble_eq_true rfl) ⟨Nat.le_of_ble_eq_true rfl, Nat.le_of_ble_eq_true rfl⟩ (RiW_sh _ _) dL_isAlike_182 ?_
  refine gh_icmp32_ne (pc := 185) F dL_isAlike_185 (tgt := 240) (by decide) ?_
  refine gh_aload_n (pc := 188) F dL_isAlike_188 rfl 6 rfl ?_
  refine gh_iload (pc := 189) F dL_isAlike_189 3 rfl ?_
  refine gh_iload (pc := 191) F dL_isAlike_191 0 rfl ?_
  refine gh_thr (pc := 193) (n := 3) (As := [.ref (a 0), vI 0, vI 7]) (rest := []) (bytes := cL_buildOf) (maxL := 4) (hh := [(0, 6, 7, 13), (0, 6, 11, 16)]) (E := xIO) (z := (-2000000001)) F FX NC (ctL_buildOf l hfl D cI cJ cZ a r 0 7 hr ⟨by omega, by omega⟩ ⟨by omega, by omega⟩) (Or.inl ⟨by omega, rfl⟩) gz_kN_O gL_isAlike_L_buildOf rfl ⟨rfl, rfl⟩ (by decide +kernel) ⟨Nat.le_of_ble_eq_true rfl, Nat.le_of_ble_eq_true rfl⟩ rfl ([]) (RiW cI cJ b r ++ [NA cI o f]) rfl rfl (Nat.le_of_ble_eq_true rfl) ⟨Nat.le_of_ble_eq_true rfl, Nat.le_of_ble_eq_true rfl⟩ (RiW_sh _ _) dL_isAlike_193 ?_
  refine gh_aload_n (pc := 196) F dL_isAlike_196 rfl 7 rfl ?_
  refine gh_iload (pc := 197) F dL_isAlike_197 3 rfl ?_
  refine gh_iload (pc := 199) F dL_isAlike_199 0 rfl ?_
  refine gh_thr (pc := 201) (n := 3) (As := [.ref (b 0), vI 0, vI 7]) (rest := [vI (-2000000001)]) (bytes := cL_buildOf) (maxL := 4) (hh := [(0, 6, 7, 13), (0, 6, 11, 16)]) (E := xIO) (z := (-2000000001)) F FX NC (ctL_buildOf l hfl D cI cJ cZ b r 0 7 hr ⟨by omega, by omega⟩ ⟨by omega, by omega⟩) (Or.inl ⟨by omega, rfl⟩) gz_kN_O gL_isAlike_L_buildOf rfl ⟨rfl, rfl⟩ (by decide +kernel) ⟨Nat.le_of_ble_eq_true rfl, Nat.le_of_ble_eq_true rfl⟩ rfl (RiW cI cJ a r) ([NA cI o f]) rfl rfl (Nat.le_of_ble_eq_true rfl) ⟨Nat.le_of_ble_eq_true rfl, Nat.le_of_ble_eq_true rfl⟩ (RiW_sh _ _) dL_isAlike_201 ?_
  refine gh_icmp32_ne (pc := 204) F dL_isAlike_204 (tgt := 240) (by decide) ?_
  refine gh_aload_n (pc := 207) F dL_isAlike_207 rfl 6 rfl ?_
  refine gh_iload (pc := 208) F dL_isAlike_208 5 rfl ?_
  refine gh_iload (pc := 210) F dL_isAlike_210 2 rfl ?_
  refine gh_bipush (pc := 212) F dL_isAlike_212 (by decide) ?_
  refine gh_idiv (pc := 214) (z := 0) F dL_isAlike_214 (by omega) (by omega) rfl ?_
  refine gh_iload (pc := 215) F dL_isAlike_215 0 rfl ?_
  refine gh_ret (pc := 217) (n := 4) (As := [.ref (a 0), vI 0, vI 0, vI 7]) (rest := []) (bytes := cL_diary) (maxL := 5) (hh := [(0, 7, 8, 13), (0, 7, 13, 16)]) (v0 := vI (Dy (Ri_dy r 0 0) 7 8 0)) F FX NC (ctL_diary l hfl D cI cJ cZ a r 0 0 7 hr ⟨by omega, by omega⟩ ⟨by omega, by omega⟩ ⟨by omega, by omega⟩) ⟨by omega, by omega, by omega, trivial⟩ gL_isAlike_L_diary rfl ⟨rfl, rfl⟩ (by decide +kernel) ⟨Nat.le_of_ble_eq_true rfl, Nat.le_of_ble_eq_true rfl⟩ rfl ([]) (RiW cI cJ b r ++ [NA cI o f]) rfl rfl (Nat.le_of_ble_eq_true rfl) ⟨Nat.le_of_ble_eq_true rfl, Nat.le_of_ble_eq_true rfl⟩ (RiW_sh _ _) dL_isAlike_217 ?_
  refine gh_aload_n (pc := 220) F dL_isAlike_220 rfl 7 rfl ?_
  refine gh_iload (pc := 221) F dL_isAlike_221 5 rfl ?_
  refine gh_iload (pc := 223) F dL_isAlike_223 2 rfl ?_
  refine gh_bipush (pc := 225) F dL_isAlike_225 (by decide) ?_
  refine gh_idiv (pc := 227) (z := 0) F dL_isAlike_227 (by omega) (by omega) rfl ?_
  refine gh_iload (pc := 228) F dL_isAlike_228 0 rfl ?_
  refine gh_ret (pc := 230) (n := 4) (As := [.ref (b 0), vI 0, vI 0, vI 7]) (rest := [vI (Dy (Ri_dy r 0 0) 7 8 0)]) (bytes := cL_diary) (maxL := 5) (hh := [(0, 7, 8, 13), (0, 7, 13, 16)]) (v0 := vI (Dy (Ri_dy r 0 0) 7 8 0)) F FX NC (ctL_diary l hfl D cI cJ cZ b r 0 0 7 hr ⟨by omega, by omega⟩ ⟨by omega, by omega⟩ ⟨by omega, by omega⟩) ⟨by omega, by omega, by omega, trivial⟩ gL_isAlike_L_diary rfl ⟨rfl, rfl⟩ (by decide +kernel) ⟨Nat.le_of_ble_eq_true rfl, Nat.le_of_ble_eq_true rfl⟩ rfl (RiW cI cJ a r) ([NA cI o f]) rfl rfl (Nat.le_of_ble_eq_true rfl) ⟨Nat.le_of_ble_eq_true rfl, Nat.le_of_ble_eq_true rfl⟩ (RiW_sh _ _) dL_isAlike_230 ?_
  refine gh_icmp32_ne (pc := 233) F dL_isAlike_233 (tgt := 240) (by decide) ?_
  refine gh_const (pc := 236) F dL_isAlike_236 ?_
  refine gh_goto (pc := 237) (tgt := 241) F dL_isAlike_237 (by decide) ?_
  refine gh_istore (pc := 241) (lv2 := [(8, vI 1), (9, vI 7), (7, vI 0), (6, vI 0), (5, vI 0), (4, vI 0), (0, .ref (a 0)), (1, .ref (b 0)), (2, .ref o), (3, vI 0)]) F dL_isAlike_241 (by decide) rfl ?_
  refine gh_iinc (pc := 243) (lv2 := [(9, vI 8), (8, vI 1), (7, vI 0), (6, vI 0), (5, vI 0), (4, vI 0), (0, .ref (a 0)), (1, .ref (b 0)), (2, .ref o), (3, vI 0)]) F dL_isAlike_243 1 rfl (by decide) rfl ?_
  refine gh_goto (pc := 246) (tgt := 157) F dL_isAlike_246 (by decide) ?_
  refine gh_iload (pc := 157) F dL_isAlike_157 0 rfl ?_
  refine gh_bipush (pc := 159) F dL_isAlike_159 (by decide) ?_
  refine gh_icmp_ge (pc := 161) (tgt := 249) F dL_isAlike_161 (by decide) (by omega) (by omega) (fun cz => absurd cz (by omega)) (fun _ => ?_)
  refine gh_iload (pc := 164) F dL_isAlike_164 1 rfl ?_
  refine gh_if_eq (pc := 166) (tgt := 249) F dL_isAlike_166 (by decide) (by omega) (fun cz => absurd cz (by omega)) (fun _ => ?_)
  refine gh_aload_n (pc := 169) F dL_isAlike_169 rfl 6 rfl ?_
  refine gh_iload (pc := 170) F dL_isAlike_170 4 rfl ?_
  refine gh_iload (pc := 172) F dL_isAlike_172 0 rfl ?_
  refine gh_thr (pc := 174) (n := 3) (As := [.ref (a 0), vI 0, vI 8]) (rest := []) (bytes := cL_meetingOf) (maxL := 4) (hh := [(0, 6, 7, 13), (0, 6, 11, 16)]) (E := xIO) (z := (-2000000001)) F FX NC (ctL_meetingOf l hfl D cI cJ cZ a r 0 8 hr ⟨by omega, by omega⟩ ⟨by omega, by omega⟩) (Or.inl ⟨by omega, rfl⟩) gz_kN_O gL_isAlike_L_meetingOf rfl ⟨rfl, rfl⟩ (by decide +kernel) ⟨Nat.le_of_ble_eq_true rfl, Nat.le_of_ble_eq_true rfl⟩ rfl ([]) (RiW cI cJ b r ++ [NA cI o f]) rfl rfl (Nat.le_of_ble_eq_true rfl) ⟨Nat.le_of_ble_eq_true rfl, Nat.le_of_ble_eq_true rfl⟩ (RiW_sh _ _) dL_isAlike_174 ?_
  refine gh_aload_n (pc := 177) F dL_isAlike_177 rfl 7 rfl ?_
  refine gh_iload (pc := 178) F dL_isAlike_178 4 rfl ?_
  refine gh_iload (pc := 180) F dL_isAlike_180 0 rfl ?_
  refine gh_thr (pc := 182) (n := 3) (As := [.ref (b 0), vI 0, vI 8]) (rest := [vI (-2000000001)]) (bytes := cL_meetingOf) (maxL := 4) (hh := [(0, 6, 7, 13), (0, 6, 11, 16)]) (E := xIO) (z := (-2000000001)) F FX NC (ctL_meetingOf l hfl D cI cJ cZ b r 0 8 hr ⟨by omega, by omega⟩ ⟨by omega, by omega⟩) (Or.inl ⟨by omega, rfl⟩) gz_kN_O gL_isAlike_L_meetingOf rfl ⟨rfl, rfl⟩ (by decide +kernel) ⟨Nat.le_of_ble_eq_true rfl, Nat.le_of_ble_eq_true rfl⟩ rfl (RiW cI cJ a r) ([NA cI o f]) rfl rfl (Nat.le_of_ble_eq_true rfl) ⟨Nat.le_of_ble_eq_true rfl, Nat.le_of_ble_eq_true rfl⟩ (RiW_sh _ _) dL_isAlike_182 ?_
  refine gh_icmp32_ne (pc := 185) F dL_isAlike_185 (tgt := 240) (by decide) ?_
  refine gh_aload_n (pc := 188) F dL_isAlike_188 rfl 6 rfl ?_
  refine gh_iload (pc := 189) F dL_isAlike_189 3 rfl ?_
  refine gh_iload (pc := 191) F dL_isAlike_191 0 rfl ?_
  refine gh_thr (pc := 193) (n := 3) (As := [.ref (a 0), vI 0, vI 8]) (rest := []) (bytes := cL_buildOf) (maxL := 4) (hh := [(0, 6, 7, 13), (0, 6, 11, 16)]) (E := xIO) (z := (-2000000001)) F FX NC (ctL_buildOf l hfl D cI cJ cZ a r 0 8 hr ⟨by omega, by omega⟩ ⟨by omega, by omega⟩) (Or.inl ⟨by omega, rfl⟩) gz_kN_O gL_isAlike_L_buildOf rfl ⟨rfl, rfl⟩ (by decide +kernel) ⟨Nat.le_of_ble_eq_true rfl, Nat.le_of_ble_eq_true rfl⟩ rfl ([]) (RiW cI cJ b r ++ [NA cI o f]) rfl rfl (Nat.le_of_ble_eq_true rfl) ⟨Nat.le_of_ble_eq_true rfl, Nat.le_of_ble_eq_true rfl⟩ (RiW_sh _ _) dL_isAlike_193 ?_
  refine gh_aload_n (pc := 196) F dL_isAlike_196 rfl 7 rfl ?_
  refine gh_iload (pc := 197) F dL_isAlike_197 3 rfl ?_
  refine gh_iload (pc := 199) F dL_isAlike_199 0 rfl ?_
  refine gh_thr (pc := 201) (n := 3) (As := [.ref (b 0), vI 0, vI 8]) (rest := [vI (-2000000001)]) (bytes := cL_buildOf) (maxL := 4) (hh := [(0, 6, 7, 13), (0, 6, 11, 16)]) (E := xIO) (z := (-2000000001)) F FX NC (ctL_buildOf l hfl D cI cJ cZ b r 0 8 hr ⟨by omega, by omega⟩ ⟨by omega, by omega⟩) (Or.inl ⟨by omega, rfl⟩) gz_kN_O gL_isAlike_L_buildOf rfl ⟨rfl, rfl⟩ (by decide +kernel) ⟨Nat.le_of_ble_eq_true rfl, Nat.le_of_ble_eq_true rfl⟩ rfl (RiW cI cJ a r) ([NA cI o f]) rfl rfl (Nat.le_of_ble_eq_true rfl) ⟨Nat.le_of_ble_eq_true rfl, Nat.le_of_ble_eq_true rfl⟩ (RiW_sh _ _) dL_isAlike_201 ?_
  refine gh_icmp32_ne (pc := 204) F dL_isAlike_204 (tgt := 240) (by decide) ?_
  refine gh_aload_n (pc := 207) F dL_isAlike_207 rfl 6 rfl ?_
  refine gh_iload (pc := 208) F dL_isAlike_208 5 rfl ?_
  refine gh_iload (pc := 210) F dL_isAlike_210 2 rfl ?_
  refine gh_bipush (pc := 212) F dL_isAlike_212 (by decide) ?_
  refine gh_idiv (pc := 214) (z := 0) F dL_isAlike_214 (by omega) (by omega) rfl ?_
  refine gh_iload (pc := 215) F dL_isAlike_215 0 rfl ?_
  refine gh_ret (pc := 217) (n := 4) (As := [.ref (a 0), vI 0, vI 0, vI 8]) (rest := []) (bytes := cL_diary) (maxL := 5) (hh := [(0, 7, 8, 13), (0, 7, 13, 16)]) (v0 := vI (Dy (Ri_dy r 0 0) 8 8 0)) F FX NC (ctL_diary l hfl D cI cJ cZ a r 0 0 8 hr ⟨by omega, by omega⟩ ⟨by omega, by omega⟩ ⟨by omega, by omega⟩) ⟨by omega, by omega, by omega, trivial⟩ gL_isAlike_L_diary rfl ⟨rfl, rfl⟩ (by decide +kernel) ⟨Nat.le_of_ble_eq_true rfl, Nat.le_of_ble_eq_true rfl⟩ rfl ([]) (RiW cI cJ b r ++ [NA cI o f]) rfl rfl (Nat.le_of_ble_eq_true rfl) ⟨Nat.le_of_ble_eq_true rfl, Nat.le_of_ble_eq_true rfl⟩ (RiW_sh _ _) dL_isAlike_217 ?_
  refine gh_aload_n (pc := 220) F dL_isAlike_220 rfl 7 rfl ?_
  refine gh_iload (pc := 221) F dL_isAlike_221 5 rfl ?_
  refine gh_iload (pc := 223) F dL_isAlike_223 2 rfl ?_
  refine gh_bipush (pc := 225) F dL_isAlike_225 (by decide) ?_
  refine gh_idiv (pc := 227) (z := 0) F dL_isAlike_227 (by omega) (by omega) rfl ?_
  refine gh_iload (pc := 228) F dL_isAlike_228 0 rfl ?_
  refine gh_ret (pc := 230) (n := 4) (As := [.ref (b 0), vI 0, vI 0, vI 8]) (rest := [vI (Dy (Ri_dy r 0 0) 8 8 0)]) (bytes := cL_diary) (maxL := 5) (hh := [(0, 7, 8, 13), (0, 7, 13, 16)]) (v0 := vI (Dy (Ri_dy r 0 0) 8 8 0)) F FX NC (ctL_diary l hfl D cI cJ cZ b r 0 0 8 hr ⟨by omega, by omega⟩ ⟨by omega, by omega⟩ ⟨by omega, by omega⟩) ⟨by omega, by omega, by omega, trivial⟩ gL_isAlike_L_diary rfl ⟨rfl, rfl⟩ (by decide +kernel) ⟨Nat.le_of_ble_eq_true rfl, Nat.le_of_ble_eq_true rfl⟩ rfl (RiW cI cJ a r) ([NA cI o f]) rfl rfl (Nat.le_of_ble_eq_true rfl) ⟨Nat.le_of_ble_eq_true rfl, Nat.le_of_ble_eq_true rfl⟩ (RiW_sh _ _) dL_isAlike_230 ?_
  refine gh_icmp32_ne (pc := 233) F dL_isAlike_233 (tgt := 240) (by decide) ?_
  refine gh_const (pc := 236) F dL_isAlike_236 ?_
  refine gh_goto (pc := 237) (tgt := 241) F dL_isAlike_237 (by decide) ?_
  refine gh_istore (pc := 241) (lv2 := [(8, vI 1), (9, vI 8), (7, vI 0), (6, vI 0), (5, vI 0), (4, vI 0), (0, .ref (a 0)), (1, .ref (b 0)), (2, .ref o), (3, vI 0)]) F dL_isAlike_241 (by decide) rfl ?_
  refine gh_iinc (pc := 243) (lv2 := [(9, vI 9), (8, vI 1), (7, vI 0), (6, vI 0), (5, vI 0), (4, vI 0), (0, .ref (a 0)), (1, .ref (b 0)), (2, .ref o), (3, vI 0)]) F dL_isAlike_243 1 rfl (by decide) rfl ?_
  refine gh_goto (pc := 246) (tgt := 157) F dL_isAlike_246 (by decide) ?_
  refine gh_iload (pc := 157) F dL_isAlike_157 0 rfl ?_
  refine gh_bipush (pc := 159) F dL_isAlike_159 (by decide) ?_
  refine gh_icmp_ge (pc := 161) (tgt := 249) F dL_isAlike_161 (by decide) (by omega) (by omega) (fun _ => ?_) (fun cz => absurd cz (by omega))
  refine gh_iload (pc := 249) F dL_isAlike_249 1 rfl ?_
  refine gh_widen (k := 62) (n := 372) (by decide) (by decide) ?_
  exact Z _ _ 251 _ _ dL_isAlike_251 rfl ⟨rfl, rfl, rfl⟩
