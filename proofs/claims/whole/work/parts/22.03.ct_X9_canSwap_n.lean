/-! ===== laid by wip/whole/gen/md2.py ===== -/
set_option maxHeartbeats 4000000 in
set_option maxRecDepth 100000 in
theorem ct_X9_canSwap_n (l : Launch) (D : va_G) (cI cJ cZ : ClassId) (a : Nat → Nat) (u : MdS) (p0 p1 : Int) (hu : MdI u) (h0 : 0 ≤ p0 ∧ p0 < 30) (h1 : 0 ≤ p1 ∧ p1 < 30) (h : ¬ Md_swp u p0 p1) : gz_M l yX9_canSwap wsX9_canSwap { frames := 4, cells := 0, slots := 0, locals := 97 } D cI cJ cZ [.ref (a 0), vI p0, vI p1] (MdW cI cZ a u) (gz_pV 0 (MdW cI cZ a u)) := by
  refine gz_ofZ (cc := cX9_canSwap) (maxL := 6) (ty := .boolean) (own := RX9) (by decide) rfl rfl (Nat.le_of_ble_eq_true rfl) (lv0 := [(0, .ref (a 0)), (1, vI p0), (2, vI p1)]) rfl ?_
  intro p e s m args below meth c A Q F Z
  obtain ⟨hnw, hAw, hMm, hLo, ⟨hMt, hMa⟩, hSw, hBu⟩ := id hu
  have hMmn := hMm.1
  have hLon := hLo.1
  have hMtn := hMt.1
  have hSwn := hSw.1
  have hBun := hBu.1
  have J117 : gG p l e ({ frames := 4, cells := 0, slots := 0, locals := 97 } : Room) s m args below meth c D A 6 Q 0 0 (MdW cI cZ a ((Md_th u, Md_now u, Md_aw u, Md_mm u, Md_lo u, (Mt_n (Md_mt u), Mt_pe (Md_mt u), zU (zU (Mt_sl (Md_mt u)) p0 (Mt_sl (Md_mt u) p1)) p1 (Mt_sl (Md_mt u) p0), Mt_ln (Md_mt u), Mt_ma (Md_mt u), Mt_st (Md_mt u), Mt_mv (Md_mt u)), Md_sw u, Md_bu u))) [(0, .ref (a 0)), (1, vI p0), (2, vI p1), (3, vI (Mt_sl (Md_mt u) p0)), (4, vI (Mt_sl (Md_mt u) p1))] [vI (bz (Md_swp u p0 p1))] 117 := by
    refine gz_istore (pc := 117) (lv2 := [(5, vI (bz (Md_swp u p0 p1))), (0, .ref (a 0)), (1, vI p0), (2, vI p1), (3, vI (Mt_sl (Md_mt u) p0)), (4, vI (Mt_sl (Md_mt u) p1))]) F dX9_canSwap_117 (by decide) rfl ?_
    refine gz_iload (pc := 119) F dX9_canSwap_119 0 rfl ?_
    refine gz_if_neb (pc := 121) (tgt := 139) F dX9_canSwap_121 (by decide) (fun c121 => ?_) (fun c121 => ?_)
    · exact absurd c121 h
    · refine gz_aload_n (pc := 124) F dX9_canSwap_124 rfl 1 rfl ?_
      refine gz_get (pc := 125) (v := .ref (a 12)) F hn_X9_canSwap_X9 0 9 rfl rfl 16 (by decide) fl_X9_canSwap_44 rfl dX9_canSwap_125 ?_
      refine gz_iload_n (pc := 128) F dX9_canSwap_128 rfl 2 rfl ?_
      refine gz_iload_n (pc := 129) F dX9_canSwap_129 rfl 4 rfl ?_
      refine gz_iast (pc := 130) (f := zU (zU (Mt_sl (Md_mt u)) p0 (Mt_sl (Md_mt u) p1)) p1 (Mt_sl (Md_mt u) p0)) (ws2 := MdW cI cZ a ((Md_th u, Md_now u, Md_aw u, Md_mm u, Md_lo u, (Mt_n (Md_mt u), Mt_pe (Md_mt u), zU (zU (zU (Mt_sl (Md_mt u)) p0 (Mt_sl (Md_mt u) p1)) p1 (Mt_sl (Md_mt u) p0)) p0 (Mt_sl (Md_mt u) p0), Mt_ln (Md_mt u), Mt_ma (Md_mt u), Mt_st (Md_mt u), Mt_mv (Md_mt u)), Md_sw u, Md_bu u))) F 12 rfl (by omega) (by decide) rfl dX9_canSwap_130 ?_
      refine gz_aload_n (pc := 131) F dX9_canSwap_131 rfl 1 rfl ?_
      refine gz_get (pc := 132) (v := .ref (a 12)) F hn_X9_canSwap_X9 0 9 rfl rfl 16 (by decide) fl_X9_canSwap_44 rfl dX9_canSwap_132 ?_
      refine gz_iload_n (pc := 135) F dX9_canSwap_135 rfl 3 rfl ?_
      refine gz_iload (pc := 136) F dX9_canSwap_136 5 rfl ?_
      refine gz_iast (pc := 138) (f := zU (zU (zU (Mt_sl (Md_mt u)) p0 (Mt_sl (Md_mt u) p1)) p1 (Mt_sl (Md_mt u) p0)) p0 (Mt_sl (Md_mt u) p0)) (ws2 := MdW cI cZ a ((Md_th u, Md_now u, Md_aw u, Md_mm u, Md_lo u, (Mt_n (Md_mt u), Mt_pe (Md_mt u), zU (zU (zU (zU (Mt_sl (Md_mt u)) p0 (Mt_sl (Md_mt u) p1)) p1 (Mt_sl (Md_mt u) p0)) p0 (Mt_sl (Md_mt u) p0)) p1 (Mt_sl (Md_mt u) p1), Mt_ln (Md_mt u), Mt_ma (Md_mt u), Mt_st (Md_mt u), Mt_mv (Md_mt u)), Md_sw u, Md_bu u))) F 12 rfl (by omega) (by decide) rfl dX9_canSwap_138 ?_
      refine gz_iload (pc := 139) F dX9_canSwap_139 0 rfl ?_
      refine Z _ _ 141 _ dX9_canSwap_141 (bz_nar _) ?_
      exact ⟨congrArg (fun x => some (vI x)) (bz_f h), by rw [zU_back] <;> rfl⟩
  refine gz_aload_n (pc := 0) F dX9_canSwap_0 rfl 0 rfl ?_
  refine gz_get (pc := 1) (v := .ref (a 12)) F hn_X9_canSwap_X9 0 9 rfl rfl 16 (by decide) fl_X9_canSwap_44 rfl dX9_canSwap_1 ?_
  refine gz_iload_n (pc := 4) F dX9_canSwap_4 rfl 1 rfl ?_
  refine gz_iald (pc := 5) (f := Mt_sl (Md_mt u)) F 12 rfl (by omega) (by decide) dX9_canSwap_5 ?_
  have b5 := (hMt.2 p0).2.1
  refine gz_istore_n (pc := 6) (lv2 := [(3, vI (Mt_sl (Md_mt u) p0)), (0, .ref (a 0)), (1, vI p0), (2, vI p1)]) F dX9_canSwap_6 rfl (by decide) rfl ?_
  refine gz_aload_n (pc := 7) F dX9_canSwap_7 rfl 1 rfl ?_
  refine gz_get (pc := 8) (v := .ref (a 12)) F hn_X9_canSwap_X9 0 9 rfl rfl 16 (by decide) fl_X9_canSwap_44 rfl dX9_canSwap_8 ?_
  refine gz_iload_n (pc := 11) F dX9_canSwap_11 rfl 3 rfl ?_
  refine gz_iald (pc := 12) (f := Mt_sl (Md_mt u)) F 12 rfl (by omega) (by decide) dX9_canSwap_12 ?_
  have b12 := (hMt.2 p1).2.1
  refine gz_istore (pc := 13) (lv2 := [(4, vI (Mt_sl (Md_mt u) p1)), (3, vI (Mt_sl (Md_mt u) p0)), (0, .ref (a 0)), (1, vI p0), (2, vI p1)]) F dX9_canSwap_13 (by decide) rfl ?_
  refine gz_aload_n (pc := 15) F dX9_canSwap_15 rfl 2 rfl ?_
  refine gz_get (pc := 16) (v := .ref (a 12)) F hn_X9_canSwap_X9 0 9 rfl rfl 16 (by decide) fl_X9_canSwap_44 rfl dX9_canSwap_16 ?_
  refine gz_iload_n (pc := 19) F dX9_canSwap_19 rfl 3 rfl ?_
  refine gz_iload (pc := 20) F dX9_canSwap_20 0 rfl ?_
  refine gz_iast (pc := 22) (f := Mt_sl (Md_mt u)) (ws2 := MdW cI cZ a ((Md_th u, Md_now u, Md_aw u, Md_mm u, Md_lo u, (Mt_n (Md_mt u), Mt_pe (Md_mt u), zU (Mt_sl (Md_mt u)) p0 (Mt_sl (Md_mt u) p1), Mt_ln (Md_mt u), Mt_ma (Md_mt u), Mt_st (Md_mt u), Mt_mv (Md_mt u)), Md_sw u, Md_bu u))) F 12 rfl (by omega) (by decide) rfl dX9_canSwap_22 ?_
  refine gz_aload_n (pc := 23) F dX9_canSwap_23 rfl 2 rfl ?_
  refine gz_get (pc := 24) (v := .ref (a 12)) F hn_X9_canSwap_X9 0 9 rfl rfl 16 (by decide) fl_X9_canSwap_44 rfl dX9_canSwap_24 ?_
  refine gz_iload_n (pc := 27) F dX9_canSwap_27 rfl 4 rfl ?_
  refine gz_iload_n (pc := 28) F dX9_canSwap_28 rfl 1 rfl ?_
  refine gz_iast (pc := 29) (f := zU (Mt_sl (Md_mt u)) p0 (Mt_sl (Md_mt u) p1)) (ws2 := MdW cI cZ a ((Md_th u, Md_now u, Md_aw u, Md_mm u, Md_lo u, (Mt_n (Md_mt u), Mt_pe (Md_mt u), zU (zU (Mt_sl (Md_mt u)) p0 (Mt_sl (Md_mt u) p1)) p1 (Mt_sl (Md_mt u) p0), Mt_ln (Md_mt u), Mt_ma (Md_mt u), Mt_st (Md_mt u), Mt_mv (Md_mt u)), Md_sw u, Md_bu u))) F 12 rfl (by omega) (by decide) rfl dX9_canSwap_29 ?_
  refine gz_iload (pc := 30) F dX9_canSwap_30 0 rfl ?_
  refine gz_aload_n (pc := 32) F dX9_canSwap_32 rfl 2 rfl ?_
  refine gz_get (pc := 33) (v := .ref (a 13)) F hn_X9_canSwap_X9 0 9 rfl rfl 17 (by decide) fl_X9_canSwap_47 rfl dX9_canSwap_33 ?_
  refine gz_iload_n (pc := 36) F dX9_canSwap_36 rfl 3 rfl ?_
  refine gz_iald (pc := 37) (f := Mt_ln (Md_mt u)) F 13 rfl (by omega) (by decide) dX9_canSwap_37 ?_
  have b37 := (hMt.2 p0).2.2.1
  refine gz_callS (pc := 38) (n := 2) (As := [vI (Mt_sl (Md_mt u) p1), vI (Mt_ln (Md_mt u) p0)]) (rest := []) (bytes := cX9_isOnOneDay) (maxL := 2) (ret := some .boolean) F (ct_X9_isOnOneDay l D cI cJ cZ (Mt_sl (Md_mt u) p1) (Mt_ln (Md_mt u) p0) (by omega) (by omega) (by omega)) gX9_canSwap_X9_isOnOneDay rfl ⟨rfl, rfl⟩ (by decide +kernel) ⟨Nat.le_of_ble_eq_true rfl, Nat.le_of_ble_eq_true rfl⟩ rfl [] rfl (by decide) rfl (Nat.le_of_ble_eq_true rfl) ⟨Nat.zero_le _, Nat.zero_le _⟩ gz_pI_sh dX9_canSwap_38 ?_
  refine gz_kI rfl (fun r38 h38 => ?_)
  subst h38
  refine gz_if_eqb (pc := 41) (tgt := 116) F dX9_canSwap_41 (by decide) (fun c41 => ?_) (fun c41 => ?_)
  · refine gz_const (pc := 116) F dX9_canSwap_116 ?_
    refine gz_eqst (st2 := [vI (bz (Md_swp u p0 p1))]) (by first | exact congrArg (fun x => [vI x]) (bzF (fun h => c109 h.2.2.2)) | exact congrArg (fun x => [vI x]) (bzF (fun h => c82 h.2.2.1)) | exact congrArg (fun x => [vI x]) (bzF (fun h => c54 h.2.1)) | exact congrArg (fun x => [vI x]) (bzF (fun h => c41 h.1))) ?_
    refine gz_lv [2, 3, 4, 1, 0] rfl ?_
    exact J117  
  · refine gz_iload_n (pc := 44) F dX9_canSwap_44 rfl 1 rfl ?_
    refine gz_aload_n (pc := 45) F dX9_canSwap_45 rfl 2 rfl ?_
    refine gz_get (pc := 46) (v := .ref (a 13)) F hn_X9_canSwap_X9 0 9 rfl rfl 17 (by decide) fl_X9_canSwap_47 rfl dX9_canSwap_46 ?_
    refine gz_iload_n (pc := 49) F dX9_canSwap_49 rfl 4 rfl ?_
    refine gz_iald (pc := 50) (f := Mt_ln (Md_mt u)) F 13 rfl (by omega) (by decide) dX9_canSwap_50 ?_
    have b50 := (hMt.2 p1).2.2.1
    refine gz_callS (pc := 51) (n := 2) (As := [vI (Mt_sl (Md_mt u) p0), vI (Mt_ln (Md_mt u) p1)]) (rest := []) (bytes := cX9_isOnOneDay) (maxL := 2) (ret := some .boolean) F (ct_X9_isOnOneDay l D cI cJ cZ (Mt_sl (Md_mt u) p0) (Mt_ln (Md_mt u) p1) (by omega) (by omega) (by omega)) gX9_canSwap_X9_isOnOneDay rfl ⟨rfl, rfl⟩ (by decide +kernel) ⟨Nat.le_of_ble_eq_true rfl, Nat.le_of_ble_eq_true rfl⟩ rfl [] rfl (by decide) rfl (Nat.le_of_ble_eq_true rfl) ⟨Nat.zero_le _, Nat.zero_le _⟩ gz_pI_sh dX9_canSwap_51 ?_
    refine gz_kI rfl (fun r51 h51 => ?_)
    subst h51
    refine gz_if_eqb (pc := 54) (tgt := 116) F dX9_canSwap_54 (by decide) (fun c54 => ?_) (fun c54 => ?_)
    · refine gz_const (pc := 116) F dX9_canSwap_116 ?_
      refine gz_eqst (st2 := [vI (bz (Md_swp u p0 p1))]) (by first | exact congrArg (fun x => [vI x]) (bzF (fun h => c109 h.2.2.2)) | exact congrArg (fun x => [vI x]) (bzF (fun h => c82 h.2.2.1)) | exact congrArg (fun x => [vI x]) (bzF (fun h => c54 h.2.1)) | exact congrArg (fun x => [vI x]) (bzF (fun h => c41 h.1))) ?_
      refine gz_lv [2, 3, 4, 1, 0] rfl ?_
      exact J117  
    · refine gz_aload_n (pc := 57) F dX9_canSwap_57 rfl 2 rfl ?_
      refine gz_iload_n (pc := 58) F dX9_canSwap_58 rfl 3 rfl ?_
      refine gz_aload_n (pc := 59) F dX9_canSwap_59 rfl 2 rfl ?_
      refine gz_get (pc := 60) (v := .ref (a 11)) F hn_X9_canSwap_X9 0 9 rfl rfl 15 (by decide) fl_X9_canSwap_41 rfl dX9_canSwap_60 ?_
      refine gz_iload_n (pc := 63) F dX9_canSwap_63 rfl 3 rfl ?_
      refine gz_iald (pc := 64) (f := Mt_pe (Md_mt u)) F 11 rfl (by omega) (by decide) dX9_canSwap_64 ?_
      have b64 := (hMt.2 p0).1
      refine gz_iload (pc := 65) F dX9_canSwap_65 0 rfl ?_
      refine gz_aload_n (pc := 67) F dX9_canSwap_67 rfl 2 rfl ?_
      refine gz_get (pc := 68) (v := .ref (a 13)) F hn_X9_canSwap_X9 0 9 rfl rfl 17 (by decide) fl_X9_canSwap_47 rfl dX9_canSwap_68 ?_
      refine gz_iload_n (pc := 71) F dX9_canSwap_71 rfl 3 rfl ?_
      refine gz_iald (pc := 72) (f := Mt_ln (Md_mt u)) F 13 rfl (by omega) (by decide) dX9_canSwap_72 ?_
      have b72 := (hMt.2 p0).2.2.1
      refine gz_aload_n (pc := 73) F dX9_canSwap_73 rfl 2 rfl ?_
      refine gz_get (pc := 74) (v := .ref (a 14)) F hn_X9_canSwap_X9 0 9 rfl rfl 18 (by decide) fl_X9_canSwap_50 rfl dX9_canSwap_74 ?_
      refine gz_iload_n (pc := 77) F dX9_canSwap_77 rfl 3 rfl ?_
      refine gz_iald (pc := 78) (f := Mt_ma (Md_mt u)) F 14 rfl (by omega) (by decide) dX9_canSwap_78 ?_
      have b78 := hMa p0
      refine gz_callVb (pc := 79) (n := 5) (As := [vI p0, vI (Mt_pe (Md_mt u) p0), vI (Mt_sl (Md_mt u) p1), vI (Mt_ln (Md_mt u) p0), vI (Mt_ma (Md_mt u) p0)]) (rest := []) (bytes := cX9_canBe) (maxL := 9) (ret := some .boolean) F (ct_X9_canBe l D cI cJ cZ a ((Md_th u, Md_now u, Md_aw u, Md_mm u, Md_lo u, (Mt_n (Md_mt u), Mt_pe (Md_mt u), zU (zU (Mt_sl (Md_mt u)) p0 (Mt_sl (Md_mt u) p1)) p1 (Mt_sl (Md_mt u) p0), Mt_ln (Md_mt u), Mt_ma (Md_mt u), Mt_st (Md_mt u), Mt_mv (Md_mt u)), Md_sw u, Md_bu u)) p0 (Mt_pe (Md_mt u) p0) (Mt_sl (Md_mt u) p1) (Mt_ln (Md_mt u) p0) (Mt_ma (Md_mt u) p0) (Md_exM_I hu) (by omega) (by omega) (by omega) (by omega) (by omega)) gX9_canSwap_X9_canBe rfl ⟨rfl, rfl⟩ (by decide +kernel) ⟨Nat.le_of_ble_eq_true rfl, Nat.le_of_ble_eq_true rfl⟩ rfl [] [] ((List.append_nil _).symm) 9 rfl rfl rfl (Nat.le_of_ble_eq_true rfl) ⟨Nat.zero_le _, Nat.zero_le _⟩ gz_pI_sh dX9_canSwap_79 ?_
      refine gz_kIb ((List.append_nil _).symm).symm (fun r79 h79 => ?_)
      subst h79
      refine gz_if_eqb (pc := 82) (tgt := 116) F dX9_canSwap_82 (by decide) (fun c82 => ?_) (fun c82 => ?_)
      · refine gz_const (pc := 116) F dX9_canSwap_116 ?_
        refine gz_eqst (st2 := [vI (bz (Md_swp u p0 p1))]) (by first | exact congrArg (fun x => [vI x]) (bzF (fun h => c109 h.2.2.2)) | exact congrArg (fun x => [vI x]) (bzF (fun h => c82 h.2.2.1)) | exact congrArg (fun x => [vI x]) (bzF (fun h => c54 h.2.1)) | exact congrArg (fun x => [vI x]) (bzF (fun h => c41 h.1))) ?_
        refine gz_lv [2, 3, 4, 1, 0] rfl ?_
        exact J117  
      · refine gz_aload_n (pc := 85) F dX9_canSwap_85 rfl 2 rfl ?_
        refine gz_iload_n (pc := 86) F dX9_canSwap_86 rfl 4 rfl ?_
        refine gz_aload_n (pc := 87) F dX9_canSwap_87 rfl 2 rfl ?_
        refine gz_get (pc := 88) (v := .ref (a 11)) F hn_X9_canSwap_X9 0 9 rfl rfl 15 (by decide) fl_X9_canSwap_41 rfl dX9_canSwap_88 ?_
        refine gz_iload_n (pc := 91) F dX9_canSwap_91 rfl 4 rfl ?_
        refine gz_iald (pc := 92) (f := Mt_pe (Md_mt u)) F 11 rfl (by omega) (by decide) dX9_canSwap_92 ?_
        have b92 := (hMt.2 p1).1
        refine gz_iload_n (pc := 93) F dX9_canSwap_93 rfl 1 rfl ?_
        refine gz_aload_n (pc := 94) F dX9_canSwap_94 rfl 2 rfl ?_
        refine gz_get (pc := 95) (v := .ref (a 13)) F hn_X9_canSwap_X9 0 9 rfl rfl 17 (by decide) fl_X9_canSwap_47 rfl dX9_canSwap_95 ?_
        refine gz_iload_n (pc := 98) F dX9_canSwap_98 rfl 4 rfl ?_
        refine gz_iald (pc := 99) (f := Mt_ln (Md_mt u)) F 13 rfl (by omega) (by decide) dX9_canSwap_99 ?_
        have b99 := (hMt.2 p1).2.2.1
        refine gz_aload_n (pc := 100) F dX9_canSwap_100 rfl 2 rfl ?_
        refine gz_get (pc := 101) (v := .ref (a 14)) F hn_X9_canSwap_X9 0 9 rfl rfl 18 (by decide) fl_X9_canSwap_50 rfl dX9_canSwap_101 ?_
        refine gz_iload_n (pc := 104) F dX9_canSwap_104 rfl 4 rfl ?_
        refine gz_iald (pc := 105) (f := Mt_ma (Md_mt u)) F 14 rfl (by omega) (by decide) dX9_canSwap_105 ?_
        have b105 := hMa p1
        refine gz_callVb (pc := 106) (n := 5) (As := [vI p1, vI (Mt_pe (Md_mt u) p1), vI (Mt_sl (Md_mt u) p0), vI (Mt_ln (Md_mt u) p1), vI (Mt_ma (Md_mt u) p1)]) (rest := []) (bytes := cX9_canBe) (maxL := 9) (ret := some .boolean) F (ct_X9_canBe l D cI cJ cZ a ((Md_th u, Md_now u, Md_aw u, Md_mm u, Md_lo u, (Mt_n (Md_mt u), Mt_pe (Md_mt u), zU (zU (Mt_sl (Md_mt u)) p0 (Mt_sl (Md_mt u) p1)) p1 (Mt_sl (Md_mt u) p0), Mt_ln (Md_mt u), Mt_ma (Md_mt u), Mt_st (Md_mt u), Mt_mv (Md_mt u)), Md_sw u, Md_bu u)) p1 (Mt_pe (Md_mt u) p1) (Mt_sl (Md_mt u) p0) (Mt_ln (Md_mt u) p1) (Mt_ma (Md_mt u) p1) (Md_exM_I hu) (by omega) (by omega) (by omega) (by omega) (by omega)) gX9_canSwap_X9_canBe rfl ⟨rfl, rfl⟩ (by decide +kernel) ⟨Nat.le_of_ble_eq_true rfl, Nat.le_of_ble_eq_true rfl⟩ rfl [] [] ((List.append_nil _).symm) 9 rfl rfl rfl (Nat.le_of_ble_eq_true rfl) ⟨Nat.zero_le _, Nat.zero_le _⟩ gz_pI_sh dX9_canSwap_106 ?_
        refine gz_kIb ((List.append_nil _).symm).symm (fun r106 h106 => ?_)
        subst h106
        refine gz_if_eqb (pc := 109) (tgt := 116) F dX9_canSwap_109 (by decide) (fun c109 => ?_) (fun c109 => ?_)
        · refine gz_const (pc := 116) F dX9_canSwap_116 ?_
          refine gz_eqst (st2 := [vI (bz (Md_swp u p0 p1))]) (by first | exact congrArg (fun x => [vI x]) (bzF (fun h => c109 h.2.2.2)) | exact congrArg (fun x => [vI x]) (bzF (fun h => c82 h.2.2.1)) | exact congrArg (fun x => [vI x]) (bzF (fun h => c54 h.2.1)) | exact congrArg (fun x => [vI x]) (bzF (fun h => c41 h.1))) ?_
          refine gz_lv [2, 3, 4, 1, 0] rfl ?_
          exact J117  
        · refine gz_const (pc := 112) F dX9_canSwap_112 ?_
          refine gz_goto (pc := 113) (tgt := 117) F dX9_canSwap_113 (by decide) ?_
          refine gz_eqst (st2 := [vI (bz (Md_swp u p0 p1))]) (by exact congrArg (fun x => [vI x]) (bzT (⟨c41, c54, c82, c109⟩))) ?_
          refine gz_lv [2, 3, 4, 1, 0] rfl ?_
          exact J117  
