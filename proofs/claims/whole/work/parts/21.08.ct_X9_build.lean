/-! ===== laid by wip/whole/gen/md.py ===== -/
abbrev md_build (u : MdS) (p0 p1 p2 : Int) : List (Prop × Int) := [(¬ ((0 ≤ p0 ∧ p0 ≤ 15) ∧ (0 ≤ p1 ∧ p1 ≤ 9) ∧ (1 ≤ p2 ∧ p2 ≤ 6)), 1), (Bu_n (Md_bu u) = 40, 2)]
theorem hn_X9_build_X9 : ∀ w ∈ u_ws RX9 TX9 35, w ∈ wsX9_build := by decide +kernel
theorem fl_X9_build_112 : Cond.fieldLink RX9 112 (TX9 27).1 (TX9 27).2.1 (TX9 27).2.2.1 ∈ wsX9_build := by decide +kernel
theorem fl_X9_build_77 : Cond.fieldLink RX9 77 (TX9 29).1 (TX9 29).2.1 (TX9 29).2.2.1 ∈ wsX9_build := by decide +kernel
theorem fl_X9_build_80 : Cond.fieldLink RX9 80 (TX9 30).1 (TX9 30).2.1 (TX9 30).2.2.1 ∈ wsX9_build := by decide +kernel
theorem fl_X9_build_83 : Cond.fieldLink RX9 83 (TX9 31).1 (TX9 31).2.1 (TX9 31).2.2.1 ∈ wsX9_build := by decide +kernel
theorem fl_X9_build_86 : Cond.fieldLink RX9 86 (TX9 32).1 (TX9 32).2.1 (TX9 32).2.2.1 ∈ wsX9_build := by decide +kernel
theorem fl_X9_build_89 : Cond.fieldLink RX9 89 (TX9 33).1 (TX9 33).2.1 (TX9 33).2.2.1 ∈ wsX9_build := by decide +kernel
set_option maxHeartbeats 4000000 in
set_option maxRecDepth 100000 in
theorem ct_X9_build (l : Launch) (D : va_G) (cI cJ cZ : ClassId) (a : Nat → Nat) (u : MdS) (p0 p1 p2 : Int) (hu : MdI u) (h0 : -2147483648 ≤ p0 ∧ p0 < 2147483648) (h1 : -2147483648 ≤ p1 ∧ p1 < 2147483648) (h2 : -2147483648 ≤ p2 ∧ p2 < 2147483648)  : gz_M l yX9_build wsX9_build { frames := 1, cells := 0, slots := 0, locals := 22 } D cI cJ cZ [.ref (a 0), vI p0, vI p1, vI p2] (MdW cI cZ a u) (gz_pK (md_build u p0 p1 p2) (some (vI (Bu_n (Md_bu u) + 1 - 1))) (some (vI 0)) (fun k => MdW cI cZ a (Md_setTh u k)) (MdW cI cZ a ((0, Md_now u, Md_aw u, Md_mm u, Md_lo u, Md_mt u, Md_sw u, Bu_addM (Md_bu u) p0 p1 p2)))) := by
  refine gz_ofZ (cc := cX9_build) (maxL := 5) (ty := .int) (own := RX9) (by decide) rfl rfl (Nat.le_of_ble_eq_true rfl) (lv0 := [(0, .ref (a 0)), (1, vI p0), (2, vI p1), (3, vI p2)]) rfl ?_
  intro p e s m args below meth c A Q F Z
  obtain ⟨hnw, hAw, hMm, hLo, ⟨hMt, hMa⟩, hSw, hBu⟩ := id hu
  have hMmn := hMm.1
  have hLon := hLo.1
  have hMtn := hMt.1
  have hSwn := hSw.1
  have hBun := hBu.1
  have J35 : gG p l e ({ frames := 1, cells := 0, slots := 0, locals := 22 } : Room) s m args below meth c D A 5 Q 0 0 (MdW cI cZ a u) [(0, .ref (a 0)), (1, vI p0), (2, vI p1), (3, vI p2)] [vI (bz ((0 ≤ p0 ∧ p0 ≤ 15) ∧ (0 ≤ p1 ∧ p1 ≤ 9) ∧ (1 ≤ p2 ∧ p2 ≤ 6)))] 35 := by
    refine gz_istore (pc := 35) (lv2 := [(4, vI (bz ((0 ≤ p0 ∧ p0 ≤ 15) ∧ (0 ≤ p1 ∧ p1 ≤ 9) ∧ (1 ≤ p2 ∧ p2 ≤ 6)))), (0, .ref (a 0)), (1, vI p0), (2, vI p1), (3, vI p2)]) F dX9_build_35 (by decide) rfl ?_
    refine gz_aload_n (pc := 37) F dX9_build_37 rfl 1 rfl ?_
    refine gz_iload (pc := 38) F dX9_build_38 0 rfl ?_
    refine gz_if_neb (pc := 40) (tgt := 47) F dX9_build_40 (by decide) (fun c40 => ?_) (fun c40 => ?_)
    · refine gz_aload_n (pc := 47) F dX9_build_47 rfl 1 rfl ?_
      refine gz_get (pc := 48) (v := vI (Bu_n (Md_bu u))) F hn_X9_build_X9 0 9 rfl rfl 27 (by decide) fl_X9_build_112 rfl dX9_build_48 ?_
      have b48 := hBu.1
      refine gz_bipush (pc := 51) F dX9_build_51 (by decide) ?_
      refine gz_icmp_ne (pc := 53) (tgt := 60) F dX9_build_53 (by decide) (by omega) (by omega) (fun c53 => ?_) (fun c53 => ?_)
      · refine gz_const (pc := 60) F dX9_build_60 ?_
        refine gz_callVb (pc := 61) (n := 1) (As := [vI 0]) (rest := []) (bytes := cX9_refused) (maxL := 2) (ret := some .boolean) F (ct_X9_refused_0 l D cI cJ cZ a u hu) gX9_build_X9_refused rfl ⟨rfl, rfl⟩ (by decide +kernel) ⟨Nat.le_of_ble_eq_true rfl, Nat.le_of_ble_eq_true rfl⟩ rfl [] [] ((List.append_nil _).symm) 9 rfl rfl rfl (Nat.le_of_ble_eq_true rfl) ⟨Nat.zero_le _, Nat.zero_le _⟩ (gz_pV_sh rfl) dX9_build_61 ?_
        refine gz_kVb (r := 0) (ws2 := MdW cI cZ a (0, Md_now u, Md_aw u, Md_mm u, Md_lo u, Md_mt u, Md_sw u, Md_bu u)) ((List.append_nil _).symm).symm ?_
        refine gz_if_eq (pc := 64) (tgt := 69) F dX9_build_64 (by decide) (by omega) (fun c64 => ?_) (fun c64 => ?_)
        · refine gz_aload_n (pc := 69) F dX9_build_69 rfl 1 rfl ?_
          refine gz_get (pc := 70) (v := .ref (a 23)) F hn_X9_build_X9 0 9 rfl rfl 29 (by decide) fl_X9_build_77 rfl dX9_build_70 ?_
          refine gz_aload_n (pc := 73) F dX9_build_73 rfl 1 rfl ?_
          refine gz_get (pc := 74) (v := vI (Bu_n (Md_bu u))) F hn_X9_build_X9 0 9 rfl rfl 27 (by decide) fl_X9_build_112 rfl dX9_build_74 ?_
          have b74 := hBu.1
          refine gz_iload_n (pc := 77) F dX9_build_77 rfl 2 rfl ?_
          refine gz_iast (pc := 78) (f := Bu_ne (Md_bu u)) (ws2 := MdW cI cZ a ((0, Md_now u, Md_aw u, Md_mm u, Md_lo u, Md_mt u, Md_sw u, (Bu_n (Md_bu u), zU (Bu_ne (Md_bu u)) (Bu_n (Md_bu u)) p0, Bu_ur (Md_bu u), Bu_ln (Md_bu u), Bu_st (Md_bu u), Bu_ma (Md_bu u), Bu_bg (Md_bu u), Bu_ti (Md_bu u))))) F 23 rfl (by omega) (by decide) rfl dX9_build_78 ?_
          refine gz_aload_n (pc := 79) F dX9_build_79 rfl 1 rfl ?_
          refine gz_get (pc := 80) (v := .ref (a 24)) F hn_X9_build_X9 0 9 rfl rfl 30 (by decide) fl_X9_build_80 rfl dX9_build_80 ?_
          refine gz_aload_n (pc := 83) F dX9_build_83 rfl 1 rfl ?_
          refine gz_get (pc := 84) (v := vI (Bu_n (Md_bu u))) F hn_X9_build_X9 0 9 rfl rfl 27 (by decide) fl_X9_build_112 rfl dX9_build_84 ?_
          have b84 := hBu.1
          refine gz_iload_n (pc := 87) F dX9_build_87 rfl 3 rfl ?_
          refine gz_iast (pc := 88) (f := Bu_ur (Md_bu u)) (ws2 := MdW cI cZ a ((0, Md_now u, Md_aw u, Md_mm u, Md_lo u, Md_mt u, Md_sw u, (Bu_n (Md_bu u), zU (Bu_ne (Md_bu u)) (Bu_n (Md_bu u)) p0, zU (Bu_ur (Md_bu u)) (Bu_n (Md_bu u)) p1, Bu_ln (Md_bu u), Bu_st (Md_bu u), Bu_ma (Md_bu u), Bu_bg (Md_bu u), Bu_ti (Md_bu u))))) F 24 rfl (by omega) (by decide) rfl dX9_build_88 ?_
          refine gz_aload_n (pc := 89) F dX9_build_89 rfl 1 rfl ?_
          refine gz_get (pc := 90) (v := .ref (a 25)) F hn_X9_build_X9 0 9 rfl rfl 31 (by decide) fl_X9_build_83 rfl dX9_build_90 ?_
          refine gz_aload_n (pc := 93) F dX9_build_93 rfl 1 rfl ?_
          refine gz_get (pc := 94) (v := vI (Bu_n (Md_bu u))) F hn_X9_build_X9 0 9 rfl rfl 27 (by decide) fl_X9_build_112 rfl dX9_build_94 ?_
          have b94 := hBu.1
          refine gz_iload_n (pc := 97) F dX9_build_97 rfl 4 rfl ?_
          refine gz_iast (pc := 98) (f := Bu_ln (Md_bu u)) (ws2 := MdW cI cZ a ((0, Md_now u, Md_aw u, Md_mm u, Md_lo u, Md_mt u, Md_sw u, (Bu_n (Md_bu u), zU (Bu_ne (Md_bu u)) (Bu_n (Md_bu u)) p0, zU (Bu_ur (Md_bu u)) (Bu_n (Md_bu u)) p1, zU (Bu_ln (Md_bu u)) (Bu_n (Md_bu u)) p2, Bu_st (Md_bu u), Bu_ma (Md_bu u), Bu_bg (Md_bu u), Bu_ti (Md_bu u))))) F 25 rfl (by omega) (by decide) rfl dX9_build_98 ?_
          refine gz_aload_n (pc := 99) F dX9_build_99 rfl 1 rfl ?_
          refine gz_get (pc := 100) (v := .ref (a 26)) F hn_X9_build_X9 0 9 rfl rfl 32 (by decide) fl_X9_build_86 rfl dX9_build_100 ?_
          refine gz_aload_n (pc := 103) F dX9_build_103 rfl 1 rfl ?_
          refine gz_get (pc := 104) (v := vI (Bu_n (Md_bu u))) F hn_X9_build_X9 0 9 rfl rfl 27 (by decide) fl_X9_build_112 rfl dX9_build_104 ?_
          have b104 := hBu.1
          refine gz_const (pc := 107) F dX9_build_107 ?_
          refine gz_iast (pc := 108) (f := Bu_ma (Md_bu u)) (ws2 := MdW cI cZ a ((0, Md_now u, Md_aw u, Md_mm u, Md_lo u, Md_mt u, Md_sw u, (Bu_n (Md_bu u), zU (Bu_ne (Md_bu u)) (Bu_n (Md_bu u)) p0, zU (Bu_ur (Md_bu u)) (Bu_n (Md_bu u)) p1, zU (Bu_ln (Md_bu u)) (Bu_n (Md_bu u)) p2, Bu_st (Md_bu u), zU (Bu_ma (Md_bu u)) (Bu_n (Md_bu u)) (-1), Bu_bg (Md_bu u), Bu_ti (Md_bu u))))) F 26 rfl (by omega) (by decide) rfl dX9_build_108 ?_
          refine gz_aload_n (pc := 109) F dX9_build_109 rfl 1 rfl ?_
          refine gz_get (pc := 110) (v := .ref (a 27)) F hn_X9_build_X9 0 9 rfl rfl 33 (by decide) fl_X9_build_89 rfl dX9_build_110 ?_
          refine gz_aload_n (pc := 113) F dX9_build_113 rfl 1 rfl ?_
          refine gz_get (pc := 114) (v := vI (Bu_n (Md_bu u))) F hn_X9_build_X9 0 9 rfl rfl 27 (by decide) fl_X9_build_112 rfl dX9_build_114 ?_
          have b114 := hBu.1
          refine gz_const (pc := 117) F dX9_build_117 ?_
          refine gz_iast (pc := 118) (f := Bu_bg (Md_bu u)) (ws2 := MdW cI cZ a ((0, Md_now u, Md_aw u, Md_mm u, Md_lo u, Md_mt u, Md_sw u, (Bu_n (Md_bu u), zU (Bu_ne (Md_bu u)) (Bu_n (Md_bu u)) p0, zU (Bu_ur (Md_bu u)) (Bu_n (Md_bu u)) p1, zU (Bu_ln (Md_bu u)) (Bu_n (Md_bu u)) p2, Bu_st (Md_bu u), zU (Bu_ma (Md_bu u)) (Bu_n (Md_bu u)) (-1), zU (Bu_bg (Md_bu u)) (Bu_n (Md_bu u)) (-1), Bu_ti (Md_bu u))))) F 27 rfl (by omega) (by decide) rfl dX9_build_118 ?_
          refine gz_aload_n (pc := 119) F dX9_build_119 rfl 1 rfl ?_
          refine gz_dup (pc := 120) F dX9_build_120 rfl ?_
          refine gz_get (pc := 121) (v := vI (Bu_n (Md_bu u))) F hn_X9_build_X9 0 9 rfl rfl 27 (by decide) fl_X9_build_112 rfl dX9_build_121 ?_
          have b121 := hBu.1
          refine gz_const (pc := 124) F dX9_build_124 ?_
          refine gz_iadd (pc := 125) F dX9_build_125 ?_
          refine gz_put (pc := 126) (ws2 := MdW cI cZ a ((0, Md_now u, Md_aw u, Md_mm u, Md_lo u, Md_mt u, Md_sw u, ((Bu_n (Md_bu u)) + 1, zU (Bu_ne (Md_bu u)) (Bu_n (Md_bu u)) p0, zU (Bu_ur (Md_bu u)) (Bu_n (Md_bu u)) p1, zU (Bu_ln (Md_bu u)) (Bu_n (Md_bu u)) p2, Bu_st (Md_bu u), zU (Bu_ma (Md_bu u)) (Bu_n (Md_bu u)) (-1), zU (Bu_bg (Md_bu u)) (Bu_n (Md_bu u)) (-1), Bu_ti (Md_bu u))))) F hn_X9_build_X9 tyX9 tyX9_ok nmX9 0 9 rfl rfl 27 (by decide) fl_X9_build_112 rfl (ty := .int) rfl rfl rfl (Nat.le_of_ble_eq_true rfl) rfl dX9_build_126 ?_
          refine gz_aload_n (pc := 129) F dX9_build_129 rfl 1 rfl ?_
          refine gz_get (pc := 130) (v := vI ((Bu_n (Md_bu u)) + 1)) F hn_X9_build_X9 0 9 rfl rfl 27 (by decide) fl_X9_build_112 rfl dX9_build_130 ?_
          refine gz_const (pc := 133) F dX9_build_133 ?_
          refine gz_isub (pc := 134) F dX9_build_134 ?_
          refine Z _ _ 135 _ dX9_build_135 rfl ?_
          exact ⟨0, Or.inr ⟨not_not_intro c40, Or.inr ⟨c53, rfl⟩⟩, fun h => absurd rfl h, fun _ => ⟨rfl, rfl⟩⟩
        · exact absurd c64 (by decide)
      · refine gz_const (pc := 56) F dX9_build_56 ?_
        refine gz_goto (pc := 57) (tgt := 61) F dX9_build_57 (by decide) ?_
        refine gz_callVb (pc := 61) (n := 1) (As := [vI 2]) (rest := []) (bytes := cX9_refused) (maxL := 2) (ret := some .boolean) F (ct_X9_refused_2 l D cI cJ cZ a u hu) gX9_build_X9_refused rfl ⟨rfl, rfl⟩ (by decide +kernel) ⟨Nat.le_of_ble_eq_true rfl, Nat.le_of_ble_eq_true rfl⟩ rfl [] [] ((List.append_nil _).symm) 9 rfl rfl rfl (Nat.le_of_ble_eq_true rfl) ⟨Nat.zero_le _, Nat.zero_le _⟩ (gz_pV_sh rfl) dX9_build_61 ?_
        refine gz_kVb (r := 1) (ws2 := MdW cI cZ a (2, Md_now u, Md_aw u, Md_mm u, Md_lo u, Md_mt u, Md_sw u, Md_bu u)) ((List.append_nil _).symm).symm ?_
        refine gz_if_eq (pc := 64) (tgt := 69) F dX9_build_64 (by decide) (by omega) (fun c64 => ?_) (fun c64 => ?_)
        · exact absurd c64 (by decide)
        · refine gz_const (pc := 67) F dX9_build_67 ?_
          refine Z _ _ 68 _ dX9_build_68 rfl ?_
          exact ⟨2, Or.inr ⟨not_not_intro c40, Or.inl ⟨c53, rfl⟩⟩, fun _ => ⟨rfl, rfl⟩, fun h => absurd h (by decide)⟩
    · refine gz_const (pc := 43) F dX9_build_43 ?_
      refine gz_goto (pc := 44) (tgt := 61) F dX9_build_44 (by decide) ?_
      refine gz_callVb (pc := 61) (n := 1) (As := [vI 1]) (rest := []) (bytes := cX9_refused) (maxL := 2) (ret := some .boolean) F (ct_X9_refused_1 l D cI cJ cZ a u hu) gX9_build_X9_refused rfl ⟨rfl, rfl⟩ (by decide +kernel) ⟨Nat.le_of_ble_eq_true rfl, Nat.le_of_ble_eq_true rfl⟩ rfl [] [] ((List.append_nil _).symm) 9 rfl rfl rfl (Nat.le_of_ble_eq_true rfl) ⟨Nat.zero_le _, Nat.zero_le _⟩ (gz_pV_sh rfl) dX9_build_61 ?_
      refine gz_kVb (r := 1) (ws2 := MdW cI cZ a (1, Md_now u, Md_aw u, Md_mm u, Md_lo u, Md_mt u, Md_sw u, Md_bu u)) ((List.append_nil _).symm).symm ?_
      refine gz_if_eq (pc := 64) (tgt := 69) F dX9_build_64 (by decide) (by omega) (fun c64 => ?_) (fun c64 => ?_)
      · exact absurd c64 (by decide)
      · refine gz_const (pc := 67) F dX9_build_67 ?_
        refine Z _ _ 68 _ dX9_build_68 rfl ?_
        exact ⟨1, Or.inl ⟨c40, rfl⟩, fun _ => ⟨rfl, rfl⟩, fun h => absurd h (by decide)⟩
  refine gz_iload_n (pc := 0) F dX9_build_0 rfl 1 rfl ?_
  refine gz_const (pc := 1) F dX9_build_1 ?_
  refine gz_bipush (pc := 2) F dX9_build_2 (by decide) ?_
  refine gz_callS (pc := 4) (n := 3) (As := [vI p0, vI 0, vI 15]) (rest := []) (bytes := cX9_in) (maxL := 3) (ret := some .boolean) F (ct_X9_in l D cI cJ cZ p0 0 15 (by omega) (by omega) (by omega)) gX9_build_X9_in rfl ⟨rfl, rfl⟩ (by decide +kernel) ⟨Nat.le_of_ble_eq_true rfl, Nat.le_of_ble_eq_true rfl⟩ rfl [] rfl (by decide) rfl (Nat.le_of_ble_eq_true rfl) ⟨Nat.zero_le _, Nat.zero_le _⟩ gz_pI_sh dX9_build_4 ?_
  refine gz_kI rfl (fun r4 h4 => ?_)
  subst h4
  refine gz_if_eqb (pc := 7) (tgt := 34) F dX9_build_7 (by decide) (fun c7 => ?_) (fun c7 => ?_)
  · refine gz_const (pc := 34) F dX9_build_34 ?_
    refine gz_eqst (st2 := [vI (bz ((0 ≤ p0 ∧ p0 ≤ 15) ∧ (0 ≤ p1 ∧ p1 ≤ 9) ∧ (1 ≤ p2 ∧ p2 ≤ 6)))]) (by first | exact congrArg (fun x => [vI x]) (bzF (fun h => c27 h.2.2)) | exact congrArg (fun x => [vI x]) (bzF (fun h => c17 h.2.1)) | exact congrArg (fun x => [vI x]) (bzF (fun h => c7 h.1))) ?_
    exact J35  
  · refine gz_iload_n (pc := 10) F dX9_build_10 rfl 2 rfl ?_
    refine gz_const (pc := 11) F dX9_build_11 ?_
    refine gz_bipush (pc := 12) F dX9_build_12 (by decide) ?_
    refine gz_callS (pc := 14) (n := 3) (As := [vI p1, vI 0, vI 9]) (rest := []) (bytes := cX9_in) (maxL := 3) (ret := some .boolean) F (ct_X9_in l D cI cJ cZ p1 0 9 (by omega) (by omega) (by omega)) gX9_build_X9_in rfl ⟨rfl, rfl⟩ (by decide +kernel) ⟨Nat.le_of_ble_eq_true rfl, Nat.le_of_ble_eq_true rfl⟩ rfl [] rfl (by decide) rfl (Nat.le_of_ble_eq_true rfl) ⟨Nat.zero_le _, Nat.zero_le _⟩ gz_pI_sh dX9_build_14 ?_
    refine gz_kI rfl (fun r14 h14 => ?_)
    subst h14
    refine gz_if_eqb (pc := 17) (tgt := 34) F dX9_build_17 (by decide) (fun c17 => ?_) (fun c17 => ?_)
    · refine gz_const (pc := 34) F dX9_build_34 ?_
      refine gz_eqst (st2 := [vI (bz ((0 ≤ p0 ∧ p0 ≤ 15) ∧ (0 ≤ p1 ∧ p1 ≤ 9) ∧ (1 ≤ p2 ∧ p2 ≤ 6)))]) (by first | exact congrArg (fun x => [vI x]) (bzF (fun h => c27 h.2.2)) | exact congrArg (fun x => [vI x]) (bzF (fun h => c17 h.2.1)) | exact congrArg (fun x => [vI x]) (bzF (fun h => c7 h.1))) ?_
      exact J35  
    · refine gz_iload_n (pc := 20) F dX9_build_20 rfl 3 rfl ?_
      refine gz_const (pc := 21) F dX9_build_21 ?_
      refine gz_bipush (pc := 22) F dX9_build_22 (by decide) ?_
      refine gz_callS (pc := 24) (n := 3) (As := [vI p2, vI 1, vI 6]) (rest := []) (bytes := cX9_in) (maxL := 3) (ret := some .boolean) F (ct_X9_in l D cI cJ cZ p2 1 6 (by omega) (by omega) (by omega)) gX9_build_X9_in rfl ⟨rfl, rfl⟩ (by decide +kernel) ⟨Nat.le_of_ble_eq_true rfl, Nat.le_of_ble_eq_true rfl⟩ rfl [] rfl (by decide) rfl (Nat.le_of_ble_eq_true rfl) ⟨Nat.zero_le _, Nat.zero_le _⟩ gz_pI_sh dX9_build_24 ?_
      refine gz_kI rfl (fun r24 h24 => ?_)
      subst h24
      refine gz_if_eqb (pc := 27) (tgt := 34) F dX9_build_27 (by decide) (fun c27 => ?_) (fun c27 => ?_)
      · refine gz_const (pc := 34) F dX9_build_34 ?_
        refine gz_eqst (st2 := [vI (bz ((0 ≤ p0 ∧ p0 ≤ 15) ∧ (0 ≤ p1 ∧ p1 ≤ 9) ∧ (1 ≤ p2 ∧ p2 ≤ 6)))]) (by first | exact congrArg (fun x => [vI x]) (bzF (fun h => c27 h.2.2)) | exact congrArg (fun x => [vI x]) (bzF (fun h => c17 h.2.1)) | exact congrArg (fun x => [vI x]) (bzF (fun h => c7 h.1))) ?_
        exact J35  
      · refine gz_const (pc := 30) F dX9_build_30 ?_
        refine gz_goto (pc := 31) (tgt := 35) F dX9_build_31 (by decide) ?_
        refine gz_eqst (st2 := [vI (bz ((0 ≤ p0 ∧ p0 ≤ 15) ∧ (0 ≤ p1 ∧ p1 ≤ 9) ∧ (1 ≤ p2 ∧ p2 ≤ 6)))]) (by exact congrArg (fun x => [vI x]) (bzT (⟨c7, c17, c27⟩))) ?_
        exact J35  
