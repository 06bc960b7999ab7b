/-! ===== laid by wip/whole/gen/md.py ===== -/
abbrev md_lend (u : MdS) (p0 p1 p2 p3 : Int) : List (Prop × Int) := [(¬ ((0 ≤ p0 ∧ p0 ≤ Mm_n (Md_mm u) - 1) ∧ (0 ≤ p1 ∧ p1 ≤ 9)), 1), (¬ ((Md_now u ≤ p2 ∧ p2 ≤ 399) ∧ (p2 ≤ p3 ∧ p3 ≤ 399)), 2), (Lo_n (Md_lo u) = 20, 3)]
theorem hn_X9_lend_X9 : ∀ w ∈ u_ws RX9 TX9 35, w ∈ wsX9_lend := by decide +kernel
theorem fl_X9_lend_115 : Cond.fieldLink RX9 115 (TX9 8).1 (TX9 8).2.1 (TX9 8).2.2.1 ∈ wsX9_lend := by decide +kernel
theorem fl_X9_lend_26 : Cond.fieldLink RX9 26 (TX9 9).1 (TX9 9).2.1 (TX9 9).2.2.1 ∈ wsX9_lend := by decide +kernel
theorem fl_X9_lend_29 : Cond.fieldLink RX9 29 (TX9 10).1 (TX9 10).2.1 (TX9 10).2.2.1 ∈ wsX9_lend := by decide +kernel
theorem fl_X9_lend_32 : Cond.fieldLink RX9 32 (TX9 11).1 (TX9 11).2.1 (TX9 11).2.2.1 ∈ wsX9_lend := by decide +kernel
theorem fl_X9_lend_35 : Cond.fieldLink RX9 35 (TX9 12).1 (TX9 12).2.1 (TX9 12).2.2.1 ∈ wsX9_lend := by decide +kernel
theorem fl_X9_lend_144 : Cond.fieldLink RX9 144 (TX9 1).1 (TX9 1).2.1 (TX9 1).2.2.1 ∈ wsX9_lend := by decide +kernel
set_option maxHeartbeats 4000000 in
set_option maxRecDepth 100000 in
theorem ct_X9_lend (l : Launch) (D : va_G) (cI cJ cZ : ClassId) (a : Nat → Nat) (u : MdS) (p0 p1 p2 p3 : Int) (hu : MdI u) (h0 : -2147483648 ≤ p0 ∧ p0 < 2147483648) (h1 : -2147483648 ≤ p1 ∧ p1 < 2147483648) (h2 : -2147483648 ≤ p2 ∧ p2 < 2147483648) (h3 : -2147483648 ≤ p3 ∧ p3 < 2147483648)  : gz_M l yX9_lend wsX9_lend { frames := 2, cells := 0, slots := 0, locals := 43 } D cI cJ cZ [.ref (a 0), vI p0, vI p1, vI p2, vI p3] (MdW cI cZ a u) (gz_pK (md_lend u p0 p1 p2 p3) none none (fun k => MdW cI cZ a (Md_setTh u k)) (MdW cI cZ a ((0, Md_now u, Md_aw u, Md_mm u, Lo_addM (Md_lo u) p0 p1 p2 p3, Md_mt u, Md_sw u, Md_bu u)))) := by
  refine gz_ofV (cc := cX9_lend) (maxL := 7) (own := RX9) (by decide) rfl rfl (Nat.le_of_ble_eq_true rfl) (lv0 := [(0, .ref (a 0)), (1, vI p0), (2, vI p1), (3, vI p2), (4, vI p3)]) rfl ?_
  intro p e s m args below meth c A Q F Z
  obtain ⟨hnw, hAw, hMm, hLo, ⟨hMt, hMa⟩, hSw, hBu⟩ := id hu
  have hMmn := hMm.1
  have hLon := hLo.1
  have hMtn := hMt.1
  have hSwn := hSw.1
  have hBun := hBu.1
  have J53 : gG p l e ({ frames := 2, cells := 0, slots := 0, locals := 43 } : Room) s m args below meth c D A 7 Q 0 0 (MdW cI cZ a u) [(0, .ref (a 0)), (1, vI p0), (2, vI p1), (3, vI p2), (4, vI p3), (5, vI (bz ((0 ≤ p0 ∧ p0 ≤ Mm_n (Md_mm u) - 1) ∧ (0 ≤ p1 ∧ p1 ≤ 9))))] [vI (bz ((Md_now u ≤ p2 ∧ p2 ≤ 399) ∧ (p2 ≤ p3 ∧ p3 ≤ 399)))] 53 := by
    refine gz_istore (pc := 53) (lv2 := [(6, vI (bz ((Md_now u ≤ p2 ∧ p2 ≤ 399) ∧ (p2 ≤ p3 ∧ p3 ≤ 399)))), (0, .ref (a 0)), (1, vI p0), (2, vI p1), (3, vI p2), (4, vI p3), (5, vI (bz ((0 ≤ p0 ∧ p0 ≤ Mm_n (Md_mm u) - 1) ∧ (0 ≤ p1 ∧ p1 ≤ 9))))]) F dX9_lend_53 (by decide) rfl ?_
    refine gz_aload_n (pc := 55) F dX9_lend_55 rfl 1 rfl ?_
    refine gz_iload (pc := 56) F dX9_lend_56 6 rfl ?_
    refine gz_if_neb (pc := 58) (tgt := 65) F dX9_lend_58 (by decide) (fun c58 => ?_) (fun c58 => ?_)
    · refine gz_iload (pc := 65) F dX9_lend_65 0 rfl ?_
      refine gz_if_neb (pc := 67) (tgt := 74) F dX9_lend_67 (by decide) (fun c67 => ?_) (fun c67 => ?_)
      · refine gz_aload_n (pc := 74) F dX9_lend_74 rfl 1 rfl ?_
        refine gz_get (pc := 75) (v := vI (Lo_n (Md_lo u))) F hn_X9_lend_X9 0 9 rfl rfl 8 (by decide) fl_X9_lend_115 rfl dX9_lend_75 ?_
        have b75 := hLo.1
        refine gz_bipush (pc := 78) F dX9_lend_78 (by decide) ?_
        refine gz_icmp_ne (pc := 80) (tgt := 87) F dX9_lend_80 (by decide) (by omega) (by omega) (fun c80 => ?_) (fun c80 => ?_)
        · refine gz_const (pc := 87) F dX9_lend_87 ?_
          refine gz_callVb (pc := 88) (n := 1) (As := [vI 0]) (rest := []) (bytes := cX9_refused) (maxL := 2) (ret := some .boolean) F (ct_X9_refused_0 l D cI cJ cZ a u hu) gX9_lend_X9_refused rfl ⟨rfl, rfl⟩ (by decide +kernel) ⟨Nat.le_of_ble_eq_true rfl, Nat.le_of_ble_eq_true rfl⟩ rfl [] [] ((List.append_nil _).symm) 9 rfl rfl rfl (Nat.le_of_ble_eq_true rfl) ⟨Nat.zero_le _, Nat.zero_le _⟩ (gz_pV_sh rfl) dX9_lend_88 ?_
          refine gz_kVb (r := 0) (ws2 := MdW cI cZ a (0, Md_now u, Md_aw u, Md_mm u, Md_lo u, Md_mt u, Md_sw u, Md_bu u)) ((List.append_nil _).symm).symm ?_
          refine gz_if_eq (pc := 91) (tgt := 95) F dX9_lend_91 (by decide) (by omega) (fun c91 => ?_) (fun c91 => ?_)
          · refine gz_aload_n (pc := 95) F dX9_lend_95 rfl 1 rfl ?_
            refine gz_get (pc := 96) (v := .ref (a 6)) F hn_X9_lend_X9 0 9 rfl rfl 9 (by decide) fl_X9_lend_26 rfl dX9_lend_96 ?_
            refine gz_aload_n (pc := 99) F dX9_lend_99 rfl 1 rfl ?_
            refine gz_get (pc := 100) (v := vI (Lo_n (Md_lo u))) F hn_X9_lend_X9 0 9 rfl rfl 8 (by decide) fl_X9_lend_115 rfl dX9_lend_100 ?_
            have b100 := hLo.1
            refine gz_iload_n (pc := 103) F dX9_lend_103 rfl 2 rfl ?_
            refine gz_iast (pc := 104) (f := Lo_ma (Md_lo u)) (ws2 := MdW cI cZ a ((0, Md_now u, Md_aw u, Md_mm u, (Lo_n (Md_lo u), zU (Lo_ma (Md_lo u)) (Lo_n (Md_lo u)) p0, Lo_pe (Md_lo u), Lo_fr (Md_lo u), Lo_to (Md_lo u)), Md_mt u, Md_sw u, Md_bu u))) F 6 rfl (by omega) (by decide) rfl dX9_lend_104 ?_
            refine gz_aload_n (pc := 105) F dX9_lend_105 rfl 1 rfl ?_
            refine gz_get (pc := 106) (v := .ref (a 7)) F hn_X9_lend_X9 0 9 rfl rfl 10 (by decide) fl_X9_lend_29 rfl dX9_lend_106 ?_
            refine gz_aload_n (pc := 109) F dX9_lend_109 rfl 1 rfl ?_
            refine gz_get (pc := 110) (v := vI (Lo_n (Md_lo u))) F hn_X9_lend_X9 0 9 rfl rfl 8 (by decide) fl_X9_lend_115 rfl dX9_lend_110 ?_
            have b110 := hLo.1
            refine gz_iload_n (pc := 113) F dX9_lend_113 rfl 3 rfl ?_
            refine gz_iast (pc := 114) (f := Lo_pe (Md_lo u)) (ws2 := MdW cI cZ a ((0, Md_now u, Md_aw u, Md_mm u, (Lo_n (Md_lo u), zU (Lo_ma (Md_lo u)) (Lo_n (Md_lo u)) p0, zU (Lo_pe (Md_lo u)) (Lo_n (Md_lo u)) p1, Lo_fr (Md_lo u), Lo_to (Md_lo u)), Md_mt u, Md_sw u, Md_bu u))) F 7 rfl (by omega) (by decide) rfl dX9_lend_114 ?_
            refine gz_aload_n (pc := 115) F dX9_lend_115 rfl 1 rfl ?_
            refine gz_get (pc := 116) (v := .ref (a 8)) F hn_X9_lend_X9 0 9 rfl rfl 11 (by decide) fl_X9_lend_32 rfl dX9_lend_116 ?_
            refine gz_aload_n (pc := 119) F dX9_lend_119 rfl 1 rfl ?_
            refine gz_get (pc := 120) (v := vI (Lo_n (Md_lo u))) F hn_X9_lend_X9 0 9 rfl rfl 8 (by decide) fl_X9_lend_115 rfl dX9_lend_120 ?_
            have b120 := hLo.1
            refine gz_iload_n (pc := 123) F dX9_lend_123 rfl 4 rfl ?_
            refine gz_iast (pc := 124) (f := Lo_fr (Md_lo u)) (ws2 := MdW cI cZ a ((0, Md_now u, Md_aw u, Md_mm u, (Lo_n (Md_lo u), zU (Lo_ma (Md_lo u)) (Lo_n (Md_lo u)) p0, zU (Lo_pe (Md_lo u)) (Lo_n (Md_lo u)) p1, zU (Lo_fr (Md_lo u)) (Lo_n (Md_lo u)) p2, Lo_to (Md_lo u)), Md_mt u, Md_sw u, Md_bu u))) F 8 rfl (by omega) (by decide) rfl dX9_lend_124 ?_
            refine gz_aload_n (pc := 125) F dX9_lend_125 rfl 1 rfl ?_
            refine gz_get (pc := 126) (v := .ref (a 9)) F hn_X9_lend_X9 0 9 rfl rfl 12 (by decide) fl_X9_lend_35 rfl dX9_lend_126 ?_
            refine gz_aload_n (pc := 129) F dX9_lend_129 rfl 1 rfl ?_
            refine gz_get (pc := 130) (v := vI (Lo_n (Md_lo u))) F hn_X9_lend_X9 0 9 rfl rfl 8 (by decide) fl_X9_lend_115 rfl dX9_lend_130 ?_
            have b130 := hLo.1
            refine gz_iload (pc := 133) F dX9_lend_133 5 rfl ?_
            refine gz_iast (pc := 135) (f := Lo_to (Md_lo u)) (ws2 := MdW cI cZ a ((0, Md_now u, Md_aw u, Md_mm u, (Lo_n (Md_lo u), zU (Lo_ma (Md_lo u)) (Lo_n (Md_lo u)) p0, zU (Lo_pe (Md_lo u)) (Lo_n (Md_lo u)) p1, zU (Lo_fr (Md_lo u)) (Lo_n (Md_lo u)) p2, zU (Lo_to (Md_lo u)) (Lo_n (Md_lo u)) p3), Md_mt u, Md_sw u, Md_bu u))) F 9 rfl (by omega) (by decide) rfl dX9_lend_135 ?_
            refine gz_aload_n (pc := 136) F dX9_lend_136 rfl 1 rfl ?_
            refine gz_dup (pc := 137) F dX9_lend_137 rfl ?_
            refine gz_get (pc := 138) (v := vI (Lo_n (Md_lo u))) F hn_X9_lend_X9 0 9 rfl rfl 8 (by decide) fl_X9_lend_115 rfl dX9_lend_138 ?_
            have b138 := hLo.1
            refine gz_const (pc := 141) F dX9_lend_141 ?_
            refine gz_iadd (pc := 142) F dX9_lend_142 ?_
            refine gz_put (pc := 143) (ws2 := MdW cI cZ a ((0, Md_now u, Md_aw u, Md_mm u, ((Lo_n (Md_lo u)) + 1, zU (Lo_ma (Md_lo u)) (Lo_n (Md_lo u)) p0, zU (Lo_pe (Md_lo u)) (Lo_n (Md_lo u)) p1, zU (Lo_fr (Md_lo u)) (Lo_n (Md_lo u)) p2, zU (Lo_to (Md_lo u)) (Lo_n (Md_lo u)) p3), Md_mt u, Md_sw u, Md_bu u))) F hn_X9_lend_X9 tyX9 tyX9_ok nmX9 0 9 rfl rfl 8 (by decide) fl_X9_lend_115 rfl (ty := .int) rfl rfl rfl (Nat.le_of_ble_eq_true rfl) rfl dX9_lend_143 ?_
            refine Z _ _ 146 dX9_lend_146 ?_
            exact ⟨0, Or.inr ⟨not_not_intro c58, Or.inr ⟨not_not_intro c67, Or.inr ⟨c80, rfl⟩⟩⟩, fun h => absurd rfl h, fun _ => ⟨rfl, rfl⟩⟩
          · exact absurd c91 (by decide)
        · refine gz_const (pc := 83) F dX9_lend_83 ?_
          refine gz_goto (pc := 84) (tgt := 88) F dX9_lend_84 (by decide) ?_
          refine gz_callVb (pc := 88) (n := 1) (As := [vI 3]) (rest := []) (bytes := cX9_refused) (maxL := 2) (ret := some .boolean) F (ct_X9_refused_3 l D cI cJ cZ a u hu) gX9_lend_X9_refused rfl ⟨rfl, rfl⟩ (by decide +kernel) ⟨Nat.le_of_ble_eq_true rfl, Nat.le_of_ble_eq_true rfl⟩ rfl [] [] ((List.append_nil _).symm) 9 rfl rfl rfl (Nat.le_of_ble_eq_true rfl) ⟨Nat.zero_le _, Nat.zero_le _⟩ (gz_pV_sh rfl) dX9_lend_88 ?_
          refine gz_kVb (r := 1) (ws2 := MdW cI cZ a (3, Md_now u, Md_aw u, Md_mm u, Md_lo u, Md_mt u, Md_sw u, Md_bu u)) ((List.append_nil _).symm).symm ?_
          refine gz_if_eq (pc := 91) (tgt := 95) F dX9_lend_91 (by decide) (by omega) (fun c91 => ?_) (fun c91 => ?_)
          · exact absurd c91 (by decide)
          · refine Z _ _ 94 dX9_lend_94 ?_
            exact ⟨3, Or.inr ⟨not_not_intro c58, Or.inr ⟨not_not_intro c67, Or.inl ⟨c80, rfl⟩⟩⟩, fun _ => ⟨rfl, rfl⟩, fun h => absurd h (by decide)⟩
      · refine gz_const (pc := 70) F dX9_lend_70 ?_
        refine gz_goto (pc := 71) (tgt := 88) F dX9_lend_71 (by decide) ?_
        refine gz_callVb (pc := 88) (n := 1) (As := [vI 2]) (rest := []) (bytes := cX9_refused) (maxL := 2) (ret := some .boolean) F (ct_X9_refused_2 l D cI cJ cZ a u hu) gX9_lend_X9_refused rfl ⟨rfl, rfl⟩ (by decide +kernel) ⟨Nat.le_of_ble_eq_true rfl, Nat.le_of_ble_eq_true rfl⟩ rfl [] [] ((List.append_nil _).symm) 9 rfl rfl rfl (Nat.le_of_ble_eq_true rfl) ⟨Nat.zero_le _, Nat.zero_le _⟩ (gz_pV_sh rfl) dX9_lend_88 ?_
        refine gz_kVb (r := 1) (ws2 := MdW cI cZ a (2, Md_now u, Md_aw u, Md_mm u, Md_lo u, Md_mt u, Md_sw u, Md_bu u)) ((List.append_nil _).symm).symm ?_
        refine gz_if_eq (pc := 91) (tgt := 95) F dX9_lend_91 (by decide) (by omega) (fun c91 => ?_) (fun c91 => ?_)
        · exact absurd c91 (by decide)
        · refine Z _ _ 94 dX9_lend_94 ?_
          exact ⟨2, Or.inr ⟨not_not_intro c58, Or.inl ⟨c67, rfl⟩⟩, fun _ => ⟨rfl, rfl⟩, fun h => absurd h (by decide)⟩
    · refine gz_const (pc := 61) F dX9_lend_61 ?_
      refine gz_goto (pc := 62) (tgt := 88) F dX9_lend_62 (by decide) ?_
      refine gz_callVb (pc := 88) (n := 1) (As := [vI 1]) (rest := []) (bytes := cX9_refused) (maxL := 2) (ret := some .boolean) F (ct_X9_refused_1 l D cI cJ cZ a u hu) gX9_lend_X9_refused rfl ⟨rfl, rfl⟩ (by decide +kernel) ⟨Nat.le_of_ble_eq_true rfl, Nat.le_of_ble_eq_true rfl⟩ rfl [] [] ((List.append_nil _).symm) 9 rfl rfl rfl (Nat.le_of_ble_eq_true rfl) ⟨Nat.zero_le _, Nat.zero_le _⟩ (gz_pV_sh rfl) dX9_lend_88 ?_
      refine gz_kVb (r := 1) (ws2 := MdW cI cZ a (1, Md_now u, Md_aw u, Md_mm u, Md_lo u, Md_mt u, Md_sw u, Md_bu u)) ((List.append_nil _).symm).symm ?_
      refine gz_if_eq (pc := 91) (tgt := 95) F dX9_lend_91 (by decide) (by omega) (fun c91 => ?_) (fun c91 => ?_)
      · exact absurd c91 (by decide)
      · refine Z _ _ 94 dX9_lend_94 ?_
        exact ⟨1, Or.inl ⟨c58, rfl⟩, fun _ => ⟨rfl, rfl⟩, fun h => absurd h (by decide)⟩
  have J20 : gG p l e ({ frames := 2, cells := 0, slots := 0, locals := 43 } : Room) s m args below meth c D A 7 Q 0 0 (MdW cI cZ a u) [(0, .ref (a 0)), (1, vI p0), (2, vI p1), (3, vI p2), (4, vI p3)] [vI (bz ((0 ≤ p0 ∧ p0 ≤ Mm_n (Md_mm u) - 1) ∧ (0 ≤ p1 ∧ p1 ≤ 9)))] 20 := by
    refine gz_istore (pc := 20) (lv2 := [(5, vI (bz ((0 ≤ p0 ∧ p0 ≤ Mm_n (Md_mm u) - 1) ∧ (0 ≤ p1 ∧ p1 ≤ 9)))), (0, .ref (a 0)), (1, vI p0), (2, vI p1), (3, vI p2), (4, vI p3)]) F dX9_lend_20 (by decide) rfl ?_
    refine gz_iload_n (pc := 22) F dX9_lend_22 rfl 4 rfl ?_
    refine gz_aload_n (pc := 23) F dX9_lend_23 rfl 1 rfl ?_
    refine gz_get (pc := 24) (v := vI (Md_now u)) F hn_X9_lend_X9 0 9 rfl rfl 1 (by decide) fl_X9_lend_144 rfl dX9_lend_24 ?_
    have b24 := hnw
    refine gz_sipush (pc := 27) F dX9_lend_27 (by decide) ?_
    refine gz_callS (pc := 30) (n := 3) (As := [vI p2, vI (Md_now u), vI 399]) (rest := []) (bytes := cX9_in) (maxL := 3) (ret := some .boolean) F (ct_X9_in l D cI cJ cZ p2 (Md_now u) 399 (by omega) (by omega) (by omega)) gX9_lend_X9_in rfl ⟨rfl, rfl⟩ (by decide +kernel) ⟨Nat.le_of_ble_eq_true rfl, Nat.le_of_ble_eq_true rfl⟩ rfl [] rfl (by decide) rfl (Nat.le_of_ble_eq_true rfl) ⟨Nat.zero_le _, Nat.zero_le _⟩ gz_pI_sh dX9_lend_30 ?_
    refine gz_kI rfl (fun r30 h30 => ?_)
    subst h30
    refine gz_if_eqb (pc := 33) (tgt := 52) F dX9_lend_33 (by decide) (fun c33 => ?_) (fun c33 => ?_)
    · refine gz_const (pc := 52) F dX9_lend_52 ?_
      refine gz_eqst (st2 := [vI (bz ((Md_now u ≤ p2 ∧ p2 ≤ 399) ∧ (p2 ≤ p3 ∧ p3 ≤ 399)))]) (by first | exact congrArg (fun x => [vI x]) (bzF (fun h => c45 h.2)) | exact congrArg (fun x => [vI x]) (bzF (fun h => c33 h.1))) ?_
      refine gz_lv [1, 2, 3, 4, 5, 0] rfl ?_
      exact J53  
    · refine gz_iload (pc := 36) F dX9_lend_36 5 rfl ?_
      refine gz_iload_n (pc := 38) F dX9_lend_38 rfl 4 rfl ?_
      refine gz_sipush (pc := 39) F dX9_lend_39 (by decide) ?_
      refine gz_callS (pc := 42) (n := 3) (As := [vI p3, vI p2, vI 399]) (rest := []) (bytes := cX9_in) (maxL := 3) (ret := some .boolean) F (ct_X9_in l D cI cJ cZ p3 p2 399 (by omega) (by omega) (by omega)) gX9_lend_X9_in rfl ⟨rfl, rfl⟩ (by decide +kernel) ⟨Nat.le_of_ble_eq_true rfl, Nat.le_of_ble_eq_true rfl⟩ rfl [] rfl (by decide) rfl (Nat.le_of_ble_eq_true rfl) ⟨Nat.zero_le _, Nat.zero_le _⟩ gz_pI_sh dX9_lend_42 ?_
      refine gz_kI rfl (fun r42 h42 => ?_)
      subst h42
      refine gz_if_eqb (pc := 45) (tgt := 52) F dX9_lend_45 (by decide) (fun c45 => ?_) (fun c45 => ?_)
      · refine gz_const (pc := 52) F dX9_lend_52 ?_
        refine gz_eqst (st2 := [vI (bz ((Md_now u ≤ p2 ∧ p2 ≤ 399) ∧ (p2 ≤ p3 ∧ p3 ≤ 399)))]) (by first | exact congrArg (fun x => [vI x]) (bzF (fun h => c45 h.2)) | exact congrArg (fun x => [vI x]) (bzF (fun h => c33 h.1))) ?_
        refine gz_lv [1, 2, 3, 4, 5, 0] rfl ?_
        exact J53  
      · refine gz_const (pc := 48) F dX9_lend_48 ?_
        refine gz_goto (pc := 49) (tgt := 53) F dX9_lend_49 (by decide) ?_
        refine gz_eqst (st2 := [vI (bz ((Md_now u ≤ p2 ∧ p2 ≤ 399) ∧ (p2 ≤ p3 ∧ p3 ≤ 399)))]) (by exact congrArg (fun x => [vI x]) (bzT (⟨c33, c45⟩))) ?_
        refine gz_lv [1, 2, 3, 4, 5, 0] rfl ?_
        exact J53  
  refine gz_aload_n (pc := 0) F dX9_lend_0 rfl 0 rfl ?_
  refine gz_iload_n (pc := 1) F dX9_lend_1 rfl 1 rfl ?_
  refine gz_callVb (pc := 2) (n := 1) (As := [vI p0]) (rest := []) (bytes := cX9_isMachine) (maxL := 2) (ret := some .boolean) F (ct_X9_isMachine l D cI cJ cZ a u p0 hu (by omega)) gX9_lend_X9_isMachine rfl ⟨rfl, rfl⟩ (by decide +kernel) ⟨Nat.le_of_ble_eq_true rfl, Nat.le_of_ble_eq_true rfl⟩ rfl [] [] ((List.append_nil _).symm) 9 rfl rfl rfl (Nat.le_of_ble_eq_true rfl) ⟨Nat.zero_le _, Nat.zero_le _⟩ gz_pI_sh dX9_lend_2 ?_
  refine gz_kIb ((List.append_nil _).symm).symm (fun r2 h2 => ?_)
  subst h2
  refine gz_if_eqb (pc := 5) (tgt := 19) F dX9_lend_5 (by decide) (fun c5 => ?_) (fun c5 => ?_)
  · refine gz_const (pc := 19) F dX9_lend_19 ?_
    refine gz_eqst (st2 := [vI (bz ((0 ≤ p0 ∧ p0 ≤ Mm_n (Md_mm u) - 1) ∧ (0 ≤ p1 ∧ p1 ≤ 9)))]) (by first | exact congrArg (fun x => [vI x]) (bzF (fun h => c12 h.2)) | exact congrArg (fun x => [vI x]) (bzF (fun h => c5 h.1))) ?_
    exact J20  
  · refine gz_iload_n (pc := 8) F dX9_lend_8 rfl 2 rfl ?_
    refine gz_callS (pc := 9) (n := 1) (As := [vI p1]) (rest := []) (bytes := cX9_isPerson) (maxL := 1) (ret := some .boolean) F (ct_X9_isPerson l D cI cJ cZ p1 (by omega)) gX9_lend_X9_isPerson rfl ⟨rfl, rfl⟩ (by decide +kernel) ⟨Nat.le_of_ble_eq_true rfl, Nat.le_of_ble_eq_true rfl⟩ rfl [] rfl (by decide) rfl (Nat.le_of_ble_eq_true rfl) ⟨Nat.zero_le _, Nat.zero_le _⟩ gz_pI_sh dX9_lend_9 ?_
    refine gz_kI rfl (fun r9 h9 => ?_)
    subst h9
    refine gz_if_eqb (pc := 12) (tgt := 19) F dX9_lend_12 (by decide) (fun c12 => ?_) (fun c12 => ?_)
    · refine gz_const (pc := 19) F dX9_lend_19 ?_
      refine gz_eqst (st2 := [vI (bz ((0 ≤ p0 ∧ p0 ≤ Mm_n (Md_mm u) - 1) ∧ (0 ≤ p1 ∧ p1 ≤ 9)))]) (by first | exact congrArg (fun x => [vI x]) (bzF (fun h => c12 h.2)) | exact congrArg (fun x => [vI x]) (bzF (fun h => c5 h.1))) ?_
      exact J20  
    · refine gz_const (pc := 15) F dX9_lend_15 ?_
      refine gz_goto (pc := 16) (tgt := 20) F dX9_lend_16 (by decide) ?_
      refine gz_eqst (st2 := [vI (bz ((0 ≤ p0 ∧ p0 ≤ Mm_n (Md_mm u) - 1) ∧ (0 ≤ p1 ∧ p1 ≤ 9)))]) (by exact congrArg (fun x => [vI x]) (bzT (⟨c5, c12⟩))) ?_
      exact J20  
