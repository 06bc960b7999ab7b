/-! ===== laid by wip/whole/gen/md.py ===== -/
abbrev md_move (u : MdS) (p0 p1 : Int) : List (Prop × Int) := [(¬ (0 ≤ p0 ∧ p0 ≤ Mt_n (Md_mt u) - 1), 1), (¬ ((Md_now u ≤ p1 ∧ p1 ≤ 399) ∧ p1 % 8 + Mt_ln (Md_mt u) p0 ≤ 8), 2), (¬ Md_ahd u p0, 3)]
theorem hn_X9_move_X9 : ∀ w ∈ u_ws RX9 TX9 35, w ∈ wsX9_move := by decide +kernel
theorem fl_X9_move_41 : Cond.fieldLink RX9 41 (TX9 15).1 (TX9 15).2.1 (TX9 15).2.2.1 ∈ wsX9_move := by decide +kernel
theorem fl_X9_move_47 : Cond.fieldLink RX9 47 (TX9 17).1 (TX9 17).2.1 (TX9 17).2.2.1 ∈ wsX9_move := by decide +kernel
theorem fl_X9_move_50 : Cond.fieldLink RX9 50 (TX9 18).1 (TX9 18).2.1 (TX9 18).2.2.1 ∈ wsX9_move := by decide +kernel
theorem fl_X9_move_44 : Cond.fieldLink RX9 44 (TX9 16).1 (TX9 16).2.1 (TX9 16).2.2.1 ∈ wsX9_move := by decide +kernel
theorem fl_X9_move_53 : Cond.fieldLink RX9 53 (TX9 19).1 (TX9 19).2.1 (TX9 19).2.2.1 ∈ wsX9_move := by decide +kernel
theorem fl_X9_move_144 : Cond.fieldLink RX9 144 (TX9 1).1 (TX9 1).2.1 (TX9 1).2.2.1 ∈ wsX9_move := by decide +kernel
set_option maxHeartbeats 4000000 in
set_option maxRecDepth 100000 in
theorem ct_X9_move (l : Launch) (D : va_G) (cI cJ cZ : ClassId) (a : Nat → Nat) (u : MdS) (p0 p1 : Int) (hu : MdI u) (h0 : -2147483648 ≤ p0 ∧ p0 < 2147483648) (h1 : -2147483648 ≤ p1 ∧ p1 < 2147483648)  : gz_M l yX9_move wsX9_move { frames := 4, cells := 0, slots := 0, locals := 97 } D cI cJ cZ [.ref (a 0), vI p0, vI p1] (MdW cI cZ a u) (gz_pK (md_move u p0 p1) (some (vI (bz (Md_canM u p0 p1)))) (some (vI 0)) (fun k => MdW cI cZ a (Md_setTh u k)) (MdW cI cZ a (Md_move u p0 p1))) := by
  refine gz_ofZ (cc := cX9_move) (maxL := 6) (ty := .boolean) (own := RX9) (by decide) rfl rfl (Nat.le_of_ble_eq_true rfl) (lv0 := [(0, .ref (a 0)), (1, vI p0), (2, vI p1)]) rfl ?_
  intro p e s m args below meth c A Q F Z
  obtain ⟨hnw, hAw, hMm, hLo, ⟨hMt, hMa⟩, hSw, hBu⟩ := id hu
  have hMmn := hMm.1
  have hLon := hLo.1
  have hMtn := hMt.1
  have hSwn := hSw.1
  have hBun := hBu.1
  have J42 : gG p l e ({ frames := 4, cells := 0, slots := 0, locals := 97 } : Room) s m args below meth c D A 6 Q 0 0 (MdW cI cZ a u) [(0, .ref (a 0)), (1, vI p0), (2, vI p1), (3, vI (bz (0 ≤ p0 ∧ p0 ≤ Mt_n (Md_mt u) - 1)))] [vI (bz ((0 ≤ p0 ∧ p0 ≤ Mt_n (Md_mt u) - 1) ∧ (Md_now u ≤ p1 ∧ p1 ≤ 399) ∧ p1 % 8 + Mt_ln (Md_mt u) p0 ≤ 8))] 42 := by
    refine gz_istore (pc := 42) (lv2 := [(4, vI (bz ((0 ≤ p0 ∧ p0 ≤ Mt_n (Md_mt u) - 1) ∧ (Md_now u ≤ p1 ∧ p1 ≤ 399) ∧ p1 % 8 + Mt_ln (Md_mt u) p0 ≤ 8))), (0, .ref (a 0)), (1, vI p0), (2, vI p1), (3, vI (bz (0 ≤ p0 ∧ p0 ≤ Mt_n (Md_mt u) - 1)))]) F dX9_move_42 (by decide) rfl ?_
    refine gz_aload_n (pc := 44) F dX9_move_44 rfl 1 rfl ?_
    refine gz_iload_n (pc := 45) F dX9_move_45 rfl 4 rfl ?_
    refine gz_if_neb (pc := 46) (tgt := 53) F dX9_move_46 (by decide) (fun c46 => ?_) (fun c46 => ?_)
    · refine gz_iload (pc := 53) F dX9_move_53 0 rfl ?_
      refine gz_if_neb (pc := 55) (tgt := 62) F dX9_move_55 (by decide) (fun c55 => ?_) (fun c55 => ?_)
      · refine gz_aload_n (pc := 62) F dX9_move_62 rfl 1 rfl ?_
        refine gz_iload_n (pc := 63) F dX9_move_63 rfl 2 rfl ?_
        refine gz_callVb (pc := 64) (n := 1) (As := [vI p0]) (rest := [.ref (a 0)]) (bytes := cX9_isAhead) (maxL := 2) (ret := some .boolean) F (ct_X9_isAhead l D cI cJ cZ a u p0 hu (by omega)) gX9_move_X9_isAhead rfl ⟨rfl, rfl⟩ (by decide +kernel) ⟨Nat.le_of_ble_eq_true rfl, Nat.le_of_ble_eq_true rfl⟩ rfl [] [] ((List.append_nil _).symm) 9 rfl rfl rfl (Nat.le_of_ble_eq_true rfl) ⟨Nat.zero_le _, Nat.zero_le _⟩ gz_pI_sh dX9_move_64 ?_
        refine gz_kIb ((List.append_nil _).symm).symm (fun r64 h64 => ?_)
        subst h64
        refine gz_if_neb (pc := 67) (tgt := 74) F dX9_move_67 (by decide) (fun c67 => ?_) (fun c67 => ?_)
        · refine gz_const (pc := 74) F dX9_move_74 ?_
          refine gz_callVb (pc := 75) (n := 1) (As := [vI 0]) (rest := []) (bytes := cX9_refused) (maxL := 2) (ret := some .boolean) F (ct_X9_refused_0 l D cI cJ cZ a u hu) gX9_move_X9_refused rfl ⟨rfl, rfl⟩ (by decide +kernel) ⟨Nat.le_of_ble_eq_true rfl, Nat.le_of_ble_eq_true rfl⟩ rfl [] [] ((List.append_nil _).symm) 9 rfl rfl rfl (Nat.le_of_ble_eq_true rfl) ⟨Nat.zero_le _, Nat.zero_le _⟩ (gz_pV_sh rfl) dX9_move_75 ?_
          refine gz_kVb (r := 0) (ws2 := MdW cI cZ a (0, Md_now u, Md_aw u, Md_mm u, Md_lo u, Md_mt u, Md_sw u, Md_bu u)) ((List.append_nil _).symm).symm ?_
          refine gz_if_eq (pc := 78) (tgt := 83) F dX9_move_78 (by decide) (by omega) (fun c78 => ?_) (fun c78 => ?_)
          · refine gz_aload_n (pc := 83) F dX9_move_83 rfl 1 rfl ?_
            refine gz_iload_n (pc := 84) F dX9_move_84 rfl 2 rfl ?_
            refine gz_aload_n (pc := 85) F dX9_move_85 rfl 1 rfl ?_
            refine gz_get (pc := 86) (v := .ref (a 11)) F hn_X9_move_X9 0 9 rfl rfl 15 (by decide) fl_X9_move_41 rfl dX9_move_86 ?_
            refine gz_iload_n (pc := 89) F dX9_move_89 rfl 2 rfl ?_
            refine gz_iald (pc := 90) (f := Mt_pe (Md_mt u)) F 11 rfl (by omega) (by decide) dX9_move_90 ?_
            have b90 := (hMt.2 p0).1
            refine gz_iload_n (pc := 91) F dX9_move_91 rfl 3 rfl ?_
            refine gz_aload_n (pc := 92) F dX9_move_92 rfl 1 rfl ?_
            refine gz_get (pc := 93) (v := .ref (a 13)) F hn_X9_move_X9 0 9 rfl rfl 17 (by decide) fl_X9_move_47 rfl dX9_move_93 ?_
            refine gz_iload_n (pc := 96) F dX9_move_96 rfl 2 rfl ?_
            refine gz_iald (pc := 97) (f := Mt_ln (Md_mt u)) F 13 rfl (by omega) (by decide) dX9_move_97 ?_
            have b97 := (hMt.2 p0).2.2.1
            refine gz_aload_n (pc := 98) F dX9_move_98 rfl 1 rfl ?_
            refine gz_get (pc := 99) (v := .ref (a 14)) F hn_X9_move_X9 0 9 rfl rfl 18 (by decide) fl_X9_move_50 rfl dX9_move_99 ?_
            refine gz_iload_n (pc := 102) F dX9_move_102 rfl 2 rfl ?_
            refine gz_iald (pc := 103) (f := Mt_ma (Md_mt u)) F 14 rfl (by omega) (by decide) dX9_move_103 ?_
            have b103 := hMa p0
            refine gz_callVb (pc := 104) (n := 5) (As := [vI p0, vI (Mt_pe (Md_mt u) p0), vI p1, vI (Mt_ln (Md_mt u) p0), vI (Mt_ma (Md_mt u) p0)]) (rest := []) (bytes := cX9_canBe) (maxL := 9) (ret := some .boolean) F (ct_X9_canBe l D cI cJ cZ a (0, Md_now u, Md_aw u, Md_mm u, Md_lo u, Md_mt u, Md_sw u, Md_bu u) p0 (Mt_pe (Md_mt u) p0) p1 (Mt_ln (Md_mt u) p0) (Mt_ma (Md_mt u) p0) hu (by omega) (by omega) (by omega) (by omega) (by omega)) gX9_move_X9_canBe rfl ⟨rfl, rfl⟩ (by decide +kernel) ⟨Nat.le_of_ble_eq_true rfl, Nat.le_of_ble_eq_true rfl⟩ rfl [] [] ((List.append_nil _).symm) 9 rfl rfl rfl (Nat.le_of_ble_eq_true rfl) ⟨Nat.zero_le _, Nat.zero_le _⟩ gz_pI_sh dX9_move_104 ?_
            refine gz_kIb ((List.append_nil _).symm).symm (fun r104 h104 => ?_)
            subst h104
            refine gz_istore (pc := 107) (lv2 := [(5, vI (bz (Md_can (0, Md_now u, Md_aw u, Md_mm u, Md_lo u, Md_mt u, Md_sw u, Md_bu u) p0 (Mt_pe (Md_mt u) p0) p1 (p1 + (Mt_ln (Md_mt u) p0)) (Mt_ma (Md_mt u) p0)))), (4, vI (bz ((0 ≤ p0 ∧ p0 ≤ Mt_n (Md_mt u) - 1) ∧ (Md_now u ≤ p1 ∧ p1 ≤ 399) ∧ p1 % 8 + Mt_ln (Md_mt u) p0 ≤ 8))), (0, .ref (a 0)), (1, vI p0), (2, vI p1), (3, vI (bz (0 ≤ p0 ∧ p0 ≤ Mt_n (Md_mt u) - 1)))]) F dX9_move_107 (by decide) rfl ?_
            refine gz_iload (pc := 109) F dX9_move_109 0 rfl ?_
            refine gz_if_eqb (pc := 111) (tgt := 131) F dX9_move_111 (by decide) (fun c111 => ?_) (fun c111 => ?_)
            · refine gz_iload (pc := 131) F dX9_move_131 0 rfl ?_
              refine Z _ _ 133 _ dX9_move_133 (bz_nar _) ?_
              exact ⟨0, Or.inr ⟨not_not_intro c46, Or.inr ⟨not_not_intro c55.2, Or.inr ⟨not_not_intro c67, rfl⟩⟩⟩, fun h => absurd rfl h, fun _ => ⟨rfl, (by rw [Md_move, if_neg (show ¬ Md_canM u p0 p1 from c111)])⟩⟩
            · refine gz_aload_n (pc := 114) F dX9_move_114 rfl 2 rfl ?_
              refine gz_get (pc := 115) (v := .ref (a 12)) F hn_X9_move_X9 0 9 rfl rfl 16 (by decide) fl_X9_move_44 rfl dX9_move_115 ?_
              refine gz_iload_n (pc := 118) F dX9_move_118 rfl 3 rfl ?_
              refine gz_iload_n (pc := 119) F dX9_move_119 rfl 4 rfl ?_
              refine gz_iast (pc := 120) (f := Mt_sl (Md_mt u)) (ws2 := MdW cI cZ a ((0, Md_now u, Md_aw u, Md_mm u, Md_lo u, (Mt_n (Md_mt u), Mt_pe (Md_mt u), zU (Mt_sl (Md_mt u)) p0 p1, Mt_ln (Md_mt u), Mt_ma (Md_mt u), Mt_st (Md_mt u), Mt_mv (Md_mt u)), Md_sw u, Md_bu u))) F 12 rfl (by omega) (by decide) rfl dX9_move_120 ?_
              refine gz_aload_n (pc := 121) F dX9_move_121 rfl 2 rfl ?_
              refine gz_get (pc := 122) (v := .ref (a 15)) F hn_X9_move_X9 0 9 rfl rfl 19 (by decide) fl_X9_move_53 rfl dX9_move_122 ?_
              refine gz_iload_n (pc := 125) F dX9_move_125 rfl 3 rfl ?_
              refine gz_dup2 (pc := 126) F dX9_move_126 rfl rfl ?_
              refine gz_iald (pc := 127) (f := Mt_mv (Md_mt u)) F 15 rfl (by omega) (by decide) dX9_move_127 ?_
              refine gz_const (pc := 128) F dX9_move_128 ?_
              refine gz_iadd (pc := 129) F dX9_move_129 ?_
              refine gz_iast (pc := 130) (f := Mt_mv (Md_mt u)) (ws2 := MdW cI cZ a ((0, Md_now u, Md_aw u, Md_mm u, Md_lo u, (Mt_n (Md_mt u), Mt_pe (Md_mt u), zU (Mt_sl (Md_mt u)) p0 p1, Mt_ln (Md_mt u), Mt_ma (Md_mt u), Mt_st (Md_mt u), zU (Mt_mv (Md_mt u)) p0 ((Mt_mv (Md_mt u) p0) + 1)), Md_sw u, Md_bu u))) F 15 rfl (by omega) (by decide) rfl dX9_move_130 ?_
              refine gz_iload (pc := 131) F dX9_move_131 0 rfl ?_
              refine Z _ _ 133 _ dX9_move_133 (bz_nar _) ?_
              exact ⟨0, Or.inr ⟨not_not_intro c46, Or.inr ⟨not_not_intro c55.2, Or.inr ⟨not_not_intro c67, rfl⟩⟩⟩, fun h => absurd rfl h, fun _ => ⟨rfl, (by rw [Md_move, if_pos (show Md_canM u p0 p1 from c111)])⟩⟩
          · exact absurd c78 (by decide)
        · refine gz_const (pc := 70) F dX9_move_70 ?_
          refine gz_goto (pc := 71) (tgt := 75) F dX9_move_71 (by decide) ?_
          refine gz_callVb (pc := 75) (n := 1) (As := [vI 3]) (rest := []) (bytes := cX9_refused) (maxL := 2) (ret := some .boolean) F (ct_X9_refused_3 l D cI cJ cZ a u hu) gX9_move_X9_refused rfl ⟨rfl, rfl⟩ (by decide +kernel) ⟨Nat.le_of_ble_eq_true rfl, Nat.le_of_ble_eq_true rfl⟩ rfl [] [] ((List.append_nil _).symm) 9 rfl rfl rfl (Nat.le_of_ble_eq_true rfl) ⟨Nat.zero_le _, Nat.zero_le _⟩ (gz_pV_sh rfl) dX9_move_75 ?_
          refine gz_kVb (r := 1) (ws2 := MdW cI cZ a (3, Md_now u, Md_aw u, Md_mm u, Md_lo u, Md_mt u, Md_sw u, Md_bu u)) ((List.append_nil _).symm).symm ?_
          refine gz_if_eq (pc := 78) (tgt := 83) F dX9_move_78 (by decide) (by omega) (fun c78 => ?_) (fun c78 => ?_)
          · exact absurd c78 (by decide)
          · refine gz_const (pc := 81) F dX9_move_81 ?_
            refine Z _ _ 82 _ dX9_move_82 rfl ?_
            exact ⟨3, Or.inr ⟨not_not_intro c46, Or.inr ⟨not_not_intro c55.2, Or.inl ⟨c67, rfl⟩⟩⟩, fun _ => ⟨rfl, rfl⟩, fun h => absurd h (by decide)⟩
      · refine gz_const (pc := 58) F dX9_move_58 ?_
        refine gz_goto (pc := 59) (tgt := 75) F dX9_move_59 (by decide) ?_
        refine gz_callVb (pc := 75) (n := 1) (As := [vI 2]) (rest := []) (bytes := cX9_refused) (maxL := 2) (ret := some .boolean) F (ct_X9_refused_2 l D cI cJ cZ a u hu) gX9_move_X9_refused rfl ⟨rfl, rfl⟩ (by decide +kernel) ⟨Nat.le_of_ble_eq_true rfl, Nat.le_of_ble_eq_true rfl⟩ rfl [] [] ((List.append_nil _).symm) 9 rfl rfl rfl (Nat.le_of_ble_eq_true rfl) ⟨Nat.zero_le _, Nat.zero_le _⟩ (gz_pV_sh rfl) dX9_move_75 ?_
        refine gz_kVb (r := 1) (ws2 := MdW cI cZ a (2, Md_now u, Md_aw u, Md_mm u, Md_lo u, Md_mt u, Md_sw u, Md_bu u)) ((List.append_nil _).symm).symm ?_
        refine gz_if_eq (pc := 78) (tgt := 83) F dX9_move_78 (by decide) (by omega) (fun c78 => ?_) (fun c78 => ?_)
        · exact absurd c78 (by decide)
        · refine gz_const (pc := 81) F dX9_move_81 ?_
          refine Z _ _ 82 _ dX9_move_82 rfl ?_
          exact ⟨2, Or.inr ⟨not_not_intro c46, Or.inl ⟨(fun h => c55 ⟨c46, h⟩), rfl⟩⟩, fun _ => ⟨rfl, rfl⟩, fun h => absurd h (by decide)⟩
    · refine gz_const (pc := 49) F dX9_move_49 ?_
      refine gz_goto (pc := 50) (tgt := 75) F dX9_move_50 (by decide) ?_
      refine gz_callVb (pc := 75) (n := 1) (As := [vI 1]) (rest := []) (bytes := cX9_refused) (maxL := 2) (ret := some .boolean) F (ct_X9_refused_1 l D cI cJ cZ a u hu) gX9_move_X9_refused rfl ⟨rfl, rfl⟩ (by decide +kernel) ⟨Nat.le_of_ble_eq_true rfl, Nat.le_of_ble_eq_true rfl⟩ rfl [] [] ((List.append_nil _).symm) 9 rfl rfl rfl (Nat.le_of_ble_eq_true rfl) ⟨Nat.zero_le _, Nat.zero_le _⟩ (gz_pV_sh rfl) dX9_move_75 ?_
      refine gz_kVb (r := 1) (ws2 := MdW cI cZ a (1, Md_now u, Md_aw u, Md_mm u, Md_lo u, Md_mt u, Md_sw u, Md_bu u)) ((List.append_nil _).symm).symm ?_
      refine gz_if_eq (pc := 78) (tgt := 83) F dX9_move_78 (by decide) (by omega) (fun c78 => ?_) (fun c78 => ?_)
      · exact absurd c78 (by decide)
      · refine gz_const (pc := 81) F dX9_move_81 ?_
        refine Z _ _ 82 _ dX9_move_82 rfl ?_
        exact ⟨1, Or.inl ⟨c46, rfl⟩, fun _ => ⟨rfl, rfl⟩, fun h => absurd h (by decide)⟩
  refine gz_aload_n (pc := 0) F dX9_move_0 rfl 0 rfl ?_
  refine gz_iload_n (pc := 1) F dX9_move_1 rfl 1 rfl ?_
  refine gz_callVb (pc := 2) (n := 1) (As := [vI p0]) (rest := []) (bytes := cX9_isMeeting) (maxL := 2) (ret := some .boolean) F (ct_X9_isMeeting l D cI cJ cZ a u p0 hu (by omega)) gX9_move_X9_isMeeting rfl ⟨rfl, rfl⟩ (by decide +kernel) ⟨Nat.le_of_ble_eq_true rfl, Nat.le_of_ble_eq_true rfl⟩ rfl [] [] ((List.append_nil _).symm) 9 rfl rfl rfl (Nat.le_of_ble_eq_true rfl) ⟨Nat.zero_le _, Nat.zero_le _⟩ gz_pI_sh dX9_move_2 ?_
  refine gz_kIb ((List.append_nil _).symm).symm (fun r2 h2 => ?_)
  subst h2
  refine gz_istore_n (pc := 5) (lv2 := [(3, vI (bz (0 ≤ p0 ∧ p0 ≤ Mt_n (Md_mt u) - 1))), (0, .ref (a 0)), (1, vI p0), (2, vI p1)]) F dX9_move_5 rfl (by decide) rfl ?_
  refine gz_iload_n (pc := 6) F dX9_move_6 rfl 0 rfl ?_
  refine gz_if_eqb (pc := 7) (tgt := 41) F dX9_move_7 (by decide) (fun c7 => ?_) (fun c7 => ?_)
  · refine gz_const (pc := 41) F dX9_move_41 ?_
    refine gz_eqst (st2 := [vI (bz ((0 ≤ p0 ∧ p0 ≤ Mt_n (Md_mt u) - 1) ∧ (Md_now u ≤ p1 ∧ p1 ≤ 399) ∧ p1 % 8 + Mt_ln (Md_mt u) p0 ≤ 8))]) (by first | exact congrArg (fun x => [vI x]) (bzF (fun h => c34 h.2.2)) | exact congrArg (fun x => [vI x]) (bzF (fun h => c21 h.2.1)) | exact congrArg (fun x => [vI x]) (bzF (fun h => c7 h.1))) ?_
    refine gz_lv [1, 2, 3, 0] rfl ?_
    exact J42  
  · refine gz_iload_n (pc := 10) F dX9_move_10 rfl 3 rfl ?_
    refine gz_aload_n (pc := 11) F dX9_move_11 rfl 1 rfl ?_
    refine gz_get (pc := 12) (v := vI (Md_now u)) F hn_X9_move_X9 0 9 rfl rfl 1 (by decide) fl_X9_move_144 rfl dX9_move_12 ?_
    have b12 := hnw
    refine gz_sipush (pc := 15) F dX9_move_15 (by decide) ?_
    refine gz_callS (pc := 18) (n := 3) (As := [vI p1, vI (Md_now u), vI 399]) (rest := []) (bytes := cX9_in) (maxL := 3) (ret := some .boolean) F (ct_X9_in l D cI cJ cZ p1 (Md_now u) 399 (by omega) (by omega) (by omega)) gX9_move_X9_in rfl ⟨rfl, rfl⟩ (by decide +kernel) ⟨Nat.le_of_ble_eq_true rfl, Nat.le_of_ble_eq_true rfl⟩ rfl [] rfl (by decide) rfl (Nat.le_of_ble_eq_true rfl) ⟨Nat.zero_le _, Nat.zero_le _⟩ gz_pI_sh dX9_move_18 ?_
    refine gz_kI rfl (fun r18 h18 => ?_)
    subst h18
    refine gz_if_eqb (pc := 21) (tgt := 41) F dX9_move_21 (by decide) (fun c21 => ?_) (fun c21 => ?_)
    · refine gz_const (pc := 41) F dX9_move_41 ?_
      refine gz_eqst (st2 := [vI (bz ((0 ≤ p0 ∧ p0 ≤ Mt_n (Md_mt u) - 1) ∧ (Md_now u ≤ p1 ∧ p1 ≤ 399) ∧ p1 % 8 + Mt_ln (Md_mt u) p0 ≤ 8))]) (by first | exact congrArg (fun x => [vI x]) (bzF (fun h => c34 h.2.2)) | exact congrArg (fun x => [vI x]) (bzF (fun h => c21 h.2.1)) | exact congrArg (fun x => [vI x]) (bzF (fun h => c7 h.1))) ?_
      refine gz_lv [1, 2, 3, 0] rfl ?_
      exact J42  
    · refine gz_iload_n (pc := 24) F dX9_move_24 rfl 3 rfl ?_
      refine gz_aload_n (pc := 25) F dX9_move_25 rfl 1 rfl ?_
      refine gz_get (pc := 26) (v := .ref (a 13)) F hn_X9_move_X9 0 9 rfl rfl 17 (by decide) fl_X9_move_47 rfl dX9_move_26 ?_
      refine gz_iload_n (pc := 29) F dX9_move_29 rfl 2 rfl ?_
      refine gz_iald (pc := 30) (f := Mt_ln (Md_mt u)) F 13 rfl (by omega) (by decide) dX9_move_30 ?_
      have b30 := (hMt.2 p0).2.2.1
      refine gz_callS (pc := 31) (n := 2) (As := [vI p1, vI (Mt_ln (Md_mt u) p0)]) (rest := []) (bytes := cX9_isOnOneDay) (maxL := 2) (ret := some .boolean) F (ct_X9_isOnOneDay l D cI cJ cZ p1 (Mt_ln (Md_mt u) p0) (by omega) (by omega) (by omega)) gX9_move_X9_isOnOneDay rfl ⟨rfl, rfl⟩ (by decide +kernel) ⟨Nat.le_of_ble_eq_true rfl, Nat.le_of_ble_eq_true rfl⟩ rfl [] rfl (by decide) rfl (Nat.le_of_ble_eq_true rfl) ⟨Nat.zero_le _, Nat.zero_le _⟩ gz_pI_sh dX9_move_31 ?_
      refine gz_kI rfl (fun r31 h31 => ?_)
      subst h31
      refine gz_if_eqb (pc := 34) (tgt := 41) F dX9_move_34 (by decide) (fun c34 => ?_) (fun c34 => ?_)
      · refine gz_const (pc := 41) F dX9_move_41 ?_
        refine gz_eqst (st2 := [vI (bz ((0 ≤ p0 ∧ p0 ≤ Mt_n (Md_mt u) - 1) ∧ (Md_now u ≤ p1 ∧ p1 ≤ 399) ∧ p1 % 8 + Mt_ln (Md_mt u) p0 ≤ 8))]) (by first | exact congrArg (fun x => [vI x]) (bzF (fun h => c34 h.2.2)) | exact congrArg (fun x => [vI x]) (bzF (fun h => c21 h.2.1)) | exact congrArg (fun x => [vI x]) (bzF (fun h => c7 h.1))) ?_
        refine gz_lv [1, 2, 3, 0] rfl ?_
        exact J42  
      · refine gz_const (pc := 37) F dX9_move_37 ?_
        refine gz_goto (pc := 38) (tgt := 42) F dX9_move_38 (by decide) ?_
        refine gz_eqst (st2 := [vI (bz ((0 ≤ p0 ∧ p0 ≤ Mt_n (Md_mt u) - 1) ∧ (Md_now u ≤ p1 ∧ p1 ≤ 399) ∧ p1 % 8 + Mt_ln (Md_mt u) p0 ≤ 8))]) (by exact congrArg (fun x => [vI x]) (bzT (⟨c7, c21, c34⟩))) ?_
        refine gz_lv [1, 2, 3, 0] rfl ?_
        exact J42  
