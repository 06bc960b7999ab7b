/-! ===== laid by wip/whole/gen/md.py ===== -/
abbrev md_swap (u : MdS) (p0 p1 : Int) : List (Prop × Int) := [(¬ ((0 ≤ p0 ∧ p0 ≤ Mt_n (Md_mt u) - 1) ∧ (0 ≤ p1 ∧ p1 ≤ Mt_n (Md_mt u) - 1)), 1), (p0 = p1, 2), (¬ (Md_ahd u p0 ∧ Md_ahd u p1 ∧ ¬ Sw_n (Md_sw u) = 20), 3)]
theorem hn_X9_swap_X9 : ∀ w ∈ u_ws RX9 TX9 35, w ∈ wsX9_swap := by decide +kernel
theorem fl_X9_swap_109 : Cond.fieldLink RX9 109 (TX9 20).1 (TX9 20).2.1 (TX9 20).2.2.1 ∈ wsX9_swap := by decide +kernel
theorem fl_X9_swap_59 : Cond.fieldLink RX9 59 (TX9 22).1 (TX9 22).2.1 (TX9 22).2.2.1 ∈ wsX9_swap := by decide +kernel
theorem fl_X9_swap_62 : Cond.fieldLink RX9 62 (TX9 23).1 (TX9 23).2.1 (TX9 23).2.2.1 ∈ wsX9_swap := by decide +kernel
theorem fl_X9_swap_65 : Cond.fieldLink RX9 65 (TX9 24).1 (TX9 24).2.1 (TX9 24).2.2.1 ∈ wsX9_swap := by decide +kernel
theorem fl_X9_swap_53 : Cond.fieldLink RX9 53 (TX9 19).1 (TX9 19).2.1 (TX9 19).2.2.1 ∈ wsX9_swap := by decide +kernel
theorem fl_X9_swap_68 : Cond.fieldLink RX9 68 (TX9 25).1 (TX9 25).2.1 (TX9 25).2.2.1 ∈ wsX9_swap := by decide +kernel
set_option maxHeartbeats 4000000 in
set_option maxRecDepth 100000 in
theorem ct_X9_swap (l : Launch) (D : va_G) (cI cJ cZ : ClassId) (a : Nat → Nat) (u : MdS) (p0 p1 : Int) (hu : MdI u) (h0 : -2147483648 ≤ p0 ∧ p0 < 2147483648) (h1 : -2147483648 ≤ p1 ∧ p1 < 2147483648)  : gz_M l yX9_swap wsX9_swap { frames := 2, cells := 0, slots := 0, locals := 43 } D cI cJ cZ [.ref (a 0), vI p0, vI p1] (MdW cI cZ a u) (gz_pK (md_swap u p0 p1) (some (vI (Sw_n (Md_sw u) + 1 - 1))) (some (vI 0)) (fun k => MdW cI cZ a (Md_setTh u k)) (MdW cI cZ a ((0, Md_now u, Md_aw u, Md_mm u, Md_lo u, Md_mt u, Sw_addM (Md_sw u) p0 (Mt_mv (Md_mt u) p0) p1 (Mt_mv (Md_mt u) p1), Md_bu u)))) := by
  refine gz_ofZ (cc := cX9_swap) (maxL := 4) (ty := .int) (own := RX9) (by decide) rfl rfl (Nat.le_of_ble_eq_true rfl) (lv0 := [(0, .ref (a 0)), (1, vI p0), (2, vI p1)]) rfl ?_
  intro p e s m args below meth c A Q F Z
  obtain ⟨hnw, hAw, hMm, hLo, ⟨hMt, hMa⟩, hSw, hBu⟩ := id hu
  have hMmn := hMm.1
  have hLon := hLo.1
  have hMtn := hMt.1
  have hSwn := hSw.1
  have hBun := hBu.1
  have J21 : gG p l e ({ frames := 2, cells := 0, slots := 0, locals := 43 } : Room) s m args below meth c D A 4 Q 0 0 (MdW cI cZ a u) [(0, .ref (a 0)), (1, vI p0), (2, vI p1)] [vI (bz ((0 ≤ p0 ∧ p0 ≤ Mt_n (Md_mt u) - 1) ∧ (0 ≤ p1 ∧ p1 ≤ Mt_n (Md_mt u) - 1)))] 21 := by
    refine gz_istore_n (pc := 21) (lv2 := [(3, vI (bz ((0 ≤ p0 ∧ p0 ≤ Mt_n (Md_mt u) - 1) ∧ (0 ≤ p1 ∧ p1 ≤ Mt_n (Md_mt u) - 1)))), (0, .ref (a 0)), (1, vI p0), (2, vI p1)]) F dX9_swap_21 rfl (by decide) rfl ?_
    refine gz_aload_n (pc := 22) F dX9_swap_22 rfl 1 rfl ?_
    refine gz_iload_n (pc := 23) F dX9_swap_23 rfl 0 rfl ?_
    refine gz_if_neb (pc := 24) (tgt := 31) F dX9_swap_24 (by decide) (fun c24 => ?_) (fun c24 => ?_)
    · refine gz_iload_n (pc := 31) F dX9_swap_31 rfl 2 rfl ?_
      refine gz_iload_n (pc := 32) F dX9_swap_32 rfl 3 rfl ?_
      refine gz_icmp_ne (pc := 33) (tgt := 40) F dX9_swap_33 (by decide) (by omega) (by omega) (fun c33 => ?_) (fun c33 => ?_)
      · refine gz_aload_n (pc := 40) F dX9_swap_40 rfl 1 rfl ?_
        refine gz_iload_n (pc := 41) F dX9_swap_41 rfl 2 rfl ?_
        refine gz_callVb (pc := 42) (n := 1) (As := [vI p0]) (rest := [.ref (a 0)]) (bytes := cX9_isAhead) (maxL := 2) (ret := some .boolean) F (ct_X9_isAhead l D cI cJ cZ a u p0 hu (by omega)) gX9_swap_X9_isAhead rfl ⟨rfl, rfl⟩ (by decide +kernel) ⟨Nat.le_of_ble_eq_true rfl, Nat.le_of_ble_eq_true rfl⟩ rfl [] [] ((List.append_nil _).symm) 9 rfl rfl rfl (Nat.le_of_ble_eq_true rfl) ⟨Nat.zero_le _, Nat.zero_le _⟩ gz_pI_sh dX9_swap_42 ?_
        refine gz_kIb ((List.append_nil _).symm).symm (fun r42 h42 => ?_)
        subst h42
        refine gz_if_eqb (pc := 45) (tgt := 65) F dX9_swap_45 (by decide) (fun c45 => ?_) (fun c45 => ?_)
        · refine gz_const (pc := 65) F dX9_swap_65 ?_
          refine gz_goto (pc := 66) (tgt := 70) F dX9_swap_66 (by decide) ?_
          refine gz_callVb (pc := 70) (n := 1) (As := [vI 3]) (rest := []) (bytes := cX9_refused) (maxL := 2) (ret := some .boolean) F (ct_X9_refused_3 l D cI cJ cZ a u hu) gX9_swap_X9_refused rfl ⟨rfl, rfl⟩ (by decide +kernel) ⟨Nat.le_of_ble_eq_true rfl, Nat.le_of_ble_eq_true rfl⟩ rfl [] [] ((List.append_nil _).symm) 9 rfl rfl rfl (Nat.le_of_ble_eq_true rfl) ⟨Nat.zero_le _, Nat.zero_le _⟩ (gz_pV_sh rfl) dX9_swap_70 ?_
          refine gz_kVb (r := 1) (ws2 := MdW cI cZ a (3, Md_now u, Md_aw u, Md_mm u, Md_lo u, Md_mt u, Md_sw u, Md_bu u)) ((List.append_nil _).symm).symm ?_
          refine gz_if_eq (pc := 73) (tgt := 78) F dX9_swap_73 (by decide) (by omega) (fun c73 => ?_) (fun c73 => ?_)
          · exact absurd c73 (by decide)
          · refine gz_const (pc := 76) F dX9_swap_76 ?_
            refine Z _ _ 77 _ dX9_swap_77 rfl ?_
            exact ⟨3, Or.inr ⟨not_not_intro c24, Or.inr ⟨c33, Or.inl ⟨(by first | exact (fun h => h.2.2 c62) | exact (fun h => c53 h.2.1) | exact (fun h => c45 h.1)), rfl⟩⟩⟩, fun _ => ⟨rfl, rfl⟩, fun h => absurd h (by decide)⟩
        · refine gz_aload_n (pc := 48) F dX9_swap_48 rfl 1 rfl ?_
          refine gz_iload_n (pc := 49) F dX9_swap_49 rfl 3 rfl ?_
          refine gz_callVb (pc := 50) (n := 1) (As := [vI p1]) (rest := [.ref (a 0)]) (bytes := cX9_isAhead) (maxL := 2) (ret := some .boolean) F (ct_X9_isAhead l D cI cJ cZ a u p1 hu (by omega)) gX9_swap_X9_isAhead rfl ⟨rfl, rfl⟩ (by decide +kernel) ⟨Nat.le_of_ble_eq_true rfl, Nat.le_of_ble_eq_true rfl⟩ rfl [] [] ((List.append_nil _).symm) 9 rfl rfl rfl (Nat.le_of_ble_eq_true rfl) ⟨Nat.zero_le _, Nat.zero_le _⟩ gz_pI_sh dX9_swap_50 ?_
          refine gz_kIb ((List.append_nil _).symm).symm (fun r50 h50 => ?_)
          subst h50
          refine gz_if_eqb (pc := 53) (tgt := 65) F dX9_swap_53 (by decide) (fun c53 => ?_) (fun c53 => ?_)
          · refine gz_const (pc := 65) F dX9_swap_65 ?_
            refine gz_goto (pc := 66) (tgt := 70) F dX9_swap_66 (by decide) ?_
            refine gz_callVb (pc := 70) (n := 1) (As := [vI 3]) (rest := []) (bytes := cX9_refused) (maxL := 2) (ret := some .boolean) F (ct_X9_refused_3 l D cI cJ cZ a u hu) gX9_swap_X9_refused rfl ⟨rfl, rfl⟩ (by decide +kernel) ⟨Nat.le_of_ble_eq_true rfl, Nat.le_of_ble_eq_true rfl⟩ rfl [] [] ((List.append_nil _).symm) 9 rfl rfl rfl (Nat.le_of_ble_eq_true rfl) ⟨Nat.zero_le _, Nat.zero_le _⟩ (gz_pV_sh rfl) dX9_swap_70 ?_
            refine gz_kVb (r := 1) (ws2 := MdW cI cZ a (3, Md_now u, Md_aw u, Md_mm u, Md_lo u, Md_mt u, Md_sw u, Md_bu u)) ((List.append_nil _).symm).symm ?_
            refine gz_if_eq (pc := 73) (tgt := 78) F dX9_swap_73 (by decide) (by omega) (fun c73 => ?_) (fun c73 => ?_)
            · exact absurd c73 (by decide)
            · refine gz_const (pc := 76) F dX9_swap_76 ?_
              refine Z _ _ 77 _ dX9_swap_77 rfl ?_
              exact ⟨3, Or.inr ⟨not_not_intro c24, Or.inr ⟨c33, Or.inl ⟨(by first | exact (fun h => h.2.2 c62) | exact (fun h => c53 h.2.1) | exact (fun h => c45 h.1)), rfl⟩⟩⟩, fun _ => ⟨rfl, rfl⟩, fun h => absurd h (by decide)⟩
          · refine gz_aload_n (pc := 56) F dX9_swap_56 rfl 1 rfl ?_
            refine gz_get (pc := 57) (v := vI (Sw_n (Md_sw u))) F hn_X9_swap_X9 0 9 rfl rfl 20 (by decide) fl_X9_swap_109 rfl dX9_swap_57 ?_
            have b57 := hSw.1
            refine gz_bipush (pc := 60) F dX9_swap_60 (by decide) ?_
            refine gz_icmp_ne (pc := 62) (tgt := 69) F dX9_swap_62 (by decide) (by omega) (by omega) (fun c62 => ?_) (fun c62 => ?_)
            · refine gz_const (pc := 69) F dX9_swap_69 ?_
              refine gz_callVb (pc := 70) (n := 1) (As := [vI 0]) (rest := []) (bytes := cX9_refused) (maxL := 2) (ret := some .boolean) F (ct_X9_refused_0 l D cI cJ cZ a u hu) gX9_swap_X9_refused rfl ⟨rfl, rfl⟩ (by decide +kernel) ⟨Nat.le_of_ble_eq_true rfl, Nat.le_of_ble_eq_true rfl⟩ rfl [] [] ((List.append_nil _).symm) 9 rfl rfl rfl (Nat.le_of_ble_eq_true rfl) ⟨Nat.zero_le _, Nat.zero_le _⟩ (gz_pV_sh rfl) dX9_swap_70 ?_
              refine gz_kVb (r := 0) (ws2 := MdW cI cZ a (0, Md_now u, Md_aw u, Md_mm u, Md_lo u, Md_mt u, Md_sw u, Md_bu u)) ((List.append_nil _).symm).symm ?_
              refine gz_if_eq (pc := 73) (tgt := 78) F dX9_swap_73 (by decide) (by omega) (fun c73 => ?_) (fun c73 => ?_)
              · refine gz_aload_n (pc := 78) F dX9_swap_78 rfl 1 rfl ?_
                refine gz_get (pc := 79) (v := .ref (a 17)) F hn_X9_swap_X9 0 9 rfl rfl 22 (by decide) fl_X9_swap_59 rfl dX9_swap_79 ?_
                refine gz_aload_n (pc := 82) F dX9_swap_82 rfl 1 rfl ?_
                refine gz_get (pc := 83) (v := vI (Sw_n (Md_sw u))) F hn_X9_swap_X9 0 9 rfl rfl 20 (by decide) fl_X9_swap_109 rfl dX9_swap_83 ?_
                have b83 := hSw.1
                refine gz_iload_n (pc := 86) F dX9_swap_86 rfl 2 rfl ?_
                refine gz_iast (pc := 87) (f := Sw_me (Md_sw u)) (ws2 := MdW cI cZ a ((0, Md_now u, Md_aw u, Md_mm u, Md_lo u, Md_mt u, (Sw_n (Md_sw u), zU (Sw_me (Md_sw u)) (Sw_n (Md_sw u)) p0, Sw_mm (Md_sw u), Sw_ot (Md_sw u), Sw_om (Md_sw u), Sw_ag (Md_sw u), Sw_st (Md_sw u)), Md_bu u))) F 17 rfl (by omega) (by decide) rfl dX9_swap_87 ?_
                refine gz_aload_n (pc := 88) F dX9_swap_88 rfl 1 rfl ?_
                refine gz_get (pc := 89) (v := .ref (a 18)) F hn_X9_swap_X9 0 9 rfl rfl 23 (by decide) fl_X9_swap_62 rfl dX9_swap_89 ?_
                refine gz_aload_n (pc := 92) F dX9_swap_92 rfl 1 rfl ?_
                refine gz_get (pc := 93) (v := vI (Sw_n (Md_sw u))) F hn_X9_swap_X9 0 9 rfl rfl 20 (by decide) fl_X9_swap_109 rfl dX9_swap_93 ?_
                have b93 := hSw.1
                refine gz_iload_n (pc := 96) F dX9_swap_96 rfl 3 rfl ?_
                refine gz_iast (pc := 97) (f := Sw_ot (Md_sw u)) (ws2 := MdW cI cZ a ((0, Md_now u, Md_aw u, Md_mm u, Md_lo u, Md_mt u, (Sw_n (Md_sw u), zU (Sw_me (Md_sw u)) (Sw_n (Md_sw u)) p0, Sw_mm (Md_sw u), zU (Sw_ot (Md_sw u)) (Sw_n (Md_sw u)) p1, Sw_om (Md_sw u), Sw_ag (Md_sw u), Sw_st (Md_sw u)), Md_bu u))) F 18 rfl (by omega) (by decide) rfl dX9_swap_97 ?_
                refine gz_aload_n (pc := 98) F dX9_swap_98 rfl 1 rfl ?_
                refine gz_get (pc := 99) (v := .ref (a 19)) F hn_X9_swap_X9 0 9 rfl rfl 24 (by decide) fl_X9_swap_65 rfl dX9_swap_99 ?_
                refine gz_aload_n (pc := 102) F dX9_swap_102 rfl 1 rfl ?_
                refine gz_get (pc := 103) (v := vI (Sw_n (Md_sw u))) F hn_X9_swap_X9 0 9 rfl rfl 20 (by decide) fl_X9_swap_109 rfl dX9_swap_103 ?_
                have b103 := hSw.1
                refine gz_aload_n (pc := 106) F dX9_swap_106 rfl 1 rfl ?_
                refine gz_get (pc := 107) (v := .ref (a 15)) F hn_X9_swap_X9 0 9 rfl rfl 19 (by decide) fl_X9_swap_53 rfl dX9_swap_107 ?_
                refine gz_iload_n (pc := 110) F dX9_swap_110 rfl 2 rfl ?_
                refine gz_iald (pc := 111) (f := Mt_mv (Md_mt u)) F 15 rfl (by omega) (by decide) dX9_swap_111 ?_
                refine gz_iast (pc := 112) (f := Sw_mm (Md_sw u)) (ws2 := MdW cI cZ a ((0, Md_now u, Md_aw u, Md_mm u, Md_lo u, Md_mt u, (Sw_n (Md_sw u), zU (Sw_me (Md_sw u)) (Sw_n (Md_sw u)) p0, zU (Sw_mm (Md_sw u)) (Sw_n (Md_sw u)) (Mt_mv (Md_mt u) p0), zU (Sw_ot (Md_sw u)) (Sw_n (Md_sw u)) p1, Sw_om (Md_sw u), Sw_ag (Md_sw u), Sw_st (Md_sw u)), Md_bu u))) F 19 rfl (by omega) (by decide) rfl dX9_swap_112 ?_
                refine gz_aload_n (pc := 113) F dX9_swap_113 rfl 1 rfl ?_
                refine gz_get (pc := 114) (v := .ref (a 20)) F hn_X9_swap_X9 0 9 rfl rfl 25 (by decide) fl_X9_swap_68 rfl dX9_swap_114 ?_
                refine gz_aload_n (pc := 117) F dX9_swap_117 rfl 1 rfl ?_
                refine gz_get (pc := 118) (v := vI (Sw_n (Md_sw u))) F hn_X9_swap_X9 0 9 rfl rfl 20 (by decide) fl_X9_swap_109 rfl dX9_swap_118 ?_
                have b118 := hSw.1
                refine gz_aload_n (pc := 121) F dX9_swap_121 rfl 1 rfl ?_
                refine gz_get (pc := 122) (v := .ref (a 15)) F hn_X9_swap_X9 0 9 rfl rfl 19 (by decide) fl_X9_swap_53 rfl dX9_swap_122 ?_
                refine gz_iload_n (pc := 125) F dX9_swap_125 rfl 3 rfl ?_
                refine gz_iald (pc := 126) (f := Mt_mv (Md_mt u)) F 15 rfl (by omega) (by decide) dX9_swap_126 ?_
                refine gz_iast (pc := 127) (f := Sw_om (Md_sw u)) (ws2 := MdW cI cZ a ((0, Md_now u, Md_aw u, Md_mm u, Md_lo u, Md_mt u, (Sw_n (Md_sw u), zU (Sw_me (Md_sw u)) (Sw_n (Md_sw u)) p0, zU (Sw_mm (Md_sw u)) (Sw_n (Md_sw u)) (Mt_mv (Md_mt u) p0), zU (Sw_ot (Md_sw u)) (Sw_n (Md_sw u)) p1, zU (Sw_om (Md_sw u)) (Sw_n (Md_sw u)) (Mt_mv (Md_mt u) p1), Sw_ag (Md_sw u), Sw_st (Md_sw u)), Md_bu u))) F 20 rfl (by omega) (by decide) rfl dX9_swap_127 ?_
                refine gz_aload_n (pc := 128) F dX9_swap_128 rfl 1 rfl ?_
                refine gz_dup (pc := 129) F dX9_swap_129 rfl ?_
                refine gz_get (pc := 130) (v := vI (Sw_n (Md_sw u))) F hn_X9_swap_X9 0 9 rfl rfl 20 (by decide) fl_X9_swap_109 rfl dX9_swap_130 ?_
                have b130 := hSw.1
                refine gz_const (pc := 133) F dX9_swap_133 ?_
                refine gz_iadd (pc := 134) F dX9_swap_134 ?_
                refine gz_put (pc := 135) (ws2 := MdW cI cZ a ((0, Md_now u, Md_aw u, Md_mm u, Md_lo u, Md_mt u, ((Sw_n (Md_sw u)) + 1, zU (Sw_me (Md_sw u)) (Sw_n (Md_sw u)) p0, zU (Sw_mm (Md_sw u)) (Sw_n (Md_sw u)) (Mt_mv (Md_mt u) p0), zU (Sw_ot (Md_sw u)) (Sw_n (Md_sw u)) p1, zU (Sw_om (Md_sw u)) (Sw_n (Md_sw u)) (Mt_mv (Md_mt u) p1), Sw_ag (Md_sw u), Sw_st (Md_sw u)), Md_bu u))) F hn_X9_swap_X9 tyX9 tyX9_ok nmX9 0 9 rfl rfl 20 (by decide) fl_X9_swap_109 rfl (ty := .int) rfl rfl rfl (Nat.le_of_ble_eq_true rfl) rfl dX9_swap_135 ?_
                refine gz_aload_n (pc := 138) F dX9_swap_138 rfl 1 rfl ?_
                refine gz_get (pc := 139) (v := vI ((Sw_n (Md_sw u)) + 1)) F hn_X9_swap_X9 0 9 rfl rfl 20 (by decide) fl_X9_swap_109 rfl dX9_swap_139 ?_
                refine gz_const (pc := 142) F dX9_swap_142 ?_
                refine gz_isub (pc := 143) F dX9_swap_143 ?_
                refine Z _ _ 144 _ dX9_swap_144 rfl ?_
                exact ⟨0, Or.inr ⟨not_not_intro c24, Or.inr ⟨c33, Or.inr ⟨not_not_intro ⟨c45, c53, c62⟩, rfl⟩⟩⟩, fun h => absurd rfl h, fun _ => ⟨rfl, rfl⟩⟩
              · exact absurd c73 (by decide)
            · refine gz_const (pc := 65) F dX9_swap_65 ?_
              refine gz_goto (pc := 66) (tgt := 70) F dX9_swap_66 (by decide) ?_
              refine gz_callVb (pc := 70) (n := 1) (As := [vI 3]) (rest := []) (bytes := cX9_refused) (maxL := 2) (ret := some .boolean) F (ct_X9_refused_3 l D cI cJ cZ a u hu) gX9_swap_X9_refused rfl ⟨rfl, rfl⟩ (by decide +kernel) ⟨Nat.le_of_ble_eq_true rfl, Nat.le_of_ble_eq_true rfl⟩ rfl [] [] ((List.append_nil _).symm) 9 rfl rfl rfl (Nat.le_of_ble_eq_true rfl) ⟨Nat.zero_le _, Nat.zero_le _⟩ (gz_pV_sh rfl) dX9_swap_70 ?_
              refine gz_kVb (r := 1) (ws2 := MdW cI cZ a (3, Md_now u, Md_aw u, Md_mm u, Md_lo u, Md_mt u, Md_sw u, Md_bu u)) ((List.append_nil _).symm).symm ?_
              refine gz_if_eq (pc := 73) (tgt := 78) F dX9_swap_73 (by decide) (by omega) (fun c73 => ?_) (fun c73 => ?_)
              · exact absurd c73 (by decide)
              · refine gz_const (pc := 76) F dX9_swap_76 ?_
                refine Z _ _ 77 _ dX9_swap_77 rfl ?_
                exact ⟨3, Or.inr ⟨not_not_intro c24, Or.inr ⟨c33, Or.inl ⟨(by first | exact (fun h => h.2.2 c62) | exact (fun h => c53 h.2.1) | exact (fun h => c45 h.1)), rfl⟩⟩⟩, fun _ => ⟨rfl, rfl⟩, fun h => absurd h (by decide)⟩
      · refine gz_const (pc := 36) F dX9_swap_36 ?_
        refine gz_goto (pc := 37) (tgt := 70) F dX9_swap_37 (by decide) ?_
        refine gz_callVb (pc := 70) (n := 1) (As := [vI 2]) (rest := []) (bytes := cX9_refused) (maxL := 2) (ret := some .boolean) F (ct_X9_refused_2 l D cI cJ cZ a u hu) gX9_swap_X9_refused rfl ⟨rfl, rfl⟩ (by decide +kernel) ⟨Nat.le_of_ble_eq_true rfl, Nat.le_of_ble_eq_true rfl⟩ rfl [] [] ((List.append_nil _).symm) 9 rfl rfl rfl (Nat.le_of_ble_eq_true rfl) ⟨Nat.zero_le _, Nat.zero_le _⟩ (gz_pV_sh rfl) dX9_swap_70 ?_
        refine gz_kVb (r := 1) (ws2 := MdW cI cZ a (2, Md_now u, Md_aw u, Md_mm u, Md_lo u, Md_mt u, Md_sw u, Md_bu u)) ((List.append_nil _).symm).symm ?_
        refine gz_if_eq (pc := 73) (tgt := 78) F dX9_swap_73 (by decide) (by omega) (fun c73 => ?_) (fun c73 => ?_)
        · exact absurd c73 (by decide)
        · refine gz_const (pc := 76) F dX9_swap_76 ?_
          refine Z _ _ 77 _ dX9_swap_77 rfl ?_
          exact ⟨2, Or.inr ⟨not_not_intro c24, Or.inl ⟨c33, rfl⟩⟩, fun _ => ⟨rfl, rfl⟩, fun h => absurd h (by decide)⟩
    · refine gz_const (pc := 27) F dX9_swap_27 ?_
      refine gz_goto (pc := 28) (tgt := 70) F dX9_swap_28 (by decide) ?_
      refine gz_callVb (pc := 70) (n := 1) (As := [vI 1]) (rest := []) (bytes := cX9_refused) (maxL := 2) (ret := some .boolean) F (ct_X9_refused_1 l D cI cJ cZ a u hu) gX9_swap_X9_refused rfl ⟨rfl, rfl⟩ (by decide +kernel) ⟨Nat.le_of_ble_eq_true rfl, Nat.le_of_ble_eq_true rfl⟩ rfl [] [] ((List.append_nil _).symm) 9 rfl rfl rfl (Nat.le_of_ble_eq_true rfl) ⟨Nat.zero_le _, Nat.zero_le _⟩ (gz_pV_sh rfl) dX9_swap_70 ?_
      refine gz_kVb (r := 1) (ws2 := MdW cI cZ a (1, Md_now u, Md_aw u, Md_mm u, Md_lo u, Md_mt u, Md_sw u, Md_bu u)) ((List.append_nil _).symm).symm ?_
      refine gz_if_eq (pc := 73) (tgt := 78) F dX9_swap_73 (by decide) (by omega) (fun c73 => ?_) (fun c73 => ?_)
      · exact absurd c73 (by decide)
      · refine gz_const (pc := 76) F dX9_swap_76 ?_
        refine Z _ _ 77 _ dX9_swap_77 rfl ?_
        exact ⟨1, Or.inl ⟨c24, rfl⟩, fun _ => ⟨rfl, rfl⟩, fun h => absurd h (by decide)⟩
  refine gz_aload_n (pc := 0) F dX9_swap_0 rfl 0 rfl ?_
  refine gz_iload_n (pc := 1) F dX9_swap_1 rfl 1 rfl ?_
  refine gz_callVb (pc := 2) (n := 1) (As := [vI p0]) (rest := []) (bytes := cX9_isMeeting) (maxL := 2) (ret := some .boolean) F (ct_X9_isMeeting l D cI cJ cZ a u p0 hu (by omega)) gX9_swap_X9_isMeeting rfl ⟨rfl, rfl⟩ (by decide +kernel) ⟨Nat.le_of_ble_eq_true rfl, Nat.le_of_ble_eq_true rfl⟩ rfl [] [] ((List.append_nil _).symm) 9 rfl rfl rfl (Nat.le_of_ble_eq_true rfl) ⟨Nat.zero_le _, Nat.zero_le _⟩ gz_pI_sh dX9_swap_2 ?_
  refine gz_kIb ((List.append_nil _).symm).symm (fun r2 h2 => ?_)
  subst h2
  refine gz_if_eqb (pc := 5) (tgt := 20) F dX9_swap_5 (by decide) (fun c5 => ?_) (fun c5 => ?_)
  · refine gz_const (pc := 20) F dX9_swap_20 ?_
    refine gz_eqst (st2 := [vI (bz ((0 ≤ p0 ∧ p0 ≤ Mt_n (Md_mt u) - 1) ∧ (0 ≤ p1 ∧ p1 ≤ Mt_n (Md_mt u) - 1)))]) (by first | exact congrArg (fun x => [vI x]) (bzF (fun h => c13 h.2)) | exact congrArg (fun x => [vI x]) (bzF (fun h => c5 h.1))) ?_
    exact J21  
  · refine gz_aload_n (pc := 8) F dX9_swap_8 rfl 0 rfl ?_
    refine gz_iload_n (pc := 9) F dX9_swap_9 rfl 2 rfl ?_
    refine gz_callVb (pc := 10) (n := 1) (As := [vI p1]) (rest := []) (bytes := cX9_isMeeting) (maxL := 2) (ret := some .boolean) F (ct_X9_isMeeting l D cI cJ cZ a u p1 hu (by omega)) gX9_swap_X9_isMeeting rfl ⟨rfl, rfl⟩ (by decide +kernel) ⟨Nat.le_of_ble_eq_true rfl, Nat.le_of_ble_eq_true rfl⟩ rfl [] [] ((List.append_nil _).symm) 9 rfl rfl rfl (Nat.le_of_ble_eq_true rfl) ⟨Nat.zero_le _, Nat.zero_le _⟩ gz_pI_sh dX9_swap_10 ?_
    refine gz_kIb ((List.append_nil _).symm).symm (fun r10 h10 => ?_)
    subst h10
    refine gz_if_eqb (pc := 13) (tgt := 20) F dX9_swap_13 (by decide) (fun c13 => ?_) (fun c13 => ?_)
    · refine gz_const (pc := 20) F dX9_swap_20 ?_
      refine gz_eqst (st2 := [vI (bz ((0 ≤ p0 ∧ p0 ≤ Mt_n (Md_mt u) - 1) ∧ (0 ≤ p1 ∧ p1 ≤ Mt_n (Md_mt u) - 1)))]) (by first | exact congrArg (fun x => [vI x]) (bzF (fun h => c13 h.2)) | exact congrArg (fun x => [vI x]) (bzF (fun h => c5 h.1))) ?_
      exact J21  
    · refine gz_const (pc := 16) F dX9_swap_16 ?_
      refine gz_goto (pc := 17) (tgt := 21) F dX9_swap_17 (by decide) ?_
      refine gz_eqst (st2 := [vI (bz ((0 ≤ p0 ∧ p0 ≤ Mt_n (Md_mt u) - 1) ∧ (0 ≤ p1 ∧ p1 ≤ Mt_n (Md_mt u) - 1)))]) (by exact congrArg (fun x => [vI x]) (bzT (⟨c5, c13⟩))) ?_
      exact J21  
