/-! ===== laid by wip/whole/gen/md2.py ===== -/
abbrev md_agree (u : MdS) (p0 p1 : Int) : List (Prop × Int) := [(¬ ((0 ≤ p0 ∧ p0 ≤ 9) ∧ (0 ≤ p1 ∧ p1 ≤ Sw_n (Md_sw u) - 1)), 1), (¬ (Sw_st (Md_sw u) p1 = 0 ∧ bit (Md_all u p1) p0.toNat), 2)]
theorem hn_X9_agree_X9 : ∀ w ∈ u_ws RX9 TX9 35, w ∈ wsX9_agree := by decide +kernel
theorem fl_X9_agree_56 : Cond.fieldLink RX9 56 (TX9 21).1 (TX9 21).2.1 (TX9 21).2.2.1 ∈ wsX9_agree := by decide +kernel
theorem fl_X9_agree_59 : Cond.fieldLink RX9 59 (TX9 22).1 (TX9 22).2.1 (TX9 22).2.2.1 ∈ wsX9_agree := by decide +kernel
theorem fl_X9_agree_62 : Cond.fieldLink RX9 62 (TX9 23).1 (TX9 23).2.1 (TX9 23).2.2.1 ∈ wsX9_agree := by decide +kernel
theorem fl_X9_agree_53 : Cond.fieldLink RX9 53 (TX9 19).1 (TX9 19).2.1 (TX9 19).2.2.1 ∈ wsX9_agree := by decide +kernel
theorem fl_X9_agree_65 : Cond.fieldLink RX9 65 (TX9 24).1 (TX9 24).2.1 (TX9 24).2.2.1 ∈ wsX9_agree := by decide +kernel
theorem fl_X9_agree_68 : Cond.fieldLink RX9 68 (TX9 25).1 (TX9 25).2.1 (TX9 25).2.2.1 ∈ wsX9_agree := by decide +kernel
theorem fl_X9_agree_71 : Cond.fieldLink RX9 71 (TX9 26).1 (TX9 26).2.1 (TX9 26).2.2.1 ∈ wsX9_agree := by decide +kernel
theorem fl_X9_agree_41 : Cond.fieldLink RX9 41 (TX9 15).1 (TX9 15).2.1 (TX9 15).2.2.1 ∈ wsX9_agree := by decide +kernel
set_option maxHeartbeats 4000000 in
set_option maxRecDepth 100000 in
theorem ct_X9_agree (l : Launch) (D : va_G) (cI cJ cZ : ClassId) (a : Nat → Nat) (u : MdS) (p0 p1 : Int) (hu : MdI u) (h0 : -2147483648 ≤ p0 ∧ p0 < 2147483648) (h1 : -2147483648 ≤ p1 ∧ p1 < 2147483648)  : gz_M l yX9_agree wsX9_agree { frames := 5, cells := 0, slots := 0, locals := 122 } D cI cJ cZ [.ref (a 0), vI p0, vI p1] (MdW cI cZ a u) (gz_pK (md_agree u p0 p1) (some (vI (Sw_st (Md_sw (Md_agr u p0 p1)) p1))) (some (vI 0)) (fun k => MdW cI cZ a (Md_setTh u k)) (MdW cI cZ a (Md_agr u p0 p1))) := by
  refine gz_ofZ (cc := cX9_agree) (maxL := 7) (ty := .int) (own := RX9) (by decide) rfl rfl (Nat.le_of_ble_eq_true rfl) (lv0 := [(0, .ref (a 0)), (1, vI p0), (2, vI p1)]) rfl ?_
  intro p e s m args below meth c A Q F Z
  obtain ⟨hnw, hAw, hMm, hLo, ⟨hMt, hMa⟩, hSw, hBu⟩ := id hu
  have hMmn := hMm.1
  have hLon := hLo.1
  have hMtn := hMt.1
  have hSwn := hSw.1
  have hBun := hBu.1
  have J52 : ∀ (w : Int), ((0 ≤ p0 ∧ p0 ≤ 9) ∧ (0 ≤ p1 ∧ p1 ≤ Sw_n (Md_sw u) - 1) → w = Md_all u p1) → (0 ≤ w ∧ w ≤ 1023) → gG p l e ({ frames := 5, cells := 0, slots := 0, locals := 122 } : Room) s m args below meth c D A 7 Q 0 0 (MdW cI cZ a u) [(0, .ref (a 0)), (1, vI p0), (2, vI p1), (3, vI (bz ((0 ≤ p0 ∧ p0 ≤ 9) ∧ (0 ≤ p1 ∧ p1 ≤ Sw_n (Md_sw u) - 1))))] [vI w] 52 := by
    intro w hw hwr
    refine gz_istore (pc := 52) (lv2 := [(4, vI w), (0, .ref (a 0)), (1, vI p0), (2, vI p1), (3, vI (bz ((0 ≤ p0 ∧ p0 ≤ 9) ∧ (0 ≤ p1 ∧ p1 ≤ Sw_n (Md_sw u) - 1))))]) F dX9_agree_52 (by decide) rfl ?_
    refine gz_aload_n (pc := 54) F dX9_agree_54 rfl 1 rfl ?_
    refine gz_iload_n (pc := 55) F dX9_agree_55 rfl 4 rfl ?_
    refine gz_if_neb (pc := 56) (tgt := 63) F dX9_agree_56 (by decide) (fun c56 => ?_) (fun c56 => ?_)
    · have hw2 := hw c56
      have hp0 : 0 ≤ p0 ∧ p0 < 10 := by omega
      have hme := (hSw.2 p1).1
      have hot := (hSw.2 p1).2.1
      refine gz_aload_n (pc := 63) F dX9_agree_63 rfl 1 rfl ?_
      refine gz_get (pc := 64) (v := .ref (a 16)) F hn_X9_agree_X9 0 9 rfl rfl 21 (by decide) fl_X9_agree_56 rfl dX9_agree_64 ?_
      refine gz_iload_n (pc := 67) F dX9_agree_67 rfl 3 rfl ?_
      refine gz_iald (pc := 68) (f := Sw_st (Md_sw u)) F 16 rfl (by omega) (by decide) dX9_agree_68 ?_
      have b68 := (hSw.2 p1).2.2.2
      refine gz_if_ne (pc := 69) (tgt := 81) F dX9_agree_69 (by decide) (by omega) (fun c69 => ?_) (fun c69 => ?_)
      · refine gz_const (pc := 81) F dX9_agree_81 ?_
        refine gz_goto (pc := 82) (tgt := 86) F dX9_agree_82 (by decide) ?_
        refine gz_callVb (pc := 86) (n := 1) (As := [vI 2]) (rest := []) (bytes := cX9_refused) (maxL := 2) (ret := some .boolean) F (ct_X9_refused_2 l D cI cJ cZ a u hu) gX9_agree_X9_refused rfl ⟨rfl, rfl⟩ (by decide +kernel) ⟨Nat.le_of_ble_eq_true rfl, Nat.le_of_ble_eq_true rfl⟩ rfl [] [] ((List.append_nil _).symm) 9 rfl rfl rfl (Nat.le_of_ble_eq_true rfl) ⟨Nat.zero_le _, Nat.zero_le _⟩ (gz_pV_sh rfl) dX9_agree_86 ?_
        refine gz_kVb (r := 1) (ws2 := MdW cI cZ a (2, Md_now u, Md_aw u, Md_mm u, Md_lo u, Md_mt u, Md_sw u, Md_bu u)) ((List.append_nil _).symm).symm ?_
        refine gz_if_eq (pc := 89) (tgt := 94) F dX9_agree_89 (by decide) (by omega) (fun c89 => ?_) (fun c89 => ?_)
        · exact absurd c89 (by decide)
        · refine gz_const (pc := 92) F dX9_agree_92 ?_
          refine Z _ _ 93 _ dX9_agree_93 rfl ?_
          exact ⟨2, Or.inr ⟨not_not_intro c56, Or.inl ⟨(by first | exact (fun h => zbit0 c78 (by rw [hw2]; exact h.2)) | exact (fun h => c69 h.1)), rfl⟩⟩, fun _ => ⟨rfl, rfl⟩, fun h => absurd h (by decide)⟩
      · refine gz_iload (pc := 72) F dX9_agree_72 0 rfl ?_
        refine gz_iload_n (pc := 74) F dX9_agree_74 rfl 2 rfl ?_
        refine gz_ishr (pc := 75) (v := zsh w p0) F dX9_agree_75 (zsh_I (by omega) (by omega)) ?_
        refine gz_const (pc := 76) F dX9_agree_76 ?_
        have b77 := (zsh_r (x := w) (y := p0) (by omega))
        refine gz_iand (pc := 77) (v := (zsh w p0) % 2) F dX9_agree_77 (zand_1 (zsh_r (by omega)).1) ?_
        refine gz_if_ne (pc := 78) (tgt := 85) F dX9_agree_78 (by decide) (by omega) (fun c78 => ?_) (fun c78 => ?_)
        · refine gz_const (pc := 85) F dX9_agree_85 ?_
          refine gz_callVb (pc := 86) (n := 1) (As := [vI 0]) (rest := []) (bytes := cX9_refused) (maxL := 2) (ret := some .boolean) F (ct_X9_refused_0 l D cI cJ cZ a u hu) gX9_agree_X9_refused rfl ⟨rfl, rfl⟩ (by decide +kernel) ⟨Nat.le_of_ble_eq_true rfl, Nat.le_of_ble_eq_true rfl⟩ rfl [] [] ((List.append_nil _).symm) 9 rfl rfl rfl (Nat.le_of_ble_eq_true rfl) ⟨Nat.zero_le _, Nat.zero_le _⟩ (gz_pV_sh rfl) dX9_agree_86 ?_
          refine gz_kVb (r := 0) (ws2 := MdW cI cZ a (0, Md_now u, Md_aw u, Md_mm u, Md_lo u, Md_mt u, Md_sw u, Md_bu u)) ((List.append_nil _).symm).symm ?_
          refine gz_if_eq (pc := 89) (tgt := 94) F dX9_agree_89 (by decide) (by omega) (fun c89 => ?_) (fun c89 => ?_)
          · refine gz_aload_n (pc := 94) F dX9_agree_94 rfl 1 rfl ?_
            refine gz_get (pc := 95) (v := .ref (a 17)) F hn_X9_agree_X9 0 9 rfl rfl 22 (by decide) fl_X9_agree_59 rfl dX9_agree_95 ?_
            refine gz_iload_n (pc := 98) F dX9_agree_98 rfl 3 rfl ?_
            refine gz_iald (pc := 99) (f := Sw_me (Md_sw u)) F 17 rfl (by omega) (by decide) dX9_agree_99 ?_
            have b99 := (hSw.2 p1).1
            refine gz_istore (pc := 100) (lv2 := [(5, vI (Sw_me (Md_sw u) p1)), (4, vI w), (0, .ref (a 0)), (1, vI p0), (2, vI p1), (3, vI (bz ((0 ≤ p0 ∧ p0 ≤ 9) ∧ (0 ≤ p1 ∧ p1 ≤ Sw_n (Md_sw u) - 1))))]) F dX9_agree_100 (by decide) rfl ?_
            refine gz_aload_n (pc := 102) F dX9_agree_102 rfl 2 rfl ?_
            refine gz_get (pc := 103) (v := .ref (a 18)) F hn_X9_agree_X9 0 9 rfl rfl 23 (by decide) fl_X9_agree_62 rfl dX9_agree_103 ?_
            refine gz_iload_n (pc := 106) F dX9_agree_106 rfl 4 rfl ?_
            refine gz_iald (pc := 107) (f := Sw_ot (Md_sw u)) F 18 rfl (by omega) (by decide) dX9_agree_107 ?_
            have b107 := (hSw.2 p1).2.1
            refine gz_istore (pc := 108) (lv2 := [(6, vI (Sw_ot (Md_sw u) p1)), (5, vI (Sw_me (Md_sw u) p1)), (4, vI w), (0, .ref (a 0)), (1, vI p0), (2, vI p1), (3, vI (bz ((0 ≤ p0 ∧ p0 ≤ 9) ∧ (0 ≤ p1 ∧ p1 ≤ Sw_n (Md_sw u) - 1))))]) F dX9_agree_108 (by decide) rfl ?_
            refine gz_aload_n (pc := 110) F dX9_agree_110 rfl 3 rfl ?_
            refine gz_iload (pc := 111) F dX9_agree_111 1 rfl ?_
            refine gz_callVb (pc := 113) (n := 1) (As := [vI (Sw_me (Md_sw u) p1)]) (rest := []) (bytes := cX9_isAhead) (maxL := 2) (ret := some .boolean) F (ct_X9_isAhead l D cI cJ cZ a (0, Md_now u, Md_aw u, Md_mm u, Md_lo u, Md_mt u, Md_sw u, Md_bu u) (Sw_me (Md_sw u) p1) hu (by omega)) gX9_agree_X9_isAhead rfl ⟨rfl, rfl⟩ (by decide +kernel) ⟨Nat.le_of_ble_eq_true rfl, Nat.le_of_ble_eq_true rfl⟩ rfl [] [] ((List.append_nil _).symm) 9 rfl rfl rfl (Nat.le_of_ble_eq_true rfl) ⟨Nat.zero_le _, Nat.zero_le _⟩ gz_pI_sh dX9_agree_113 ?_
            refine gz_kIb ((List.append_nil _).symm).symm (fun r113 h113 => ?_)
            subst h113
            refine gz_if_eqb (pc := 116) (tgt := 160) F dX9_agree_116 (by decide) (fun c116 => ?_) (fun c116 => ?_)
            · refine gz_aload_n (pc := 160) F dX9_agree_160 rfl 3 rfl ?_
              refine gz_get (pc := 161) (v := .ref (a 16)) F hn_X9_agree_X9 0 9 rfl rfl 21 (by decide) fl_X9_agree_56 rfl dX9_agree_161 ?_
              refine gz_iload_n (pc := 164) F dX9_agree_164 rfl 5 rfl ?_
              refine gz_const (pc := 165) F dX9_agree_165 ?_
              refine gz_iast (pc := 166) (f := Sw_st (Md_sw u)) (ws2 := MdW cI cZ a ((0, Md_now u, Md_aw u, Md_mm u, Md_lo u, Md_mt u, (Sw_n (Md_sw u), Sw_me (Md_sw u), Sw_mm (Md_sw u), Sw_ot (Md_sw u), Sw_om (Md_sw u), Sw_ag (Md_sw u), zU (Sw_st (Md_sw u)) p1 2), Md_bu u))) F 16 rfl (by omega) (by decide) rfl dX9_agree_166 ?_
              refine gz_const (pc := 167) F dX9_agree_167 ?_
              refine Z _ _ 168 _ dX9_agree_168 rfl ?_
              exact ⟨0, Or.inr ⟨not_not_intro c56, Or.inr ⟨not_not_intro ⟨c69, by rw [← hw2]; exact zbit1 c78⟩, rfl⟩⟩, fun h => absurd rfl h, fun _ => ⟨(by rw [Md_agr_0 (u := u) (p := p0) (k := p1) (by first | exact (fun h => c157 h.2.2.2) | exact (fun h => c141 h.2.2.1) | exact (fun h => c125 h.2.1) | exact (fun h => c116 h.1))]; exact congrArg (fun x => some (vI x)) (zU_s _ _ _).symm), (congrArg (MdW cI cZ a) (Md_agr_0 (u := u) (p := p0) (k := p1) (by first | exact (fun h => c157 h.2.2.2) | exact (fun h => c141 h.2.2.1) | exact (fun h => c125 h.2.1) | exact (fun h => c116 h.1)))).symm⟩⟩
            · refine gz_aload_n (pc := 119) F dX9_agree_119 rfl 3 rfl ?_
              refine gz_iload (pc := 120) F dX9_agree_120 0 rfl ?_
              refine gz_callVb (pc := 122) (n := 1) (As := [vI (Sw_ot (Md_sw u) p1)]) (rest := []) (bytes := cX9_isAhead) (maxL := 2) (ret := some .boolean) F (ct_X9_isAhead l D cI cJ cZ a (0, Md_now u, Md_aw u, Md_mm u, Md_lo u, Md_mt u, Md_sw u, Md_bu u) (Sw_ot (Md_sw u) p1) hu (by omega)) gX9_agree_X9_isAhead rfl ⟨rfl, rfl⟩ (by decide +kernel) ⟨Nat.le_of_ble_eq_true rfl, Nat.le_of_ble_eq_true rfl⟩ rfl [] [] ((List.append_nil _).symm) 9 rfl rfl rfl (Nat.le_of_ble_eq_true rfl) ⟨Nat.zero_le _, Nat.zero_le _⟩ gz_pI_sh dX9_agree_122 ?_
              refine gz_kIb ((List.append_nil _).symm).symm (fun r122 h122 => ?_)
              subst h122
              refine gz_if_eqb (pc := 125) (tgt := 160) F dX9_agree_125 (by decide) (fun c125 => ?_) (fun c125 => ?_)
              · refine gz_aload_n (pc := 160) F dX9_agree_160 rfl 3 rfl ?_
                refine gz_get (pc := 161) (v := .ref (a 16)) F hn_X9_agree_X9 0 9 rfl rfl 21 (by decide) fl_X9_agree_56 rfl dX9_agree_161 ?_
                refine gz_iload_n (pc := 164) F dX9_agree_164 rfl 5 rfl ?_
                refine gz_const (pc := 165) F dX9_agree_165 ?_
                refine gz_iast (pc := 166) (f := Sw_st (Md_sw u)) (ws2 := MdW cI cZ a ((0, Md_now u, Md_aw u, Md_mm u, Md_lo u, Md_mt u, (Sw_n (Md_sw u), Sw_me (Md_sw u), Sw_mm (Md_sw u), Sw_ot (Md_sw u), Sw_om (Md_sw u), Sw_ag (Md_sw u), zU (Sw_st (Md_sw u)) p1 2), Md_bu u))) F 16 rfl (by omega) (by decide) rfl dX9_agree_166 ?_
                refine gz_const (pc := 167) F dX9_agree_167 ?_
                refine Z _ _ 168 _ dX9_agree_168 rfl ?_
                exact ⟨0, Or.inr ⟨not_not_intro c56, Or.inr ⟨not_not_intro ⟨c69, by rw [← hw2]; exact zbit1 c78⟩, rfl⟩⟩, fun h => absurd rfl h, fun _ => ⟨(by rw [Md_agr_0 (u := u) (p := p0) (k := p1) (by first | exact (fun h => c157 h.2.2.2) | exact (fun h => c141 h.2.2.1) | exact (fun h => c125 h.2.1) | exact (fun h => c116 h.1))]; exact congrArg (fun x => some (vI x)) (zU_s _ _ _).symm), (congrArg (MdW cI cZ a) (Md_agr_0 (u := u) (p := p0) (k := p1) (by first | exact (fun h => c157 h.2.2.2) | exact (fun h => c141 h.2.2.1) | exact (fun h => c125 h.2.1) | exact (fun h => c116 h.1)))).symm⟩⟩
              · refine gz_aload_n (pc := 128) F dX9_agree_128 rfl 3 rfl ?_
                refine gz_get (pc := 129) (v := .ref (a 15)) F hn_X9_agree_X9 0 9 rfl rfl 19 (by decide) fl_X9_agree_53 rfl dX9_agree_129 ?_
                refine gz_iload (pc := 132) F dX9_agree_132 1 rfl ?_
                refine gz_iald (pc := 134) (f := Mt_mv (Md_mt u)) F 15 rfl (by omega) (by decide) dX9_agree_134 ?_
                refine gz_aload_n (pc := 135) F dX9_agree_135 rfl 3 rfl ?_
                refine gz_get (pc := 136) (v := .ref (a 19)) F hn_X9_agree_X9 0 9 rfl rfl 24 (by decide) fl_X9_agree_65 rfl dX9_agree_136 ?_
                refine gz_iload_n (pc := 139) F dX9_agree_139 rfl 5 rfl ?_
                refine gz_iald (pc := 140) (f := Sw_mm (Md_sw u)) F 19 rfl (by omega) (by decide) dX9_agree_140 ?_
                refine gz_icmp32_ne (pc := 141) (tgt := 160) F dX9_agree_141 (by decide) (fun c141 => ?_) (fun c141 => ?_)
                · refine gz_aload_n (pc := 160) F dX9_agree_160 rfl 3 rfl ?_
                  refine gz_get (pc := 161) (v := .ref (a 16)) F hn_X9_agree_X9 0 9 rfl rfl 21 (by decide) fl_X9_agree_56 rfl dX9_agree_161 ?_
                  refine gz_iload_n (pc := 164) F dX9_agree_164 rfl 5 rfl ?_
                  refine gz_const (pc := 165) F dX9_agree_165 ?_
                  refine gz_iast (pc := 166) (f := Sw_st (Md_sw u)) (ws2 := MdW cI cZ a ((0, Md_now u, Md_aw u, Md_mm u, Md_lo u, Md_mt u, (Sw_n (Md_sw u), Sw_me (Md_sw u), Sw_mm (Md_sw u), Sw_ot (Md_sw u), Sw_om (Md_sw u), Sw_ag (Md_sw u), zU (Sw_st (Md_sw u)) p1 2), Md_bu u))) F 16 rfl (by omega) (by decide) rfl dX9_agree_166 ?_
                  refine gz_const (pc := 167) F dX9_agree_167 ?_
                  refine Z _ _ 168 _ dX9_agree_168 rfl ?_
                  exact ⟨0, Or.inr ⟨not_not_intro c56, Or.inr ⟨not_not_intro ⟨c69, by rw [← hw2]; exact zbit1 c78⟩, rfl⟩⟩, fun h => absurd rfl h, fun _ => ⟨(by rw [Md_agr_0 (u := u) (p := p0) (k := p1) (by first | exact (fun h => c157 h.2.2.2) | exact (fun h => c141 h.2.2.1) | exact (fun h => c125 h.2.1) | exact (fun h => c116 h.1))]; exact congrArg (fun x => some (vI x)) (zU_s _ _ _).symm), (congrArg (MdW cI cZ a) (Md_agr_0 (u := u) (p := p0) (k := p1) (by first | exact (fun h => c157 h.2.2.2) | exact (fun h => c141 h.2.2.1) | exact (fun h => c125 h.2.1) | exact (fun h => c116 h.1)))).symm⟩⟩
                · refine gz_aload_n (pc := 144) F dX9_agree_144 rfl 3 rfl ?_
                  refine gz_get (pc := 145) (v := .ref (a 15)) F hn_X9_agree_X9 0 9 rfl rfl 19 (by decide) fl_X9_agree_53 rfl dX9_agree_145 ?_
                  refine gz_iload (pc := 148) F dX9_agree_148 0 rfl ?_
                  refine gz_iald (pc := 150) (f := Mt_mv (Md_mt u)) F 15 rfl (by omega) (by decide) dX9_agree_150 ?_
                  refine gz_aload_n (pc := 151) F dX9_agree_151 rfl 3 rfl ?_
                  refine gz_get (pc := 152) (v := .ref (a 20)) F hn_X9_agree_X9 0 9 rfl rfl 25 (by decide) fl_X9_agree_68 rfl dX9_agree_152 ?_
                  refine gz_iload_n (pc := 155) F dX9_agree_155 rfl 5 rfl ?_
                  refine gz_iald (pc := 156) (f := Sw_om (Md_sw u)) F 20 rfl (by omega) (by decide) dX9_agree_156 ?_
                  refine gz_icmp32_eq (pc := 157) (tgt := 169) F dX9_agree_157 (by decide) (fun c157 => ?_) (fun c157 => ?_)
                  · refine gz_aload_n (pc := 169) F dX9_agree_169 rfl 3 rfl ?_
                    refine gz_get (pc := 170) (v := .ref (a 21)) F hn_X9_agree_X9 0 9 rfl rfl 26 (by decide) fl_X9_agree_71 rfl dX9_agree_170 ?_
                    refine gz_iload_n (pc := 173) F dX9_agree_173 rfl 5 rfl ?_
                    refine gz_dup2 (pc := 174) F dX9_agree_174 rfl rfl ?_
                    refine gz_iald (pc := 175) (f := Sw_ag (Md_sw u)) F 21 rfl (by omega) (by decide) dX9_agree_175 ?_
                    have b175 := (hSw.2 p1).2.2.1
                    refine gz_const (pc := 176) F dX9_agree_176 ?_
                    refine gz_iload_n (pc := 177) F dX9_agree_177 rfl 4 rfl ?_
                    refine gz_ishl (pc := 178) (v := ((2 ^ (Int.toNat p0) : Nat) : Int)) F dX9_agree_178 (zshl_1 (by omega)) ?_
                    refine gz_ior (pc := 179) (v := zor (Sw_ag (Md_sw u) p1) (((2 ^ (Int.toNat p0) : Nat) : Int))) F dX9_agree_179 (zor_I (hSw.2 p1).2.2.1.1 (pow_r hp0).1) ?_
                    refine gz_iast (pc := 180) (f := Sw_ag (Md_sw u)) (ws2 := MdW cI cZ a ((0, Md_now u, Md_aw u, Md_mm u, Md_lo u, Md_mt u, (Sw_n (Md_sw u), Sw_me (Md_sw u), Sw_mm (Md_sw u), Sw_ot (Md_sw u), Sw_om (Md_sw u), zU (Sw_ag (Md_sw u)) p1 (zor (Sw_ag (Md_sw u) p1) (((2 ^ (Int.toNat p0) : Nat) : Int))), Sw_st (Md_sw u)), Md_bu u))) F 21 rfl (by omega) (by decide) rfl dX9_agree_180 ?_
                    refine gz_aload_n (pc := 181) F dX9_agree_181 rfl 3 rfl ?_
                    refine gz_get (pc := 182) (v := .ref (a 21)) F hn_X9_agree_X9 0 9 rfl rfl 26 (by decide) fl_X9_agree_71 rfl dX9_agree_182 ?_
                    refine gz_iload_n (pc := 185) F dX9_agree_185 rfl 5 rfl ?_
                    refine gz_iald (pc := 186) (f := zU (Sw_ag (Md_sw u)) p1 (zor (Sw_ag (Md_sw u) p1) (((2 ^ (Int.toNat p0) : Nat) : Int)))) F 21 rfl (by omega) (by decide) dX9_agree_186 ?_
                    have b187 := zor_r (hSw.2 p1).2.2.1 (pow_r hp0)
                    have b188 : -2147483648 ≤ (zU (Sw_ag (Md_sw u)) p1 (zor (Sw_ag (Md_sw u) p1) ((2 ^ (Int.toNat p0) : Nat) : Int))) p1 ∧ (zU (Sw_ag (Md_sw u)) p1 (zor (Sw_ag (Md_sw u) p1) ((2 ^ (Int.toNat p0) : Nat) : Int))) p1 < 2147483648 := by rw [zU_s]; omega
                    refine gz_iload (pc := 187) F dX9_agree_187 2 rfl ?_
                    refine gz_icmp_ne (pc := 189) (tgt := 264) F dX9_agree_189 (by decide) (by omega) (by omega) (fun c189 => ?_) (fun c189 => ?_)
                    · refine gz_aload_n (pc := 264) F dX9_agree_264 rfl 3 rfl ?_
                      refine gz_get (pc := 265) (v := .ref (a 16)) F hn_X9_agree_X9 0 9 rfl rfl 21 (by decide) fl_X9_agree_56 rfl dX9_agree_265 ?_
                      refine gz_iload_n (pc := 268) F dX9_agree_268 rfl 5 rfl ?_
                      refine gz_iald (pc := 269) (f := Sw_st (Md_sw u)) F 16 rfl (by omega) (by decide) dX9_agree_269 ?_
                      have b269 := (hSw.2 p1).2.2.2
                      refine Z _ _ 270 _ dX9_agree_270 rfl ?_
                      exact ⟨0, Or.inr ⟨not_not_intro c56, Or.inr ⟨not_not_intro ⟨c69, by rw [← hw2]; exact zbit1 c78⟩, rfl⟩⟩, fun h => absurd rfl h, fun _ => ⟨(congrArg (fun q => some (vI (Sw_st (Md_sw q) p1))) (Md_agr_1 (u := u) (p := p0) (k := p1) ⟨c116, c125, c141, c157⟩ (by rw [← hw2]; exact c189))).symm, (congrArg (MdW cI cZ a) (Md_agr_1 (u := u) (p := p0) (k := p1) ⟨c116, c125, c141, c157⟩ (by rw [← hw2]; exact c189))).symm⟩⟩
                    · refine gz_aload_n (pc := 192) F dX9_agree_192 rfl 3 rfl ?_
                      refine gz_get (pc := 193) (v := .ref (a 16)) F hn_X9_agree_X9 0 9 rfl rfl 21 (by decide) fl_X9_agree_56 rfl dX9_agree_193 ?_
                      refine gz_iload_n (pc := 196) F dX9_agree_196 rfl 5 rfl ?_
                      refine gz_aload_n (pc := 197) F dX9_agree_197 rfl 3 rfl ?_
                      refine gz_iload (pc := 198) F dX9_agree_198 1 rfl ?_
                      refine gz_iload (pc := 200) F dX9_agree_200 0 rfl ?_
                      by_cases n202 : Md_swp ((0, Md_now u, Md_aw u, Md_mm u, Md_lo u, Md_mt u, (Sw_n (Md_sw u), Sw_me (Md_sw u), Sw_mm (Md_sw u), Sw_ot (Md_sw u), Sw_om (Md_sw u), zU (Sw_ag (Md_sw u)) p1 (zor (Sw_ag (Md_sw u) p1) (((2 ^ (Int.toNat p0) : Nat) : Int))), Sw_st (Md_sw u)), Md_bu u)) (Sw_me (Md_sw u) p1) (Sw_ot (Md_sw u) p1)
                      · refine gz_callVb (pc := 202) (n := 2) (As := [vI (Sw_me (Md_sw u) p1), vI (Sw_ot (Md_sw u) p1)]) (rest := [vI p1, .ref (a 16)]) (bytes := cX9_canSwap) (maxL := 6) (ret := some .boolean) F (ct_X9_canSwap_y l D cI cJ cZ a ((0, Md_now u, Md_aw u, Md_mm u, Md_lo u, Md_mt u, (Sw_n (Md_sw u), Sw_me (Md_sw u), Sw_mm (Md_sw u), Sw_ot (Md_sw u), Sw_om (Md_sw u), zU (Sw_ag (Md_sw u)) p1 (zor (Sw_ag (Md_sw u) p1) (((2 ^ (Int.toNat p0) : Nat) : Int))), Sw_st (Md_sw u)), Md_bu u)) (Sw_me (Md_sw u) p1) (Sw_ot (Md_sw u) p1) (Md_ag_I hu hp0) (by omega) (by omega) n202) gX9_agree_X9_canSwap rfl ⟨rfl, rfl⟩ (by decide +kernel) ⟨Nat.le_of_ble_eq_true rfl, Nat.le_of_ble_eq_true rfl⟩ rfl [] [] ((List.append_nil _).symm) 9 rfl rfl rfl (Nat.le_of_ble_eq_true rfl) ⟨Nat.zero_le _, Nat.zero_le _⟩ (gz_pV_sh rfl) dX9_agree_202 ?_
                        refine gz_kVb (r := 1) (ws2 := MdW cI cZ a ((0, Md_now u, Md_aw u, Md_mm u, Md_lo u, (Mt_n (Md_mt u), Mt_pe (Md_mt u), zU (zU (Mt_sl (Md_mt u)) (Sw_me (Md_sw u) p1) (Mt_sl (Md_mt u) (Sw_ot (Md_sw u) p1))) (Sw_ot (Md_sw u) p1) (Mt_sl (Md_mt u) (Sw_me (Md_sw u) p1)), Mt_ln (Md_mt u), Mt_ma (Md_mt u), Mt_st (Md_mt u), Mt_mv (Md_mt u)), (Sw_n (Md_sw u), Sw_me (Md_sw u), Sw_mm (Md_sw u), Sw_ot (Md_sw u), Sw_om (Md_sw u), zU (Sw_ag (Md_sw u)) p1 (zor (Sw_ag (Md_sw u) p1) (((2 ^ (Int.toNat p0) : Nat) : Int))), Sw_st (Md_sw u)), Md_bu u))) ((List.append_nil _).symm).symm ?_
                        refine gz_if_eq (pc := 205) (tgt := 212) F dX9_agree_205 (by decide) (by omega) (fun c205 => ?_) (fun c205 => ?_)
                        · exact absurd c205 (by decide)
                        · refine gz_const (pc := 208) F dX9_agree_208 ?_
                          refine gz_goto (pc := 209) (tgt := 213) F dX9_agree_209 (by decide) ?_
                          refine gz_iast (pc := 213) (f := Sw_st (Md_sw u)) (ws2 := MdW cI cZ a ((0, Md_now u, Md_aw u, Md_mm u, Md_lo u, (Mt_n (Md_mt u), Mt_pe (Md_mt u), zU (zU (Mt_sl (Md_mt u)) (Sw_me (Md_sw u) p1) (Mt_sl (Md_mt u) (Sw_ot (Md_sw u) p1))) (Sw_ot (Md_sw u) p1) (Mt_sl (Md_mt u) (Sw_me (Md_sw u) p1)), Mt_ln (Md_mt u), Mt_ma (Md_mt u), Mt_st (Md_mt u), Mt_mv (Md_mt u)), (Sw_n (Md_sw u), Sw_me (Md_sw u), Sw_mm (Md_sw u), Sw_ot (Md_sw u), Sw_om (Md_sw u), zU (Sw_ag (Md_sw u)) p1 (zor (Sw_ag (Md_sw u) p1) (((2 ^ (Int.toNat p0) : Nat) : Int))), zU (Sw_st (Md_sw u)) p1 1), Md_bu u))) F 16 rfl (by omega) (by decide) rfl dX9_agree_213 ?_
                          refine gz_aload_n (pc := 214) F dX9_agree_214 rfl 3 rfl ?_
                          refine gz_get (pc := 215) (v := .ref (a 15)) F hn_X9_agree_X9 0 9 rfl rfl 19 (by decide) fl_X9_agree_53 rfl dX9_agree_215 ?_
                          refine gz_iload (pc := 218) F dX9_agree_218 1 rfl ?_
                          refine gz_dup2 (pc := 220) F dX9_agree_220 rfl rfl ?_
                          refine gz_iald (pc := 221) (f := Mt_mv (Md_mt u)) F 15 rfl (by omega) (by decide) dX9_agree_221 ?_
                          refine gz_aload_n (pc := 222) F dX9_agree_222 rfl 3 rfl ?_
                          refine gz_get (pc := 223) (v := .ref (a 16)) F hn_X9_agree_X9 0 9 rfl rfl 21 (by decide) fl_X9_agree_56 rfl dX9_agree_223 ?_
                          refine gz_iload_n (pc := 226) F dX9_agree_226 rfl 5 rfl ?_
                          refine gz_iald (pc := 227) (f := zU (Sw_st (Md_sw u)) p1 1) F 16 rfl (by omega) (by decide) dX9_agree_227 ?_
                          refine gz_eqst (st2 := [vI 1, vI (Mt_mv (Md_mt u) (Sw_me (Md_sw u) p1)), vI (Sw_me (Md_sw u) p1), .ref (a 15)]) (by rw [zU_s]) ?_
                          refine gz_const (pc := 228) F dX9_agree_228 ?_
                          refine gz_icmp_ne (pc := 229) (tgt := 236) F dX9_agree_229 (by decide) (by omega) (by omega) (fun c229 => ?_) (fun c229 => ?_)
                          · exact absurd c229 (by decide)
                          · refine gz_const (pc := 232) F dX9_agree_232 ?_
                            refine gz_goto (pc := 233) (tgt := 237) F dX9_agree_233 (by decide) ?_
                            refine gz_iadd (pc := 237) F dX9_agree_237 ?_
                            refine gz_iast (pc := 238) (f := Mt_mv (Md_mt u)) (ws2 := MdW cI cZ a ((0, Md_now u, Md_aw u, Md_mm u, Md_lo u, (Mt_n (Md_mt u), Mt_pe (Md_mt u), zU (zU (Mt_sl (Md_mt u)) (Sw_me (Md_sw u) p1) (Mt_sl (Md_mt u) (Sw_ot (Md_sw u) p1))) (Sw_ot (Md_sw u) p1) (Mt_sl (Md_mt u) (Sw_me (Md_sw u) p1)), Mt_ln (Md_mt u), Mt_ma (Md_mt u), Mt_st (Md_mt u), zU (Mt_mv (Md_mt u)) (Sw_me (Md_sw u) p1) ((Mt_mv (Md_mt u) (Sw_me (Md_sw u) p1)) + 1)), (Sw_n (Md_sw u), Sw_me (Md_sw u), Sw_mm (Md_sw u), Sw_ot (Md_sw u), Sw_om (Md_sw u), zU (Sw_ag (Md_sw u)) p1 (zor (Sw_ag (Md_sw u) p1) (((2 ^ (Int.toNat p0) : Nat) : Int))), zU (Sw_st (Md_sw u)) p1 1), Md_bu u))) F 15 rfl (by omega) (by decide) rfl dX9_agree_238 ?_
                            refine gz_aload_n (pc := 239) F dX9_agree_239 rfl 3 rfl ?_
                            refine gz_get (pc := 240) (v := .ref (a 15)) F hn_X9_agree_X9 0 9 rfl rfl 19 (by decide) fl_X9_agree_53 rfl dX9_agree_240 ?_
                            refine gz_iload (pc := 243) F dX9_agree_243 0 rfl ?_
                            refine gz_dup2 (pc := 245) F dX9_agree_245 rfl rfl ?_
                            refine gz_iald (pc := 246) (f := zU (Mt_mv (Md_mt u)) (Sw_me (Md_sw u) p1) ((Mt_mv (Md_mt u) (Sw_me (Md_sw u) p1)) + 1)) F 15 rfl (by omega) (by decide) dX9_agree_246 ?_
                            refine gz_aload_n (pc := 247) F dX9_agree_247 rfl 3 rfl ?_
                            refine gz_get (pc := 248) (v := .ref (a 16)) F hn_X9_agree_X9 0 9 rfl rfl 21 (by decide) fl_X9_agree_56 rfl dX9_agree_248 ?_
                            refine gz_iload_n (pc := 251) F dX9_agree_251 rfl 5 rfl ?_
                            refine gz_iald (pc := 252) (f := zU (Sw_st (Md_sw u)) p1 1) F 16 rfl (by omega) (by decide) dX9_agree_252 ?_
                            refine gz_eqst (st2 := [vI 1, vI ((zU (Mt_mv (Md_mt u)) (Sw_me (Md_sw u) p1) ((Mt_mv (Md_mt u) (Sw_me (Md_sw u) p1)) + 1)) (Sw_ot (Md_sw u) p1)), vI (Sw_ot (Md_sw u) p1), .ref (a 15)]) (by rw [zU_s]) ?_
                            refine gz_const (pc := 253) F dX9_agree_253 ?_
                            refine gz_icmp_ne (pc := 254) (tgt := 261) F dX9_agree_254 (by decide) (by omega) (by omega) (fun c254 => ?_) (fun c254 => ?_)
                            · exact absurd c254 (by decide)
                            · refine gz_const (pc := 257) F dX9_agree_257 ?_
                              refine gz_goto (pc := 258) (tgt := 262) F dX9_agree_258 (by decide) ?_
                              refine gz_iadd (pc := 262) F dX9_agree_262 ?_
                              refine gz_iast (pc := 263) (f := zU (Mt_mv (Md_mt u)) (Sw_me (Md_sw u) p1) ((Mt_mv (Md_mt u) (Sw_me (Md_sw u) p1)) + 1)) (ws2 := MdW cI cZ a ((0, Md_now u, Md_aw u, Md_mm u, Md_lo u, (Mt_n (Md_mt u), Mt_pe (Md_mt u), zU (zU (Mt_sl (Md_mt u)) (Sw_me (Md_sw u) p1) (Mt_sl (Md_mt u) (Sw_ot (Md_sw u) p1))) (Sw_ot (Md_sw u) p1) (Mt_sl (Md_mt u) (Sw_me (Md_sw u) p1)), Mt_ln (Md_mt u), Mt_ma (Md_mt u), Mt_st (Md_mt u), zU (zU (Mt_mv (Md_mt u)) (Sw_me (Md_sw u) p1) ((Mt_mv (Md_mt u) (Sw_me (Md_sw u) p1)) + 1)) (Sw_ot (Md_sw u) p1) (((zU (Mt_mv (Md_mt u)) (Sw_me (Md_sw u) p1) ((Mt_mv (Md_mt u) (Sw_me (Md_sw u) p1)) + 1)) (Sw_ot (Md_sw u) p1)) + 1)), (Sw_n (Md_sw u), Sw_me (Md_sw u), Sw_mm (Md_sw u), Sw_ot (Md_sw u), Sw_om (Md_sw u), zU (Sw_ag (Md_sw u)) p1 (zor (Sw_ag (Md_sw u) p1) (((2 ^ (Int.toNat p0) : Nat) : Int))), zU (Sw_st (Md_sw u)) p1 1), Md_bu u))) F 15 rfl (by omega) (by decide) rfl dX9_agree_263 ?_
                              refine gz_aload_n (pc := 264) F dX9_agree_264 rfl 3 rfl ?_
                              refine gz_get (pc := 265) (v := .ref (a 16)) F hn_X9_agree_X9 0 9 rfl rfl 21 (by decide) fl_X9_agree_56 rfl dX9_agree_265 ?_
                              refine gz_iload_n (pc := 268) F dX9_agree_268 rfl 5 rfl ?_
                              refine gz_iald (pc := 269) (f := zU (Sw_st (Md_sw u)) p1 1) F 16 rfl (by omega) (by decide) dX9_agree_269 ?_
                              refine Z _ _ 270 _ dX9_agree_270 rfl ?_
                              exact ⟨0, Or.inr ⟨not_not_intro c56, Or.inr ⟨not_not_intro ⟨c69, by rw [← hw2]; exact zbit1 c78⟩, rfl⟩⟩, fun h => absurd rfl h, fun _ => ⟨(congrArg (fun q => some (vI (Sw_st (Md_sw q) p1))) (Md_agr_2 (u := u) (p := p0) (k := p1) ⟨c116, c125, c141, c157⟩ (c189.trans hw2) n202)).symm, (congrArg (MdW cI cZ a) (Md_agr_2 (u := u) (p := p0) (k := p1) ⟨c116, c125, c141, c157⟩ (c189.trans hw2) n202)).symm⟩⟩
                      · refine gz_callVb (pc := 202) (n := 2) (As := [vI (Sw_me (Md_sw u) p1), vI (Sw_ot (Md_sw u) p1)]) (rest := [vI p1, .ref (a 16)]) (bytes := cX9_canSwap) (maxL := 6) (ret := some .boolean) F (ct_X9_canSwap_n l D cI cJ cZ a ((0, Md_now u, Md_aw u, Md_mm u, Md_lo u, Md_mt u, (Sw_n (Md_sw u), Sw_me (Md_sw u), Sw_mm (Md_sw u), Sw_ot (Md_sw u), Sw_om (Md_sw u), zU (Sw_ag (Md_sw u)) p1 (zor (Sw_ag (Md_sw u) p1) (((2 ^ (Int.toNat p0) : Nat) : Int))), Sw_st (Md_sw u)), Md_bu u)) (Sw_me (Md_sw u) p1) (Sw_ot (Md_sw u) p1) (Md_ag_I hu hp0) (by omega) (by omega) n202) gX9_agree_X9_canSwap rfl ⟨rfl, rfl⟩ (by decide +kernel) ⟨Nat.le_of_ble_eq_true rfl, Nat.le_of_ble_eq_true rfl⟩ rfl [] [] ((List.append_nil _).symm) 9 rfl rfl rfl (Nat.le_of_ble_eq_true rfl) ⟨Nat.zero_le _, Nat.zero_le _⟩ (gz_pV_sh rfl) dX9_agree_202 ?_
                        refine gz_kVb (r := 0) (ws2 := MdW cI cZ a ((0, Md_now u, Md_aw u, Md_mm u, Md_lo u, Md_mt u, (Sw_n (Md_sw u), Sw_me (Md_sw u), Sw_mm (Md_sw u), Sw_ot (Md_sw u), Sw_om (Md_sw u), zU (Sw_ag (Md_sw u)) p1 (zor (Sw_ag (Md_sw u) p1) (((2 ^ (Int.toNat p0) : Nat) : Int))), Sw_st (Md_sw u)), Md_bu u))) ((List.append_nil _).symm).symm ?_
                        refine gz_if_eq (pc := 205) (tgt := 212) F dX9_agree_205 (by decide) (by omega) (fun c205 => ?_) (fun c205 => ?_)
                        · refine gz_const (pc := 212) F dX9_agree_212 ?_
                          refine gz_iast (pc := 213) (f := Sw_st (Md_sw u)) (ws2 := MdW cI cZ a ((0, Md_now u, Md_aw u, Md_mm u, Md_lo u, Md_mt u, (Sw_n (Md_sw u), Sw_me (Md_sw u), Sw_mm (Md_sw u), Sw_ot (Md_sw u), Sw_om (Md_sw u), zU (Sw_ag (Md_sw u)) p1 (zor (Sw_ag (Md_sw u) p1) (((2 ^ (Int.toNat p0) : Nat) : Int))), zU (Sw_st (Md_sw u)) p1 2), Md_bu u))) F 16 rfl (by omega) (by decide) rfl dX9_agree_213 ?_
                          refine gz_aload_n (pc := 214) F dX9_agree_214 rfl 3 rfl ?_
                          refine gz_get (pc := 215) (v := .ref (a 15)) F hn_X9_agree_X9 0 9 rfl rfl 19 (by decide) fl_X9_agree_53 rfl dX9_agree_215 ?_
                          refine gz_iload (pc := 218) F dX9_agree_218 1 rfl ?_
                          refine gz_dup2 (pc := 220) F dX9_agree_220 rfl rfl ?_
                          refine gz_iald (pc := 221) (f := Mt_mv (Md_mt u)) F 15 rfl (by omega) (by decide) dX9_agree_221 ?_
                          refine gz_aload_n (pc := 222) F dX9_agree_222 rfl 3 rfl ?_
                          refine gz_get (pc := 223) (v := .ref (a 16)) F hn_X9_agree_X9 0 9 rfl rfl 21 (by decide) fl_X9_agree_56 rfl dX9_agree_223 ?_
                          refine gz_iload_n (pc := 226) F dX9_agree_226 rfl 5 rfl ?_
                          refine gz_iald (pc := 227) (f := zU (Sw_st (Md_sw u)) p1 2) F 16 rfl (by omega) (by decide) dX9_agree_227 ?_
                          refine gz_eqst (st2 := [vI 2, vI (Mt_mv (Md_mt u) (Sw_me (Md_sw u) p1)), vI (Sw_me (Md_sw u) p1), .ref (a 15)]) (by rw [zU_s]) ?_
                          refine gz_const (pc := 228) F dX9_agree_228 ?_
                          refine gz_icmp_ne (pc := 229) (tgt := 236) F dX9_agree_229 (by decide) (by omega) (by omega) (fun c229 => ?_) (fun c229 => ?_)
                          · refine gz_const (pc := 236) F dX9_agree_236 ?_
                            refine gz_iadd (pc := 237) F dX9_agree_237 ?_
                            refine gz_iast (pc := 238) (f := Mt_mv (Md_mt u)) (ws2 := MdW cI cZ a ((0, Md_now u, Md_aw u, Md_mm u, Md_lo u, (Mt_n (Md_mt u), Mt_pe (Md_mt u), Mt_sl (Md_mt u), Mt_ln (Md_mt u), Mt_ma (Md_mt u), Mt_st (Md_mt u), zU (Mt_mv (Md_mt u)) (Sw_me (Md_sw u) p1) ((Mt_mv (Md_mt u) (Sw_me (Md_sw u) p1)) + 0)), (Sw_n (Md_sw u), Sw_me (Md_sw u), Sw_mm (Md_sw u), Sw_ot (Md_sw u), Sw_om (Md_sw u), zU (Sw_ag (Md_sw u)) p1 (zor (Sw_ag (Md_sw u) p1) (((2 ^ (Int.toNat p0) : Nat) : Int))), zU (Sw_st (Md_sw u)) p1 2), Md_bu u))) F 15 rfl (by omega) (by decide) rfl dX9_agree_238 ?_
                            refine gz_aload_n (pc := 239) F dX9_agree_239 rfl 3 rfl ?_
                            refine gz_get (pc := 240) (v := .ref (a 15)) F hn_X9_agree_X9 0 9 rfl rfl 19 (by decide) fl_X9_agree_53 rfl dX9_agree_240 ?_
                            refine gz_iload (pc := 243) F dX9_agree_243 0 rfl ?_
                            refine gz_dup2 (pc := 245) F dX9_agree_245 rfl rfl ?_
                            refine gz_iald (pc := 246) (f := zU (Mt_mv (Md_mt u)) (Sw_me (Md_sw u) p1) ((Mt_mv (Md_mt u) (Sw_me (Md_sw u) p1)) + 0)) F 15 rfl (by omega) (by decide) dX9_agree_246 ?_
                            refine gz_aload_n (pc := 247) F dX9_agree_247 rfl 3 rfl ?_
                            refine gz_get (pc := 248) (v := .ref (a 16)) F hn_X9_agree_X9 0 9 rfl rfl 21 (by decide) fl_X9_agree_56 rfl dX9_agree_248 ?_
                            refine gz_iload_n (pc := 251) F dX9_agree_251 rfl 5 rfl ?_
                            refine gz_iald (pc := 252) (f := zU (Sw_st (Md_sw u)) p1 2) F 16 rfl (by omega) (by decide) dX9_agree_252 ?_
                            refine gz_eqst (st2 := [vI 2, vI ((zU (Mt_mv (Md_mt u)) (Sw_me (Md_sw u) p1) ((Mt_mv (Md_mt u) (Sw_me (Md_sw u) p1)) + 0)) (Sw_ot (Md_sw u) p1)), vI (Sw_ot (Md_sw u) p1), .ref (a 15)]) (by rw [zU_s]) ?_
                            refine gz_const (pc := 253) F dX9_agree_253 ?_
                            refine gz_icmp_ne (pc := 254) (tgt := 261) F dX9_agree_254 (by decide) (by omega) (by omega) (fun c254 => ?_) (fun c254 => ?_)
                            · refine gz_const (pc := 261) F dX9_agree_261 ?_
                              refine gz_iadd (pc := 262) F dX9_agree_262 ?_
                              refine gz_iast (pc := 263) (f := zU (Mt_mv (Md_mt u)) (Sw_me (Md_sw u) p1) ((Mt_mv (Md_mt u) (Sw_me (Md_sw u) p1)) + 0)) (ws2 := MdW cI cZ a ((0, Md_now u, Md_aw u, Md_mm u, Md_lo u, (Mt_n (Md_mt u), Mt_pe (Md_mt u), Mt_sl (Md_mt u), Mt_ln (Md_mt u), Mt_ma (Md_mt u), Mt_st (Md_mt u), zU (zU (Mt_mv (Md_mt u)) (Sw_me (Md_sw u) p1) ((Mt_mv (Md_mt u) (Sw_me (Md_sw u) p1)) + 0)) (Sw_ot (Md_sw u) p1) (((zU (Mt_mv (Md_mt u)) (Sw_me (Md_sw u) p1) ((Mt_mv (Md_mt u) (Sw_me (Md_sw u) p1)) + 0)) (Sw_ot (Md_sw u) p1)) + 0)), (Sw_n (Md_sw u), Sw_me (Md_sw u), Sw_mm (Md_sw u), Sw_ot (Md_sw u), Sw_om (Md_sw u), zU (Sw_ag (Md_sw u)) p1 (zor (Sw_ag (Md_sw u) p1) (((2 ^ (Int.toNat p0) : Nat) : Int))), zU (Sw_st (Md_sw u)) p1 2), Md_bu u))) F 15 rfl (by omega) (by decide) rfl dX9_agree_263 ?_
                              refine gz_aload_n (pc := 264) F dX9_agree_264 rfl 3 rfl ?_
                              refine gz_get (pc := 265) (v := .ref (a 16)) F hn_X9_agree_X9 0 9 rfl rfl 21 (by decide) fl_X9_agree_56 rfl dX9_agree_265 ?_
                              refine gz_iload_n (pc := 268) F dX9_agree_268 rfl 5 rfl ?_
                              refine gz_iald (pc := 269) (f := zU (Sw_st (Md_sw u)) p1 2) F 16 rfl (by omega) (by decide) dX9_agree_269 ?_
                              refine Z _ _ 270 _ dX9_agree_270 rfl ?_
                              exact ⟨0, Or.inr ⟨not_not_intro c56, Or.inr ⟨not_not_intro ⟨c69, by rw [← hw2]; exact zbit1 c78⟩, rfl⟩⟩, fun h => absurd rfl h, fun _ => ⟨(congrArg (fun q => some (vI (Sw_st (Md_sw q) p1))) (Md_agr_3m (u := u) (p := p0) (k := p1) ⟨c116, c125, c141, c157⟩ (c189.trans hw2) n202)).symm, (congrArg (MdW cI cZ a) (Md_agr_3m (u := u) (p := p0) (k := p1) ⟨c116, c125, c141, c157⟩ (c189.trans hw2) n202)).symm⟩⟩
                            · exact absurd c254 (by decide)
                          · exact absurd c229 (by decide)
                        · exact absurd c205 (by decide)
                  · refine gz_aload_n (pc := 160) F dX9_agree_160 rfl 3 rfl ?_
                    refine gz_get (pc := 161) (v := .ref (a 16)) F hn_X9_agree_X9 0 9 rfl rfl 21 (by decide) fl_X9_agree_56 rfl dX9_agree_161 ?_
                    refine gz_iload_n (pc := 164) F dX9_agree_164 rfl 5 rfl ?_
                    refine gz_const (pc := 165) F dX9_agree_165 ?_
                    refine gz_iast (pc := 166) (f := Sw_st (Md_sw u)) (ws2 := MdW cI cZ a ((0, Md_now u, Md_aw u, Md_mm u, Md_lo u, Md_mt u, (Sw_n (Md_sw u), Sw_me (Md_sw u), Sw_mm (Md_sw u), Sw_ot (Md_sw u), Sw_om (Md_sw u), Sw_ag (Md_sw u), zU (Sw_st (Md_sw u)) p1 2), Md_bu u))) F 16 rfl (by omega) (by decide) rfl dX9_agree_166 ?_
                    refine gz_const (pc := 167) F dX9_agree_167 ?_
                    refine Z _ _ 168 _ dX9_agree_168 rfl ?_
                    exact ⟨0, Or.inr ⟨not_not_intro c56, Or.inr ⟨not_not_intro ⟨c69, by rw [← hw2]; exact zbit1 c78⟩, rfl⟩⟩, fun h => absurd rfl h, fun _ => ⟨(by rw [Md_agr_0 (u := u) (p := p0) (k := p1) (by first | exact (fun h => c157 h.2.2.2) | exact (fun h => c141 h.2.2.1) | exact (fun h => c125 h.2.1) | exact (fun h => c116 h.1))]; exact congrArg (fun x => some (vI x)) (zU_s _ _ _).symm), (congrArg (MdW cI cZ a) (Md_agr_0 (u := u) (p := p0) (k := p1) (by first | exact (fun h => c157 h.2.2.2) | exact (fun h => c141 h.2.2.1) | exact (fun h => c125 h.2.1) | exact (fun h => c116 h.1)))).symm⟩⟩
          · exact absurd c89 (by decide)
        · refine gz_const (pc := 81) F dX9_agree_81 ?_
          refine gz_goto (pc := 82) (tgt := 86) F dX9_agree_82 (by decide) ?_
          refine gz_callVb (pc := 86) (n := 1) (As := [vI 2]) (rest := []) (bytes := cX9_refused) (maxL := 2) (ret := some .boolean) F (ct_X9_refused_2 l D cI cJ cZ a u hu) gX9_agree_X9_refused rfl ⟨rfl, rfl⟩ (by decide +kernel) ⟨Nat.le_of_ble_eq_true rfl, Nat.le_of_ble_eq_true rfl⟩ rfl [] [] ((List.append_nil _).symm) 9 rfl rfl rfl (Nat.le_of_ble_eq_true rfl) ⟨Nat.zero_le _, Nat.zero_le _⟩ (gz_pV_sh rfl) dX9_agree_86 ?_
          refine gz_kVb (r := 1) (ws2 := MdW cI cZ a (2, Md_now u, Md_aw u, Md_mm u, Md_lo u, Md_mt u, Md_sw u, Md_bu u)) ((List.append_nil _).symm).symm ?_
          refine gz_if_eq (pc := 89) (tgt := 94) F dX9_agree_89 (by decide) (by omega) (fun c89 => ?_) (fun c89 => ?_)
          · exact absurd c89 (by decide)
          · refine gz_const (pc := 92) F dX9_agree_92 ?_
            refine Z _ _ 93 _ dX9_agree_93 rfl ?_
            exact ⟨2, Or.inr ⟨not_not_intro c56, Or.inl ⟨(by first | exact (fun h => zbit0 c78 (by rw [hw2]; exact h.2)) | exact (fun h => c69 h.1)), rfl⟩⟩, fun _ => ⟨rfl, rfl⟩, fun h => absurd h (by decide)⟩
    · refine gz_const (pc := 59) F dX9_agree_59 ?_
      refine gz_goto (pc := 60) (tgt := 86) F dX9_agree_60 (by decide) ?_
      refine gz_callVb (pc := 86) (n := 1) (As := [vI 1]) (rest := []) (bytes := cX9_refused) (maxL := 2) (ret := some .boolean) F (ct_X9_refused_1 l D cI cJ cZ a u hu) gX9_agree_X9_refused rfl ⟨rfl, rfl⟩ (by decide +kernel) ⟨Nat.le_of_ble_eq_true rfl, Nat.le_of_ble_eq_true rfl⟩ rfl [] [] ((List.append_nil _).symm) 9 rfl rfl rfl (Nat.le_of_ble_eq_true rfl) ⟨Nat.zero_le _, Nat.zero_le _⟩ (gz_pV_sh rfl) dX9_agree_86 ?_
      refine gz_kVb (r := 1) (ws2 := MdW cI cZ a (1, Md_now u, Md_aw u, Md_mm u, Md_lo u, Md_mt u, Md_sw u, Md_bu u)) ((List.append_nil _).symm).symm ?_
      refine gz_if_eq (pc := 89) (tgt := 94) F dX9_agree_89 (by decide) (by omega) (fun c89 => ?_) (fun c89 => ?_)
      · exact absurd c89 (by decide)
      · refine gz_const (pc := 92) F dX9_agree_92 ?_
        refine Z _ _ 93 _ dX9_agree_93 rfl ?_
        exact ⟨1, Or.inl ⟨c56, rfl⟩, fun _ => ⟨rfl, rfl⟩, fun h => absurd h (by decide)⟩
  have J20 : gG p l e ({ frames := 5, cells := 0, slots := 0, locals := 122 } : Room) s m args below meth c D A 7 Q 0 0 (MdW cI cZ a u) [(0, .ref (a 0)), (1, vI p0), (2, vI p1)] [vI (bz ((0 ≤ p0 ∧ p0 ≤ 9) ∧ (0 ≤ p1 ∧ p1 ≤ Sw_n (Md_sw u) - 1)))] 20 := by
    refine gz_istore_n (pc := 20) (lv2 := [(3, vI (bz ((0 ≤ p0 ∧ p0 ≤ 9) ∧ (0 ≤ p1 ∧ p1 ≤ Sw_n (Md_sw u) - 1)))), (0, .ref (a 0)), (1, vI p0), (2, vI p1)]) F dX9_agree_20 rfl (by decide) rfl ?_
    refine gz_iload_n (pc := 21) F dX9_agree_21 rfl 0 rfl ?_
    refine gz_if_eqb (pc := 22) (tgt := 51) F dX9_agree_22 (by decide) (fun c22 => ?_) (fun c22 => ?_)
    · refine gz_const (pc := 51) F dX9_agree_51 ?_
      refine gz_lv [1, 2, 3, 0] rfl ?_
      exact J52 0 (by exact fun a => absurd a c22) (by decide)
    · refine gz_aload_n (pc := 25) F dX9_agree_25 rfl 1 rfl ?_
      refine gz_get (pc := 26) (v := .ref (a 11)) F hn_X9_agree_X9 0 9 rfl rfl 15 (by decide) fl_X9_agree_41 rfl dX9_agree_26 ?_
      refine gz_aload_n (pc := 29) F dX9_agree_29 rfl 1 rfl ?_
      refine gz_get (pc := 30) (v := .ref (a 17)) F hn_X9_agree_X9 0 9 rfl rfl 22 (by decide) fl_X9_agree_59 rfl dX9_agree_30 ?_
      refine gz_iload_n (pc := 33) F dX9_agree_33 rfl 3 rfl ?_
      refine gz_iald (pc := 34) (f := Sw_me (Md_sw u)) F 17 rfl (by omega) (by decide) dX9_agree_34 ?_
      have b34 := (hSw.2 p1).1
      refine gz_iald (pc := 35) (f := Mt_pe (Md_mt u)) F 11 rfl (by omega) (by decide) dX9_agree_35 ?_
      have b35 := (hMt.2 (Sw_me (Md_sw u) p1)).1
      refine gz_aload_n (pc := 36) F dX9_agree_36 rfl 1 rfl ?_
      refine gz_get (pc := 37) (v := .ref (a 11)) F hn_X9_agree_X9 0 9 rfl rfl 15 (by decide) fl_X9_agree_41 rfl dX9_agree_37 ?_
      refine gz_aload_n (pc := 40) F dX9_agree_40 rfl 1 rfl ?_
      refine gz_get (pc := 41) (v := .ref (a 18)) F hn_X9_agree_X9 0 9 rfl rfl 23 (by decide) fl_X9_agree_62 rfl dX9_agree_41 ?_
      refine gz_iload_n (pc := 44) F dX9_agree_44 rfl 3 rfl ?_
      refine gz_iald (pc := 45) (f := Sw_ot (Md_sw u)) F 18 rfl (by omega) (by decide) dX9_agree_45 ?_
      have b45 := (hSw.2 p1).2.1
      refine gz_iald (pc := 46) (f := Mt_pe (Md_mt u)) F 11 rfl (by omega) (by decide) dX9_agree_46 ?_
      have b46 := (hMt.2 (Sw_ot (Md_sw u) p1)).1
      refine gz_ior (pc := 47) (v := zor (Mt_pe (Md_mt u) (Sw_me (Md_sw u) p1)) (Mt_pe (Md_mt u) (Sw_ot (Md_sw u) p1))) F dX9_agree_47 (zor_I (hMt.2 _).1.1 (hMt.2 _).1.1) ?_
      refine gz_goto (pc := 48) (tgt := 52) F dX9_agree_48 (by decide) ?_
      refine gz_lv [1, 2, 3, 0] rfl ?_
      exact J52 (zor (Mt_pe (Md_mt u) (Sw_me (Md_sw u) p1)) (Mt_pe (Md_mt u) (Sw_ot (Md_sw u) p1))) (by exact fun _ => rfl) (by exact zor_r (hMt.2 _).1 (hMt.2 _).1)
  refine gz_iload_n (pc := 0) F dX9_agree_0 rfl 1 rfl ?_
  refine gz_callS (pc := 1) (n := 1) (As := [vI p0]) (rest := []) (bytes := cX9_isPerson) (maxL := 1) (ret := some .boolean) F (ct_X9_isPerson l D cI cJ cZ p0 (by omega)) gX9_agree_X9_isPerson rfl ⟨rfl, rfl⟩ (by decide +kernel) ⟨Nat.le_of_ble_eq_true rfl, Nat.le_of_ble_eq_true rfl⟩ rfl [] rfl (by decide) rfl (Nat.le_of_ble_eq_true rfl) ⟨Nat.zero_le _, Nat.zero_le _⟩ gz_pI_sh dX9_agree_1 ?_
  refine gz_kI rfl (fun r1 h1 => ?_)
  subst h1
  refine gz_if_eqb (pc := 4) (tgt := 19) F dX9_agree_4 (by decide) (fun c4 => ?_) (fun c4 => ?_)
  · refine gz_const (pc := 19) F dX9_agree_19 ?_
    refine gz_eqst (st2 := [vI (bz ((0 ≤ p0 ∧ p0 ≤ 9) ∧ (0 ≤ p1 ∧ p1 ≤ Sw_n (Md_sw u) - 1)))]) (by first | exact congrArg (fun x => [vI x]) (bzF (fun h => c12 h.2)) | exact congrArg (fun x => [vI x]) (bzF (fun h => c4 h.1))) ?_
    exact J20  
  · refine gz_aload_n (pc := 7) F dX9_agree_7 rfl 0 rfl ?_
    refine gz_iload_n (pc := 8) F dX9_agree_8 rfl 2 rfl ?_
    refine gz_callVb (pc := 9) (n := 1) (As := [vI p1]) (rest := []) (bytes := cX9_isSwap) (maxL := 2) (ret := some .boolean) F (ct_X9_isSwap l D cI cJ cZ a u p1 hu (by omega)) gX9_agree_X9_isSwap rfl ⟨rfl, rfl⟩ (by decide +kernel) ⟨Nat.le_of_ble_eq_true rfl, Nat.le_of_ble_eq_true rfl⟩ rfl [] [] ((List.append_nil _).symm) 9 rfl rfl rfl (Nat.le_of_ble_eq_true rfl) ⟨Nat.zero_le _, Nat.zero_le _⟩ gz_pI_sh dX9_agree_9 ?_
    refine gz_kIb ((List.append_nil _).symm).symm (fun r9 h9 => ?_)
    subst h9
    refine gz_if_eqb (pc := 12) (tgt := 19) F dX9_agree_12 (by decide) (fun c12 => ?_) (fun c12 => ?_)
    · refine gz_const (pc := 19) F dX9_agree_19 ?_
      refine gz_eqst (st2 := [vI (bz ((0 ≤ p0 ∧ p0 ≤ 9) ∧ (0 ≤ p1 ∧ p1 ≤ Sw_n (Md_sw u) - 1)))]) (by first | exact congrArg (fun x => [vI x]) (bzF (fun h => c12 h.2)) | exact congrArg (fun x => [vI x]) (bzF (fun h => c4 h.1))) ?_
      exact J20  
    · refine gz_const (pc := 15) F dX9_agree_15 ?_
      refine gz_goto (pc := 16) (tgt := 20) F dX9_agree_16 (by decide) ?_
      refine gz_eqst (st2 := [vI (bz ((0 ≤ p0 ∧ p0 ≤ 9) ∧ (0 ≤ p1 ∧ p1 ≤ Sw_n (Md_sw u) - 1)))]) (by exact congrArg (fun x => [vI x]) (bzT (⟨c4, c12⟩))) ?_
      exact J20  
