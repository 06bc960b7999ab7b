/-! ===== laid by wip/whole/gen/md2.py ===== -/
abbrev md_leave (u : MdS) (p0 p1 p2 : Int) : List (Prop × Int) := [(¬ (0 ≤ p0 ∧ p0 ≤ 9), 1), (¬ ((Md_now u / 8 ≤ p1 ∧ p1 ≤ 49) ∧ (p1 ≤ p2 ∧ p2 ≤ 49)), 2), (Md_had u p0.toNat (p1 * 8) ((p2 + 1) * 8), 3)]
theorem hn_X9_leave_X9 : ∀ w ∈ u_ws RX9 TX9 35, w ∈ wsX9_leave := by decide +kernel
theorem fl_X9_leave_7 : Cond.fieldLink RX9 7 (TX9 2).1 (TX9 2).2.1 (TX9 2).2.2.1 ∈ wsX9_leave := by decide +kernel
theorem fl_X9_leave_144 : Cond.fieldLink RX9 144 (TX9 1).1 (TX9 1).2.1 (TX9 1).2.2.1 ∈ wsX9_leave := by decide +kernel
set_option maxHeartbeats 4000000 in
set_option maxRecDepth 100000 in
theorem ct_X9_leave (l : Launch) (D : va_G) (cI cJ cZ : ClassId) (a : Nat → Nat) (u : MdS) (p0 p1 p2 : Int) (hu : MdI u) (h0 : -2147483648 ≤ p0 ∧ p0 < 2147483648) (h1 : -2147483648 ≤ p1 ∧ p1 < 2147483648) (h2 : -2147483648 ≤ p2 ∧ p2 < 2147483648)  : gz_M l yX9_leave wsX9_leave { frames := 3, cells := 0, slots := 0, locals := 69 } D cI cJ cZ [.ref (a 0), vI p0, vI p1, vI p2] (MdW cI cZ a u) (gz_pK (md_leave u p0 p1 p2) none none (fun k => MdW cI cZ a (Md_setTh u k)) (MdW cI cZ a ((0, Md_now u, Aw_add (Md_aw u) p0 p1 (p2 + 1), Md_mm u, Md_lo u, Md_mt u, Md_sw u, Md_bu u)))) := by
  refine gz_ofV (cc := cX9_leave) (maxL := 8) (own := RX9) (by decide) rfl rfl (Nat.le_of_ble_eq_true rfl) (lv0 := [(0, .ref (a 0)), (1, vI p0), (2, vI p1), (3, vI p2)]) rfl ?_
  intro p e s m args below meth c A Q F Z
  obtain ⟨hnw, hAw, hMm, hLo, ⟨hMt, hMa⟩, hSw, hBu⟩ := id hu
  have hMmn := hMm.1
  have hLon := hLo.1
  have hMtn := hMt.1
  have hSwn := hSw.1
  have hBun := hBu.1
  have L137 : ∀ (N : Nat) (d9 : Int), (p2 + 1 - d9).toNat < N → (gz_kx (md_leave u p0 p1 p2) 0) → (0 ≤ p0 ∧ p0 ≤ 9) → ((Md_now u / 8 ≤ p1 ∧ p1 ≤ 49) ∧ (p1 ≤ p2 ∧ p2 ≤ 49)) → (p1 ≤ d9 ∧ d9 ≤ p2 + 1) → gG p l e ({ frames := 3, cells := 0, slots := 0, locals := 69 } : Room) s m args below meth c D A 8 Q 0 0 (MdW cI cZ a ((0, Md_now u, Aw_add (Md_aw u) p0 p1 d9, Md_mm u, Md_lo u, Md_mt u, Md_sw u, Md_bu u))) [(0, .ref (a 0)), (1, vI p0), (2, vI p1), (3, vI p2), (7, vI d9)] [] 137 := by
    intro N
    induction N with
    | zero => intro d9 hN; exact absurd hN (Nat.not_lt_zero _)
    | succ N ih137 =>
      intro d9 hN hk k0 k1 hd
      refine gz_iload (pc := 137) F dX9_leave_137 4 rfl ?_
      refine gz_iload_n (pc := 139) F dX9_leave_139 rfl 3 rfl ?_
      refine gz_icmp_gt (pc := 140) (tgt := 162) F dX9_leave_140 (by decide) (by omega) (by omega) (fun c140 => ?_) (fun c140 => ?_)
      · refine Z _ _ 162 dX9_leave_162 ?_
        exact ⟨0, hk, fun h => absurd rfl h, fun _ => ⟨rfl, (by rw [show d9 = p2 + 1 by omega])⟩⟩
      · refine gz_aload_n (pc := 143) F dX9_leave_143 rfl 0 rfl ?_
        refine gz_get (pc := 144) (v := .ref (a 1)) F hn_X9_leave_X9 0 9 rfl rfl 2 (by decide) fl_X9_leave_7 rfl dX9_leave_144 ?_
        refine gz_bipush (pc := 147) F dX9_leave_147 (by decide) ?_
        refine gz_iload_n (pc := 149) F dX9_leave_149 rfl 1 rfl ?_
        refine gz_imul (pc := 150) F dX9_leave_150 ?_
        refine gz_iload (pc := 151) F dX9_leave_151 4 rfl ?_
        refine gz_iadd (pc := 153) F dX9_leave_153 ?_
        refine gz_const (pc := 154) F dX9_leave_154 ?_
        refine gz_zast (pc := 155) (f := Aw_add (Md_aw u) p0 p1 d9) (ws2 := MdW cI cZ a ((0, Md_now u, zU (Aw_add (Md_aw u) p0 p1 d9) ((50 * p0) + d9) 1, Md_mm u, Md_lo u, Md_mt u, Md_sw u, Md_bu u))) F 1 rfl (by omega) (by decide) (by decide) rfl dX9_leave_155 ?_
        refine gz_iinc (pc := 156) (lv2 := [(7, vI (d9 + 1)), (0, .ref (a 0)), (1, vI p0), (2, vI p1), (3, vI p2)]) F dX9_leave_156 4 rfl (by decide) rfl ?_
        refine gz_goto (pc := 159) (tgt := 137) F dX9_leave_159 (by decide) ?_
        refine gz_eqw (ws2 := MdW cI cZ a ((0, Md_now u, Aw_add (Md_aw u) p0 p1 (d9 + 1), Md_mm u, Md_lo u, Md_mt u, Md_sw u, Md_bu u))) (by first | rw [Aw_add_0] | rw [Aw_add_s hd.1]) ?_
        refine gz_lv [1, 2, 3, 4, 0] rfl ?_
        exact ih137 (d9 + 1) (by omega) (by exact hk) (by first | exact c101 | exact k0) (by first | exact c110 | exact k1) (by omega)
  have J98 : ∀ (h : Int), (0 ≤ p0 ∧ p0 ≤ 9 → (Md_now u / 8 ≤ p1 ∧ p1 ≤ 49) ∧ (p1 ≤ p2 ∧ p2 ≤ 49) → h = bz (Md_had u p0.toNat (p1 * 8) ((p2 + 1) * 8))) → gG p l e ({ frames := 3, cells := 0, slots := 0, locals := 69 } : Room) s m args below meth c D A 8 Q 0 0 (MdW cI cZ a u) [(0, .ref (a 0)), (1, vI p0), (2, vI p1), (3, vI p2), (4, vI (bz (0 ≤ p0 ∧ p0 ≤ 9))), (5, vI (bz ((Md_now u / 8 ≤ p1 ∧ p1 ≤ 49) ∧ (p1 ≤ p2 ∧ p2 ≤ 49)))), (6, vI h)] [] 98 := by
    intro h hfin
    refine gz_aload_n (pc := 98) F dX9_leave_98 rfl 0 rfl ?_
    refine gz_iload (pc := 99) F dX9_leave_99 4 rfl ?_
    refine gz_if_neb (pc := 101) (tgt := 108) F dX9_leave_101 (by decide) (fun c101 => ?_) (fun c101 => ?_)
    · refine gz_iload (pc := 108) F dX9_leave_108 5 rfl ?_
      refine gz_if_neb (pc := 110) (tgt := 117) F dX9_leave_110 (by decide) (fun c110 => ?_) (fun c110 => ?_)
      · have hq := hfin c101 c110
        have hqr := bz_rb hq
        refine gz_iload (pc := 117) F dX9_leave_117 6 rfl ?_
        refine gz_if_eq (pc := 119) (tgt := 126) F dX9_leave_119 (by decide) (by omega) (fun c119 => ?_) (fun c119 => ?_)
        · refine gz_const (pc := 126) F dX9_leave_126 ?_
          refine gz_callVb (pc := 127) (n := 1) (As := [vI 0]) (rest := []) (bytes := cX9_refused) (maxL := 2) (ret := some .boolean) F (ct_X9_refused_0 l D cI cJ cZ a u hu) gX9_leave_X9_refused rfl ⟨rfl, rfl⟩ (by decide +kernel) ⟨Nat.le_of_ble_eq_true rfl, Nat.le_of_ble_eq_true rfl⟩ rfl [] [] ((List.append_nil _).symm) 9 rfl rfl rfl (Nat.le_of_ble_eq_true rfl) ⟨Nat.zero_le _, Nat.zero_le _⟩ (gz_pV_sh rfl) dX9_leave_127 ?_
          refine gz_kVb (r := 0) (ws2 := MdW cI cZ a (0, Md_now u, Md_aw u, Md_mm u, Md_lo u, Md_mt u, Md_sw u, Md_bu u)) ((List.append_nil _).symm).symm ?_
          refine gz_if_eq (pc := 130) (tgt := 134) F dX9_leave_130 (by decide) (by omega) (fun c130 => ?_) (fun c130 => ?_)
          · refine gz_iload_n (pc := 134) F dX9_leave_134 rfl 2 rfl ?_
            refine gz_istore (pc := 135) (lv2 := [(7, vI p1), (0, .ref (a 0)), (1, vI p0), (2, vI p1), (3, vI p2), (4, vI (bz (0 ≤ p0 ∧ p0 ≤ 9))), (5, vI (bz ((Md_now u / 8 ≤ p1 ∧ p1 ≤ 49) ∧ (p1 ≤ p2 ∧ p2 ≤ 49)))), (6, vI h)]) F dX9_leave_135 (by decide) rfl ?_
            refine gz_eqw (ws2 := MdW cI cZ a ((0, Md_now u, Aw_add (Md_aw u) p0 p1 p1, Md_mm u, Md_lo u, Md_mt u, Md_sw u, Md_bu u))) (by first | rw [Aw_add_0] | rw [Aw_add_s hd.1]) ?_
            refine gz_lv [1, 2, 3, 4, 0] rfl ?_
            exact L137 _ p1 (Nat.lt_succ_self _) (by exact Or.inr ⟨not_not_intro c101, Or.inr ⟨not_not_intro c110, Or.inr ⟨(bz_of0 hq c119), rfl⟩⟩⟩) (by first | exact c101 | exact k0) (by first | exact c110 | exact k1) (by omega)
          · exact absurd c130 (by decide)
        · refine gz_const (pc := 122) F dX9_leave_122 ?_
          refine gz_goto (pc := 123) (tgt := 127) F dX9_leave_123 (by decide) ?_
          refine gz_callVb (pc := 127) (n := 1) (As := [vI 3]) (rest := []) (bytes := cX9_refused) (maxL := 2) (ret := some .boolean) F (ct_X9_refused_3 l D cI cJ cZ a u hu) gX9_leave_X9_refused rfl ⟨rfl, rfl⟩ (by decide +kernel) ⟨Nat.le_of_ble_eq_true rfl, Nat.le_of_ble_eq_true rfl⟩ rfl [] [] ((List.append_nil _).symm) 9 rfl rfl rfl (Nat.le_of_ble_eq_true rfl) ⟨Nat.zero_le _, Nat.zero_le _⟩ (gz_pV_sh rfl) dX9_leave_127 ?_
          refine gz_kVb (r := 1) (ws2 := MdW cI cZ a (3, Md_now u, Md_aw u, Md_mm u, Md_lo u, Md_mt u, Md_sw u, Md_bu u)) ((List.append_nil _).symm).symm ?_
          refine gz_if_eq (pc := 130) (tgt := 134) F dX9_leave_130 (by decide) (by omega) (fun c130 => ?_) (fun c130 => ?_)
          · exact absurd c130 (by decide)
          · refine Z _ _ 133 dX9_leave_133 ?_
            exact ⟨3, Or.inr ⟨not_not_intro c101, Or.inr ⟨not_not_intro c110, Or.inl ⟨(bz_of1 hq c119), rfl⟩⟩⟩, fun _ => ⟨rfl, rfl⟩, fun h => absurd h (by decide)⟩
      · refine gz_const (pc := 113) F dX9_leave_113 ?_
        refine gz_goto (pc := 114) (tgt := 127) F dX9_leave_114 (by decide) ?_
        refine gz_callVb (pc := 127) (n := 1) (As := [vI 2]) (rest := []) (bytes := cX9_refused) (maxL := 2) (ret := some .boolean) F (ct_X9_refused_2 l D cI cJ cZ a u hu) gX9_leave_X9_refused rfl ⟨rfl, rfl⟩ (by decide +kernel) ⟨Nat.le_of_ble_eq_true rfl, Nat.le_of_ble_eq_true rfl⟩ rfl [] [] ((List.append_nil _).symm) 9 rfl rfl rfl (Nat.le_of_ble_eq_true rfl) ⟨Nat.zero_le _, Nat.zero_le _⟩ (gz_pV_sh rfl) dX9_leave_127 ?_
        refine gz_kVb (r := 1) (ws2 := MdW cI cZ a (2, Md_now u, Md_aw u, Md_mm u, Md_lo u, Md_mt u, Md_sw u, Md_bu u)) ((List.append_nil _).symm).symm ?_
        refine gz_if_eq (pc := 130) (tgt := 134) F dX9_leave_130 (by decide) (by omega) (fun c130 => ?_) (fun c130 => ?_)
        · exact absurd c130 (by decide)
        · refine Z _ _ 133 dX9_leave_133 ?_
          exact ⟨2, Or.inr ⟨not_not_intro c101, Or.inl ⟨c110, rfl⟩⟩, fun _ => ⟨rfl, rfl⟩, fun h => absurd h (by decide)⟩
    · refine gz_const (pc := 104) F dX9_leave_104 ?_
      refine gz_goto (pc := 105) (tgt := 127) F dX9_leave_105 (by decide) ?_
      refine gz_callVb (pc := 127) (n := 1) (As := [vI 1]) (rest := []) (bytes := cX9_refused) (maxL := 2) (ret := some .boolean) F (ct_X9_refused_1 l D cI cJ cZ a u hu) gX9_leave_X9_refused rfl ⟨rfl, rfl⟩ (by decide +kernel) ⟨Nat.le_of_ble_eq_true rfl, Nat.le_of_ble_eq_true rfl⟩ rfl [] [] ((List.append_nil _).symm) 9 rfl rfl rfl (Nat.le_of_ble_eq_true rfl) ⟨Nat.zero_le _, Nat.zero_le _⟩ (gz_pV_sh rfl) dX9_leave_127 ?_
      refine gz_kVb (r := 1) (ws2 := MdW cI cZ a (1, Md_now u, Md_aw u, Md_mm u, Md_lo u, Md_mt u, Md_sw u, Md_bu u)) ((List.append_nil _).symm).symm ?_
      refine gz_if_eq (pc := 130) (tgt := 134) F dX9_leave_130 (by decide) (by omega) (fun c130 => ?_) (fun c130 => ?_)
      · exact absurd c130 (by decide)
      · refine Z _ _ 133 dX9_leave_133 ?_
        exact ⟨1, Or.inl ⟨c101, rfl⟩, fun _ => ⟨rfl, rfl⟩, fun h => absurd h (by decide)⟩
  have L48 : ∀ (N : Nat) (s9 : Int) (h : Int), ((p2 + 1) * 8 - s9).toNat < N → (p1 * 8 ≤ s9 ∧ ((Md_now u / 8 ≤ p1 ∧ p1 ≤ 49) ∧ (p1 ≤ p2 ∧ p2 ≤ 49) → s9 ≤ (p2 + 1) * 8)) → (h = bz (Md_had u p0.toNat (p1 * 8) s9)) → gG p l e ({ frames := 3, cells := 0, slots := 0, locals := 69 } : Room) s m args below meth c D A 8 Q 0 0 (MdW cI cZ a u) [(0, .ref (a 0)), (1, vI p0), (2, vI p1), (3, vI p2), (4, vI (bz (0 ≤ p0 ∧ p0 ≤ 9))), (5, vI (bz ((Md_now u / 8 ≤ p1 ∧ p1 ≤ 49) ∧ (p1 ≤ p2 ∧ p2 ≤ 49)))), (6, vI h), (7, vI s9)] [] 48 := by
    intro N
    induction N with
    | zero => intro s9 h hN; exact absurd hN (Nat.not_lt_zero _)
    | succ N ih48 =>
      intro s9 h hN hs hh
      have hbr := bz_rb hh
      refine gz_iload (pc := 48) F dX9_leave_48 4 rfl ?_
      refine gz_if_eqb (pc := 50) (tgt := 98) F dX9_leave_50 (by decide) (fun c50 => ?_) (fun c50 => ?_)
      · refine gz_lv [0, 1, 2, 3, 4, 5, 6] rfl ?_
        exact J98 h (by first | exact fun a _ => absurd a c50 | exact fun _ b => absurd b c55 | exact fun _ b => by rw [hh, show s9 = (p2 + 1) * 8 by omega])
      · refine gz_iload (pc := 53) F dX9_leave_53 5 rfl ?_
        refine gz_if_eqb (pc := 55) (tgt := 98) F dX9_leave_55 (by decide) (fun c55 => ?_) (fun c55 => ?_)
        · refine gz_lv [0, 1, 2, 3, 4, 5, 6] rfl ?_
          exact J98 h (by first | exact fun a _ => absurd a c50 | exact fun _ b => absurd b c55 | exact fun _ b => by rw [hh, show s9 = (p2 + 1) * 8 by omega])
        · have hs2 := hs.2 c55
          refine gz_iload (pc := 58) F dX9_leave_58 7 rfl ?_
          refine gz_iload_n (pc := 60) F dX9_leave_60 rfl 3 rfl ?_
          refine gz_const (pc := 61) F dX9_leave_61 ?_
          refine gz_iadd (pc := 62) F dX9_leave_62 ?_
          refine gz_bipush (pc := 63) F dX9_leave_63 (by decide) ?_
          refine gz_imul (pc := 65) F dX9_leave_65 ?_
          refine gz_icmp_ge (pc := 66) (tgt := 98) F dX9_leave_66 (by decide) (by omega) (by omega) (fun c66 => ?_) (fun c66 => ?_)
          · refine gz_lv [0, 1, 2, 3, 4, 5, 6] rfl ?_
            exact J98 h (by first | exact fun a _ => absurd a c50 | exact fun _ b => absurd b c55 | exact fun _ b => by rw [hh, show s9 = (p2 + 1) * 8 by omega])
          · refine gz_iload (pc := 69) F dX9_leave_69 6 rfl ?_
            refine gz_if_ne (pc := 71) (tgt := 85) F dX9_leave_71 (by decide) (by omega) (fun c71 => ?_) (fun c71 => ?_)
            · refine gz_const (pc := 85) F dX9_leave_85 ?_
              refine gz_goto (pc := 86) (tgt := 90) F dX9_leave_86 (by decide) ?_
              refine gz_istore (pc := 90) (lv2 := [(6, vI 1), (0, .ref (a 0)), (1, vI p0), (2, vI p1), (3, vI p2), (4, vI (bz (0 ≤ p0 ∧ p0 ≤ 9))), (5, vI (bz ((Md_now u / 8 ≤ p1 ∧ p1 ≤ 49) ∧ (p1 ≤ p2 ∧ p2 ≤ 49)))), (7, vI s9)]) F dX9_leave_90 (by decide) rfl ?_
              refine gz_iinc (pc := 92) (lv2 := [(7, vI (s9 + 1)), (6, vI 1), (0, .ref (a 0)), (1, vI p0), (2, vI p1), (3, vI p2), (4, vI (bz (0 ≤ p0 ∧ p0 ≤ 9))), (5, vI (bz ((Md_now u / 8 ≤ p1 ∧ p1 ≤ 49) ∧ (p1 ≤ p2 ∧ p2 ≤ 49))))]) F dX9_leave_92 7 rfl (by decide) rfl ?_
              refine gz_goto (pc := 95) (tgt := 48) F dX9_leave_95 (by decide) ?_
              refine gz_lv [2, 3, 4, 5, 6, 7, 1, 0] rfl ?_
              exact ih48 (s9 + 1) 1 (by omega) (by exact ⟨by omega, fun h => by omega⟩) (by first | exact bzT (Md_had_up (bz_of1 hh c71)) | exact bzT (Md_had_at hs.1 c82))
            · refine gz_aload_n (pc := 74) F dX9_leave_74 rfl 0 rfl ?_
              refine gz_iload_n (pc := 75) F dX9_leave_75 rfl 1 rfl ?_
              refine gz_iload (pc := 76) F dX9_leave_76 7 rfl ?_
              refine gz_const (pc := 78) F dX9_leave_78 ?_
              refine gz_callVb (pc := 79) (n := 3) (As := [vI p0, vI s9, vI (-1)]) (rest := []) (bytes := cX9_hasMeeting) (maxL := 6) (ret := some .boolean) F (ct_X9_hasMeeting l D cI cJ cZ a u p0 s9 (-1) hu (by omega) (by omega) (by omega)) gX9_leave_X9_hasMeeting rfl ⟨rfl, rfl⟩ (by decide +kernel) ⟨Nat.le_of_ble_eq_true rfl, Nat.le_of_ble_eq_true rfl⟩ rfl [] [] ((List.append_nil _).symm) 9 rfl rfl rfl (Nat.le_of_ble_eq_true rfl) ⟨Nat.zero_le _, Nat.zero_le _⟩ gz_pI_sh dX9_leave_79 ?_
              refine gz_kIb ((List.append_nil _).symm).symm (fun r79 h79 => ?_)
              subst h79
              refine gz_if_eqb (pc := 82) (tgt := 89) F dX9_leave_82 (by decide) (fun c82 => ?_) (fun c82 => ?_)
              · refine gz_const (pc := 89) F dX9_leave_89 ?_
                refine gz_istore (pc := 90) (lv2 := [(6, vI 0), (0, .ref (a 0)), (1, vI p0), (2, vI p1), (3, vI p2), (4, vI (bz (0 ≤ p0 ∧ p0 ≤ 9))), (5, vI (bz ((Md_now u / 8 ≤ p1 ∧ p1 ≤ 49) ∧ (p1 ≤ p2 ∧ p2 ≤ 49)))), (7, vI s9)]) F dX9_leave_90 (by decide) rfl ?_
                refine gz_iinc (pc := 92) (lv2 := [(7, vI (s9 + 1)), (6, vI 0), (0, .ref (a 0)), (1, vI p0), (2, vI p1), (3, vI p2), (4, vI (bz (0 ≤ p0 ∧ p0 ≤ 9))), (5, vI (bz ((Md_now u / 8 ≤ p1 ∧ p1 ≤ 49) ∧ (p1 ≤ p2 ∧ p2 ≤ 49))))]) F dX9_leave_92 7 rfl (by decide) rfl ?_
                refine gz_goto (pc := 95) (tgt := 48) F dX9_leave_95 (by decide) ?_
                refine gz_lv [2, 3, 4, 5, 6, 7, 1, 0] rfl ?_
                exact ih48 (s9 + 1) 0 (by omega) (by exact ⟨by omega, fun h => by omega⟩) (by exact bzF (Md_had_nx (bz_of0 hh c71) c82))
              · refine gz_const (pc := 85) F dX9_leave_85 ?_
                refine gz_goto (pc := 86) (tgt := 90) F dX9_leave_86 (by decide) ?_
                refine gz_istore (pc := 90) (lv2 := [(6, vI 1), (0, .ref (a 0)), (1, vI p0), (2, vI p1), (3, vI p2), (4, vI (bz (0 ≤ p0 ∧ p0 ≤ 9))), (5, vI (bz ((Md_now u / 8 ≤ p1 ∧ p1 ≤ 49) ∧ (p1 ≤ p2 ∧ p2 ≤ 49)))), (7, vI s9)]) F dX9_leave_90 (by decide) rfl ?_
                refine gz_iinc (pc := 92) (lv2 := [(7, vI (s9 + 1)), (6, vI 1), (0, .ref (a 0)), (1, vI p0), (2, vI p1), (3, vI p2), (4, vI (bz (0 ≤ p0 ∧ p0 ≤ 9))), (5, vI (bz ((Md_now u / 8 ≤ p1 ∧ p1 ≤ 49) ∧ (p1 ≤ p2 ∧ p2 ≤ 49))))]) F dX9_leave_92 7 rfl (by decide) rfl ?_
                refine gz_goto (pc := 95) (tgt := 48) F dX9_leave_95 (by decide) ?_
                refine gz_lv [2, 3, 4, 5, 6, 7, 1, 0] rfl ?_
                exact ih48 (s9 + 1) 1 (by omega) (by exact ⟨by omega, fun h => by omega⟩) (by first | exact bzT (Md_had_up (bz_of1 hh c71)) | exact bzT (Md_had_at hs.1 c82))
  have J37 : gG p l e ({ frames := 3, cells := 0, slots := 0, locals := 69 } : Room) s m args below meth c D A 8 Q 0 0 (MdW cI cZ a u) [(0, .ref (a 0)), (1, vI p0), (2, vI p1), (3, vI p2), (4, vI (bz (0 ≤ p0 ∧ p0 ≤ 9)))] [vI (bz ((Md_now u / 8 ≤ p1 ∧ p1 ≤ 49) ∧ (p1 ≤ p2 ∧ p2 ≤ 49)))] 37 := by
    refine gz_istore (pc := 37) (lv2 := [(5, vI (bz ((Md_now u / 8 ≤ p1 ∧ p1 ≤ 49) ∧ (p1 ≤ p2 ∧ p2 ≤ 49)))), (0, .ref (a 0)), (1, vI p0), (2, vI p1), (3, vI p2), (4, vI (bz (0 ≤ p0 ∧ p0 ≤ 9)))]) F dX9_leave_37 (by decide) rfl ?_
    refine gz_const (pc := 39) F dX9_leave_39 ?_
    refine gz_istore (pc := 40) (lv2 := [(6, vI 0), (5, vI (bz ((Md_now u / 8 ≤ p1 ∧ p1 ≤ 49) ∧ (p1 ≤ p2 ∧ p2 ≤ 49)))), (0, .ref (a 0)), (1, vI p0), (2, vI p1), (3, vI p2), (4, vI (bz (0 ≤ p0 ∧ p0 ≤ 9)))]) F dX9_leave_40 (by decide) rfl ?_
    refine gz_iload_n (pc := 42) F dX9_leave_42 rfl 4 rfl ?_
    refine gz_bipush (pc := 43) F dX9_leave_43 (by decide) ?_
    refine gz_imul (pc := 45) F dX9_leave_45 ?_
    refine gz_istore (pc := 46) (lv2 := [(7, vI (p1 * 8)), (6, vI 0), (5, vI (bz ((Md_now u / 8 ≤ p1 ∧ p1 ≤ 49) ∧ (p1 ≤ p2 ∧ p2 ≤ 49)))), (0, .ref (a 0)), (1, vI p0), (2, vI p1), (3, vI p2), (4, vI (bz (0 ≤ p0 ∧ p0 ≤ 9)))]) F dX9_leave_46 (by decide) rfl ?_
    refine gz_lv [3, 4, 5, 6, 7, 2, 1, 0] rfl ?_
    exact L48 _ (p1 * 8) 0 (Nat.lt_succ_self _) (by exact ⟨by omega, fun h => by omega⟩) (by exact bzF (Md_had_0 _ _ _))
  refine gz_iload_n (pc := 0) F dX9_leave_0 rfl 1 rfl ?_
  refine gz_callS (pc := 1) (n := 1) (As := [vI p0]) (rest := []) (bytes := cX9_isPerson) (maxL := 1) (ret := some .boolean) F (ct_X9_isPerson l D cI cJ cZ p0 (by omega)) gX9_leave_X9_isPerson rfl ⟨rfl, rfl⟩ (by decide +kernel) ⟨Nat.le_of_ble_eq_true rfl, Nat.le_of_ble_eq_true rfl⟩ rfl [] rfl (by decide) rfl (Nat.le_of_ble_eq_true rfl) ⟨Nat.zero_le _, Nat.zero_le _⟩ gz_pI_sh dX9_leave_1 ?_
  refine gz_kI rfl (fun r1 h1 => ?_)
  subst h1
  refine gz_istore (pc := 4) (lv2 := [(4, vI (bz (0 ≤ p0 ∧ p0 ≤ 9))), (0, .ref (a 0)), (1, vI p0), (2, vI p1), (3, vI p2)]) F dX9_leave_4 (by decide) rfl ?_
  refine gz_iload_n (pc := 6) F dX9_leave_6 rfl 3 rfl ?_
  refine gz_aload_n (pc := 7) F dX9_leave_7 rfl 1 rfl ?_
  refine gz_get (pc := 8) (v := vI (Md_now u)) F hn_X9_leave_X9 0 9 rfl rfl 1 (by decide) fl_X9_leave_144 rfl dX9_leave_8 ?_
  have b8 := hnw
  refine gz_bipush (pc := 11) F dX9_leave_11 (by decide) ?_
  refine gz_idiv (pc := 13) F dX9_leave_13 (by omega) (by omega) ?_
  refine gz_bipush (pc := 14) F dX9_leave_14 (by decide) ?_
  refine gz_callS (pc := 16) (n := 3) (As := [vI p1, vI ((Md_now u) / 8), vI 49]) (rest := []) (bytes := cX9_in) (maxL := 3) (ret := some .boolean) F (ct_X9_in l D cI cJ cZ p1 ((Md_now u) / 8) 49 (by omega) (by omega) (by omega)) gX9_leave_X9_in rfl ⟨rfl, rfl⟩ (by decide +kernel) ⟨Nat.le_of_ble_eq_true rfl, Nat.le_of_ble_eq_true rfl⟩ rfl [] rfl (by decide) rfl (Nat.le_of_ble_eq_true rfl) ⟨Nat.zero_le _, Nat.zero_le _⟩ gz_pI_sh dX9_leave_16 ?_
  refine gz_kI rfl (fun r16 h16 => ?_)
  subst h16
  refine gz_if_eqb (pc := 19) (tgt := 36) F dX9_leave_19 (by decide) (fun c19 => ?_) (fun c19 => ?_)
  · refine gz_const (pc := 36) F dX9_leave_36 ?_
    refine gz_eqst (st2 := [vI (bz ((Md_now u / 8 ≤ p1 ∧ p1 ≤ 49) ∧ (p1 ≤ p2 ∧ p2 ≤ 49)))]) (by first | exact congrArg (fun x => [vI x]) (bzF (fun h => c29 h.2)) | exact congrArg (fun x => [vI x]) (bzF (fun h => c19 h.1))) ?_
    refine gz_lv [1, 2, 3, 4, 0] rfl ?_
    exact J37  
  · refine gz_iload_n (pc := 22) F dX9_leave_22 rfl 4 rfl ?_
    refine gz_iload_n (pc := 23) F dX9_leave_23 rfl 3 rfl ?_
    refine gz_bipush (pc := 24) F dX9_leave_24 (by decide) ?_
    refine gz_callS (pc := 26) (n := 3) (As := [vI p2, vI p1, vI 49]) (rest := []) (bytes := cX9_in) (maxL := 3) (ret := some .boolean) F (ct_X9_in l D cI cJ cZ p2 p1 49 (by omega) (by omega) (by omega)) gX9_leave_X9_in rfl ⟨rfl, rfl⟩ (by decide +kernel) ⟨Nat.le_of_ble_eq_true rfl, Nat.le_of_ble_eq_true rfl⟩ rfl [] rfl (by decide) rfl (Nat.le_of_ble_eq_true rfl) ⟨Nat.zero_le _, Nat.zero_le _⟩ gz_pI_sh dX9_leave_26 ?_
    refine gz_kI rfl (fun r26 h26 => ?_)
    subst h26
    refine gz_if_eqb (pc := 29) (tgt := 36) F dX9_leave_29 (by decide) (fun c29 => ?_) (fun c29 => ?_)
    · refine gz_const (pc := 36) F dX9_leave_36 ?_
      refine gz_eqst (st2 := [vI (bz ((Md_now u / 8 ≤ p1 ∧ p1 ≤ 49) ∧ (p1 ≤ p2 ∧ p2 ≤ 49)))]) (by first | exact congrArg (fun x => [vI x]) (bzF (fun h => c29 h.2)) | exact congrArg (fun x => [vI x]) (bzF (fun h => c19 h.1))) ?_
      refine gz_lv [1, 2, 3, 4, 0] rfl ?_
      exact J37  
    · refine gz_const (pc := 32) F dX9_leave_32 ?_
      refine gz_goto (pc := 33) (tgt := 37) F dX9_leave_33 (by decide) ?_
      refine gz_eqst (st2 := [vI (bz ((Md_now u / 8 ≤ p1 ∧ p1 ≤ 49) ∧ (p1 ≤ p2 ∧ p2 ≤ 49)))]) (by exact congrArg (fun x => [vI x]) (bzT (⟨c19, c29⟩))) ?_
      refine gz_lv [1, 2, 3, 4, 0] rfl ?_
      exact J37  
