/-! ===== laid by wip/whole/gen/md2.py ===== -/
abbrev md_diary (u : MdS) (p0 p1 p2 : Int) : List (Prop × Int) := [(¬ ((0 ≤ p0 ∧ p0 ≤ Mm_n (Md_mm u) - 1) ∧ 0 ≤ p2), 1), (¬ (0 ≤ p1 ∧ p1 ≤ 49), 2)]
theorem iw_X9_diary_c187 : Cond.constant RX9 187 (zI 56615) ∈ wsX9_diary := by decide +kernel
theorem iw_X9_diary_c186 : Cond.constant RX9 186 (zI 55357) ∈ wsX9_diary := by decide +kernel
set_option maxHeartbeats 4000000 in
set_option maxRecDepth 100000 in
theorem ct_X9_diary (l : Launch) (D : va_G) (cI cJ cZ : ClassId) (a : Nat → Nat) (u : MdS) (p0 p1 p2 : Int) (hu : MdI u) (h0 : -2147483648 ≤ p0 ∧ p0 < 2147483648) (h1 : -2147483648 ≤ p1 ∧ p1 < 2147483648) (h2 : -2147483648 ≤ p2 ∧ p2 < 2147483648)  : gz_M l yX9_diary wsX9_diary { frames := 3, cells := 0, slots := 0, locals := 69 } D cI cJ cZ [.ref (a 0), vI p0, vI p1, vI p2] (MdW cI cZ a u) (gz_pK (md_diary u p0 p1 p2) (some (vI (Dy (Md_dy u p0 p1) p2 8 0))) (some (vI 0)) (fun k => MdW cI cZ a (Md_setTh u k)) (MdW cI cZ a (Md_setTh u 0))) := by
  refine gz_ofZ (cc := cX9_diary) (maxL := 8) (ty := .char) (own := RX9) (by decide) rfl rfl (Nat.le_of_ble_eq_true rfl) (lv0 := [(0, .ref (a 0)), (1, vI p0), (2, vI p1), (3, vI p2)]) rfl ?_
  intro p e s m args below meth c A Q F Z
  obtain ⟨hnw, hAw, hMm, hLo, ⟨hMt, hMa⟩, hSw, hBu⟩ := id hu
  have hMmn := hMm.1
  have hLon := hLo.1
  have hMtn := hMt.1
  have hSwn := hSw.1
  have hBun := hBu.1
  have L66 : ∀ (N : Nat) (x : Int) (rest : Int), (x - 8 * p1 + 1).toNat < N → (gz_kx (md_diary u p0 p1 p2) 0) → ((0 ≤ p0 ∧ p0 ≤ Mm_n (Md_mm u) - 1) ∧ 0 ≤ p2) → (0 ≤ p1 ∧ p1 ≤ 49) → (8 * p1 - 1 ≤ x ∧ x ≤ 8 * p1 + 7) → (0 ≤ rest ∧ rest ≤ p2) → (Dy (Md_dy u p0 p1) p2 8 0 = Dy (Md_dy u p0 p1) p2 (x - 8 * p1 + 1).toNat (p2 - rest)) → gG p l e ({ frames := 3, cells := 0, slots := 0, locals := 69 } : Room) s m args below meth c D A 8 Q 0 0 (MdW cI cZ a (0, Md_now u, Md_aw u, Md_mm u, Md_lo u, Md_mt u, Md_sw u, Md_bu u)) [(0, .ref (a 0)), (1, vI p0), (2, vI p1), (3, vI p2), (5, vI rest), (6, vI x)] [] 66 := by
    intro N
    induction N with
    | zero => intro x rest hN; exact absurd hN (Nat.not_lt_zero _)
    | succ N ih66 =>
      intro x rest hN hk k0 k1 hx hr hD
      have J111 : (8 * p1 ≤ x) → gG p l e ({ frames := 3, cells := 0, slots := 0, locals := 69 } : Room) s m args below meth c D A 8 Q 0 0 (MdW cI cZ a (0, Md_now u, Md_aw u, Md_mm u, Md_lo u, Md_mt u, Md_sw u, Md_bu u)) [(0, .ref (a 0)), (1, vI p0), (2, vI p1), (3, vI p2), (5, vI rest), (6, vI x)] [vI (bz (Md_pln u p0 x))] 111 := by
        intro  c72
        refine gz_istore (pc := 111) (lv2 := [(7, vI (bz (Md_pln u p0 x))), (0, .ref (a 0)), (1, vI p0), (2, vI p1), (3, vI p2), (5, vI rest), (6, vI x)]) F dX9_diary_111 (by decide) rfl ?_
        refine gz_iload (pc := 113) F dX9_diary_113 5 rfl ?_
        refine gz_if_ne (pc := 115) (tgt := 167) F dX9_diary_115 (by decide) (by omega) (fun c115 => ?_) (fun c115 => ?_)
        · refine gz_iload (pc := 167) F dX9_diary_167 5 rfl ?_
          refine gz_const (pc := 169) F dX9_diary_169 ?_
          refine gz_icmp_ne (pc := 170) (tgt := 181) F dX9_diary_170 (by decide) (by omega) (by omega) (fun c170 => ?_) (fun c170 => ?_)
          · refine gz_iload (pc := 181) F dX9_diary_181 5 rfl ?_
            refine gz_iload (pc := 183) F dX9_diary_183 0 rfl ?_
            refine gz_if_eqb (pc := 185) (tgt := 192) F dX9_diary_185 (by decide) (fun c185 => ?_) (fun c185 => ?_)
            · refine gz_const (pc := 192) F dX9_diary_192 ?_
              refine gz_isub (pc := 193) F dX9_diary_193 ?_
              refine gz_istore (pc := 194) (lv2 := [(5, vI (rest - 2)), (7, vI (bz (Md_pln u p0 x))), (0, .ref (a 0)), (1, vI p0), (2, vI p1), (3, vI p2), (6, vI x)]) F dX9_diary_194 (by decide) rfl ?_
              refine gz_iinc (pc := 196) (lv2 := [(6, vI (x + (-1))), (5, vI (rest - 2)), (7, vI (bz (Md_pln u p0 x))), (0, .ref (a 0)), (1, vI p0), (2, vI p1), (3, vI p2)]) F dX9_diary_196 6 rfl (by decide) rfl ?_
              refine gz_goto (pc := 199) (tgt := 66) F dX9_diary_199 (by decide) ?_
              refine gz_lv [3, 4, 5, 6, 1, 0] rfl ?_
              exact ih66 (x + (-1)) (rest - 2) (by omega) (by exact hk) (by first | exact c22 | exact k0) (by first | exact c36 | exact k1) (by omega) (by omega) (by rw [hD, Dy_m _ _ c72, if_neg c115, if_pos ((Md_dy_at u p0 p1 x).trans (Md_sgn_b (u := u) c185)), if_neg (by first | assumption | omega)])
            · refine gz_const (pc := 188) F dX9_diary_188 ?_
              refine gz_goto (pc := 189) (tgt := 193) F dX9_diary_189 (by decide) ?_
              refine gz_isub (pc := 193) F dX9_diary_193 ?_
              refine gz_istore (pc := 194) (lv2 := [(5, vI (rest - 1)), (7, vI (bz (Md_pln u p0 x))), (0, .ref (a 0)), (1, vI p0), (2, vI p1), (3, vI p2), (6, vI x)]) F dX9_diary_194 (by decide) rfl ?_
              refine gz_iinc (pc := 196) (lv2 := [(6, vI (x + (-1))), (5, vI (rest - 1)), (7, vI (bz (Md_pln u p0 x))), (0, .ref (a 0)), (1, vI p0), (2, vI p1), (3, vI p2)]) F dX9_diary_196 6 rfl (by decide) rfl ?_
              refine gz_goto (pc := 199) (tgt := 66) F dX9_diary_199 (by decide) ?_
              refine gz_lv [3, 4, 5, 6, 1, 0] rfl ?_
              exact ih66 (x + (-1)) (rest - 1) (by omega) (by exact hk) (by first | exact c22 | exact k0) (by first | exact c36 | exact k1) (by omega) (by omega) (by rw [hD, Dy_m _ _ c72, if_neg c115, if_neg (by rw [Md_dy_at]; exact Md_sgn_p (u := u) c185)])
          · refine gz_iload (pc := 173) F dX9_diary_173 0 rfl ?_
            refine gz_if_neb (pc := 175) (tgt := 181) F dX9_diary_175 (by decide) (fun c175 => ?_) (fun c175 => ?_)
            · refine gz_iload (pc := 181) F dX9_diary_181 5 rfl ?_
              refine gz_iload (pc := 183) F dX9_diary_183 0 rfl ?_
              refine gz_if_eqb (pc := 185) (tgt := 192) F dX9_diary_185 (by decide) (fun c185 => ?_) (fun c185 => ?_)
              · exact absurd c175 c185
              · refine gz_const (pc := 188) F dX9_diary_188 ?_
                refine gz_goto (pc := 189) (tgt := 193) F dX9_diary_189 (by decide) ?_
                refine gz_isub (pc := 193) F dX9_diary_193 ?_
                refine gz_istore (pc := 194) (lv2 := [(5, vI (rest - 1)), (7, vI (bz (Md_pln u p0 x))), (0, .ref (a 0)), (1, vI p0), (2, vI p1), (3, vI p2), (6, vI x)]) F dX9_diary_194 (by decide) rfl ?_
                refine gz_iinc (pc := 196) (lv2 := [(6, vI (x + (-1))), (5, vI (rest - 1)), (7, vI (bz (Md_pln u p0 x))), (0, .ref (a 0)), (1, vI p0), (2, vI p1), (3, vI p2)]) F dX9_diary_196 6 rfl (by decide) rfl ?_
                refine gz_goto (pc := 199) (tgt := 66) F dX9_diary_199 (by decide) ?_
                refine gz_lv [3, 4, 5, 6, 1, 0] rfl ?_
                exact ih66 (x + (-1)) (rest - 1) (by omega) (by exact hk) (by first | exact c22 | exact k0) (by first | exact c36 | exact k1) (by omega) (by omega) (by rw [hD, Dy_m _ _ c72, if_neg c115, if_neg (by rw [Md_dy_at]; exact Md_sgn_p (u := u) c185)])
            · refine gz_ldc (pc := 178) (v := 56615) F iw_X9_diary_c187 dX9_diary_178 ?_
              refine Z _ _ 180 _ dX9_diary_180 rfl ?_
              exact ⟨0, hk, fun h => absurd rfl h, fun _ => ⟨(by rw [hD, Dy_m _ _ c72, if_neg c115, if_pos ((Md_dy_at u p0 p1 x).trans (Md_sgn_b (u := u) c175)), if_pos c170]), rfl⟩⟩
        · refine gz_aload_n (pc := 118) F dX9_diary_118 rfl 1 rfl ?_
          refine gz_iload_n (pc := 119) F dX9_diary_119 rfl 2 rfl ?_
          refine gz_iload (pc := 120) F dX9_diary_120 6 rfl ?_
          refine gz_const (pc := 122) F dX9_diary_122 ?_
          refine gz_callVb (pc := 123) (n := 3) (As := [vI p0, vI x, vI (-1)]) (rest := []) (bytes := cX9_isPromised) (maxL := 6) (ret := some .boolean) F (ct_X9_isPromised l D cI cJ cZ a (0, Md_now u, Md_aw u, Md_mm u, Md_lo u, Md_mt u, Md_sw u, Md_bu u) p0 x (-1) hu (by omega) (by omega) (by omega)) gX9_diary_X9_isPromised rfl ⟨rfl, rfl⟩ (by decide +kernel) ⟨Nat.le_of_ble_eq_true rfl, Nat.le_of_ble_eq_true rfl⟩ rfl [] [] ((List.append_nil _).symm) 9 rfl rfl rfl (Nat.le_of_ble_eq_true rfl) ⟨Nat.zero_le _, Nat.zero_le _⟩ gz_pI_sh dX9_diary_123 ?_
          refine gz_kIb ((List.append_nil _).symm).symm (fun r123 h123 => ?_)
          subst h123
          refine gz_if_eqb (pc := 126) (tgt := 134) F dX9_diary_126 (by decide) (fun c126 => ?_) (fun c126 => ?_)
          · refine gz_aload_n (pc := 134) F dX9_diary_134 rfl 1 rfl ?_
            refine gz_iload_n (pc := 135) F dX9_diary_135 rfl 2 rfl ?_
            refine gz_iload (pc := 136) F dX9_diary_136 6 rfl ?_
            refine gz_callVb (pc := 138) (n := 2) (As := [vI p0, vI x]) (rest := []) (bytes := cX9_isBuilding) (maxL := 5) (ret := some .boolean) F (ct_X9_isBuilding l D cI cJ cZ a (0, Md_now u, Md_aw u, Md_mm u, Md_lo u, Md_mt u, Md_sw u, Md_bu u) p0 x hu (by omega) (by omega)) gX9_diary_X9_isBuilding rfl ⟨rfl, rfl⟩ (by decide +kernel) ⟨Nat.le_of_ble_eq_true rfl, Nat.le_of_ble_eq_true rfl⟩ rfl [] [] ((List.append_nil _).symm) 9 rfl rfl rfl (Nat.le_of_ble_eq_true rfl) ⟨Nat.zero_le _, Nat.zero_le _⟩ gz_pI_sh dX9_diary_138 ?_
            refine gz_kIb ((List.append_nil _).symm).symm (fun r138 h138 => ?_)
            subst h138
            refine gz_if_eqb (pc := 141) (tgt := 149) F dX9_diary_141 (by decide) (fun c141 => ?_) (fun c141 => ?_)
            · refine gz_aload_n (pc := 149) F dX9_diary_149 rfl 1 rfl ?_
              refine gz_iload_n (pc := 150) F dX9_diary_150 rfl 2 rfl ?_
              refine gz_iload (pc := 151) F dX9_diary_151 6 rfl ?_
              refine gz_callVb (pc := 153) (n := 2) (As := [vI p0, vI x]) (rest := []) (bytes := cX9_isBroken) (maxL := 3) (ret := some .boolean) F (ct_X9_isBroken l D cI cJ cZ a (0, Md_now u, Md_aw u, Md_mm u, Md_lo u, Md_mt u, Md_sw u, Md_bu u) p0 x hu (by omega) (by omega)) gX9_diary_X9_isBroken rfl ⟨rfl, rfl⟩ (by decide +kernel) ⟨Nat.le_of_ble_eq_true rfl, Nat.le_of_ble_eq_true rfl⟩ rfl [] [] ((List.append_nil _).symm) 9 rfl rfl rfl (Nat.le_of_ble_eq_true rfl) ⟨Nat.zero_le _, Nat.zero_le _⟩ gz_pI_sh dX9_diary_153 ?_
              refine gz_kIb ((List.append_nil _).symm).symm (fun r153 h153 => ?_)
              subst h153
              refine gz_if_eqb (pc := 156) (tgt := 164) F dX9_diary_156 (by decide) (fun c156 => ?_) (fun c156 => ?_)
              · refine gz_bipush (pc := 164) F dX9_diary_164 (by decide) ?_
                refine Z _ _ 166 _ dX9_diary_166 rfl ?_
                exact ⟨0, hk, fun h => absurd rfl h, fun _ => ⟨(by rw [hD, Dy_m _ _ c72, if_pos c115, Md_dy_at, Md_sgn_4 (u := u) c126 c141 c156]), rfl⟩⟩
              · refine gz_ldc (pc := 159) (v := 55357) F iw_X9_diary_c186 dX9_diary_159 ?_
                refine gz_goto (pc := 161) (tgt := 166) F dX9_diary_161 (by decide) ?_
                refine Z _ _ 166 _ dX9_diary_166 rfl ?_
                exact ⟨0, hk, fun h => absurd rfl h, fun _ => ⟨(by rw [hD, Dy_m _ _ c72, if_pos c115, Md_dy_at, Md_sgn_3 (u := u) c126 c141 c156]), rfl⟩⟩
            · refine gz_bipush (pc := 144) F dX9_diary_144 (by decide) ?_
              refine gz_goto (pc := 146) (tgt := 166) F dX9_diary_146 (by decide) ?_
              refine Z _ _ 166 _ dX9_diary_166 rfl ?_
              exact ⟨0, hk, fun h => absurd rfl h, fun _ => ⟨(by rw [hD, Dy_m _ _ c72, if_pos c115, Md_dy_at, Md_sgn_2 (u := u) c126 c141]), rfl⟩⟩
          · refine gz_bipush (pc := 129) F dX9_diary_129 (by decide) ?_
            refine gz_goto (pc := 131) (tgt := 166) F dX9_diary_131 (by decide) ?_
            refine Z _ _ 166 _ dX9_diary_166 rfl ?_
            exact ⟨0, hk, fun h => absurd rfl h, fun _ => ⟨(by rw [hD, Dy_m _ _ c72, if_pos c115, Md_dy_at, Md_sgn_1 (u := u) c126]), rfl⟩⟩
      refine gz_iload (pc := 66) F dX9_diary_66 5 rfl ?_
      refine gz_bipush (pc := 68) F dX9_diary_68 (by decide) ?_
      refine gz_iload_n (pc := 70) F dX9_diary_70 rfl 2 rfl ?_
      refine gz_imul (pc := 71) F dX9_diary_71 ?_
      refine gz_icmp_lt (pc := 72) (tgt := 202) F dX9_diary_72 (by decide) (by omega) (by omega) (fun c72 => ?_) (fun c72 => ?_)
      · refine gz_const (pc := 202) F dX9_diary_202 ?_
        refine Z _ _ 203 _ dX9_diary_203 rfl ?_
        exact ⟨0, hk, fun h => absurd rfl h, fun _ => ⟨(by rw [hD, show (x - 8 * p1 + 1).toNat = 0 by omega]; rfl), rfl⟩⟩
      · refine gz_aload_n (pc := 75) F dX9_diary_75 rfl 0 rfl ?_
        refine gz_iload_n (pc := 76) F dX9_diary_76 rfl 1 rfl ?_
        refine gz_iload (pc := 77) F dX9_diary_77 5 rfl ?_
        refine gz_const (pc := 79) F dX9_diary_79 ?_
        refine gz_callVb (pc := 80) (n := 3) (As := [vI p0, vI x, vI (-1)]) (rest := []) (bytes := cX9_isPromised) (maxL := 6) (ret := some .boolean) F (ct_X9_isPromised l D cI cJ cZ a (0, Md_now u, Md_aw u, Md_mm u, Md_lo u, Md_mt u, Md_sw u, Md_bu u) p0 x (-1) hu (by omega) (by omega) (by omega)) gX9_diary_X9_isPromised rfl ⟨rfl, rfl⟩ (by decide +kernel) ⟨Nat.le_of_ble_eq_true rfl, Nat.le_of_ble_eq_true rfl⟩ rfl [] [] ((List.append_nil _).symm) 9 rfl rfl rfl (Nat.le_of_ble_eq_true rfl) ⟨Nat.zero_le _, Nat.zero_le _⟩ gz_pI_sh dX9_diary_80 ?_
        refine gz_kIb ((List.append_nil _).symm).symm (fun r80 h80 => ?_)
        subst h80
        refine gz_if_neb (pc := 83) (tgt := 106) F dX9_diary_83 (by decide) (fun c83 => ?_) (fun c83 => ?_)
        · refine gz_const (pc := 106) F dX9_diary_106 ?_
          refine gz_goto (pc := 107) (tgt := 111) F dX9_diary_107 (by decide) ?_
          refine gz_eqst (st2 := [vI (bz (Md_pln u p0 x))]) (by exact congrArg (fun x => [vI x]) (bzT (by first | exact Or.inl c83 | exact Or.inr (Or.inl c93) | exact Or.inr (Or.inr c103)))) ?_
          exact J111  (by exact c72)
        · refine gz_aload_n (pc := 86) F dX9_diary_86 rfl 0 rfl ?_
          refine gz_iload_n (pc := 87) F dX9_diary_87 rfl 1 rfl ?_
          refine gz_iload (pc := 88) F dX9_diary_88 5 rfl ?_
          refine gz_callVb (pc := 90) (n := 2) (As := [vI p0, vI x]) (rest := []) (bytes := cX9_isBuilding) (maxL := 5) (ret := some .boolean) F (ct_X9_isBuilding l D cI cJ cZ a (0, Md_now u, Md_aw u, Md_mm u, Md_lo u, Md_mt u, Md_sw u, Md_bu u) p0 x hu (by omega) (by omega)) gX9_diary_X9_isBuilding rfl ⟨rfl, rfl⟩ (by decide +kernel) ⟨Nat.le_of_ble_eq_true rfl, Nat.le_of_ble_eq_true rfl⟩ rfl [] [] ((List.append_nil _).symm) 9 rfl rfl rfl (Nat.le_of_ble_eq_true rfl) ⟨Nat.zero_le _, Nat.zero_le _⟩ gz_pI_sh dX9_diary_90 ?_
          refine gz_kIb ((List.append_nil _).symm).symm (fun r90 h90 => ?_)
          subst h90
          refine gz_if_neb (pc := 93) (tgt := 106) F dX9_diary_93 (by decide) (fun c93 => ?_) (fun c93 => ?_)
          · refine gz_const (pc := 106) F dX9_diary_106 ?_
            refine gz_goto (pc := 107) (tgt := 111) F dX9_diary_107 (by decide) ?_
            refine gz_eqst (st2 := [vI (bz (Md_pln u p0 x))]) (by exact congrArg (fun x => [vI x]) (bzT (by first | exact Or.inl c83 | exact Or.inr (Or.inl c93) | exact Or.inr (Or.inr c103)))) ?_
            exact J111  (by exact c72)
          · refine gz_aload_n (pc := 96) F dX9_diary_96 rfl 0 rfl ?_
            refine gz_iload_n (pc := 97) F dX9_diary_97 rfl 1 rfl ?_
            refine gz_iload (pc := 98) F dX9_diary_98 5 rfl ?_
            refine gz_callVb (pc := 100) (n := 2) (As := [vI p0, vI x]) (rest := []) (bytes := cX9_isBroken) (maxL := 3) (ret := some .boolean) F (ct_X9_isBroken l D cI cJ cZ a (0, Md_now u, Md_aw u, Md_mm u, Md_lo u, Md_mt u, Md_sw u, Md_bu u) p0 x hu (by omega) (by omega)) gX9_diary_X9_isBroken rfl ⟨rfl, rfl⟩ (by decide +kernel) ⟨Nat.le_of_ble_eq_true rfl, Nat.le_of_ble_eq_true rfl⟩ rfl [] [] ((List.append_nil _).symm) 9 rfl rfl rfl (Nat.le_of_ble_eq_true rfl) ⟨Nat.zero_le _, Nat.zero_le _⟩ gz_pI_sh dX9_diary_100 ?_
            refine gz_kIb ((List.append_nil _).symm).symm (fun r100 h100 => ?_)
            subst h100
            refine gz_if_neb (pc := 103) (tgt := 110) F dX9_diary_103 (by decide) (fun c103 => ?_) (fun c103 => ?_)
            · refine gz_const (pc := 110) F dX9_diary_110 ?_
              refine gz_eqst (st2 := [vI (bz (Md_pln u p0 x))]) (by first | exact congrArg (fun x => [vI x]) (bzF (fun h => h.elim c83 (fun q => q.elim c93 (fun z => z c103))))) ?_
              exact J111  (by exact c72)
            · refine gz_const (pc := 106) F dX9_diary_106 ?_
              refine gz_goto (pc := 107) (tgt := 111) F dX9_diary_107 (by decide) ?_
              refine gz_eqst (st2 := [vI (bz (Md_pln u p0 x))]) (by exact congrArg (fun x => [vI x]) (bzT (by first | exact Or.inl c83 | exact Or.inr (Or.inl c93) | exact Or.inr (Or.inr c103)))) ?_
              exact J111  (by exact c72)
  have J17 : gG p l e ({ frames := 3, cells := 0, slots := 0, locals := 69 } : Room) s m args below meth c D A 8 Q 0 0 (MdW cI cZ a u) [(0, .ref (a 0)), (1, vI p0), (2, vI p1), (3, vI p2)] [vI (bz ((0 ≤ p0 ∧ p0 ≤ Mm_n (Md_mm u) - 1) ∧ 0 ≤ p2))] 17 := by
    refine gz_istore (pc := 17) (lv2 := [(4, vI (bz ((0 ≤ p0 ∧ p0 ≤ Mm_n (Md_mm u) - 1) ∧ 0 ≤ p2))), (0, .ref (a 0)), (1, vI p0), (2, vI p1), (3, vI p2)]) F dX9_diary_17 (by decide) rfl ?_
    refine gz_aload_n (pc := 19) F dX9_diary_19 rfl 1 rfl ?_
    refine gz_iload (pc := 20) F dX9_diary_20 0 rfl ?_
    refine gz_if_neb (pc := 22) (tgt := 29) F dX9_diary_22 (by decide) (fun c22 => ?_) (fun c22 => ?_)
    · refine gz_iload_n (pc := 29) F dX9_diary_29 rfl 3 rfl ?_
      refine gz_const (pc := 30) F dX9_diary_30 ?_
      refine gz_bipush (pc := 31) F dX9_diary_31 (by decide) ?_
      refine gz_callS (pc := 33) (n := 3) (As := [vI p1, vI 0, vI 49]) (rest := [.ref (a 0)]) (bytes := cX9_in) (maxL := 3) (ret := some .boolean) F (ct_X9_in l D cI cJ cZ p1 0 49 (by omega) (by omega) (by omega)) gX9_diary_X9_in rfl ⟨rfl, rfl⟩ (by decide +kernel) ⟨Nat.le_of_ble_eq_true rfl, Nat.le_of_ble_eq_true rfl⟩ rfl [] rfl (by decide) rfl (Nat.le_of_ble_eq_true rfl) ⟨Nat.zero_le _, Nat.zero_le _⟩ gz_pI_sh dX9_diary_33 ?_
      refine gz_kI rfl (fun r33 h33 => ?_)
      subst h33
      refine gz_if_neb (pc := 36) (tgt := 43) F dX9_diary_36 (by decide) (fun c36 => ?_) (fun c36 => ?_)
      · refine gz_const (pc := 43) F dX9_diary_43 ?_
        refine gz_callVb (pc := 44) (n := 1) (As := [vI 0]) (rest := []) (bytes := cX9_refused) (maxL := 2) (ret := some .boolean) F (ct_X9_refused_0 l D cI cJ cZ a u hu) gX9_diary_X9_refused rfl ⟨rfl, rfl⟩ (by decide +kernel) ⟨Nat.le_of_ble_eq_true rfl, Nat.le_of_ble_eq_true rfl⟩ rfl [] [] ((List.append_nil _).symm) 9 rfl rfl rfl (Nat.le_of_ble_eq_true rfl) ⟨Nat.zero_le _, Nat.zero_le _⟩ (gz_pV_sh rfl) dX9_diary_44 ?_
        refine gz_kVb (r := 0) (ws2 := MdW cI cZ a (0, Md_now u, Md_aw u, Md_mm u, Md_lo u, Md_mt u, Md_sw u, Md_bu u)) ((List.append_nil _).symm).symm ?_
        refine gz_if_eq (pc := 47) (tgt := 52) F dX9_diary_47 (by decide) (by omega) (fun c47 => ?_) (fun c47 => ?_)
        · refine gz_iload_n (pc := 52) F dX9_diary_52 rfl 4 rfl ?_
          refine gz_istore (pc := 53) (lv2 := [(5, vI p2), (4, vI (bz ((0 ≤ p0 ∧ p0 ≤ Mm_n (Md_mm u) - 1) ∧ 0 ≤ p2))), (0, .ref (a 0)), (1, vI p0), (2, vI p1), (3, vI p2)]) F dX9_diary_53 (by decide) rfl ?_
          refine gz_bipush (pc := 55) F dX9_diary_55 (by decide) ?_
          refine gz_iload_n (pc := 57) F dX9_diary_57 rfl 4 rfl ?_
          refine gz_imul (pc := 58) F dX9_diary_58 ?_
          refine gz_bipush (pc := 59) F dX9_diary_59 (by decide) ?_
          refine gz_iadd (pc := 61) F dX9_diary_61 ?_
          refine gz_const (pc := 62) F dX9_diary_62 ?_
          refine gz_isub (pc := 63) F dX9_diary_63 ?_
          refine gz_istore (pc := 64) (lv2 := [(6, vI (((8 * p1) + 8) - 1)), (5, vI p2), (4, vI (bz ((0 ≤ p0 ∧ p0 ≤ Mm_n (Md_mm u) - 1) ∧ 0 ≤ p2))), (0, .ref (a 0)), (1, vI p0), (2, vI p1), (3, vI p2)]) F dX9_diary_64 (by decide) rfl ?_
          refine gz_lv [3, 4, 5, 6, 1, 0] rfl ?_
          exact L66 _ (((8 * p1) + 8) - 1) p2 (Nat.lt_succ_self _) (by exact Or.inr ⟨not_not_intro c22, Or.inr ⟨not_not_intro c36, rfl⟩⟩) (by first | exact c22 | exact k0) (by first | exact c36 | exact k1) (by omega) (by omega) (by rw [show p2 - p2 = 0 by omega, show (8 * p1 + 8 - 1 - 8 * p1 + 1).toNat = 8 by omega])
        · exact absurd c47 (by decide)
      · refine gz_const (pc := 39) F dX9_diary_39 ?_
        refine gz_goto (pc := 40) (tgt := 44) F dX9_diary_40 (by decide) ?_
        refine gz_callVb (pc := 44) (n := 1) (As := [vI 2]) (rest := []) (bytes := cX9_refused) (maxL := 2) (ret := some .boolean) F (ct_X9_refused_2 l D cI cJ cZ a u hu) gX9_diary_X9_refused rfl ⟨rfl, rfl⟩ (by decide +kernel) ⟨Nat.le_of_ble_eq_true rfl, Nat.le_of_ble_eq_true rfl⟩ rfl [] [] ((List.append_nil _).symm) 9 rfl rfl rfl (Nat.le_of_ble_eq_true rfl) ⟨Nat.zero_le _, Nat.zero_le _⟩ (gz_pV_sh rfl) dX9_diary_44 ?_
        refine gz_kVb (r := 1) (ws2 := MdW cI cZ a (2, Md_now u, Md_aw u, Md_mm u, Md_lo u, Md_mt u, Md_sw u, Md_bu u)) ((List.append_nil _).symm).symm ?_
        refine gz_if_eq (pc := 47) (tgt := 52) F dX9_diary_47 (by decide) (by omega) (fun c47 => ?_) (fun c47 => ?_)
        · exact absurd c47 (by decide)
        · refine gz_const (pc := 50) F dX9_diary_50 ?_
          refine Z _ _ 51 _ dX9_diary_51 rfl ?_
          exact ⟨2, Or.inr ⟨not_not_intro c22, Or.inl ⟨c36, rfl⟩⟩, fun _ => ⟨rfl, rfl⟩, fun h => absurd h (by decide)⟩
    · refine gz_const (pc := 25) F dX9_diary_25 ?_
      refine gz_goto (pc := 26) (tgt := 44) F dX9_diary_26 (by decide) ?_
      refine gz_callVb (pc := 44) (n := 1) (As := [vI 1]) (rest := []) (bytes := cX9_refused) (maxL := 2) (ret := some .boolean) F (ct_X9_refused_1 l D cI cJ cZ a u hu) gX9_diary_X9_refused rfl ⟨rfl, rfl⟩ (by decide +kernel) ⟨Nat.le_of_ble_eq_true rfl, Nat.le_of_ble_eq_true rfl⟩ rfl [] [] ((List.append_nil _).symm) 9 rfl rfl rfl (Nat.le_of_ble_eq_true rfl) ⟨Nat.zero_le _, Nat.zero_le _⟩ (gz_pV_sh rfl) dX9_diary_44 ?_
      refine gz_kVb (r := 1) (ws2 := MdW cI cZ a (1, Md_now u, Md_aw u, Md_mm u, Md_lo u, Md_mt u, Md_sw u, Md_bu u)) ((List.append_nil _).symm).symm ?_
      refine gz_if_eq (pc := 47) (tgt := 52) F dX9_diary_47 (by decide) (by omega) (fun c47 => ?_) (fun c47 => ?_)
      · exact absurd c47 (by decide)
      · refine gz_const (pc := 50) F dX9_diary_50 ?_
        refine Z _ _ 51 _ dX9_diary_51 rfl ?_
        exact ⟨1, Or.inl ⟨c22, rfl⟩, fun _ => ⟨rfl, rfl⟩, fun h => absurd h (by decide)⟩
  refine gz_aload_n (pc := 0) F dX9_diary_0 rfl 0 rfl ?_
  refine gz_iload_n (pc := 1) F dX9_diary_1 rfl 1 rfl ?_
  refine gz_callVb (pc := 2) (n := 1) (As := [vI p0]) (rest := []) (bytes := cX9_isMachine) (maxL := 2) (ret := some .boolean) F (ct_X9_isMachine l D cI cJ cZ a u p0 hu (by omega)) gX9_diary_X9_isMachine rfl ⟨rfl, rfl⟩ (by decide +kernel) ⟨Nat.le_of_ble_eq_true rfl, Nat.le_of_ble_eq_true rfl⟩ rfl [] [] ((List.append_nil _).symm) 9 rfl rfl rfl (Nat.le_of_ble_eq_true rfl) ⟨Nat.zero_le _, Nat.zero_le _⟩ gz_pI_sh dX9_diary_2 ?_
  refine gz_kIb ((List.append_nil _).symm).symm (fun r2 h2 => ?_)
  subst h2
  refine gz_if_eqb (pc := 5) (tgt := 16) F dX9_diary_5 (by decide) (fun c5 => ?_) (fun c5 => ?_)
  · refine gz_const (pc := 16) F dX9_diary_16 ?_
    refine gz_eqst (st2 := [vI (bz ((0 ≤ p0 ∧ p0 ≤ Mm_n (Md_mm u) - 1) ∧ 0 ≤ p2))]) (by first | exact congrArg (fun x => [vI x]) (bzF (fun h => absurd h.2 (Int.not_le.mpr c9))) | exact congrArg (fun x => [vI x]) (bzF (fun h => c5 h.1))) ?_
    exact J17  
  · refine gz_iload_n (pc := 8) F dX9_diary_8 rfl 3 rfl ?_
    refine gz_if_lt (pc := 9) (tgt := 16) F dX9_diary_9 (by decide) (by omega) (fun c9 => ?_) (fun c9 => ?_)
    · refine gz_const (pc := 16) F dX9_diary_16 ?_
      refine gz_eqst (st2 := [vI (bz ((0 ≤ p0 ∧ p0 ≤ Mm_n (Md_mm u) - 1) ∧ 0 ≤ p2))]) (by first | exact congrArg (fun x => [vI x]) (bzF (fun h => absurd h.2 (Int.not_le.mpr c9))) | exact congrArg (fun x => [vI x]) (bzF (fun h => c5 h.1))) ?_
      exact J17  
    · refine gz_const (pc := 12) F dX9_diary_12 ?_
      refine gz_goto (pc := 13) (tgt := 17) F dX9_diary_13 (by decide) ?_
      refine gz_eqst (st2 := [vI (bz ((0 ≤ p0 ∧ p0 ≤ Mm_n (Md_mm u) - 1) ∧ 0 ≤ p2))]) (by exact congrArg (fun x => [vI x]) (bzT (⟨c5, c9⟩))) ?_
      exact J17  
