/-! ===== laid by wip/whole/gen/md.py ===== -/
set_option maxHeartbeats 4000000 in
set_option maxRecDepth 100000 in
theorem ct_X9_canBe (l : Launch) (D : va_G) (cI cJ cZ : ClassId) (a : Nat → Nat) (u : MdS) (p0 p1 p2 p3 p4 : Int) (hu : MdI u) (h0 : -1 ≤ p0 ∧ p0 ≤ 1023) (h1 : 0 ≤ p1 ∧ p1 ≤ 1023) (h2 : 0 ≤ p2 ∧ p2 ≤ 511) (h3 : 0 ≤ p3 ∧ p3 ≤ 511) (h4 : -1 ≤ p4 ∧ p4 ≤ 5) : gz_M l yX9_canBe wsX9_canBe { frames := 3, cells := 0, slots := 0, locals := 69 } D cI cJ cZ [.ref (a 0), vI p0, vI p1, vI p2, vI p3, vI p4] (MdW cI cZ a u) (gz_pI (MdW cI cZ a u) (fun r => r = bz (Md_can u p0 p1 p2 (p2 + p3) p4))) := by
  refine gz_ofZ (cc := cX9_canBe) (maxL := 9) (ty := .boolean) (own := RX9) (by decide) rfl rfl (Nat.le_of_ble_eq_true rfl) (lv0 := [(0, .ref (a 0)), (1, vI p0), (2, vI p1), (3, vI p2), (4, vI p3), (5, vI p4)]) rfl ?_
  intro p e s m args below meth c A Q F Z
  obtain ⟨hnw, hAw, hMm, hLo, ⟨hMt, hMa⟩, hSw, hBu⟩ := id hu
  have hMmn := hMm.1
  have hLon := hLo.1
  have hMtn := hMt.1
  have hSwn := hSw.1
  have hBun := hBu.1
  have L6 : ∀ (N : Nat) (x : Int) (b : Int), (p2 + p3 - x).toNat < N → (p2 ≤ x ∧ x ≤ p2 + p3) → (b = bz (Md_can u p0 p1 p2 x p4)) → gG p l e ({ frames := 3, cells := 0, slots := 0, locals := 69 } : Room) s m args below meth c D A 9 Q 0 0 (MdW cI cZ a u) [(0, .ref (a 0)), (1, vI p0), (2, vI p1), (3, vI p2), (4, vI p3), (5, vI p4), (6, vI b), (7, vI x)] [] 6 := by
    intro N
    induction N with
    | zero => intro x b hN; exact absurd hN (Nat.not_lt_zero _)
    | succ N ih6 =>
      intro x b hN hx hb
      have hbr := bz_rb hb
      have L18 : ∀ (N : Nat) (q : Int) (b2 : Int), (10 - q).toNat < N → (x < p2 + p3) → (0 ≤ q ∧ q ≤ 10) → (b2 = bz (Md_can u p0 p1 p2 x p4 ∧ Md_c1 u p0 p1 x q)) → gG p l e ({ frames := 3, cells := 0, slots := 0, locals := 69 } : Room) s m args below meth c D A 9 Q 0 0 (MdW cI cZ a u) [(0, .ref (a 0)), (1, vI p0), (2, vI p1), (3, vI p2), (4, vI p3), (5, vI p4), (6, vI b2), (7, vI x), (8, vI q)] [] 18 := by
        intro N
        induction N with
        | zero => intro q b2 hN; exact absurd hN (Nat.not_lt_zero _)
        | succ N ih18 =>
          intro q b2 hN c12 hq hb2
          have hbr2 := bz_rb hb2
          refine gz_iload (pc := 18) F dX9_canBe_18 8 rfl ?_
          refine gz_bipush (pc := 20) F dX9_canBe_20 (by decide) ?_
          refine gz_icmp_ge (pc := 22) (tgt := 75) F dX9_canBe_22 (by decide) (by omega) (by omega) (fun c22 => ?_) (fun c22 => ?_)
          · have hb3 : b2 = bz (Md_can u p0 p1 p2 x p4 ∧ Md_c1 u p0 p1 x 10) := by rw [hb2, show q = 10 by omega]
            refine gz_iload (pc := 75) F dX9_canBe_75 6 rfl ?_
            refine gz_if_eq (pc := 77) (tgt := 124) F dX9_canBe_77 (by decide) (by omega) (fun c77 => ?_) (fun c77 => ?_)
            · refine gz_const (pc := 124) F dX9_canBe_124 ?_
              refine gz_istore (pc := 125) (lv2 := [(6, vI 0), (0, .ref (a 0)), (1, vI p0), (2, vI p1), (3, vI p2), (4, vI p3), (5, vI p4), (7, vI x), (8, vI q)]) F dX9_canBe_125 (by decide) rfl ?_
              refine gz_iinc (pc := 127) (lv2 := [(7, vI (x + 1)), (6, vI 0), (0, .ref (a 0)), (1, vI p0), (2, vI p1), (3, vI p2), (4, vI p3), (5, vI p4), (8, vI q)]) F dX9_canBe_127 7 rfl (by decide) rfl ?_
              refine gz_goto (pc := 130) (tgt := 6) F dX9_canBe_130 (by decide) ?_
              refine gz_lv [2, 3, 4, 5, 6, 7, 1, 0] rfl ?_
              exact ih6 (x + 1) 0 (by omega) (by omega) (by first | exact bzF (Md_can_n2 hx.1 (fun h => h.elim c83 (fun e => e.2.2 c117))) | exact bzF (Md_can_n2 hx.1 (fun h => h.elim c83 (fun e => e.2.1 c106))) | exact bzF (Md_can_n2 hx.1 (fun h => h.elim c83 (fun e => e.1 c95))) | exact bzF (Md_can_n1 hx.1 (bz_of0 hb3 c77)))
            · refine gz_iload (pc := 80) F dX9_canBe_80 5 rfl ?_
              refine gz_const (pc := 82) F dX9_canBe_82 ?_
              refine gz_icmp_eq (pc := 83) (tgt := 120) F dX9_canBe_83 (by decide) (by omega) (by omega) (fun c83 => ?_) (fun c83 => ?_)
              · refine gz_const (pc := 120) F dX9_canBe_120 ?_
                refine gz_goto (pc := 121) (tgt := 125) F dX9_canBe_121 (by decide) ?_
                refine gz_istore (pc := 125) (lv2 := [(6, vI 1), (0, .ref (a 0)), (1, vI p0), (2, vI p1), (3, vI p2), (4, vI p3), (5, vI p4), (7, vI x), (8, vI q)]) F dX9_canBe_125 (by decide) rfl ?_
                refine gz_iinc (pc := 127) (lv2 := [(7, vI (x + 1)), (6, vI 1), (0, .ref (a 0)), (1, vI p0), (2, vI p1), (3, vI p2), (4, vI p3), (5, vI p4), (8, vI q)]) F dX9_canBe_127 7 rfl (by decide) rfl ?_
                refine gz_goto (pc := 130) (tgt := 6) F dX9_canBe_130 (by decide) ?_
                refine gz_lv [2, 3, 4, 5, 6, 7, 1, 0] rfl ?_
                exact ih6 (x + 1) 1 (by omega) (by omega) (by first | exact bzT (Md_can_y (bz_of1 hb3 c77) (Or.inr ⟨c95, c106, c117⟩)) | exact bzT (Md_can_y (bz_of1 hb3 c77) (Or.inl c83)))
              · refine gz_aload_n (pc := 86) F dX9_canBe_86 rfl 0 rfl ?_
                refine gz_iload (pc := 87) F dX9_canBe_87 5 rfl ?_
                refine gz_iload (pc := 89) F dX9_canBe_89 7 rfl ?_
                refine gz_iload_n (pc := 91) F dX9_canBe_91 rfl 1 rfl ?_
                refine gz_callVb (pc := 92) (n := 3) (As := [vI p4, vI x, vI p0]) (rest := []) (bytes := cX9_isPromised) (maxL := 6) (ret := some .boolean) F (ct_X9_isPromised l D cI cJ cZ a u p4 x p0 hu (by omega) (by omega) (by omega)) gX9_canBe_X9_isPromised rfl ⟨rfl, rfl⟩ (by decide +kernel) ⟨Nat.le_of_ble_eq_true rfl, Nat.le_of_ble_eq_true rfl⟩ rfl [] [] ((List.append_nil _).symm) 9 rfl rfl rfl (Nat.le_of_ble_eq_true rfl) ⟨Nat.zero_le _, Nat.zero_le _⟩ gz_pI_sh dX9_canBe_92 ?_
                refine gz_kIb ((List.append_nil _).symm).symm (fun r92 h92 => ?_)
                subst h92
                refine gz_if_neb (pc := 95) (tgt := 124) F dX9_canBe_95 (by decide) (fun c95 => ?_) (fun c95 => ?_)
                · refine gz_const (pc := 124) F dX9_canBe_124 ?_
                  refine gz_istore (pc := 125) (lv2 := [(6, vI 0), (0, .ref (a 0)), (1, vI p0), (2, vI p1), (3, vI p2), (4, vI p3), (5, vI p4), (7, vI x), (8, vI q)]) F dX9_canBe_125 (by decide) rfl ?_
                  refine gz_iinc (pc := 127) (lv2 := [(7, vI (x + 1)), (6, vI 0), (0, .ref (a 0)), (1, vI p0), (2, vI p1), (3, vI p2), (4, vI p3), (5, vI p4), (8, vI q)]) F dX9_canBe_127 7 rfl (by decide) rfl ?_
                  refine gz_goto (pc := 130) (tgt := 6) F dX9_canBe_130 (by decide) ?_
                  refine gz_lv [2, 3, 4, 5, 6, 7, 1, 0] rfl ?_
                  exact ih6 (x + 1) 0 (by omega) (by omega) (by first | exact bzF (Md_can_n2 hx.1 (fun h => h.elim c83 (fun e => e.2.2 c117))) | exact bzF (Md_can_n2 hx.1 (fun h => h.elim c83 (fun e => e.2.1 c106))) | exact bzF (Md_can_n2 hx.1 (fun h => h.elim c83 (fun e => e.1 c95))) | exact bzF (Md_can_n1 hx.1 (bz_of0 hb3 c77)))
                · refine gz_aload_n (pc := 98) F dX9_canBe_98 rfl 0 rfl ?_
                  refine gz_iload (pc := 99) F dX9_canBe_99 5 rfl ?_
                  refine gz_iload (pc := 101) F dX9_canBe_101 7 rfl ?_
                  refine gz_callVb (pc := 103) (n := 2) (As := [vI p4, vI x]) (rest := []) (bytes := cX9_isBuilding) (maxL := 5) (ret := some .boolean) F (ct_X9_isBuilding l D cI cJ cZ a u p4 x hu (by omega) (by omega)) gX9_canBe_X9_isBuilding rfl ⟨rfl, rfl⟩ (by decide +kernel) ⟨Nat.le_of_ble_eq_true rfl, Nat.le_of_ble_eq_true rfl⟩ rfl [] [] ((List.append_nil _).symm) 9 rfl rfl rfl (Nat.le_of_ble_eq_true rfl) ⟨Nat.zero_le _, Nat.zero_le _⟩ gz_pI_sh dX9_canBe_103 ?_
                  refine gz_kIb ((List.append_nil _).symm).symm (fun r103 h103 => ?_)
                  subst h103
                  refine gz_if_neb (pc := 106) (tgt := 124) F dX9_canBe_106 (by decide) (fun c106 => ?_) (fun c106 => ?_)
                  · refine gz_const (pc := 124) F dX9_canBe_124 ?_
                    refine gz_istore (pc := 125) (lv2 := [(6, vI 0), (0, .ref (a 0)), (1, vI p0), (2, vI p1), (3, vI p2), (4, vI p3), (5, vI p4), (7, vI x), (8, vI q)]) F dX9_canBe_125 (by decide) rfl ?_
                    refine gz_iinc (pc := 127) (lv2 := [(7, vI (x + 1)), (6, vI 0), (0, .ref (a 0)), (1, vI p0), (2, vI p1), (3, vI p2), (4, vI p3), (5, vI p4), (8, vI q)]) F dX9_canBe_127 7 rfl (by decide) rfl ?_
                    refine gz_goto (pc := 130) (tgt := 6) F dX9_canBe_130 (by decide) ?_
                    refine gz_lv [2, 3, 4, 5, 6, 7, 1, 0] rfl ?_
                    exact ih6 (x + 1) 0 (by omega) (by omega) (by first | exact bzF (Md_can_n2 hx.1 (fun h => h.elim c83 (fun e => e.2.2 c117))) | exact bzF (Md_can_n2 hx.1 (fun h => h.elim c83 (fun e => e.2.1 c106))) | exact bzF (Md_can_n2 hx.1 (fun h => h.elim c83 (fun e => e.1 c95))) | exact bzF (Md_can_n1 hx.1 (bz_of0 hb3 c77)))
                  · refine gz_aload_n (pc := 109) F dX9_canBe_109 rfl 0 rfl ?_
                    refine gz_iload (pc := 110) F dX9_canBe_110 5 rfl ?_
                    refine gz_iload (pc := 112) F dX9_canBe_112 7 rfl ?_
                    refine gz_callVb (pc := 114) (n := 2) (As := [vI p4, vI x]) (rest := []) (bytes := cX9_isBroken) (maxL := 3) (ret := some .boolean) F (ct_X9_isBroken l D cI cJ cZ a u p4 x hu (by omega) (by omega)) gX9_canBe_X9_isBroken rfl ⟨rfl, rfl⟩ (by decide +kernel) ⟨Nat.le_of_ble_eq_true rfl, Nat.le_of_ble_eq_true rfl⟩ rfl [] [] ((List.append_nil _).symm) 9 rfl rfl rfl (Nat.le_of_ble_eq_true rfl) ⟨Nat.zero_le _, Nat.zero_le _⟩ gz_pI_sh dX9_canBe_114 ?_
                    refine gz_kIb ((List.append_nil _).symm).symm (fun r114 h114 => ?_)
                    subst h114
                    refine gz_if_neb (pc := 117) (tgt := 124) F dX9_canBe_117 (by decide) (fun c117 => ?_) (fun c117 => ?_)
                    · refine gz_const (pc := 124) F dX9_canBe_124 ?_
                      refine gz_istore (pc := 125) (lv2 := [(6, vI 0), (0, .ref (a 0)), (1, vI p0), (2, vI p1), (3, vI p2), (4, vI p3), (5, vI p4), (7, vI x), (8, vI q)]) F dX9_canBe_125 (by decide) rfl ?_
                      refine gz_iinc (pc := 127) (lv2 := [(7, vI (x + 1)), (6, vI 0), (0, .ref (a 0)), (1, vI p0), (2, vI p1), (3, vI p2), (4, vI p3), (5, vI p4), (8, vI q)]) F dX9_canBe_127 7 rfl (by decide) rfl ?_
                      refine gz_goto (pc := 130) (tgt := 6) F dX9_canBe_130 (by decide) ?_
                      refine gz_lv [2, 3, 4, 5, 6, 7, 1, 0] rfl ?_
                      exact ih6 (x + 1) 0 (by omega) (by omega) (by first | exact bzF (Md_can_n2 hx.1 (fun h => h.elim c83 (fun e => e.2.2 c117))) | exact bzF (Md_can_n2 hx.1 (fun h => h.elim c83 (fun e => e.2.1 c106))) | exact bzF (Md_can_n2 hx.1 (fun h => h.elim c83 (fun e => e.1 c95))) | exact bzF (Md_can_n1 hx.1 (bz_of0 hb3 c77)))
                    · refine gz_const (pc := 120) F dX9_canBe_120 ?_
                      refine gz_goto (pc := 121) (tgt := 125) F dX9_canBe_121 (by decide) ?_
                      refine gz_istore (pc := 125) (lv2 := [(6, vI 1), (0, .ref (a 0)), (1, vI p0), (2, vI p1), (3, vI p2), (4, vI p3), (5, vI p4), (7, vI x), (8, vI q)]) F dX9_canBe_125 (by decide) rfl ?_
                      refine gz_iinc (pc := 127) (lv2 := [(7, vI (x + 1)), (6, vI 1), (0, .ref (a 0)), (1, vI p0), (2, vI p1), (3, vI p2), (4, vI p3), (5, vI p4), (8, vI q)]) F dX9_canBe_127 7 rfl (by decide) rfl ?_
                      refine gz_goto (pc := 130) (tgt := 6) F dX9_canBe_130 (by decide) ?_
                      refine gz_lv [2, 3, 4, 5, 6, 7, 1, 0] rfl ?_
                      exact ih6 (x + 1) 1 (by omega) (by omega) (by first | exact bzT (Md_can_y (bz_of1 hb3 c77) (Or.inr ⟨c95, c106, c117⟩)) | exact bzT (Md_can_y (bz_of1 hb3 c77) (Or.inl c83)))
          · refine gz_iload (pc := 25) F dX9_canBe_25 6 rfl ?_
            refine gz_if_eq (pc := 27) (tgt := 66) F dX9_canBe_27 (by decide) (by omega) (fun c27 => ?_) (fun c27 => ?_)
            · refine gz_const (pc := 66) F dX9_canBe_66 ?_
              refine gz_istore (pc := 67) (lv2 := [(6, vI 0), (0, .ref (a 0)), (1, vI p0), (2, vI p1), (3, vI p2), (4, vI p3), (5, vI p4), (7, vI x), (8, vI q)]) F dX9_canBe_67 (by decide) rfl ?_
              refine gz_iinc (pc := 69) (lv2 := [(8, vI (q + 1)), (6, vI 0), (0, .ref (a 0)), (1, vI p0), (2, vI p1), (3, vI p2), (4, vI p3), (5, vI p4), (7, vI x)]) F dX9_canBe_69 8 rfl (by decide) rfl ?_
              refine gz_goto (pc := 72) (tgt := 18) F dX9_canBe_72 (by decide) ?_
              refine gz_lv [2, 3, 4, 5, 6, 7, 1, 8, 0] rfl ?_
              exact ih18 (q + 1) 0 (by omega) (by exact c12) (by omega) (by first | exact bzF (fun h => Md_c1_nb hq.1 (zbit1 c36) (Or.inr c59) h.2) | exact bzF (fun h => Md_c1_nb hq.1 (zbit1 c36) (Or.inl c48) h.2) | exact bzF (fun h => Md_c1_n (fun h3 => bz_of0 hb2 c27 ⟨h.1, h3⟩) h.2))
            · refine gz_iload_n (pc := 30) F dX9_canBe_30 rfl 2 rfl ?_
              refine gz_iload (pc := 31) F dX9_canBe_31 8 rfl ?_
              refine gz_ishr (pc := 33) (v := zsh p1 q) F dX9_canBe_33 (zsh_I (by omega) (by omega)) ?_
              refine gz_const (pc := 34) F dX9_canBe_34 ?_
              have b35 := (zsh_r (x := p1) (y := q) (by omega))
              refine gz_iand (pc := 35) (v := (zsh p1 q) % 2) F dX9_canBe_35 (zand_1 (zsh_r (by omega)).1) ?_
              refine gz_if_eq (pc := 36) (tgt := 62) F dX9_canBe_36 (by decide) (by omega) (fun c36 => ?_) (fun c36 => ?_)
              · refine gz_const (pc := 62) F dX9_canBe_62 ?_
                refine gz_goto (pc := 63) (tgt := 67) F dX9_canBe_63 (by decide) ?_
                refine gz_istore (pc := 67) (lv2 := [(6, vI 1), (0, .ref (a 0)), (1, vI p0), (2, vI p1), (3, vI p2), (4, vI p3), (5, vI p4), (7, vI x), (8, vI q)]) F dX9_canBe_67 (by decide) rfl ?_
                refine gz_iinc (pc := 69) (lv2 := [(8, vI (q + 1)), (6, vI 1), (0, .ref (a 0)), (1, vI p0), (2, vI p1), (3, vI p2), (4, vI p3), (5, vI p4), (7, vI x)]) F dX9_canBe_69 8 rfl (by decide) rfl ?_
                refine gz_goto (pc := 72) (tgt := 18) F dX9_canBe_72 (by decide) ?_
                refine gz_lv [2, 3, 4, 5, 6, 7, 1, 8, 0] rfl ?_
                exact ih18 (q + 1) 1 (by omega) (by exact c12) (by omega) (by first | exact bzT ⟨(bz_of1 hb2 c27).1, Md_c1_y hq.1 (bz_of1 hb2 c27).2 (fun _ => ⟨c48, c59⟩)⟩ | exact bzT ⟨(bz_of1 hb2 c27).1, Md_c1_y hq.1 (bz_of1 hb2 c27).2 (fun h => absurd h (zbit0 c36))⟩)
              · refine gz_aload_n (pc := 39) F dX9_canBe_39 rfl 0 rfl ?_
                refine gz_iload (pc := 40) F dX9_canBe_40 8 rfl ?_
                refine gz_iload (pc := 42) F dX9_canBe_42 7 rfl ?_
                refine gz_iload_n (pc := 44) F dX9_canBe_44 rfl 1 rfl ?_
                refine gz_callVb (pc := 45) (n := 3) (As := [vI q, vI x, vI p0]) (rest := []) (bytes := cX9_hasMeeting) (maxL := 6) (ret := some .boolean) F (ct_X9_hasMeeting l D cI cJ cZ a u q x p0 hu (by omega) (by omega) (by omega)) gX9_canBe_X9_hasMeeting rfl ⟨rfl, rfl⟩ (by decide +kernel) ⟨Nat.le_of_ble_eq_true rfl, Nat.le_of_ble_eq_true rfl⟩ rfl [] [] ((List.append_nil _).symm) 9 rfl rfl rfl (Nat.le_of_ble_eq_true rfl) ⟨Nat.zero_le _, Nat.zero_le _⟩ gz_pI_sh dX9_canBe_45 ?_
                refine gz_kIb ((List.append_nil _).symm).symm (fun r45 h45 => ?_)
                subst h45
                refine gz_if_neb (pc := 48) (tgt := 66) F dX9_canBe_48 (by decide) (fun c48 => ?_) (fun c48 => ?_)
                · refine gz_const (pc := 66) F dX9_canBe_66 ?_
                  refine gz_istore (pc := 67) (lv2 := [(6, vI 0), (0, .ref (a 0)), (1, vI p0), (2, vI p1), (3, vI p2), (4, vI p3), (5, vI p4), (7, vI x), (8, vI q)]) F dX9_canBe_67 (by decide) rfl ?_
                  refine gz_iinc (pc := 69) (lv2 := [(8, vI (q + 1)), (6, vI 0), (0, .ref (a 0)), (1, vI p0), (2, vI p1), (3, vI p2), (4, vI p3), (5, vI p4), (7, vI x)]) F dX9_canBe_69 8 rfl (by decide) rfl ?_
                  refine gz_goto (pc := 72) (tgt := 18) F dX9_canBe_72 (by decide) ?_
                  refine gz_lv [2, 3, 4, 5, 6, 7, 1, 8, 0] rfl ?_
                  exact ih18 (q + 1) 0 (by omega) (by exact c12) (by omega) (by first | exact bzF (fun h => Md_c1_nb hq.1 (zbit1 c36) (Or.inr c59) h.2) | exact bzF (fun h => Md_c1_nb hq.1 (zbit1 c36) (Or.inl c48) h.2) | exact bzF (fun h => Md_c1_n (fun h3 => bz_of0 hb2 c27 ⟨h.1, h3⟩) h.2))
                · refine gz_aload_n (pc := 51) F dX9_canBe_51 rfl 0 rfl ?_
                  refine gz_iload (pc := 52) F dX9_canBe_52 8 rfl ?_
                  refine gz_iload (pc := 54) F dX9_canBe_54 7 rfl ?_
                  refine gz_callVb (pc := 56) (n := 2) (As := [vI q, vI x]) (rest := []) (bytes := cX9_isOnLeave) (maxL := 3) (ret := some .boolean) F (ct_X9_isOnLeave l D cI cJ cZ a u q x hu (by omega) (by omega)) gX9_canBe_X9_isOnLeave rfl ⟨rfl, rfl⟩ (by decide +kernel) ⟨Nat.le_of_ble_eq_true rfl, Nat.le_of_ble_eq_true rfl⟩ rfl [] [] ((List.append_nil _).symm) 9 rfl rfl rfl (Nat.le_of_ble_eq_true rfl) ⟨Nat.zero_le _, Nat.zero_le _⟩ gz_pI_sh dX9_canBe_56 ?_
                  refine gz_kIb ((List.append_nil _).symm).symm (fun r56 h56 => ?_)
                  subst h56
                  refine gz_if_neb (pc := 59) (tgt := 66) F dX9_canBe_59 (by decide) (fun c59 => ?_) (fun c59 => ?_)
                  · refine gz_const (pc := 66) F dX9_canBe_66 ?_
                    refine gz_istore (pc := 67) (lv2 := [(6, vI 0), (0, .ref (a 0)), (1, vI p0), (2, vI p1), (3, vI p2), (4, vI p3), (5, vI p4), (7, vI x), (8, vI q)]) F dX9_canBe_67 (by decide) rfl ?_
                    refine gz_iinc (pc := 69) (lv2 := [(8, vI (q + 1)), (6, vI 0), (0, .ref (a 0)), (1, vI p0), (2, vI p1), (3, vI p2), (4, vI p3), (5, vI p4), (7, vI x)]) F dX9_canBe_69 8 rfl (by decide) rfl ?_
                    refine gz_goto (pc := 72) (tgt := 18) F dX9_canBe_72 (by decide) ?_
                    refine gz_lv [2, 3, 4, 5, 6, 7, 1, 8, 0] rfl ?_
                    exact ih18 (q + 1) 0 (by omega) (by exact c12) (by omega) (by first | exact bzF (fun h => Md_c1_nb hq.1 (zbit1 c36) (Or.inr c59) h.2) | exact bzF (fun h => Md_c1_nb hq.1 (zbit1 c36) (Or.inl c48) h.2) | exact bzF (fun h => Md_c1_n (fun h3 => bz_of0 hb2 c27 ⟨h.1, h3⟩) h.2))
                  · refine gz_const (pc := 62) F dX9_canBe_62 ?_
                    refine gz_goto (pc := 63) (tgt := 67) F dX9_canBe_63 (by decide) ?_
                    refine gz_istore (pc := 67) (lv2 := [(6, vI 1), (0, .ref (a 0)), (1, vI p0), (2, vI p1), (3, vI p2), (4, vI p3), (5, vI p4), (7, vI x), (8, vI q)]) F dX9_canBe_67 (by decide) rfl ?_
                    refine gz_iinc (pc := 69) (lv2 := [(8, vI (q + 1)), (6, vI 1), (0, .ref (a 0)), (1, vI p0), (2, vI p1), (3, vI p2), (4, vI p3), (5, vI p4), (7, vI x)]) F dX9_canBe_69 8 rfl (by decide) rfl ?_
                    refine gz_goto (pc := 72) (tgt := 18) F dX9_canBe_72 (by decide) ?_
                    refine gz_lv [2, 3, 4, 5, 6, 7, 1, 8, 0] rfl ?_
                    exact ih18 (q + 1) 1 (by omega) (by exact c12) (by omega) (by first | exact bzT ⟨(bz_of1 hb2 c27).1, Md_c1_y hq.1 (bz_of1 hb2 c27).2 (fun _ => ⟨c48, c59⟩)⟩ | exact bzT ⟨(bz_of1 hb2 c27).1, Md_c1_y hq.1 (bz_of1 hb2 c27).2 (fun h => absurd h (zbit0 c36))⟩)
      refine gz_iload (pc := 6) F dX9_canBe_6 7 rfl ?_
      refine gz_iload_n (pc := 8) F dX9_canBe_8 rfl 3 rfl ?_
      refine gz_iload (pc := 9) F dX9_canBe_9 4 rfl ?_
      refine gz_iadd (pc := 11) F dX9_canBe_11 ?_
      refine gz_icmp_ge (pc := 12) (tgt := 133) F dX9_canBe_12 (by decide) (by omega) (by omega) (fun c12 => ?_) (fun c12 => ?_)
      · refine gz_iload (pc := 133) F dX9_canBe_133 6 rfl ?_
        refine Z _ _ 135 _ dX9_canBe_135 (by rw [hb]; exact bz_nar _) ?_
        exact ⟨rfl, _, rfl, by rw [hb, show x = p2 + p3 by omega]⟩
      · refine gz_const (pc := 15) F dX9_canBe_15 ?_
        refine gz_istore (pc := 16) (lv2 := [(8, vI 0), (0, .ref (a 0)), (1, vI p0), (2, vI p1), (3, vI p2), (4, vI p3), (5, vI p4), (6, vI b), (7, vI x)]) F dX9_canBe_16 (by decide) rfl ?_
        refine gz_lv [1, 2, 3, 4, 5, 6, 7, 8, 0] rfl ?_
        exact L18 _ 0 b (Nat.lt_succ_self _) (by exact c12) (by omega) (by exact bz_same hb ⟨fun h => ⟨h, Md_c1_0 _ _ _ _⟩, fun h => h.1⟩)
  refine gz_const (pc := 0) F dX9_canBe_0 ?_
  refine gz_istore (pc := 1) (lv2 := [(6, vI 1), (0, .ref (a 0)), (1, vI p0), (2, vI p1), (3, vI p2), (4, vI p3), (5, vI p4)]) F dX9_canBe_1 (by decide) rfl ?_
  refine gz_iload_n (pc := 3) F dX9_canBe_3 rfl 4 rfl ?_
  refine gz_istore (pc := 4) (lv2 := [(7, vI p2), (6, vI 1), (0, .ref (a 0)), (1, vI p0), (2, vI p1), (3, vI p2), (4, vI p3), (5, vI p4)]) F dX9_canBe_4 (by decide) rfl ?_
  refine gz_lv [2, 3, 4, 5, 6, 7, 1, 0] rfl ?_
  exact L6 _ p2 1 (Nat.lt_succ_self _) (by omega) (by exact bzT (Md_can_0 _ _ _ _ _))
