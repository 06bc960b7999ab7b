/-! ===== laid by wip/whole/gen/ri.py ===== -/
abbrev cd_diary (r : RiS) (p0 p1 p2 : Int) : List (Prop × String) := [(¬ (0 ≤ p0 ∧ p0 < Mc_n (Pl_mc (Ri_P r))), xIO), (p2 < 0, xIO), (¬ (0 ≤ p1 ∧ p1 ≤ 49), xIA)]
theorem hn_X8_diary_X8 : ∀ w ∈ u_ws RX8 TX8 4, w ∈ wsX8_diary := by decide +kernel
theorem fl_X8_diary_10 : Cond.fieldLink RX8 10 (TX8 0).1 (TX8 0).2.1 (TX8 0).2.2.1 ∈ wsX8_diary := by decide +kernel
theorem iw_X8_diary_c217 : Cond.constant RX8 217 (zI 55357) ∈ wsX8_diary := by decide +kernel
theorem iw_X8_diary_c218 : Cond.constant RX8 218 (zI 56615) ∈ wsX8_diary := by decide +kernel
theorem iw_X8_diary_cl_IO : Cond.classLink RX8 208 xIO ∈ wsX8_diary := by decide +kernel
theorem iw_X8_diary_in_IO : Cond.initialized xIO ∈ wsX8_diary := by decide +kernel
theorem gd_X8_diary_IO : ∀ w ∈ (vx_atS RX8 212 xIO gz_names).filter goodWord, w ∈ wsX8_diary := by decide +kernel
set_option maxHeartbeats 4000000 in
set_option maxRecDepth 100000 in
theorem cx_X8_diary (l : Launch) (hfl : l.stackTraces = false) (D : va_G) (cI cJ cZ : ClassId) (a : Nat → Nat) (r : RiS) (p0 p1 p2 : Int) (hr : RiI r) (h0 : -2147483648 ≤ p0 ∧ p0 < 2147483648) (h1 : -2147483648 ≤ p1 ∧ p1 < 2147483648) (h2 : -2147483648 ≤ p2 ∧ p2 < 2147483648)  : gz_X l yX8_diary wsX8_diary { frames := 7, cells := 1, slots := 6, locals := 104 } D cI cJ cZ [.ref (a 0), vI p0, vI p1, vI p2] (RiW cI cJ a r) (gz_pO (cd_diary r p0 p1 p2) (some (vI (Dy (Ri_dy r p0 p1) p2 8 0))) (RiW cI cJ a r)) (gz_px (cd_diary r p0 p1 p2)) := by
  refine gz_ofXZ (cc := cX8_diary) (maxL := 7) (ty := .char) (own := RX8) hfl (by decide) rfl rfl (Nat.le_of_ble_eq_true rfl) (lv0 := [(0, .ref (a 0)), (1, vI p0), (2, vI p1), (3, vI p2)]) rfl ?_
  intro p e s m args below meth c A Q F FX Z ZT ZC
  obtain ⟨hP, hA, hTo, hSw⟩ := id hr
  obtain ⟨hMc, hLo, hLv, hMt, hBu, hnw⟩ := id hP
  have hMcn := hMc.1
  have hMtn := hMt.1
  have hBun := hBu.1
  have hTon := hTo.1
  have hSwn := hSw.1
  have L33 : ∀ (N : Nat) (i : Int) (pl : Int), (i + 1).toNat < N → (0 ≤ p0 ∧ p0 < Mc_n (Pl_mc (Ri_P r))) → (0 ≤ p2) → (0 ≤ p1 ∧ p1 ≤ 49) → (-1 ≤ i ∧ i ≤ 7) → (0 ≤ pl ∧ pl ≤ 2 * (7 - i)) → (Dy (Ri_dy r p0 p1) p2 8 0 = Dy (Ri_dy r p0 p1) p2 (i + 1).toNat pl) → gG p l e ({ frames := 7, cells := 1, slots := 6, locals := 104 } : Room) s m args below meth c D A 7 Q 0 0 (RiW cI cJ a r) [(0, .ref (a 0)), (1, vI p0), (2, vI p1), (3, vI p2), (4, vI pl), (5, vI i)] [] 33 := by
    intro N
    induction N with
    | zero => intro i pl hN; exact absurd hN (Nat.not_lt_zero _)
    | succ N ih33 =>
      intro i pl hN k0 k1 k2 hi hp hD
      refine gz_iload (pc := 33) F dX8_diary_33 5 rfl ?_
      refine gz_if_lt (pc := 35) (tgt := 92) F dX8_diary_35 (by decide) (by omega) (fun c35 => ?_) (fun c35 => ?_)
      · refine gz_const (pc := 92) F dX8_diary_92 ?_
        refine Z _ _ 93 _ dX8_diary_93 rfl ?_
        exact ⟨⟨not_not_intro k0, (by omega), not_not_intro k2, trivial⟩, (by rw [hD, show (i + 1).toNat = 0 by omega]; rfl), rfl⟩
      · refine gz_aload_n (pc := 38) F dX8_diary_38 rfl 0 rfl ?_
        refine gz_get (pc := 39) (v := .ref (a 1)) F hn_X8_diary_X8 0 8 rfl rfl 0 (by decide) fl_X8_diary_10 rfl dX8_diary_39 ?_
        refine gz_iload_n (pc := 42) F dX8_diary_42 rfl 1 rfl ?_
        refine gz_iload_n (pc := 43) F dX8_diary_43 rfl 2 rfl ?_
        refine gz_bipush (pc := 44) F dX8_diary_44 (by decide) ?_
        refine gz_imul (pc := 46) F dX8_diary_46 ?_
        refine gz_iload (pc := 47) F dX8_diary_47 5 rfl ?_
        refine gz_iadd (pc := 49) F dX8_diary_49 ?_
        refine gz_callVb (pc := 50) (n := 2) (As := [vI p0, vI ((p1 * 8) + i)]) (rest := []) (bytes := cX5_sign) (maxL := 3) (ret := some .char) F (ct_X5_sign l D cI cJ cZ (fun i => a (i + 1)) (Ri_P r) p0 ((p1 * 8) + i) hP (by omega) (by omega)) gX8_diary_X5_sign rfl ⟨rfl, rfl⟩ (by decide +kernel) ⟨Nat.le_of_ble_eq_true rfl, Nat.le_of_ble_eq_true rfl⟩ rfl [RiO a] (PlW cI cJ (fun i => a (i + 30)) (Ri_A r) ++ (ToW cI (fun i => a (i + 59)) (Ri_T r) ++ SwW cI (fun i => a (i + 66)) (Ri_S r))) (RiW_P cI cJ a (Ri_P r) (Ri_A r) (Ri_T r) (Ri_S r)) 5 rfl rfl rfl (Nat.le_of_ble_eq_true rfl) ⟨Nat.zero_le _, Nat.zero_le _⟩ gz_pI_sh dX8_diary_50 ?_
        refine gz_kIb (RiW_P cI cJ a (Ri_P r) (Ri_A r) (Ri_T r) (Ri_S r)).symm (fun r50 h50 => ?_)
        have e50 := Pl_sgn_of h50
        have b50 := Pl_sgn_r h50
        have e51 : Ri_dy r p0 p1 i = r50 := e50.symm
        refine gz_istore (pc := 53) (lv2 := [(6, vI r50), (0, .ref (a 0)), (1, vI p0), (2, vI p1), (3, vI p2), (4, vI pl), (5, vI i)]) F dX8_diary_53 (by decide) rfl ?_
        refine gz_iload (pc := 55) F dX8_diary_55 5 rfl ?_
        refine gz_iload_n (pc := 57) F dX8_diary_57 rfl 4 rfl ?_
        refine gz_icmp_ne (pc := 58) (tgt := 64) F dX8_diary_58 (by decide) (by omega) (by omega) (fun c58 => ?_) (fun c58 => ?_)
        · refine gz_iinc (pc := 64) (lv2 := [(4, vI (pl + 1)), (6, vI r50), (0, .ref (a 0)), (1, vI p0), (2, vI p1), (3, vI p2), (5, vI i)]) F dX8_diary_64 5 rfl (by decide) rfl ?_
          refine gz_iload (pc := 67) F dX8_diary_67 1 rfl ?_
          refine gz_ldc (pc := 69) (v := 55357) F iw_X8_diary_c217 dX8_diary_69 ?_
          refine gz_icmp_ne (pc := 71) (tgt := 86) F dX8_diary_71 (by decide) (by omega) (by omega) (fun c71 => ?_) (fun c71 => ?_)
          · refine gz_iinc (pc := 86) (lv2 := [(5, vI (i + (-1))), (4, vI (pl + 1)), (6, vI r50), (0, .ref (a 0)), (1, vI p0), (2, vI p1), (3, vI p2)]) F dX8_diary_86 6 rfl (by decide) rfl ?_
            refine gz_goto (pc := 89) (tgt := 33) F dX8_diary_89 (by decide) ?_
            refine gz_lv [3, 4, 5, 6, 1, 0] rfl ?_
            exact ih33 (i + (-1)) (pl + 1) (by omega) (by first | exact n2 | exact k0) (by omega) (by omega) (by omega) (by omega) (by first | rfl | (rw [hD, Dy_s _ _ (by omega), if_neg c58, if_neg (by rw [e51]; exact c71)]) | (rw [hD, Dy_s _ _ (by omega), if_neg c58, if_pos (e51.trans c71), if_neg c77]))
          · refine gz_iload (pc := 74) F dX8_diary_74 0 rfl ?_
            refine gz_iload_n (pc := 76) F dX8_diary_76 rfl 5 rfl ?_
            refine gz_icmp_ne (pc := 77) (tgt := 83) F dX8_diary_77 (by decide) (by omega) (by omega) (fun c77 => ?_) (fun c77 => ?_)
            · refine gz_iinc (pc := 83) (lv2 := [(4, vI ((pl + 1) + 1)), (6, vI r50), (0, .ref (a 0)), (1, vI p0), (2, vI p1), (3, vI p2), (5, vI i)]) F dX8_diary_83 0 rfl (by decide) rfl ?_
              refine gz_iinc (pc := 86) (lv2 := [(5, vI (i + (-1))), (4, vI ((pl + 1) + 1)), (6, vI r50), (0, .ref (a 0)), (1, vI p0), (2, vI p1), (3, vI p2)]) F dX8_diary_86 6 rfl (by decide) rfl ?_
              refine gz_goto (pc := 89) (tgt := 33) F dX8_diary_89 (by decide) ?_
              refine gz_lv [3, 4, 5, 6, 1, 0] rfl ?_
              exact ih33 (i + (-1)) ((pl + 1) + 1) (by omega) (by first | exact n2 | exact k0) (by omega) (by omega) (by omega) (by omega) (by first | rfl | (rw [hD, Dy_s _ _ (by omega), if_neg c58, if_neg (by rw [e51]; exact c71)]) | (rw [hD, Dy_s _ _ (by omega), if_neg c58, if_pos (e51.trans c71), if_neg c77]))
            · refine gz_ldc (pc := 80) (v := 56615) F iw_X8_diary_c218 dX8_diary_80 ?_
              refine Z _ _ 82 _ dX8_diary_82 rfl ?_
              exact ⟨⟨not_not_intro k0, (by omega), not_not_intro k2, trivial⟩, (by rw [hD, Dy_s _ _ (by omega), if_neg c58, if_pos (e51.trans c71), if_pos c77]), rfl⟩
        · refine gz_iload (pc := 61) F dX8_diary_61 0 rfl ?_
          refine Z _ _ 63 _ dX8_diary_63 (gz_narC b50) ?_
          exact ⟨⟨not_not_intro k0, (by omega), not_not_intro k2, trivial⟩, (by rw [hD, Dy_s _ _ (by omega), if_pos c58]; exact congrArg (fun x => some (vI x)) e50), rfl⟩
  refine gz_aload_n (pc := 0) F dX8_diary_0 rfl 0 rfl ?_
  refine gz_iload_n (pc := 1) F dX8_diary_1 rfl 1 rfl ?_
  by_cases n2 : 0 ≤ p0 ∧ p0 < Mc_n (Pl_mc (Ri_P r))
  · refine gz_callVb (pc := 2) (n := 1) (As := [vI p0]) (rest := []) (bytes := cX8_needMachine) (maxL := 2) (ret := none) F (ct_X8_needMachine l D cI cJ cZ a r p0 hr (by omega) n2) gX8_diary_X8_needMachine rfl ⟨rfl, rfl⟩ (by decide +kernel) ⟨Nat.le_of_ble_eq_true rfl, Nat.le_of_ble_eq_true rfl⟩ rfl [] [] ((List.append_nil _).symm) 8 rfl rfl rfl (Nat.le_of_ble_eq_true rfl) ⟨Nat.zero_le _, Nat.zero_le _⟩ (gz_pE_sh rfl) dX8_diary_2 ?_
    refine gz_kEb (ws2 := RiW cI cJ a r) ((List.append_nil _).symm).symm ?_
    refine gz_iload_n (pc := 5) F dX8_diary_5 rfl 3 rfl ?_
    refine gz_if_ge (pc := 6) (tgt := 19) F dX8_diary_6 (by decide) (by omega) (fun c6 => ?_) (fun c6 => ?_)
    · refine gz_iload_n (pc := 19) F dX8_diary_19 rfl 2 rfl ?_
      refine gz_const (pc := 20) F dX8_diary_20 ?_
      refine gz_bipush (pc := 21) F dX8_diary_21 (by decide) ?_
      by_cases n23 : 0 ≤ p1 ∧ p1 ≤ 49
      · refine gz_callS (pc := 23) (n := 3) (As := [vI p1, vI 0, vI 49]) (rest := []) (bytes := cX8_needRange) (maxL := 3) (ret := none) F (ct_X8_needRange l D cI cJ cZ p1 0 49 (by omega) (by omega) (by omega) n23) gX8_diary_X8_needRange rfl ⟨rfl, rfl⟩ (by decide +kernel) ⟨Nat.le_of_ble_eq_true rfl, Nat.le_of_ble_eq_true rfl⟩ rfl [] rfl (by decide) rfl (Nat.le_of_ble_eq_true rfl) ⟨Nat.zero_le _, Nat.zero_le _⟩ (gz_pE_sh rfl) dX8_diary_23 ?_
        refine gz_kE (ws2 := RiW cI cJ a r) rfl ?_
        refine gz_const (pc := 26) F dX8_diary_26 ?_
        refine gz_istore (pc := 27) (lv2 := [(4, vI 0), (0, .ref (a 0)), (1, vI p0), (2, vI p1), (3, vI p2)]) F dX8_diary_27 (by decide) rfl ?_
        refine gz_bipush (pc := 29) F dX8_diary_29 (by decide) ?_
        refine gz_istore (pc := 31) (lv2 := [(5, vI 7), (4, vI 0), (0, .ref (a 0)), (1, vI p0), (2, vI p1), (3, vI p2)]) F dX8_diary_31 (by decide) rfl ?_
        refine gz_lv [2, 3, 4, 5, 1, 0] rfl ?_
        exact L33 _ 7 0 (Nat.lt_succ_self _) (by first | exact n2 | exact k0) (by omega) (by omega) (by omega) (by omega) (by first | rfl | (rw [hD, Dy_s _ _ (by omega), if_neg c58, if_neg (by rw [e51]; exact c71)]) | (rw [hD, Dy_s _ _ (by omega), if_neg c58, if_pos (e51.trans c71), if_neg c77]))
      · refine gz_callSX (pc := 23) (n := 3) (As := [vI p1, vI 0, vI 49]) (rest := []) (bytes := cX8_needRange) (maxL := 3) (ret := none) F FX (cx_X8_needRange l hfl D cI cJ cZ p1 0 49 (by omega) (by omega) (by omega) n23) gX8_diary_X8_needRange rfl ⟨rfl, rfl⟩ (by decide +kernel) ⟨Nat.le_of_ble_eq_true rfl, Nat.le_of_ble_eq_true rfl⟩ rfl [] rfl (by decide) rfl (Nat.le_of_ble_eq_true rfl) (by decide) gz_pF_sh dX8_diary_23 (fun _ _ h => h.elim) (fun E hE => ?_)
        subst hE
        exact ZC _ _ _ _ (Or.inr ⟨not_not_intro n2, Or.inr ⟨(by omega), Or.inl ⟨n23, rfl⟩⟩⟩)
    · exact ZT _ _ 9 xIO "no char is there" 208 210 212 (Or.inr ⟨not_not_intro n2, Or.inl ⟨(by omega), rfl⟩⟩) (by decide) (by decide) rfl iw_X8_diary_cl_IO iw_X8_diary_in_IO gd_X8_diary_IO gx_bad_IO gx_ot_IO dX8_diary_9 dX8_diary_12 dX8_diary_13 dX8_diary_15 dX8_diary_18 (by decide) (by decide) (by decide) (by decide)
  · refine gz_callVXb (pc := 2) (n := 1) (As := [vI p0]) (rest := []) (bytes := cX8_needMachine) (maxL := 2) (ret := none) F FX (cx_X8_needMachine l hfl D cI cJ cZ a r p0 hr (by omega) n2) gX8_diary_X8_needMachine rfl ⟨rfl, rfl⟩ (by decide +kernel) ⟨Nat.le_of_ble_eq_true rfl, Nat.le_of_ble_eq_true rfl⟩ rfl [] [] ((List.append_nil _).symm) 8 rfl rfl rfl (Nat.le_of_ble_eq_true rfl) (by decide) gz_pF_sh dX8_diary_2 (fun _ _ h => h.elim) (fun E hE => ?_)
    subst hE
    exact ZC _ _ _ _ (Or.inl ⟨n2, rfl⟩)
