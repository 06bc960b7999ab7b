/-! ===== laid by wip/whole/gen/plan.py ===== -/
theorem hn_X5_endSlot_X5 : ∀ w ∈ u_ws RX5 TX5 6, w ∈ wsX5_endSlot := by decide +kernel
theorem fl_X5_endSlot_12 : Cond.fieldLink RX5 12 (TX5 0).1 (TX5 0).2.1 (TX5 0).2.2.1 ∈ wsX5_endSlot := by decide +kernel
theorem hn_X5_endSlot_X3 : ∀ w ∈ u_ws RX3 TX3 6, w ∈ wsX5_endSlot := by decide +kernel
theorem fl_X5_endSlot_50 : Cond.fieldLink RX5 50 (TX3 5).1 (TX3 5).2.1 (TX3 5).2.2.1 ∈ wsX5_endSlot := by decide +kernel
theorem fl_X5_endSlot_35 : Cond.fieldLink RX5 35 (TX5 3).1 (TX5 3).2.1 (TX5 3).2.2.1 ∈ wsX5_endSlot := by decide +kernel
theorem fl_X5_endSlot_46 : Cond.fieldLink RX5 46 (TX5 5).1 (TX5 5).2.1 (TX5 5).2.2.1 ∈ wsX5_endSlot := by decide +kernel
theorem fl_X5_endSlot_98 : Cond.fieldLink RX5 98 (TX3 4).1 (TX3 4).2.1 (TX3 4).2.2.1 ∈ wsX5_endSlot := by decide +kernel
theorem fl_X5_endSlot_42 : Cond.fieldLink RX5 42 (TX5 4).1 (TX5 4).2.1 (TX5 4).2.2.1 ∈ wsX5_endSlot := by decide +kernel
theorem hn_X5_endSlot_X0 : ∀ w ∈ u_ws RX0 TX0 8, w ∈ wsX5_endSlot := by decide +kernel
theorem fl_X5_endSlot_118 : Cond.fieldLink RX5 118 (TX0 5).1 (TX0 5).2.1 (TX0 5).2.2.1 ∈ wsX5_endSlot := by decide +kernel
theorem fl_X5_endSlot_121 : Cond.fieldLink RX5 121 (TX0 2).1 (TX0 2).2.1 (TX0 2).2.2.1 ∈ wsX5_endSlot := by decide +kernel
theorem fl_X5_endSlot_191 : Cond.fieldLink RX5 191 (TX0 3).1 (TX0 3).2.1 (TX0 3).2.2.1 ∈ wsX5_endSlot := by decide +kernel
set_option maxHeartbeats 4000000 in
set_option maxRecDepth 100000 in
theorem ct_X5_endSlot (l : Launch) (D : va_G) (cI cJ cZ : ClassId) (a : Nat → Nat) (u : PlS) (hu : PlI u) (h4 : Pl_now u < 400) : gz_M l yX5_endSlot wsX5_endSlot { frames := 1, cells := 0, slots := 0, locals := 22 } D cI cJ cZ [.ref (a 0)] (PlW cI cJ a u) (gz_pE (PlW cI cJ a (Pl_end u))) := by
  refine gz_ofV (cc := cX5_endSlot) (maxL := 3) (own := RX5) (by decide) rfl rfl (Nat.le_of_ble_eq_true rfl) (lv0 := [(0, .ref (a 0))]) rfl ?_
  intro p e s m args below meth c A Q F Z
  obtain ⟨hMc, hLo, hLv, hMt, hBu, hnw⟩ := id hu
  have hMcn := hMc.1
  have hMtn := hMt.1
  have hBun := hBu.1
  have L12 : ∀ (N : Nat) (k : Int) (w : PlS), (6 - k).toNat < N → (PlI w) → (0 ≤ k ∧ k ≤ Mc_n (Pl_mc w)) → (w = Pl_eN (Pl_setNow u (Pl_now u + 1)) k.toNat) → gG p l e ({ frames := 1, cells := 0, slots := 0, locals := 22 } : Room) s m args below meth c D A 3 Q 0 0 (PlW cI cJ a w) [(0, .ref (a 0)), (1, vI k)] [] 12 := by
    intro N
    induction N with
    | zero => intro k w hN; exact absurd hN (Nat.not_lt_zero _)
    | succ N ih12 =>
      intro k w hN hI hk hw
      obtain ⟨hMc, hLo, hLv, hMt, hBu, hnw⟩ := id hI
      have hMcn := hMc.1
      have hMtn := hMt.1
      have hBun := hBu.1
      refine gz_iload_n (pc := 12) F dX5_endSlot_12 rfl 1 rfl ?_
      refine gz_aload_n (pc := 13) F dX5_endSlot_13 rfl 0 rfl ?_
      refine gz_get (pc := 14) (v := .ref (a 1)) F hn_X5_endSlot_X5 0 5 rfl rfl 0 (by decide) fl_X5_endSlot_12 rfl dX5_endSlot_14 ?_
      refine gz_get (pc := 17) (v := vI (Mc_n (Pl_mc w))) F hn_X5_endSlot_X3 1 3 rfl rfl 5 (by decide) fl_X5_endSlot_50 rfl dX5_endSlot_17 ?_
      have b17 := hMc.1
      refine gz_icmp_ge (pc := 20) (tgt := 96) F dX5_endSlot_20 (by decide) (by omega) (by omega) (fun c20 => ?_) (fun c20 => ?_)
      · have e96 : Mc_n (Pl_mc w) = Mc_n (Pl_mc u) := by rw [hw]; exact (Pl_eN_n _ _).1
        refine gz_aload_n (pc := 96) F dX5_endSlot_96 rfl 0 rfl ?_
        refine gz_get (pc := 97) (v := .ref (a 14)) F hn_X5_endSlot_X5 0 5 rfl rfl 3 (by decide) fl_X5_endSlot_35 rfl dX5_endSlot_97 ?_
        refine gz_aload_n (pc := 100) F dX5_endSlot_100 rfl 0 rfl ?_
        refine gz_get (pc := 101) (v := vI (Pl_now w)) F hn_X5_endSlot_X5 0 5 rfl rfl 5 (by decide) fl_X5_endSlot_46 rfl dX5_endSlot_101 ?_
        have b101 := hnw
        refine gz_callV (pc := 104) (n := 1) (As := [vI (Pl_now w)]) (rest := []) (bytes := cX4_endBy) (maxL := 3) (ret := none) F (ct_X4_endBy l D cI cJ cZ (fun i => a (i + 14)) (Pl_mt w) (Pl_now w) hMt (by omega)) gX5_endSlot_X4_endBy rfl ⟨rfl, rfl⟩ (by decide +kernel) ⟨Nat.le_of_ble_eq_true rfl, Nat.le_of_ble_eq_true rfl⟩ rfl [14, 15, 16, 17, 18, 19, 20] rfl (by decide) 14 4 rfl rfl rfl (Nat.le_of_ble_eq_true rfl) ⟨Nat.zero_le _, Nat.zero_le _⟩ (gz_pE_sh rfl) dX5_endSlot_104 ?_
        refine gz_kE (ws2 := PlW cI cJ a ((Pl_mc w, Pl_lo w, Pl_lv w, Mt_endBy (Pl_mt w) (Pl_now w), Pl_bu w, Pl_now w))) rfl ?_
        refine Z _ _ 107 dX5_endSlot_107 ?_
        refine ⟨rfl, ?_⟩
        rw [Pl_end, show (Mc_n (Pl_mc u)).toNat = k.toNat by omega, ← hw]
      · refine gz_aload_n (pc := 23) F dX5_endSlot_23 rfl 0 rfl ?_
        refine gz_get (pc := 24) (v := .ref (a 1)) F hn_X5_endSlot_X5 0 5 rfl rfl 0 (by decide) fl_X5_endSlot_12 rfl dX5_endSlot_24 ?_
        refine gz_get (pc := 27) (v := .ref (a 6)) F hn_X5_endSlot_X3 1 3 rfl rfl 4 (by decide) fl_X5_endSlot_98 rfl dX5_endSlot_27 ?_
        refine gz_iload_n (pc := 30) F dX5_endSlot_30 rfl 1 rfl ?_
        refine gz_iald (pc := 31) (f := Mc_ru (Pl_mc w)) F 6 rfl (by omega) (by decide) dX5_endSlot_31 ?_
        have b31 := (hMc.2 k).2.2.2.2
        refine gz_istore_n (pc := 32) (lv2 := [(2, vI (Mc_ru (Pl_mc w) k)), (0, .ref (a 0)), (1, vI k)]) F dX5_endSlot_32 rfl (by decide) rfl ?_
        refine gz_aload_n (pc := 33) F dX5_endSlot_33 rfl 1 rfl ?_
        refine gz_get (pc := 34) (v := .ref (a 21)) F hn_X5_endSlot_X5 0 5 rfl rfl 4 (by decide) fl_X5_endSlot_42 rfl dX5_endSlot_34 ?_
        refine gz_iload_n (pc := 37) F dX5_endSlot_37 rfl 0 rfl ?_
        refine gz_callV (pc := 38) (n := 1) (As := [vI (Mc_ru (Pl_mc w) k)]) (rest := []) (bytes := cX0_knows) (maxL := 2) (ret := some .boolean) F (ct_X0_knows l D cI cJ cZ (fun i => a (i + 21)) (Pl_bu w) (Mc_ru (Pl_mc w) k) hBu (by omega)) gX5_endSlot_X0_knows rfl ⟨rfl, rfl⟩ (by decide +kernel) ⟨Nat.le_of_ble_eq_true rfl, Nat.le_of_ble_eq_true rfl⟩ rfl [21, 22, 23, 24, 25, 26, 27, 28] rfl (by decide) 21 0 rfl rfl rfl (Nat.le_of_ble_eq_true rfl) ⟨Nat.zero_le _, Nat.zero_le _⟩ gz_pI_sh dX5_endSlot_38 ?_
        refine gz_kI rfl (fun r38 h38 => ?_)
        subst h38
        refine gz_if_eqb (pc := 41) (tgt := 90) F dX5_endSlot_41 (by decide) (fun c41 => ?_) (fun c41 => ?_)
        · refine gz_iinc (pc := 90) (lv2 := [(1, vI (k + 1)), (2, vI (Mc_ru (Pl_mc w) k)), (0, .ref (a 0))]) F dX5_endSlot_90 2 rfl (by decide) rfl ?_
          refine gz_goto (pc := 93) (tgt := 12) F dX5_endSlot_93 (by decide) ?_
          refine gz_lv [2, 0] rfl ?_
          exact ih12 (k + 1) w (by omega) (by first | exact Pl_setNow_I hu (by omega) | exact hI | (have h9 := Pl_e1_I hI k; rw [Pl_e1_yes c41 c67] at h9; exact h9)) (by first | omega | (show (0 : Int) ≤ 0 ∧ (0 : Int) ≤ Mc_n (Pl_mc u); omega) | (show 0 ≤ k + 1 ∧ k + 1 ≤ Mc_n (Pl_mc w); omega)) (by first | rfl | (rw [← Pl_eN_s hk.1 hw, Pl_e1_no1 c41]) | (rw [← Pl_eN_s hk.1 hw, Pl_e1_yes c41 c67]) | (rw [← Pl_eN_s hk.1 hw, Pl_e1_no2 c67]))
        · refine gz_aload_n (pc := 44) F dX5_endSlot_44 rfl 1 rfl ?_
          refine gz_get (pc := 45) (v := .ref (a 21)) F hn_X5_endSlot_X5 0 5 rfl rfl 4 (by decide) fl_X5_endSlot_42 rfl dX5_endSlot_45 ?_
          refine gz_get (pc := 48) (v := .ref (a 27)) F hn_X5_endSlot_X0 21 0 rfl rfl 5 (by decide) fl_X5_endSlot_118 rfl dX5_endSlot_48 ?_
          refine gz_iload_n (pc := 51) F dX5_endSlot_51 rfl 0 rfl ?_
          refine gz_iald (pc := 52) (f := Bu_bg (Pl_bu w)) F 27 rfl (by omega) (by decide) dX5_endSlot_52 ?_
          have b52 := (hBu.2 (Mc_ru (Pl_mc w) k)).2.2.2.2.2
          refine gz_aload_n (pc := 53) F dX5_endSlot_53 rfl 1 rfl ?_
          refine gz_get (pc := 54) (v := .ref (a 21)) F hn_X5_endSlot_X5 0 5 rfl rfl 4 (by decide) fl_X5_endSlot_42 rfl dX5_endSlot_54 ?_
          refine gz_get (pc := 57) (v := .ref (a 24)) F hn_X5_endSlot_X0 21 0 rfl rfl 2 (by decide) fl_X5_endSlot_121 rfl dX5_endSlot_57 ?_
          refine gz_iload_n (pc := 60) F dX5_endSlot_60 rfl 0 rfl ?_
          refine gz_iald (pc := 61) (f := Bu_ln (Pl_bu w)) F 24 rfl (by omega) (by decide) dX5_endSlot_61 ?_
          have b61 := (hBu.2 (Mc_ru (Pl_mc w) k)).2.2.1
          refine gz_iadd (pc := 62) F dX5_endSlot_62 ?_
          refine gz_aload_n (pc := 63) F dX5_endSlot_63 rfl 1 rfl ?_
          refine gz_get (pc := 64) (v := vI (Pl_now w)) F hn_X5_endSlot_X5 0 5 rfl rfl 5 (by decide) fl_X5_endSlot_46 rfl dX5_endSlot_64 ?_
          have b64 := hnw
          refine gz_icmp_gt (pc := 67) (tgt := 90) F dX5_endSlot_67 (by decide) (by omega) (by omega) (fun c67 => ?_) (fun c67 => ?_)
          · refine gz_iinc (pc := 90) (lv2 := [(1, vI (k + 1)), (2, vI (Mc_ru (Pl_mc w) k)), (0, .ref (a 0))]) F dX5_endSlot_90 2 rfl (by decide) rfl ?_
            refine gz_goto (pc := 93) (tgt := 12) F dX5_endSlot_93 (by decide) ?_
            refine gz_lv [2, 0] rfl ?_
            exact ih12 (k + 1) w (by omega) (by first | exact Pl_setNow_I hu (by omega) | exact hI | (have h9 := Pl_e1_I hI k; rw [Pl_e1_yes c41 c67] at h9; exact h9)) (by first | omega | (show (0 : Int) ≤ 0 ∧ (0 : Int) ≤ Mc_n (Pl_mc u); omega) | (show 0 ≤ k + 1 ∧ k + 1 ≤ Mc_n (Pl_mc w); omega)) (by first | rfl | (rw [← Pl_eN_s hk.1 hw, Pl_e1_no1 c41]) | (rw [← Pl_eN_s hk.1 hw, Pl_e1_yes c41 c67]) | (rw [← Pl_eN_s hk.1 hw, Pl_e1_no2 c67]))
          · refine gz_aload_n (pc := 70) F dX5_endSlot_70 rfl 1 rfl ?_
            refine gz_get (pc := 71) (v := .ref (a 21)) F hn_X5_endSlot_X5 0 5 rfl rfl 4 (by decide) fl_X5_endSlot_42 rfl dX5_endSlot_71 ?_
            refine gz_get (pc := 74) (v := .ref (a 25)) F hn_X5_endSlot_X0 21 0 rfl rfl 3 (by decide) fl_X5_endSlot_191 rfl dX5_endSlot_74 ?_
            refine gz_iload_n (pc := 77) F dX5_endSlot_77 rfl 0 rfl ?_
            refine gz_const (pc := 78) F dX5_endSlot_78 ?_
            refine gz_iast (pc := 79) (f := Bu_st (Pl_bu w)) (ws2 := PlW cI cJ a ((Pl_mc w, Pl_lo w, Pl_lv w, Pl_mt w, (Bu_n (Pl_bu w), Bu_ne (Pl_bu w), Bu_ur (Pl_bu w), Bu_ln (Pl_bu w), zU (Bu_st (Pl_bu w)) (Mc_ru (Pl_mc w) k) 2, Bu_ma (Pl_bu w), Bu_bg (Pl_bu w), Bu_ti (Pl_bu w)), Pl_now w))) F 25 rfl (by omega) (by decide) rfl dX5_endSlot_79 ?_
            refine gz_aload_n (pc := 80) F dX5_endSlot_80 rfl 1 rfl ?_
            refine gz_get (pc := 81) (v := .ref (a 1)) F hn_X5_endSlot_X5 0 5 rfl rfl 0 (by decide) fl_X5_endSlot_12 rfl dX5_endSlot_81 ?_
            refine gz_get (pc := 84) (v := .ref (a 6)) F hn_X5_endSlot_X3 1 3 rfl rfl 4 (by decide) fl_X5_endSlot_98 rfl dX5_endSlot_84 ?_
            refine gz_iload_n (pc := 87) F dX5_endSlot_87 rfl 2 rfl ?_
            refine gz_const (pc := 88) F dX5_endSlot_88 ?_
            refine gz_iast (pc := 89) (f := Mc_ru (Pl_mc w)) (ws2 := PlW cI cJ a (((Mc_n (Pl_mc w), Mc_fe (Pl_mc w), Mc_ow (Pl_mc w), Mc_bf (Pl_mc w), Mc_bu (Pl_mc w), zU (Mc_ru (Pl_mc w)) k (-1)), Pl_lo w, Pl_lv w, Pl_mt w, (Bu_n (Pl_bu w), Bu_ne (Pl_bu w), Bu_ur (Pl_bu w), Bu_ln (Pl_bu w), zU (Bu_st (Pl_bu w)) (Mc_ru (Pl_mc w) k) 2, Bu_ma (Pl_bu w), Bu_bg (Pl_bu w), Bu_ti (Pl_bu w)), Pl_now w))) F 6 rfl (by omega) (by decide) rfl dX5_endSlot_89 ?_
            refine gz_iinc (pc := 90) (lv2 := [(1, vI (k + 1)), (2, vI (Mc_ru (Pl_mc w) k)), (0, .ref (a 0))]) F dX5_endSlot_90 2 rfl (by decide) rfl ?_
            refine gz_goto (pc := 93) (tgt := 12) F dX5_endSlot_93 (by decide) ?_
            refine gz_lv [2, 0] rfl ?_
            exact ih12 (k + 1) (((Mc_n (Pl_mc w), Mc_fe (Pl_mc w), Mc_ow (Pl_mc w), Mc_bf (Pl_mc w), Mc_bu (Pl_mc w), zU (Mc_ru (Pl_mc w)) k (-1)), Pl_lo w, Pl_lv w, Pl_mt w, (Bu_n (Pl_bu w), Bu_ne (Pl_bu w), Bu_ur (Pl_bu w), Bu_ln (Pl_bu w), zU (Bu_st (Pl_bu w)) (Mc_ru (Pl_mc w) k) 2, Bu_ma (Pl_bu w), Bu_bg (Pl_bu w), Bu_ti (Pl_bu w)), Pl_now w)) (by omega) (by first | exact Pl_setNow_I hu (by omega) | exact hI | (have h9 := Pl_e1_I hI k; rw [Pl_e1_yes c41 c67] at h9; exact h9)) (by first | omega | (show (0 : Int) ≤ 0 ∧ (0 : Int) ≤ Mc_n (Pl_mc u); omega) | (show 0 ≤ k + 1 ∧ k + 1 ≤ Mc_n (Pl_mc w); omega)) (by first | rfl | (rw [← Pl_eN_s hk.1 hw, Pl_e1_no1 c41]) | (rw [← Pl_eN_s hk.1 hw, Pl_e1_yes c41 c67]) | (rw [← Pl_eN_s hk.1 hw, Pl_e1_no2 c67]))
  refine gz_aload_n (pc := 0) F dX5_endSlot_0 rfl 0 rfl ?_
  refine gz_dup (pc := 1) F dX5_endSlot_1 rfl ?_
  refine gz_get (pc := 2) (v := vI (Pl_now u)) F hn_X5_endSlot_X5 0 5 rfl rfl 5 (by decide) fl_X5_endSlot_46 rfl dX5_endSlot_2 ?_
  have b2 := hnw
  refine gz_const (pc := 5) F dX5_endSlot_5 ?_
  refine gz_iadd (pc := 6) F dX5_endSlot_6 ?_
  refine gz_put (pc := 7) (ws2 := PlW cI cJ a ((Pl_mc u, Pl_lo u, Pl_lv u, Pl_mt u, Pl_bu u, (Pl_now u) + 1))) F hn_X5_endSlot_X5 tyX5 tyX5_ok nmX5 0 5 rfl rfl 5 (by decide) fl_X5_endSlot_46 rfl (ty := .int) rfl rfl rfl (Nat.le_of_ble_eq_true rfl) rfl dX5_endSlot_7 ?_
  refine gz_const (pc := 10) F dX5_endSlot_10 ?_
  refine gz_istore_n (pc := 11) (lv2 := [(1, vI 0), (0, .ref (a 0))]) F dX5_endSlot_11 rfl (by decide) rfl ?_
  refine gz_lv [1, 0] rfl ?_
  exact L12 _ 0 ((Pl_mc u, Pl_lo u, Pl_lv u, Pl_mt u, Pl_bu u, (Pl_now u) + 1)) (Nat.lt_succ_self _) (by first | exact Pl_setNow_I hu (by omega) | exact hI | (have h9 := Pl_e1_I hI k; rw [Pl_e1_yes c41 c67] at h9; exact h9)) (by first | omega | (show (0 : Int) ≤ 0 ∧ (0 : Int) ≤ Mc_n (Pl_mc u); omega) | (show 0 ≤ k + 1 ∧ k + 1 ≤ Mc_n (Pl_mc w); omega)) (by first | rfl | (rw [← Pl_eN_s hk.1 hw, Pl_e1_no1 c41]) | (rw [← Pl_eN_s hk.1 hw, Pl_e1_yes c41 c67]) | (rw [← Pl_eN_s hk.1 hw, Pl_e1_no2 c67]))
