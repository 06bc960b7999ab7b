/-! ===== laid by wip/whole/gen/plan.py ===== -/
theorem hn_X5_beginOn_X5 : ∀ w ∈ u_ws RX5 TX5 6, w ∈ wsX5_beginOn := by decide +kernel
theorem fl_X5_beginOn_12 : Cond.fieldLink RX5 12 (TX5 0).1 (TX5 0).2.1 (TX5 0).2.2.1 ∈ wsX5_beginOn := by decide +kernel
theorem hn_X5_beginOn_X3 : ∀ w ∈ u_ws RX3 TX3 6, w ∈ wsX5_beginOn := by decide +kernel
theorem fl_X5_beginOn_98 : Cond.fieldLink RX5 98 (TX3 4).1 (TX3 4).2.1 (TX3 4).2.2.1 ∈ wsX5_beginOn := by decide +kernel
theorem fl_X5_beginOn_173 : Cond.fieldLink RX5 173 (TX3 0).1 (TX3 0).2.1 (TX3 0).2.2.1 ∈ wsX5_beginOn := by decide +kernel
theorem fl_X5_beginOn_42 : Cond.fieldLink RX5 42 (TX5 4).1 (TX5 4).2.1 (TX5 4).2.2.1 ∈ wsX5_beginOn := by decide +kernel
theorem fl_X5_beginOn_46 : Cond.fieldLink RX5 46 (TX5 5).1 (TX5 5).2.1 (TX5 5).2.2.1 ∈ wsX5_beginOn := by decide +kernel
set_option maxHeartbeats 4000000 in
set_option maxRecDepth 100000 in
theorem ct_X5_beginOn (l : Launch) (D : va_G) (cI cJ cZ : ClassId) (a : Nat → Nat) (u : PlS) (p0 : Int) (hu : PlI u) (h0 : zR p0) : gz_M l yX5_beginOn wsX5_beginOn { frames := 3, cells := 0, slots := 0, locals := 71 } D cI cJ cZ [.ref (a 0), vI p0] (PlW cI cJ a u) (gz_pE (PlW cI cJ a (Pl_beg u p0))) := by
  refine gz_ofV (cc := cX5_beginOn) (maxL := 4) (own := RX5) (by decide) rfl rfl (Nat.le_of_ble_eq_true rfl) (lv0 := [(0, .ref (a 0)), (1, vI p0)]) rfl ?_
  intro p e s m args below meth c A Q F Z
  obtain ⟨hMc, hLo, hLv, hMt, hBu, hnw⟩ := id hu
  have hMcn := hMc.1
  have hMtn := hMt.1
  have hBun := hBu.1
  refine gz_aload_n (pc := 0) F dX5_beginOn_0 rfl 0 rfl ?_
  refine gz_get (pc := 1) (v := .ref (a 1)) F hn_X5_beginOn_X5 0 5 rfl rfl 0 (by decide) fl_X5_beginOn_12 rfl dX5_beginOn_1 ?_
  refine gz_iload_n (pc := 4) F dX5_beginOn_4 rfl 1 rfl ?_
  refine gz_callV (pc := 5) (n := 1) (As := [vI p0]) (rest := []) (bytes := cX3_knows) (maxL := 2) (ret := some .boolean) F (ct_X3_knows l D cI cJ cZ (fun i => a (i + 1)) (Pl_mc u) p0 hMc (by omega)) gX5_beginOn_X3_knows rfl ⟨rfl, rfl⟩ (by decide +kernel) ⟨Nat.le_of_ble_eq_true rfl, Nat.le_of_ble_eq_true rfl⟩ rfl [1, 2, 3, 4, 5, 6] rfl (by decide) 1 3 rfl rfl rfl (Nat.le_of_ble_eq_true rfl) ⟨Nat.zero_le _, Nat.zero_le _⟩ gz_pI_sh dX5_beginOn_5 ?_
  refine gz_kI rfl (fun r5 h5 => ?_)
  subst h5
  refine gz_if_eqb (pc := 8) (tgt := 24) F dX5_beginOn_8 (by decide) (fun c8 => ?_) (fun c8 => ?_)
  · refine Z _ _ 24 dX5_beginOn_24 ?_
    refine ⟨rfl, ?_⟩
    first | rw [Pl_beg_no (Pl_pick_1 c8)] | rw [Pl_beg_no (Pl_pick_2 c21)]
  · refine gz_aload_n (pc := 11) F dX5_beginOn_11 rfl 0 rfl ?_
    refine gz_get (pc := 12) (v := .ref (a 1)) F hn_X5_beginOn_X5 0 5 rfl rfl 0 (by decide) fl_X5_beginOn_12 rfl dX5_beginOn_12 ?_
    refine gz_get (pc := 15) (v := .ref (a 6)) F hn_X5_beginOn_X3 1 3 rfl rfl 4 (by decide) fl_X5_beginOn_98 rfl dX5_beginOn_15 ?_
    refine gz_iload_n (pc := 18) F dX5_beginOn_18 rfl 1 rfl ?_
    refine gz_iald (pc := 19) (f := Mc_ru (Pl_mc u)) F 6 rfl (by omega) (by decide) dX5_beginOn_19 ?_
    have b19 := (hMc.2 p0).2.2.2.2
    refine gz_const (pc := 20) F dX5_beginOn_20 ?_
    refine gz_icmp_eq (pc := 21) (tgt := 25) F dX5_beginOn_21 (by decide) (by omega) (by omega) (fun c21 => ?_) (fun c21 => ?_)
    · refine gz_aload_n (pc := 25) F dX5_beginOn_25 rfl 0 rfl ?_
      refine gz_get (pc := 26) (v := .ref (a 1)) F hn_X5_beginOn_X5 0 5 rfl rfl 0 (by decide) fl_X5_beginOn_12 rfl dX5_beginOn_26 ?_
      refine gz_get (pc := 29) (v := .ref (a 2)) F hn_X5_beginOn_X3 1 3 rfl rfl 0 (by decide) fl_X5_beginOn_173 rfl dX5_beginOn_29 ?_
      refine gz_iload_n (pc := 32) F dX5_beginOn_32 rfl 1 rfl ?_
      refine gz_iald (pc := 33) (f := Mc_fe (Pl_mc u)) F 2 rfl (by omega) (by decide) dX5_beginOn_33 ?_
      have b33 := (hMc.2 p0).1
      refine gz_istore_n (pc := 34) (lv2 := [(2, vI (Mc_fe (Pl_mc u) p0)), (0, .ref (a 0)), (1, vI p0)]) F dX5_beginOn_34 rfl (by decide) rfl ?_
      refine gz_aload_n (pc := 35) F dX5_beginOn_35 rfl 1 rfl ?_
      refine gz_get (pc := 36) (v := .ref (a 21)) F hn_X5_beginOn_X5 0 5 rfl rfl 4 (by decide) fl_X5_beginOn_42 rfl dX5_beginOn_36 ?_
      refine gz_iload_n (pc := 39) F dX5_beginOn_39 rfl 0 rfl ?_
      refine gz_bipush (pc := 40) F dX5_beginOn_40 (by decide) ?_
      refine gz_callV (pc := 42) (n := 2) (As := [vI (Mc_fe (Pl_mc u) p0), vI 6]) (rest := []) (bytes := cX0_mostUrgent) (maxL := 5) (ret := some .int) F (ct_X0_mostUrgent l D cI cJ cZ (fun i => a (i + 21)) (Pl_bu u) (Mc_fe (Pl_mc u) p0) 6 hBu (by omega) (by omega)) gX5_beginOn_X0_mostUrgent rfl ⟨rfl, rfl⟩ (by decide +kernel) ⟨Nat.le_of_ble_eq_true rfl, Nat.le_of_ble_eq_true rfl⟩ rfl [21, 22, 23, 24, 25, 26, 27, 28] rfl (by decide) 21 0 rfl rfl rfl (Nat.le_of_ble_eq_true rfl) ⟨Nat.zero_le _, Nat.zero_le _⟩ gz_pI_sh dX5_beginOn_42 ?_
      refine gz_kI rfl (fun r42 h42 => ?_)
      subst h42
      have b42 := Bu_best_r hBu (Mc_fe (Pl_mc u) p0) 6
      refine gz_const (pc := 45) F dX5_beginOn_45 ?_
      refine gz_icmp_eq (pc := 46) (tgt := 91) F dX5_beginOn_46 (by decide) (by omega) (by omega) (fun c46 => ?_) (fun c46 => ?_)
      · refine Z _ _ 91 dX5_beginOn_91 ?_
        refine ⟨rfl, ?_⟩
        first | rw [Pl_beg_no (Pl_pick_1 c8)] | rw [Pl_beg_no (Pl_pick_3 c46)] | rw [Pl_beg_no ((Pl_pick_4 c8 c21 c46).trans c65)] | rw [Pl_beg_yes (Pl_pick_4 c8 c21 c46) c65]
      · refine gz_aload_n (pc := 49) F dX5_beginOn_49 rfl 1 rfl ?_
        refine gz_get (pc := 50) (v := .ref (a 21)) F hn_X5_beginOn_X5 0 5 rfl rfl 4 (by decide) fl_X5_beginOn_42 rfl dX5_beginOn_50 ?_
        refine gz_iload_n (pc := 53) F dX5_beginOn_53 rfl 0 rfl ?_
        refine gz_aload_n (pc := 54) F dX5_beginOn_54 rfl 1 rfl ?_
        refine gz_iload_n (pc := 55) F dX5_beginOn_55 rfl 2 rfl ?_
        refine gz_callVb (pc := 56) (n := 1) (As := [vI p0]) (rest := [vI (Mc_fe (Pl_mc u) p0), .ref (a 21)]) (bytes := cX5_freeSlots) (maxL := 4) (ret := some .int) F (ct_X5_freeSlots l D cI cJ cZ a u p0 hu (by omega)) gX5_beginOn_X5_freeSlots rfl ⟨rfl, rfl⟩ (by decide +kernel) ⟨Nat.le_of_ble_eq_true rfl, Nat.le_of_ble_eq_true rfl⟩ rfl [] [] (List.append_nil _).symm 5 rfl rfl rfl (Nat.le_of_ble_eq_true rfl) ⟨Nat.zero_le _, Nat.zero_le _⟩ gz_pI_sh dX5_beginOn_56 ?_
        refine gz_kIb (List.append_nil _) (fun r56 h56 => ?_)
        subst h56
        have b56 := Pl_free_r u p0
        refine gz_callV (pc := 59) (n := 2) (As := [vI (Mc_fe (Pl_mc u) p0), vI (Pl_free u p0)]) (rest := []) (bytes := cX0_mostUrgent) (maxL := 5) (ret := some .int) F (ct_X0_mostUrgent l D cI cJ cZ (fun i => a (i + 21)) (Pl_bu u) (Mc_fe (Pl_mc u) p0) (Pl_free u p0) hBu (by omega) (by omega)) gX5_beginOn_X0_mostUrgent rfl ⟨rfl, rfl⟩ (by decide +kernel) ⟨Nat.le_of_ble_eq_true rfl, Nat.le_of_ble_eq_true rfl⟩ rfl [21, 22, 23, 24, 25, 26, 27, 28] rfl (by decide) 21 0 rfl rfl rfl (Nat.le_of_ble_eq_true rfl) ⟨Nat.zero_le _, Nat.zero_le _⟩ gz_pI_sh dX5_beginOn_59 ?_
        refine gz_kI rfl (fun r59 h59 => ?_)
        subst h59
        have b59 := Bu_best_r hBu (Mc_fe (Pl_mc u) p0) (Pl_free u p0)
        refine gz_istore_n (pc := 62) (lv2 := [(3, vI (Bu_best (Pl_bu u) (Mc_fe (Pl_mc u) p0) (Pl_free u p0))), (2, vI (Mc_fe (Pl_mc u) p0)), (0, .ref (a 0)), (1, vI p0)]) F dX5_beginOn_62 rfl (by decide) rfl ?_
        refine gz_iload_n (pc := 63) F dX5_beginOn_63 rfl 0 rfl ?_
        refine gz_const (pc := 64) F dX5_beginOn_64 ?_
        refine gz_icmp_eq (pc := 65) (tgt := 91) F dX5_beginOn_65 (by decide) (by omega) (by omega) (fun c65 => ?_) (fun c65 => ?_)
        · refine Z _ _ 91 dX5_beginOn_91 ?_
          refine ⟨rfl, ?_⟩
          first | rw [Pl_beg_no (Pl_pick_1 c8)] | rw [Pl_beg_no (Pl_pick_3 c46)] | rw [Pl_beg_no ((Pl_pick_4 c8 c21 c46).trans c65)] | rw [Pl_beg_yes (Pl_pick_4 c8 c21 c46) c65]
        · refine gz_aload_n (pc := 68) F dX5_beginOn_68 rfl 2 rfl ?_
          refine gz_get (pc := 69) (v := .ref (a 21)) F hn_X5_beginOn_X5 0 5 rfl rfl 4 (by decide) fl_X5_beginOn_42 rfl dX5_beginOn_69 ?_
          refine gz_iload_n (pc := 72) F dX5_beginOn_72 rfl 0 rfl ?_
          refine gz_iload_n (pc := 73) F dX5_beginOn_73 rfl 3 rfl ?_
          refine gz_aload_n (pc := 74) F dX5_beginOn_74 rfl 2 rfl ?_
          refine gz_get (pc := 75) (v := vI (Pl_now u)) F hn_X5_beginOn_X5 0 5 rfl rfl 5 (by decide) fl_X5_beginOn_46 rfl dX5_beginOn_75 ?_
          have b75 := hnw
          refine gz_callV (pc := 78) (n := 3) (As := [vI (Bu_best (Pl_bu u) (Mc_fe (Pl_mc u) p0) (Pl_free u p0)), vI p0, vI (Pl_now u)]) (rest := []) (bytes := cX0_begin) (maxL := 4) (ret := none) F (ct_X0_begin l D cI cJ cZ (fun i => a (i + 21)) (Pl_bu u) (Bu_best (Pl_bu u) (Mc_fe (Pl_mc u) p0) (Pl_free u p0)) p0 (Pl_now u) hBu (by omega)) gX5_beginOn_X0_begin rfl ⟨rfl, rfl⟩ (by decide +kernel) ⟨Nat.le_of_ble_eq_true rfl, Nat.le_of_ble_eq_true rfl⟩ rfl [21, 22, 23, 24, 25, 26, 27, 28] rfl (by decide) 21 0 rfl rfl rfl (Nat.le_of_ble_eq_true rfl) ⟨Nat.zero_le _, Nat.zero_le _⟩ (gz_pE_sh rfl) dX5_beginOn_78 ?_
          refine gz_kE (ws2 := PlW cI cJ a ((Pl_mc u, Pl_lo u, Pl_lv u, Pl_mt u, Bu_beg (Pl_bu u) (Bu_best (Pl_bu u) (Mc_fe (Pl_mc u) p0) (Pl_free u p0)) p0 (Pl_now u), Pl_now u))) rfl ?_
          refine gz_aload_n (pc := 81) F dX5_beginOn_81 rfl 2 rfl ?_
          refine gz_get (pc := 82) (v := .ref (a 1)) F hn_X5_beginOn_X5 0 5 rfl rfl 0 (by decide) fl_X5_beginOn_12 rfl dX5_beginOn_82 ?_
          refine gz_get (pc := 85) (v := .ref (a 6)) F hn_X5_beginOn_X3 1 3 rfl rfl 4 (by decide) fl_X5_beginOn_98 rfl dX5_beginOn_85 ?_
          refine gz_iload_n (pc := 88) F dX5_beginOn_88 rfl 3 rfl ?_
          refine gz_iload_n (pc := 89) F dX5_beginOn_89 rfl 0 rfl ?_
          refine gz_iast (pc := 90) (f := Mc_ru (Pl_mc u)) (ws2 := PlW cI cJ a (((Mc_n (Pl_mc u), Mc_fe (Pl_mc u), Mc_ow (Pl_mc u), Mc_bf (Pl_mc u), Mc_bu (Pl_mc u), zU (Mc_ru (Pl_mc u)) p0 (Bu_best (Pl_bu u) (Mc_fe (Pl_mc u) p0) (Pl_free u p0))), Pl_lo u, Pl_lv u, Pl_mt u, Bu_beg (Pl_bu u) (Bu_best (Pl_bu u) (Mc_fe (Pl_mc u) p0) (Pl_free u p0)) p0 (Pl_now u), Pl_now u))) F 6 rfl (by omega) (by decide) rfl dX5_beginOn_90 ?_
          refine Z _ _ 91 dX5_beginOn_91 ?_
          refine ⟨rfl, ?_⟩
          first | rw [Pl_beg_no (Pl_pick_1 c8)] | rw [Pl_beg_no (Pl_pick_3 c46)] | rw [Pl_beg_no ((Pl_pick_4 c8 c21 c46).trans c65)] | rw [Pl_beg_yes (Pl_pick_4 c8 c21 c46) c65]
    · refine Z _ _ 24 dX5_beginOn_24 ?_
      refine ⟨rfl, ?_⟩
      first | rw [Pl_beg_no (Pl_pick_1 c8)] | rw [Pl_beg_no (Pl_pick_2 c21)]
