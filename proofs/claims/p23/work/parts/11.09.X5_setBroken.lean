/-! ===== laid by wip/whole/gen/plan.py ===== -/
theorem hn_X5_setBroken_X5 : ∀ w ∈ u_ws RX5 TX5 6, w ∈ wsX5_setBroken := by decide +kernel
theorem fl_X5_setBroken_12 : Cond.fieldLink RX5 12 (TX5 0).1 (TX5 0).2.1 (TX5 0).2.2.1 ∈ wsX5_setBroken := by decide +kernel
theorem hn_X5_setBroken_X3 : ∀ w ∈ u_ws RX3 TX3 6, w ∈ wsX5_setBroken := by decide +kernel
theorem fl_X5_setBroken_91 : Cond.fieldLink RX5 91 (TX3 2).1 (TX3 2).2.1 (TX3 2).2.2.1 ∈ wsX5_setBroken := by decide +kernel
theorem fl_X5_setBroken_46 : Cond.fieldLink RX5 46 (TX5 5).1 (TX5 5).2.1 (TX5 5).2.2.1 ∈ wsX5_setBroken := by decide +kernel
theorem fl_X5_setBroken_95 : Cond.fieldLink RX5 95 (TX3 3).1 (TX3 3).2.1 (TX3 3).2.2.1 ∈ wsX5_setBroken := by decide +kernel
theorem fl_X5_setBroken_42 : Cond.fieldLink RX5 42 (TX5 4).1 (TX5 4).2.1 (TX5 4).2.2.1 ∈ wsX5_setBroken := by decide +kernel
theorem fl_X5_setBroken_98 : Cond.fieldLink RX5 98 (TX3 4).1 (TX3 4).2.1 (TX3 4).2.2.1 ∈ wsX5_setBroken := by decide +kernel
set_option maxHeartbeats 4000000 in
set_option maxRecDepth 100000 in
theorem ct_X5_setBroken (l : Launch) (D : va_G) (cI cJ cZ : ClassId) (a : Nat → Nat) (u : PlS) (p0 p1 : Int) (hu : PlI u) (h0 : -2147483648 ≤ p0 ∧ p0 < 2147483648) (h1 : zR0 p1) : gz_M l yX5_setBroken wsX5_setBroken { frames := 2, cells := 0, slots := 0, locals := 42 } D cI cJ cZ [.ref (a 0), vI p0, vI p1] (PlW cI cJ a u) (gz_pE (PlW cI cJ a (Pl_brkn u p0 p1))) := by
  refine gz_ofV (cc := cX5_setBroken) (maxL := 3) (own := RX5) (by decide) rfl rfl (Nat.le_of_ble_eq_true rfl) (lv0 := [(0, .ref (a 0)), (1, vI p0), (2, vI p1)]) rfl ?_
  intro p e s m args below meth c A Q F Z
  obtain ⟨hMc, hLo, hLv, hMt, hBu, hnw⟩ := id hu
  have hMcn := hMc.1
  have hMtn := hMt.1
  have hBun := hBu.1
  refine gz_aload_n (pc := 0) F dX5_setBroken_0 rfl 0 rfl ?_
  refine gz_get (pc := 1) (v := .ref (a 1)) F hn_X5_setBroken_X5 0 5 rfl rfl 0 (by decide) fl_X5_setBroken_12 rfl dX5_setBroken_1 ?_
  refine gz_iload_n (pc := 4) F dX5_setBroken_4 rfl 1 rfl ?_
  refine gz_callV (pc := 5) (n := 1) (As := [vI p0]) (rest := []) (bytes := cX3_knows) (maxL := 2) (ret := some .boolean) F (ct_X3_knows l D cI cJ cZ (fun i => a (i + 1)) (Pl_mc u) p0 hMc (by omega)) gX5_setBroken_X3_knows rfl ⟨rfl, rfl⟩ (by decide +kernel) ⟨Nat.le_of_ble_eq_true rfl, Nat.le_of_ble_eq_true rfl⟩ rfl [1, 2, 3, 4, 5, 6] rfl (by decide) 1 3 rfl rfl rfl (Nat.le_of_ble_eq_true rfl) ⟨Nat.zero_le _, Nat.zero_le _⟩ gz_pI_sh dX5_setBroken_5 ?_
  refine gz_kI rfl (fun r5 h5 => ?_)
  subst h5
  refine gz_if_eqb (pc := 8) (tgt := 69) F dX5_setBroken_8 (by decide) (fun c8 => ?_) (fun c8 => ?_)
  · refine Z _ _ 69 dX5_setBroken_69 ?_
    refine ⟨rfl, ?_⟩
    first | rw [Pl_brkn, if_pos c8, if_pos (by omega)] | rw [Pl_brkn, if_pos c8, if_neg (by omega)] | rw [Pl_brkn, if_neg c8]
  · refine gz_aload_n (pc := 11) F dX5_setBroken_11 rfl 0 rfl ?_
    refine gz_get (pc := 12) (v := .ref (a 1)) F hn_X5_setBroken_X5 0 5 rfl rfl 0 (by decide) fl_X5_setBroken_12 rfl dX5_setBroken_12 ?_
    refine gz_get (pc := 15) (v := .ref (a 4)) F hn_X5_setBroken_X3 1 3 rfl rfl 2 (by decide) fl_X5_setBroken_91 rfl dX5_setBroken_15 ?_
    refine gz_iload_n (pc := 18) F dX5_setBroken_18 rfl 1 rfl ?_
    refine gz_aload_n (pc := 19) F dX5_setBroken_19 rfl 0 rfl ?_
    refine gz_get (pc := 20) (v := vI (Pl_now u)) F hn_X5_setBroken_X5 0 5 rfl rfl 5 (by decide) fl_X5_setBroken_46 rfl dX5_setBroken_20 ?_
    have b20 := hnw
    refine gz_iast (pc := 23) (f := Mc_bf (Pl_mc u)) (ws2 := PlW cI cJ a (((Mc_n (Pl_mc u), Mc_fe (Pl_mc u), Mc_ow (Pl_mc u), zU (Mc_bf (Pl_mc u)) p0 (Pl_now u), Mc_bu (Pl_mc u), Mc_ru (Pl_mc u)), Pl_lo u, Pl_lv u, Pl_mt u, Pl_bu u, Pl_now u))) F 4 rfl (by omega) (by decide) rfl dX5_setBroken_23 ?_
    refine gz_aload_n (pc := 24) F dX5_setBroken_24 rfl 0 rfl ?_
    refine gz_get (pc := 25) (v := .ref (a 1)) F hn_X5_setBroken_X5 0 5 rfl rfl 0 (by decide) fl_X5_setBroken_12 rfl dX5_setBroken_25 ?_
    refine gz_get (pc := 28) (v := .ref (a 5)) F hn_X5_setBroken_X3 1 3 rfl rfl 3 (by decide) fl_X5_setBroken_95 rfl dX5_setBroken_28 ?_
    refine gz_iload_n (pc := 31) F dX5_setBroken_31 rfl 1 rfl ?_
    refine gz_aload_n (pc := 32) F dX5_setBroken_32 rfl 0 rfl ?_
    refine gz_get (pc := 33) (v := vI (Pl_now u)) F hn_X5_setBroken_X5 0 5 rfl rfl 5 (by decide) fl_X5_setBroken_46 rfl dX5_setBroken_33 ?_
    have b33 := hnw
    refine gz_iload_n (pc := 36) F dX5_setBroken_36 rfl 2 rfl ?_
    refine gz_iadd (pc := 37) F dX5_setBroken_37 ?_
    refine gz_iast (pc := 38) (f := Mc_bu (Pl_mc u)) (ws2 := PlW cI cJ a (((Mc_n (Pl_mc u), Mc_fe (Pl_mc u), Mc_ow (Pl_mc u), zU (Mc_bf (Pl_mc u)) p0 (Pl_now u), zU (Mc_bu (Pl_mc u)) p0 ((Pl_now u) + p1), Mc_ru (Pl_mc u)), Pl_lo u, Pl_lv u, Pl_mt u, Pl_bu u, Pl_now u))) F 5 rfl (by omega) (by decide) rfl dX5_setBroken_38 ?_
    refine gz_iload_n (pc := 39) F dX5_setBroken_39 rfl 2 rfl ?_
    refine gz_if_le (pc := 40) (tgt := 69) F dX5_setBroken_40 (by decide) (by omega) (fun c40 => ?_) (fun c40 => ?_)
    · refine Z _ _ 69 dX5_setBroken_69 ?_
      refine ⟨rfl, ?_⟩
      first | rw [Pl_brkn, if_pos c8, if_pos (by omega)] | rw [Pl_brkn, if_pos c8, if_neg (by omega)] | rw [Pl_brkn, if_neg c8]
    · refine gz_aload_n (pc := 43) F dX5_setBroken_43 rfl 0 rfl ?_
      refine gz_get (pc := 44) (v := .ref (a 21)) F hn_X5_setBroken_X5 0 5 rfl rfl 4 (by decide) fl_X5_setBroken_42 rfl dX5_setBroken_44 ?_
      refine gz_aload_n (pc := 47) F dX5_setBroken_47 rfl 0 rfl ?_
      refine gz_get (pc := 48) (v := .ref (a 1)) F hn_X5_setBroken_X5 0 5 rfl rfl 0 (by decide) fl_X5_setBroken_12 rfl dX5_setBroken_48 ?_
      refine gz_get (pc := 51) (v := .ref (a 6)) F hn_X5_setBroken_X3 1 3 rfl rfl 4 (by decide) fl_X5_setBroken_98 rfl dX5_setBroken_51 ?_
      refine gz_iload_n (pc := 54) F dX5_setBroken_54 rfl 1 rfl ?_
      refine gz_iald (pc := 55) (f := Mc_ru (Pl_mc u)) F 6 rfl (by omega) (by decide) dX5_setBroken_55 ?_
      have b55 := (hMc.2 p0).2.2.2.2
      refine gz_callV (pc := 56) (n := 1) (As := [vI (Mc_ru (Pl_mc u) p0)]) (rest := []) (bytes := cX0_enqueue) (maxL := 2) (ret := none) F (ct_X0_enqueue l D cI cJ cZ (fun i => a (i + 21)) (Pl_bu u) (Mc_ru (Pl_mc u) p0) hBu (by omega)) gX5_setBroken_X0_enqueue rfl ⟨rfl, rfl⟩ (by decide +kernel) ⟨Nat.le_of_ble_eq_true rfl, Nat.le_of_ble_eq_true rfl⟩ rfl [21, 22, 23, 24, 25, 26, 27, 28] rfl (by decide) 21 0 rfl rfl rfl (Nat.le_of_ble_eq_true rfl) ⟨Nat.zero_le _, Nat.zero_le _⟩ (gz_pE_sh rfl) dX5_setBroken_56 ?_
      refine gz_kE (ws2 := PlW cI cJ a (((Mc_n (Pl_mc u), Mc_fe (Pl_mc u), Mc_ow (Pl_mc u), zU (Mc_bf (Pl_mc u)) p0 (Pl_now u), zU (Mc_bu (Pl_mc u)) p0 ((Pl_now u) + p1), Mc_ru (Pl_mc u)), Pl_lo u, Pl_lv u, Pl_mt u, Bu_enq (Pl_bu u) (Mc_ru (Pl_mc u) p0), Pl_now u))) rfl ?_
      refine gz_aload_n (pc := 59) F dX5_setBroken_59 rfl 0 rfl ?_
      refine gz_get (pc := 60) (v := .ref (a 1)) F hn_X5_setBroken_X5 0 5 rfl rfl 0 (by decide) fl_X5_setBroken_12 rfl dX5_setBroken_60 ?_
      refine gz_get (pc := 63) (v := .ref (a 6)) F hn_X5_setBroken_X3 1 3 rfl rfl 4 (by decide) fl_X5_setBroken_98 rfl dX5_setBroken_63 ?_
      refine gz_iload_n (pc := 66) F dX5_setBroken_66 rfl 1 rfl ?_
      refine gz_const (pc := 67) F dX5_setBroken_67 ?_
      refine gz_iast (pc := 68) (f := Mc_ru (Pl_mc u)) (ws2 := PlW cI cJ a (((Mc_n (Pl_mc u), Mc_fe (Pl_mc u), Mc_ow (Pl_mc u), zU (Mc_bf (Pl_mc u)) p0 (Pl_now u), zU (Mc_bu (Pl_mc u)) p0 ((Pl_now u) + p1), zU (Mc_ru (Pl_mc u)) p0 (-1)), Pl_lo u, Pl_lv u, Pl_mt u, Bu_enq (Pl_bu u) (Mc_ru (Pl_mc u) p0), Pl_now u))) F 6 rfl (by omega) (by decide) rfl dX5_setBroken_68 ?_
      refine Z _ _ 69 dX5_setBroken_69 ?_
      refine ⟨rfl, ?_⟩
      first | rw [Pl_brkn, if_pos c8, if_pos (by omega)] | rw [Pl_brkn, if_pos c8, if_neg (by omega)] | rw [Pl_brkn, if_neg c8]
