/-! ===== laid by wip/whole/gen/plan.py ===== -/
theorem hn_X5_clear_X5 : ∀ w ∈ u_ws RX5 TX5 6, w ∈ wsX5_clear := by decide +kernel
theorem fl_X5_clear_12 : Cond.fieldLink RX5 12 (TX5 0).1 (TX5 0).2.1 (TX5 0).2.2.1 ∈ wsX5_clear := by decide +kernel
theorem hn_X5_clear_X3 : ∀ w ∈ u_ws RX3 TX3 6, w ∈ wsX5_clear := by decide +kernel
theorem fl_X5_clear_50 : Cond.fieldLink RX5 50 (TX3 5).1 (TX3 5).2.1 (TX3 5).2.2.1 ∈ wsX5_clear := by decide +kernel
theorem fl_X5_clear_21 : Cond.fieldLink RX5 21 (TX5 1).1 (TX5 1).2.1 (TX5 1).2.2.1 ∈ wsX5_clear := by decide +kernel
theorem hn_X5_clear_X2 : ∀ w ∈ u_ws RX2 TX2 5, w ∈ wsX5_clear := by decide +kernel
theorem fl_X5_clear_53 : Cond.fieldLink RX5 53 (TX2 4).1 (TX2 4).2.1 (TX2 4).2.2.1 ∈ wsX5_clear := by decide +kernel
theorem fl_X5_clear_28 : Cond.fieldLink RX5 28 (TX5 2).1 (TX5 2).2.1 (TX5 2).2.2.1 ∈ wsX5_clear := by decide +kernel
theorem fl_X5_clear_35 : Cond.fieldLink RX5 35 (TX5 3).1 (TX5 3).2.1 (TX5 3).2.2.1 ∈ wsX5_clear := by decide +kernel
theorem hn_X5_clear_X4 : ∀ w ∈ u_ws RX4 TX4 7, w ∈ wsX5_clear := by decide +kernel
theorem fl_X5_clear_57 : Cond.fieldLink RX5 57 (TX4 6).1 (TX4 6).2.1 (TX4 6).2.2.1 ∈ wsX5_clear := by decide +kernel
theorem fl_X5_clear_42 : Cond.fieldLink RX5 42 (TX5 4).1 (TX5 4).2.1 (TX5 4).2.2.1 ∈ wsX5_clear := by decide +kernel
theorem hn_X5_clear_X0 : ∀ w ∈ u_ws RX0 TX0 8, w ∈ wsX5_clear := by decide +kernel
theorem fl_X5_clear_58 : Cond.fieldLink RX5 58 (TX0 7).1 (TX0 7).2.1 (TX0 7).2.2.1 ∈ wsX5_clear := by decide +kernel
theorem fl_X5_clear_46 : Cond.fieldLink RX5 46 (TX5 5).1 (TX5 5).2.1 (TX5 5).2.2.1 ∈ wsX5_clear := by decide +kernel
set_option maxHeartbeats 4000000 in
set_option maxRecDepth 100000 in
theorem ct_X5_clear (l : Launch) (D : va_G) (cI cJ cZ : ClassId) (a : Nat → Nat) (u : PlS) (hu : PlI u)  : gz_M l yX5_clear wsX5_clear { frames := 1, cells := 0, slots := 0, locals := 21 } D cI cJ cZ [.ref (a 0)] (PlW cI cJ a u) (gz_pE (PlW cI cJ a (Pl_clear u))) := by
  refine gz_ofV (cc := cX5_clear) (maxL := 1) (own := RX5) (by decide) rfl rfl (Nat.le_of_ble_eq_true rfl) (lv0 := [(0, .ref (a 0))]) rfl ?_
  intro p e s m args below meth c A Q F Z
  obtain ⟨hMc, hLo, hLv, hMt, hBu, hnw⟩ := id hu
  have hMcn := hMc.1
  have hMtn := hMt.1
  have hBun := hBu.1
  refine gz_aload_n (pc := 0) F dX5_clear_0 rfl 0 rfl ?_
  refine gz_get (pc := 1) (v := .ref (a 1)) F hn_X5_clear_X5 0 5 rfl rfl 0 (by decide) fl_X5_clear_12 rfl dX5_clear_1 ?_
  refine gz_const (pc := 4) F dX5_clear_4 ?_
  refine gz_put (pc := 5) (ws2 := PlW cI cJ a (((0, Mc_fe (Pl_mc u), Mc_ow (Pl_mc u), Mc_bf (Pl_mc u), Mc_bu (Pl_mc u), Mc_ru (Pl_mc u)), Pl_lo u, Pl_lv u, Pl_mt u, Pl_bu u, Pl_now u))) F hn_X5_clear_X3 tyX3 tyX3_ok nmX3 1 3 rfl rfl 5 (by decide) fl_X5_clear_50 rfl (ty := .int) rfl rfl rfl (Nat.le_of_ble_eq_true rfl) rfl dX5_clear_5 ?_
  refine gz_aload_n (pc := 8) F dX5_clear_8 rfl 0 rfl ?_
  refine gz_get (pc := 9) (v := .ref (a 7)) F hn_X5_clear_X5 0 5 rfl rfl 1 (by decide) fl_X5_clear_21 rfl dX5_clear_9 ?_
  refine gz_const (pc := 12) F dX5_clear_12 ?_
  refine gz_put (pc := 13) (ws2 := PlW cI cJ a (((0, Mc_fe (Pl_mc u), Mc_ow (Pl_mc u), Mc_bf (Pl_mc u), Mc_bu (Pl_mc u), Mc_ru (Pl_mc u)), (0, Lo_ma (Pl_lo u), Lo_pe (Pl_lo u), Lo_fr (Pl_lo u), Lo_to (Pl_lo u)), Pl_lv u, Pl_mt u, Pl_bu u, Pl_now u))) F hn_X5_clear_X2 tyX2 tyX2_ok nmX2 7 2 rfl rfl 4 (by decide) fl_X5_clear_53 rfl (ty := .int) rfl rfl rfl (Nat.le_of_ble_eq_true rfl) rfl dX5_clear_13 ?_
  refine gz_aload_n (pc := 16) F dX5_clear_16 rfl 0 rfl ?_
  refine gz_get (pc := 17) (v := .ref (a 12)) F hn_X5_clear_X5 0 5 rfl rfl 2 (by decide) fl_X5_clear_28 rfl dX5_clear_17 ?_
  refine gz_callV (pc := 20) (n := 0) (As := []) (rest := []) (bytes := cX1_clear) (maxL := 2) (ret := none) F (ct_X1_clear l D cI cJ cZ (fun i => a (i + 12)) (Pl_lv u)  hLv ) gX5_clear_X1_clear rfl ⟨rfl, rfl⟩ (by decide +kernel) ⟨Nat.le_of_ble_eq_true rfl, Nat.le_of_ble_eq_true rfl⟩ rfl [12, 13] rfl (by decide) 12 1 rfl rfl rfl (Nat.le_of_ble_eq_true rfl) ⟨Nat.zero_le _, Nat.zero_le _⟩ (gz_pE_sh rfl) dX5_clear_20 ?_
  refine gz_kE (ws2 := PlW cI cJ a (((0, Mc_fe (Pl_mc u), Mc_ow (Pl_mc u), Mc_bf (Pl_mc u), Mc_bu (Pl_mc u), Mc_ru (Pl_mc u)), (0, Lo_ma (Pl_lo u), Lo_pe (Pl_lo u), Lo_fr (Pl_lo u), Lo_to (Pl_lo u)), Lv_clear (Pl_lv u) 10, Pl_mt u, Pl_bu u, Pl_now u))) rfl ?_
  refine gz_aload_n (pc := 23) F dX5_clear_23 rfl 0 rfl ?_
  refine gz_get (pc := 24) (v := .ref (a 14)) F hn_X5_clear_X5 0 5 rfl rfl 3 (by decide) fl_X5_clear_35 rfl dX5_clear_24 ?_
  refine gz_const (pc := 27) F dX5_clear_27 ?_
  refine gz_put (pc := 28) (ws2 := PlW cI cJ a (((0, Mc_fe (Pl_mc u), Mc_ow (Pl_mc u), Mc_bf (Pl_mc u), Mc_bu (Pl_mc u), Mc_ru (Pl_mc u)), (0, Lo_ma (Pl_lo u), Lo_pe (Pl_lo u), Lo_fr (Pl_lo u), Lo_to (Pl_lo u)), Lv_clear (Pl_lv u) 10, (0, Mt_pe (Pl_mt u), Mt_sl (Pl_mt u), Mt_ln (Pl_mt u), Mt_ma (Pl_mt u), Mt_st (Pl_mt u), Mt_mv (Pl_mt u)), Pl_bu u, Pl_now u))) F hn_X5_clear_X4 tyX4 tyX4_ok nmX4 14 4 rfl rfl 6 (by decide) fl_X5_clear_57 rfl (ty := .int) rfl rfl rfl (Nat.le_of_ble_eq_true rfl) rfl dX5_clear_28 ?_
  refine gz_aload_n (pc := 31) F dX5_clear_31 rfl 0 rfl ?_
  refine gz_get (pc := 32) (v := .ref (a 21)) F hn_X5_clear_X5 0 5 rfl rfl 4 (by decide) fl_X5_clear_42 rfl dX5_clear_32 ?_
  refine gz_const (pc := 35) F dX5_clear_35 ?_
  refine gz_put (pc := 36) (ws2 := PlW cI cJ a (((0, Mc_fe (Pl_mc u), Mc_ow (Pl_mc u), Mc_bf (Pl_mc u), Mc_bu (Pl_mc u), Mc_ru (Pl_mc u)), (0, Lo_ma (Pl_lo u), Lo_pe (Pl_lo u), Lo_fr (Pl_lo u), Lo_to (Pl_lo u)), Lv_clear (Pl_lv u) 10, (0, Mt_pe (Pl_mt u), Mt_sl (Pl_mt u), Mt_ln (Pl_mt u), Mt_ma (Pl_mt u), Mt_st (Pl_mt u), Mt_mv (Pl_mt u)), (0, Bu_ne (Pl_bu u), Bu_ur (Pl_bu u), Bu_ln (Pl_bu u), Bu_st (Pl_bu u), Bu_ma (Pl_bu u), Bu_bg (Pl_bu u), Bu_ti (Pl_bu u)), Pl_now u))) F hn_X5_clear_X0 tyX0 tyX0_ok nmX0 21 0 rfl rfl 7 (by decide) fl_X5_clear_58 rfl (ty := .int) rfl rfl rfl (Nat.le_of_ble_eq_true rfl) rfl dX5_clear_36 ?_
  refine gz_aload_n (pc := 39) F dX5_clear_39 rfl 0 rfl ?_
  refine gz_const (pc := 40) F dX5_clear_40 ?_
  refine gz_put (pc := 41) (ws2 := PlW cI cJ a (((0, Mc_fe (Pl_mc u), Mc_ow (Pl_mc u), Mc_bf (Pl_mc u), Mc_bu (Pl_mc u), Mc_ru (Pl_mc u)), (0, Lo_ma (Pl_lo u), Lo_pe (Pl_lo u), Lo_fr (Pl_lo u), Lo_to (Pl_lo u)), Lv_clear (Pl_lv u) 10, (0, Mt_pe (Pl_mt u), Mt_sl (Pl_mt u), Mt_ln (Pl_mt u), Mt_ma (Pl_mt u), Mt_st (Pl_mt u), Mt_mv (Pl_mt u)), (0, Bu_ne (Pl_bu u), Bu_ur (Pl_bu u), Bu_ln (Pl_bu u), Bu_st (Pl_bu u), Bu_ma (Pl_bu u), Bu_bg (Pl_bu u), Bu_ti (Pl_bu u)), 0))) F hn_X5_clear_X5 tyX5 tyX5_ok nmX5 0 5 rfl rfl 5 (by decide) fl_X5_clear_46 rfl (ty := .int) rfl rfl rfl (Nat.le_of_ble_eq_true rfl) rfl dX5_clear_41 ?_
  refine Z _ _ 44 dX5_clear_44 ?_
  exact ⟨rfl, rfl⟩
