/-! ===== laid by wip/whole/gen/plan.py ===== -/
theorem hn_X5_isAhead_X5 : ∀ w ∈ u_ws RX5 TX5 6, w ∈ wsX5_isAhead := by decide +kernel
theorem fl_X5_isAhead_35 : Cond.fieldLink RX5 35 (TX5 3).1 (TX5 3).2.1 (TX5 3).2.2.1 ∈ wsX5_isAhead := by decide +kernel
theorem hn_X5_isAhead_X4 : ∀ w ∈ u_ws RX4 TX4 7, w ∈ wsX5_isAhead := by decide +kernel
theorem fl_X5_isAhead_112 : Cond.fieldLink RX5 112 (TX4 4).1 (TX4 4).2.1 (TX4 4).2.2.1 ∈ wsX5_isAhead := by decide +kernel
theorem fl_X5_isAhead_115 : Cond.fieldLink RX5 115 (TX4 1).1 (TX4 1).2.1 (TX4 1).2.2.1 ∈ wsX5_isAhead := by decide +kernel
theorem fl_X5_isAhead_46 : Cond.fieldLink RX5 46 (TX5 5).1 (TX5 5).2.1 (TX5 5).2.2.1 ∈ wsX5_isAhead := by decide +kernel
set_option maxHeartbeats 4000000 in
set_option maxRecDepth 100000 in
theorem ct_X5_isAhead (l : Launch) (D : va_G) (cI cJ cZ : ClassId) (a : Nat → Nat) (u : PlS) (p0 : Int) (hu : PlI u) (h0 : -2147483648 ≤ p0 ∧ p0 < 2147483648) : gz_M l yX5_isAhead wsX5_isAhead { frames := 1, cells := 0, slots := 0, locals := 21 } D cI cJ cZ [.ref (a 0), vI p0] (PlW cI cJ a u) (gz_pI (PlW cI cJ a u) (fun r => r = bz (Pl_ahead u p0))) := by
  refine gz_ofZ (cc := cX5_isAhead) (maxL := 2) (ty := .boolean) (own := RX5) (by decide) rfl rfl (Nat.le_of_ble_eq_true rfl) (lv0 := [(0, .ref (a 0)), (1, vI p0)]) rfl ?_
  intro p e s m args below meth c A Q F Z
  obtain ⟨hMc, hLo, hLv, hMt, hBu, hnw⟩ := id hu
  have hMcn := hMc.1
  have hMtn := hMt.1
  have hBun := hBu.1
  refine gz_aload_n (pc := 0) F dX5_isAhead_0 rfl 0 rfl ?_
  refine gz_get (pc := 1) (v := .ref (a 14)) F hn_X5_isAhead_X5 0 5 rfl rfl 3 (by decide) fl_X5_isAhead_35 rfl dX5_isAhead_1 ?_
  refine gz_iload_n (pc := 4) F dX5_isAhead_4 rfl 1 rfl ?_
  refine gz_callV (pc := 5) (n := 1) (As := [vI p0]) (rest := []) (bytes := cX4_knows) (maxL := 2) (ret := some .boolean) F (ct_X4_knows l D cI cJ cZ (fun i => a (i + 14)) (Pl_mt u) p0 hMt (by omega)) gX5_isAhead_X4_knows rfl ⟨rfl, rfl⟩ (by decide +kernel) ⟨Nat.le_of_ble_eq_true rfl, Nat.le_of_ble_eq_true rfl⟩ rfl [14, 15, 16, 17, 18, 19, 20] rfl (by decide) 14 4 rfl rfl rfl (Nat.le_of_ble_eq_true rfl) ⟨Nat.zero_le _, Nat.zero_le _⟩ gz_pI_sh dX5_isAhead_5 ?_
  refine gz_kI rfl (fun r5 h5 => ?_)
  subst h5
  refine gz_if_eqb (pc := 8) (tgt := 43) F dX5_isAhead_8 (by decide) (fun c8 => ?_) (fun c8 => ?_)
  · refine gz_const (pc := 43) F dX5_isAhead_43 ?_
    refine Z _ _ 44 _ dX5_isAhead_44 rfl ?_
    exact ⟨rfl, _, rfl, (bz_f (fun h => by first | exact c8 h.1 | exact absurd h.2.1 (by omega) | exact absurd h.2.2 (by omega))).symm⟩
  · refine gz_aload_n (pc := 11) F dX5_isAhead_11 rfl 0 rfl ?_
    refine gz_get (pc := 12) (v := .ref (a 14)) F hn_X5_isAhead_X5 0 5 rfl rfl 3 (by decide) fl_X5_isAhead_35 rfl dX5_isAhead_12 ?_
    refine gz_get (pc := 15) (v := .ref (a 19)) F hn_X5_isAhead_X4 14 4 rfl rfl 4 (by decide) fl_X5_isAhead_112 rfl dX5_isAhead_15 ?_
    refine gz_iload_n (pc := 18) F dX5_isAhead_18 rfl 1 rfl ?_
    refine gz_iald (pc := 19) (f := Mt_st (Pl_mt u)) F 19 rfl (by omega) (by decide) dX5_isAhead_19 ?_
    have b19 := (hMt.2 p0).2.2.2.2
    refine gz_if_ne (pc := 20) (tgt := 43) F dX5_isAhead_20 (by decide) (by omega) (fun c20 => ?_) (fun c20 => ?_)
    · refine gz_const (pc := 43) F dX5_isAhead_43 ?_
      refine Z _ _ 44 _ dX5_isAhead_44 rfl ?_
      exact ⟨rfl, _, rfl, (bz_f (fun h => by first | exact c8 h.1 | exact absurd h.2.1 (by omega) | exact absurd h.2.2 (by omega))).symm⟩
    · refine gz_aload_n (pc := 23) F dX5_isAhead_23 rfl 0 rfl ?_
      refine gz_get (pc := 24) (v := .ref (a 14)) F hn_X5_isAhead_X5 0 5 rfl rfl 3 (by decide) fl_X5_isAhead_35 rfl dX5_isAhead_24 ?_
      refine gz_get (pc := 27) (v := .ref (a 16)) F hn_X5_isAhead_X4 14 4 rfl rfl 1 (by decide) fl_X5_isAhead_115 rfl dX5_isAhead_27 ?_
      refine gz_iload_n (pc := 30) F dX5_isAhead_30 rfl 1 rfl ?_
      refine gz_iald (pc := 31) (f := Mt_sl (Pl_mt u)) F 16 rfl (by omega) (by decide) dX5_isAhead_31 ?_
      have b31 := (hMt.2 p0).2.1
      refine gz_aload_n (pc := 32) F dX5_isAhead_32 rfl 0 rfl ?_
      refine gz_get (pc := 33) (v := vI (Pl_now u)) F hn_X5_isAhead_X5 0 5 rfl rfl 5 (by decide) fl_X5_isAhead_46 rfl dX5_isAhead_33 ?_
      have b33 := hnw
      refine gz_icmp_lt (pc := 36) (tgt := 43) F dX5_isAhead_36 (by decide) (by omega) (by omega) (fun c36 => ?_) (fun c36 => ?_)
      · refine gz_const (pc := 43) F dX5_isAhead_43 ?_
        refine Z _ _ 44 _ dX5_isAhead_44 rfl ?_
        exact ⟨rfl, _, rfl, (bz_f (fun h => by first | exact c8 h.1 | exact absurd h.2.1 (by omega) | exact absurd h.2.2 (by omega))).symm⟩
      · refine gz_const (pc := 39) F dX5_isAhead_39 ?_
        refine gz_goto (pc := 40) (tgt := 44) F dX5_isAhead_40 (by decide) ?_
        refine Z _ _ 44 _ dX5_isAhead_44 rfl ?_
        exact ⟨rfl, _, rfl, (bz_t (⟨c8, by omega, by omega⟩)).symm⟩
