/-! ===== laid by wip/whole/gen/plan.py ===== -/
theorem hn_X5_runsIn_X5 : ∀ w ∈ u_ws RX5 TX5 6, w ∈ wsX5_runsIn := by decide +kernel
theorem fl_X5_runsIn_12 : Cond.fieldLink RX5 12 (TX5 0).1 (TX5 0).2.1 (TX5 0).2.2.1 ∈ wsX5_runsIn := by decide +kernel
theorem hn_X5_runsIn_X3 : ∀ w ∈ u_ws RX3 TX3 6, w ∈ wsX5_runsIn := by decide +kernel
theorem fl_X5_runsIn_98 : Cond.fieldLink RX5 98 (TX3 4).1 (TX3 4).2.1 (TX3 4).2.2.1 ∈ wsX5_runsIn := by decide +kernel
theorem fl_X5_runsIn_42 : Cond.fieldLink RX5 42 (TX5 4).1 (TX5 4).2.1 (TX5 4).2.2.1 ∈ wsX5_runsIn := by decide +kernel
theorem hn_X5_runsIn_X0 : ∀ w ∈ u_ws RX0 TX0 8, w ∈ wsX5_runsIn := by decide +kernel
theorem fl_X5_runsIn_118 : Cond.fieldLink RX5 118 (TX0 5).1 (TX0 5).2.1 (TX0 5).2.2.1 ∈ wsX5_runsIn := by decide +kernel
theorem fl_X5_runsIn_121 : Cond.fieldLink RX5 121 (TX0 2).1 (TX0 2).2.1 (TX0 2).2.2.1 ∈ wsX5_runsIn := by decide +kernel
theorem iw_X5_runsIn_ini_X8 : Cond.initialized RX8 ∈ wsX5_runsIn := by decide +kernel
theorem iw_X5_runsIn_sta_X8_overlap : Cond.static yX8_overlap ∈ wsX5_runsIn := by decide +kernel
set_option maxHeartbeats 4000000 in
set_option maxRecDepth 100000 in
theorem ct_X5_runsIn (l : Launch) (D : va_G) (cI cJ cZ : ClassId) (a : Nat → Nat) (u : PlS) (p0 p1 p2 : Int) (hu : PlI u) (h0 : -2147483648 ≤ p0 ∧ p0 < 2147483648) (h1 : -1 ≤ p1 ∧ p1 ≤ 1023) (h2 : -1 ≤ p2 ∧ p2 ≤ 1023) : gz_M l yX5_runsIn wsX5_runsIn { frames := 1, cells := 0, slots := 0, locals := 23 } D cI cJ cZ [.ref (a 0), vI p0, vI p1, vI p2] (PlW cI cJ a u) (gz_pI (PlW cI cJ a u) (fun r => r = bz (Pl_runs u p0 p1 p2))) := by
  refine gz_ofZ (cc := cX5_runsIn) (maxL := 5) (ty := .boolean) (own := RX5) (by decide) rfl rfl (Nat.le_of_ble_eq_true rfl) (lv0 := [(0, .ref (a 0)), (1, vI p0), (2, vI p1), (3, vI p2)]) rfl ?_
  intro p e s m args below meth c A Q F Z
  obtain ⟨hMc, hLo, hLv, hMt, hBu, hnw⟩ := id hu
  have hMcn := hMc.1
  have hMtn := hMt.1
  have hBun := hBu.1
  refine gz_aload_n (pc := 0) F dX5_runsIn_0 rfl 0 rfl ?_
  refine gz_get (pc := 1) (v := .ref (a 1)) F hn_X5_runsIn_X5 0 5 rfl rfl 0 (by decide) fl_X5_runsIn_12 rfl dX5_runsIn_1 ?_
  refine gz_iload_n (pc := 4) F dX5_runsIn_4 rfl 1 rfl ?_
  refine gz_callV (pc := 5) (n := 1) (As := [vI p0]) (rest := []) (bytes := cX3_knows) (maxL := 2) (ret := some .boolean) F (ct_X3_knows l D cI cJ cZ (fun i => a (i + 1)) (Pl_mc u) p0 hMc (by omega)) gX5_runsIn_X3_knows rfl ⟨rfl, rfl⟩ (by decide +kernel) ⟨Nat.le_of_ble_eq_true rfl, Nat.le_of_ble_eq_true rfl⟩ rfl [1, 2, 3, 4, 5, 6] rfl (by decide) 1 3 rfl rfl rfl (Nat.le_of_ble_eq_true rfl) ⟨Nat.zero_le _, Nat.zero_le _⟩ gz_pI_sh dX5_runsIn_5 ?_
  refine gz_kI rfl (fun r5 h5 => ?_)
  subst h5
  refine gz_if_neb (pc := 8) (tgt := 13) F dX5_runsIn_8 (by decide) (fun c8 => ?_) (fun c8 => ?_)
  · refine gz_aload_n (pc := 13) F dX5_runsIn_13 rfl 0 rfl ?_
    refine gz_get (pc := 14) (v := .ref (a 1)) F hn_X5_runsIn_X5 0 5 rfl rfl 0 (by decide) fl_X5_runsIn_12 rfl dX5_runsIn_14 ?_
    refine gz_get (pc := 17) (v := .ref (a 6)) F hn_X5_runsIn_X3 1 3 rfl rfl 4 (by decide) fl_X5_runsIn_98 rfl dX5_runsIn_17 ?_
    refine gz_iload_n (pc := 20) F dX5_runsIn_20 rfl 1 rfl ?_
    refine gz_iald (pc := 21) (f := Mc_ru (Pl_mc u)) F 6 rfl (by omega) (by decide) dX5_runsIn_21 ?_
    have b21 := (hMc.2 p0).2.2.2.2
    refine gz_istore (pc := 22) (lv2 := [(4, vI (Mc_ru (Pl_mc u) p0)), (0, .ref (a 0)), (1, vI p0), (2, vI p1), (3, vI p2)]) F dX5_runsIn_22 (by decide) rfl ?_
    refine gz_aload_n (pc := 24) F dX5_runsIn_24 rfl 1 rfl ?_
    refine gz_get (pc := 25) (v := .ref (a 21)) F hn_X5_runsIn_X5 0 5 rfl rfl 4 (by decide) fl_X5_runsIn_42 rfl dX5_runsIn_25 ?_
    refine gz_iload (pc := 28) F dX5_runsIn_28 0 rfl ?_
    refine gz_callV (pc := 30) (n := 1) (As := [vI (Mc_ru (Pl_mc u) p0)]) (rest := []) (bytes := cX0_knows) (maxL := 2) (ret := some .boolean) F (ct_X0_knows l D cI cJ cZ (fun i => a (i + 21)) (Pl_bu u) (Mc_ru (Pl_mc u) p0) hBu (by omega)) gX5_runsIn_X0_knows rfl ⟨rfl, rfl⟩ (by decide +kernel) ⟨Nat.le_of_ble_eq_true rfl, Nat.le_of_ble_eq_true rfl⟩ rfl [21, 22, 23, 24, 25, 26, 27, 28] rfl (by decide) 21 0 rfl rfl rfl (Nat.le_of_ble_eq_true rfl) ⟨Nat.zero_le _, Nat.zero_le _⟩ gz_pI_sh dX5_runsIn_30 ?_
    refine gz_kI rfl (fun r30 h30 => ?_)
    subst h30
    refine gz_if_eqb (pc := 33) (tgt := 68) F dX5_runsIn_33 (by decide) (fun c33 => ?_) (fun c33 => ?_)
    · refine gz_const (pc := 68) F dX5_runsIn_68 ?_
      refine Z _ _ 69 _ dX5_runsIn_69 rfl ?_
      exact ⟨rfl, _, rfl, (bz_f (fun h => by first | exact c8 h.1 | exact c33 h.2.1 | exact c61 h.2.2)).symm⟩
    · refine gz_aload_n (pc := 36) F dX5_runsIn_36 rfl 1 rfl ?_
      refine gz_get (pc := 37) (v := .ref (a 21)) F hn_X5_runsIn_X5 0 5 rfl rfl 4 (by decide) fl_X5_runsIn_42 rfl dX5_runsIn_37 ?_
      refine gz_get (pc := 40) (v := .ref (a 27)) F hn_X5_runsIn_X0 21 0 rfl rfl 5 (by decide) fl_X5_runsIn_118 rfl dX5_runsIn_40 ?_
      refine gz_iload (pc := 43) F dX5_runsIn_43 0 rfl ?_
      refine gz_iald (pc := 45) (f := Bu_bg (Pl_bu u)) F 27 rfl (by omega) (by decide) dX5_runsIn_45 ?_
      have b45 := (hBu.2 (Mc_ru (Pl_mc u) p0)).2.2.2.2.2
      refine gz_aload_n (pc := 46) F dX5_runsIn_46 rfl 1 rfl ?_
      refine gz_get (pc := 47) (v := .ref (a 21)) F hn_X5_runsIn_X5 0 5 rfl rfl 4 (by decide) fl_X5_runsIn_42 rfl dX5_runsIn_47 ?_
      refine gz_get (pc := 50) (v := .ref (a 24)) F hn_X5_runsIn_X0 21 0 rfl rfl 2 (by decide) fl_X5_runsIn_121 rfl dX5_runsIn_50 ?_
      refine gz_iload (pc := 53) F dX5_runsIn_53 0 rfl ?_
      refine gz_iald (pc := 55) (f := Bu_ln (Pl_bu u)) F 24 rfl (by omega) (by decide) dX5_runsIn_55 ?_
      have b55 := (hBu.2 (Mc_ru (Pl_mc u) p0)).2.2.1
      refine gz_iload_n (pc := 56) F dX5_runsIn_56 rfl 3 rfl ?_
      refine gz_iload_n (pc := 57) F dX5_runsIn_57 rfl 4 rfl ?_
      refine gz_callSN (pc := 58) (n := 4) (As := [vI (Bu_bg (Pl_bu u) (Mc_ru (Pl_mc u) p0)), vI (Bu_ln (Pl_bu u) (Mc_ru (Pl_mc u) p0)), vI p1, vI p2]) (rest := []) (bytes := cX8_overlap) (maxL := 4) (ret := some .boolean) F (ct_X8_overlap l D cI cJ cZ (Bu_bg (Pl_bu u) (Mc_ru (Pl_mc u) p0)) (Bu_ln (Pl_bu u) (Mc_ru (Pl_mc u) p0)) p1 p2 (by omega) (by omega) (by omega) (by omega)) gX5_runsIn_X8_overlap_n124 rfl ⟨rfl, rfl⟩ (by decide +kernel) iw_X5_runsIn_ini_X8 iw_X5_runsIn_sta_X8_overlap (by decide +kernel) ⟨Nat.le_of_ble_eq_true rfl, Nat.le_of_ble_eq_true rfl⟩ rfl [] rfl (by decide) rfl (Nat.le_of_ble_eq_true rfl) ⟨Nat.zero_le _, Nat.zero_le _⟩ gz_pI_sh dX5_runsIn_58 ?_
      refine gz_kI rfl (fun r58 h58 => ?_)
      subst h58
      refine gz_if_eqb (pc := 61) (tgt := 68) F dX5_runsIn_61 (by decide) (fun c61 => ?_) (fun c61 => ?_)
      · refine gz_const (pc := 68) F dX5_runsIn_68 ?_
        refine Z _ _ 69 _ dX5_runsIn_69 rfl ?_
        exact ⟨rfl, _, rfl, (bz_f (fun h => by first | exact c8 h.1 | exact c33 h.2.1 | exact c61 h.2.2)).symm⟩
      · refine gz_const (pc := 64) F dX5_runsIn_64 ?_
        refine gz_goto (pc := 65) (tgt := 69) F dX5_runsIn_65 (by decide) ?_
        refine Z _ _ 69 _ dX5_runsIn_69 rfl ?_
        exact ⟨rfl, _, rfl, (bz_t (⟨c8, c33, c61⟩)).symm⟩
  · refine gz_const (pc := 11) F dX5_runsIn_11 ?_
    refine Z _ _ 12 _ dX5_runsIn_12 rfl ?_
    exact ⟨rfl, _, rfl, (bz_f (fun h => by first | exact c8 h.1 | exact c33 h.2.1 | exact c61 h.2.2)).symm⟩
