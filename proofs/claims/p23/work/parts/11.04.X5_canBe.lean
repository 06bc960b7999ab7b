/-! ===== laid by wip/whole/gen/plan.py ===== -/
theorem hn_X5_canBe_X5 : ∀ w ∈ u_ws RX5 TX5 6, w ∈ wsX5_canBe := by decide +kernel
theorem fl_X5_canBe_35 : Cond.fieldLink RX5 35 (TX5 3).1 (TX5 3).2.1 (TX5 3).2.2.1 ∈ wsX5_canBe := by decide +kernel
theorem hn_X5_canBe_X4 : ∀ w ∈ u_ws RX4 TX4 7, w ∈ wsX5_canBe := by decide +kernel
theorem fl_X5_canBe_146 : Cond.fieldLink RX5 146 (TX4 2).1 (TX4 2).2.1 (TX4 2).2.2.1 ∈ wsX5_canBe := by decide +kernel
theorem iw_X5_canBe_ini_X8 : Cond.initialized RX8 ∈ wsX5_canBe := by decide +kernel
theorem iw_X5_canBe_sta_X8_isOneDay : Cond.static yX8_isOneDay ∈ wsX5_canBe := by decide +kernel
theorem fl_X5_canBe_151 : Cond.fieldLink RX5 151 (TX4 0).1 (TX4 0).2.1 (TX4 0).2.2.1 ∈ wsX5_canBe := by decide +kernel
theorem fl_X5_canBe_154 : Cond.fieldLink RX5 154 (TX4 3).1 (TX4 3).2.1 (TX4 3).2.2.1 ∈ wsX5_canBe := by decide +kernel
set_option maxHeartbeats 4000000 in
set_option maxRecDepth 100000 in
theorem ct_X5_canBe (l : Launch) (D : va_G) (cI cJ cZ : ClassId) (a : Nat → Nat) (u : PlS) (p0 p1 : Int) (hu : PlI u) (h0 : -2147483648 ≤ p0 ∧ p0 < 2147483648) (h1 : zR0 p1) (h2 : ∀ k, 0 ≤ k → k < Mt_n (Pl_mt u) → 1 ≤ Mt_ln (Pl_mt u) k) : gz_M l yX5_canBe wsX5_canBe { frames := 3, cells := 0, slots := 0, locals := 74 } D cI cJ cZ [.ref (a 0), vI p0, vI p1] (PlW cI cJ a u) (gz_pI (PlW cI cJ a u) (fun r => r = bz (Pl_can u p0 p1))) := by
  refine gz_ofZ (cc := cX5_canBe) (maxL := 3) (ty := .boolean) (own := RX5) (by decide) rfl rfl (Nat.le_of_ble_eq_true rfl) (lv0 := [(0, .ref (a 0)), (1, vI p0), (2, vI p1)]) rfl ?_
  intro p e s m args below meth c A Q F Z
  obtain ⟨hMc, hLo, hLv, hMt, hBu, hnw⟩ := id hu
  have hMcn := hMc.1
  have hMtn := hMt.1
  have hBun := hBu.1
  refine gz_aload_n (pc := 0) F dX5_canBe_0 rfl 0 rfl ?_
  refine gz_get (pc := 1) (v := .ref (a 14)) F hn_X5_canBe_X5 0 5 rfl rfl 3 (by decide) fl_X5_canBe_35 rfl dX5_canBe_1 ?_
  refine gz_iload_n (pc := 4) F dX5_canBe_4 rfl 1 rfl ?_
  refine gz_callV (pc := 5) (n := 1) (As := [vI p0]) (rest := []) (bytes := cX4_knows) (maxL := 2) (ret := some .boolean) F (ct_X4_knows l D cI cJ cZ (fun i => a (i + 14)) (Pl_mt u) p0 hMt (by omega)) gX5_canBe_X4_knows rfl ⟨rfl, rfl⟩ (by decide +kernel) ⟨Nat.le_of_ble_eq_true rfl, Nat.le_of_ble_eq_true rfl⟩ rfl [14, 15, 16, 17, 18, 19, 20] rfl (by decide) 14 4 rfl rfl rfl (Nat.le_of_ble_eq_true rfl) ⟨Nat.zero_le _, Nat.zero_le _⟩ gz_pI_sh dX5_canBe_5 ?_
  refine gz_kI rfl (fun r5 h5 => ?_)
  subst h5
  refine gz_if_eqb (pc := 8) (tgt := 67) F dX5_canBe_8 (by decide) (fun c8 => ?_) (fun c8 => ?_)
  · refine gz_const (pc := 67) F dX5_canBe_67 ?_
    refine Z _ _ 68 _ dX5_canBe_68 rfl ?_
    exact ⟨rfl, _, rfl, (bz_f (fun h => by first | exact c8 h.1 | exact c24 h.2.1 | exact c60 h.2.2)).symm⟩
  · have b11 := h2 p0 c8.1 c8.2
    have b12 := (hMt.2 p0).2.2.1
    refine gz_iload_n (pc := 11) F dX5_canBe_11 rfl 2 rfl ?_
    refine gz_aload_n (pc := 12) F dX5_canBe_12 rfl 0 rfl ?_
    refine gz_get (pc := 13) (v := .ref (a 14)) F hn_X5_canBe_X5 0 5 rfl rfl 3 (by decide) fl_X5_canBe_35 rfl dX5_canBe_13 ?_
    refine gz_get (pc := 16) (v := .ref (a 17)) F hn_X5_canBe_X4 14 4 rfl rfl 2 (by decide) fl_X5_canBe_146 rfl dX5_canBe_16 ?_
    refine gz_iload_n (pc := 19) F dX5_canBe_19 rfl 1 rfl ?_
    refine gz_iald (pc := 20) (f := Mt_ln (Pl_mt u)) F 17 rfl (by omega) (by decide) dX5_canBe_20 ?_
    have b20 := (hMt.2 p0).2.2.1
    refine gz_callSN (pc := 21) (n := 2) (As := [vI p1, vI (Mt_ln (Pl_mt u) p0)]) (rest := []) (bytes := cX8_isOneDay) (maxL := 2) (ret := some .boolean) F (ct_X8_isOneDay l D cI cJ cZ p1 (Mt_ln (Pl_mt u) p0) (by omega) (by omega)) gX5_canBe_X8_isOneDay_n147 rfl ⟨rfl, rfl⟩ (by decide +kernel) iw_X5_canBe_ini_X8 iw_X5_canBe_sta_X8_isOneDay (by decide +kernel) ⟨Nat.le_of_ble_eq_true rfl, Nat.le_of_ble_eq_true rfl⟩ rfl [] rfl (by decide) rfl (Nat.le_of_ble_eq_true rfl) ⟨Nat.zero_le _, Nat.zero_le _⟩ gz_pI_sh dX5_canBe_21 ?_
    refine gz_kI rfl (fun r21 h21 => ?_)
    subst h21
    refine gz_if_eqb (pc := 24) (tgt := 67) F dX5_canBe_24 (by decide) (fun c24 => ?_) (fun c24 => ?_)
    · refine gz_const (pc := 67) F dX5_canBe_67 ?_
      refine Z _ _ 68 _ dX5_canBe_68 rfl ?_
      exact ⟨rfl, _, rfl, (bz_f (fun h => by first | exact c8 h.1 | exact c24 h.2.1 | exact c60 h.2.2)).symm⟩
    · refine gz_aload_n (pc := 27) F dX5_canBe_27 rfl 0 rfl ?_
      refine gz_aload_n (pc := 28) F dX5_canBe_28 rfl 0 rfl ?_
      refine gz_get (pc := 29) (v := .ref (a 14)) F hn_X5_canBe_X5 0 5 rfl rfl 3 (by decide) fl_X5_canBe_35 rfl dX5_canBe_29 ?_
      refine gz_get (pc := 32) (v := .ref (a 15)) F hn_X5_canBe_X4 14 4 rfl rfl 0 (by decide) fl_X5_canBe_151 rfl dX5_canBe_32 ?_
      refine gz_iload_n (pc := 35) F dX5_canBe_35 rfl 1 rfl ?_
      refine gz_iald (pc := 36) (f := Mt_pe (Pl_mt u)) F 15 rfl (by omega) (by decide) dX5_canBe_36 ?_
      have b36 := (hMt.2 p0).1
      refine gz_iload_n (pc := 37) F dX5_canBe_37 rfl 2 rfl ?_
      refine gz_aload_n (pc := 38) F dX5_canBe_38 rfl 0 rfl ?_
      refine gz_get (pc := 39) (v := .ref (a 14)) F hn_X5_canBe_X5 0 5 rfl rfl 3 (by decide) fl_X5_canBe_35 rfl dX5_canBe_39 ?_
      refine gz_get (pc := 42) (v := .ref (a 17)) F hn_X5_canBe_X4 14 4 rfl rfl 2 (by decide) fl_X5_canBe_146 rfl dX5_canBe_42 ?_
      refine gz_iload_n (pc := 45) F dX5_canBe_45 rfl 1 rfl ?_
      refine gz_iald (pc := 46) (f := Mt_ln (Pl_mt u)) F 17 rfl (by omega) (by decide) dX5_canBe_46 ?_
      have b46 := (hMt.2 p0).2.2.1
      refine gz_aload_n (pc := 47) F dX5_canBe_47 rfl 0 rfl ?_
      refine gz_get (pc := 48) (v := .ref (a 14)) F hn_X5_canBe_X5 0 5 rfl rfl 3 (by decide) fl_X5_canBe_35 rfl dX5_canBe_48 ?_
      refine gz_get (pc := 51) (v := .ref (a 18)) F hn_X5_canBe_X4 14 4 rfl rfl 3 (by decide) fl_X5_canBe_154 rfl dX5_canBe_51 ?_
      refine gz_iload_n (pc := 54) F dX5_canBe_54 rfl 1 rfl ?_
      refine gz_iald (pc := 55) (f := Mt_ma (Pl_mt u)) F 18 rfl (by omega) (by decide) dX5_canBe_55 ?_
      have b55 := (hMt.2 p0).2.2.2.1
      refine gz_iload_n (pc := 56) F dX5_canBe_56 rfl 1 rfl ?_
      refine gz_callVb (pc := 57) (n := 5) (As := [vI (Mt_pe (Pl_mt u) p0), vI p1, vI (Mt_ln (Pl_mt u) p0), vI (Mt_ma (Pl_mt u) p0), vI p0]) (rest := []) (bytes := cX5_hasRoom) (maxL := 7) (ret := some .boolean) F (ct_X5_hasRoom l D cI cJ cZ a u (Mt_pe (Pl_mt u) p0) p1 (Mt_ln (Pl_mt u) p0) (Mt_ma (Pl_mt u) p0) p0 hu (by omega) (by omega) (by omega) (by omega) (by omega)) gX5_canBe_X5_hasRoom rfl ⟨rfl, rfl⟩ (by decide +kernel) ⟨Nat.le_of_ble_eq_true rfl, Nat.le_of_ble_eq_true rfl⟩ rfl [] [] (List.append_nil _).symm 5 rfl rfl rfl (Nat.le_of_ble_eq_true rfl) ⟨Nat.zero_le _, Nat.zero_le _⟩ gz_pI_sh dX5_canBe_57 ?_
      refine gz_kIb (List.append_nil _) (fun r57 h57 => ?_)
      subst h57
      refine gz_if_eqb (pc := 60) (tgt := 67) F dX5_canBe_60 (by decide) (fun c60 => ?_) (fun c60 => ?_)
      · refine gz_const (pc := 67) F dX5_canBe_67 ?_
        refine Z _ _ 68 _ dX5_canBe_68 rfl ?_
        exact ⟨rfl, _, rfl, (bz_f (fun h => by first | exact c8 h.1 | exact c24 h.2.1 | exact c60 h.2.2)).symm⟩
      · refine gz_const (pc := 63) F dX5_canBe_63 ?_
        refine gz_goto (pc := 64) (tgt := 68) F dX5_canBe_64 (by decide) ?_
        refine Z _ _ 68 _ dX5_canBe_68 rfl ?_
        exact ⟨rfl, _, rfl, (bz_t (⟨c8, c24, c60⟩)).symm⟩
