/-! ===== laid by wip/whole/gen/plan.py ===== -/
theorem hn_X5_canSwap_X5 : ∀ w ∈ u_ws RX5 TX5 6, w ∈ wsX5_canSwap := by decide +kernel
theorem fl_X5_canSwap_35 : Cond.fieldLink RX5 35 (TX5 3).1 (TX5 3).2.1 (TX5 3).2.2.1 ∈ wsX5_canSwap := by decide +kernel
theorem hn_X5_canSwap_X4 : ∀ w ∈ u_ws RX4 TX4 7, w ∈ wsX5_canSwap := by decide +kernel
theorem fl_X5_canSwap_115 : Cond.fieldLink RX5 115 (TX4 1).1 (TX4 1).2.1 (TX4 1).2.2.1 ∈ wsX5_canSwap := by decide +kernel
set_option maxHeartbeats 4000000 in
set_option maxRecDepth 100000 in
theorem ct_X5_canSwap (l : Launch) (D : va_G) (cI cJ cZ : ClassId) (a : Nat → Nat) (u : PlS) (p0 p1 : Int) (hu : PlI u) (h0 : -2147483648 ≤ p0 ∧ p0 < 2147483648) (h1 : -2147483648 ≤ p1 ∧ p1 < 2147483648) (h2 : ∀ k, 0 ≤ k → k < Mt_n (Pl_mt u) → 1 ≤ Mt_ln (Pl_mt u) k) : gz_M l yX5_canSwap wsX5_canSwap { frames := 4, cells := 0, slots := 0, locals := 96 } D cI cJ cZ [.ref (a 0), vI p0, vI p1] (PlW cI cJ a u) (gz_pI (PlW cI cJ a u) (fun r => r = bz (Pl_swp u p0 p1))) := by
  refine gz_ofZ (cc := cX5_canSwap) (maxL := 4) (ty := .boolean) (own := RX5) (by decide) rfl rfl (Nat.le_of_ble_eq_true rfl) (lv0 := [(0, .ref (a 0)), (1, vI p0), (2, vI p1)]) rfl ?_
  intro p e s m args below meth c A Q F Z
  obtain ⟨hMc, hLo, hLv, hMt, hBu, hnw⟩ := id hu
  have hMcn := hMc.1
  have hMtn := hMt.1
  have hBun := hBu.1
  refine gz_aload_n (pc := 0) F dX5_canSwap_0 rfl 0 rfl ?_
  refine gz_get (pc := 1) (v := .ref (a 14)) F hn_X5_canSwap_X5 0 5 rfl rfl 3 (by decide) fl_X5_canSwap_35 rfl dX5_canSwap_1 ?_
  refine gz_iload_n (pc := 4) F dX5_canSwap_4 rfl 1 rfl ?_
  refine gz_callV (pc := 5) (n := 1) (As := [vI p0]) (rest := []) (bytes := cX4_knows) (maxL := 2) (ret := some .boolean) F (ct_X4_knows l D cI cJ cZ (fun i => a (i + 14)) (Pl_mt u) p0 hMt (by omega)) gX5_canSwap_X4_knows rfl ⟨rfl, rfl⟩ (by decide +kernel) ⟨Nat.le_of_ble_eq_true rfl, Nat.le_of_ble_eq_true rfl⟩ rfl [14, 15, 16, 17, 18, 19, 20] rfl (by decide) 14 4 rfl rfl rfl (Nat.le_of_ble_eq_true rfl) ⟨Nat.zero_le _, Nat.zero_le _⟩ gz_pI_sh dX5_canSwap_5 ?_
  refine gz_kI rfl (fun r5 h5 => ?_)
  subst h5
  refine gz_if_eqb (pc := 8) (tgt := 22) F dX5_canSwap_8 (by decide) (fun c8 => ?_) (fun c8 => ?_)
  · refine gz_const (pc := 22) F dX5_canSwap_22 ?_
    refine Z _ _ 23 _ dX5_canSwap_23 rfl ?_
    exact ⟨rfl, _, rfl, (bz_f (fun h => by first | exact c8 h.1.1 | exact c19 h.1.2 | exact c47 h.2.1 | exact c64 h.2.2)).symm⟩
  · refine gz_aload_n (pc := 11) F dX5_canSwap_11 rfl 0 rfl ?_
    refine gz_get (pc := 12) (v := .ref (a 14)) F hn_X5_canSwap_X5 0 5 rfl rfl 3 (by decide) fl_X5_canSwap_35 rfl dX5_canSwap_12 ?_
    refine gz_iload_n (pc := 15) F dX5_canSwap_15 rfl 2 rfl ?_
    refine gz_callV (pc := 16) (n := 1) (As := [vI p1]) (rest := []) (bytes := cX4_knows) (maxL := 2) (ret := some .boolean) F (ct_X4_knows l D cI cJ cZ (fun i => a (i + 14)) (Pl_mt u) p1 hMt (by omega)) gX5_canSwap_X4_knows rfl ⟨rfl, rfl⟩ (by decide +kernel) ⟨Nat.le_of_ble_eq_true rfl, Nat.le_of_ble_eq_true rfl⟩ rfl [14, 15, 16, 17, 18, 19, 20] rfl (by decide) 14 4 rfl rfl rfl (Nat.le_of_ble_eq_true rfl) ⟨Nat.zero_le _, Nat.zero_le _⟩ gz_pI_sh dX5_canSwap_16 ?_
    refine gz_kI rfl (fun r16 h16 => ?_)
    subst h16
    refine gz_if_neb (pc := 19) (tgt := 24) F dX5_canSwap_19 (by decide) (fun c19 => ?_) (fun c19 => ?_)
    · refine gz_aload_n (pc := 24) F dX5_canSwap_24 rfl 0 rfl ?_
      refine gz_get (pc := 25) (v := .ref (a 14)) F hn_X5_canSwap_X5 0 5 rfl rfl 3 (by decide) fl_X5_canSwap_35 rfl dX5_canSwap_25 ?_
      refine gz_iload_n (pc := 28) F dX5_canSwap_28 rfl 1 rfl ?_
      refine gz_iload_n (pc := 29) F dX5_canSwap_29 rfl 2 rfl ?_
      refine gz_callV (pc := 30) (n := 2) (As := [vI p0, vI p1]) (rest := []) (bytes := cX4_exchange) (maxL := 4) (ret := none) F (ct_X4_exchange l D cI cJ cZ (fun i => a (i + 14)) (Pl_mt u) p0 p1 hMt (by omega) (by omega)) gX5_canSwap_X4_exchange rfl ⟨rfl, rfl⟩ (by decide +kernel) ⟨Nat.le_of_ble_eq_true rfl, Nat.le_of_ble_eq_true rfl⟩ rfl [14, 15, 16, 17, 18, 19, 20] rfl (by decide) 14 4 rfl rfl rfl (Nat.le_of_ble_eq_true rfl) ⟨Nat.zero_le _, Nat.zero_le _⟩ (gz_pE_sh rfl) dX5_canSwap_30 ?_
      refine gz_kE (ws2 := PlW cI cJ a ((Pl_mc u, Pl_lo u, Pl_lv u, Mt_exch (Pl_mt u) p0 p1, Pl_bu u, Pl_now u))) rfl ?_
      have hE := Mt_exch_I (k := p0) (o := p1) hMt
      have hPE : PlI (Pl_setMt u (Mt_exch (Pl_mt u) p0 p1)) := ⟨hMc, hLo, hLv, hE, hBu, hnw⟩
      have hLE := Mt_exch_L (k := p0) (o := p1) h2
      have b43 := (hE.2 p0).2.1
      have b60 := (hE.2 p1).2.1
      refine gz_aload_n (pc := 33) F dX5_canSwap_33 rfl 0 rfl ?_
      refine gz_iload_n (pc := 34) F dX5_canSwap_34 rfl 1 rfl ?_
      refine gz_aload_n (pc := 35) F dX5_canSwap_35 rfl 0 rfl ?_
      refine gz_get (pc := 36) (v := .ref (a 14)) F hn_X5_canSwap_X5 0 5 rfl rfl 3 (by decide) fl_X5_canSwap_35 rfl dX5_canSwap_36 ?_
      refine gz_get (pc := 39) (v := .ref (a 16)) F hn_X5_canSwap_X4 14 4 rfl rfl 1 (by decide) fl_X5_canSwap_115 rfl dX5_canSwap_39 ?_
      refine gz_iload_n (pc := 42) F dX5_canSwap_42 rfl 1 rfl ?_
      refine gz_iald (pc := 43) (f := Mt_sl (Mt_exch (Pl_mt u) p0 p1)) F 16 rfl (by omega) (by decide) dX5_canSwap_43 ?_
      refine gz_callVb (pc := 44) (n := 2) (As := [vI p0, vI (Mt_sl (Mt_exch (Pl_mt u) p0 p1) p0)]) (rest := []) (bytes := cX5_canBe) (maxL := 3) (ret := some .boolean) F (ct_X5_canBe l D cI cJ cZ a ((Pl_mc u, Pl_lo u, Pl_lv u, Mt_exch (Pl_mt u) p0 p1, Pl_bu u, Pl_now u)) p0 (Mt_sl (Mt_exch (Pl_mt u) p0 p1) p0) hPE (by omega) (by omega) hLE) gX5_canSwap_X5_canBe rfl ⟨rfl, rfl⟩ (by decide +kernel) ⟨Nat.le_of_ble_eq_true rfl, Nat.le_of_ble_eq_true rfl⟩ rfl [] [] (List.append_nil _).symm 5 rfl rfl rfl (Nat.le_of_ble_eq_true rfl) ⟨Nat.zero_le _, Nat.zero_le _⟩ gz_pI_sh dX5_canSwap_44 ?_
      refine gz_kIb (List.append_nil _) (fun r44 h44 => ?_)
      subst h44
      refine gz_if_eqb (pc := 47) (tgt := 71) F dX5_canSwap_47 (by decide) (fun c47 => ?_) (fun c47 => ?_)
      · refine gz_const (pc := 71) F dX5_canSwap_71 ?_
        refine gz_istore_n (pc := 72) (lv2 := [(3, vI 0), (0, .ref (a 0)), (1, vI p0), (2, vI p1)]) F dX5_canSwap_72 rfl (by decide) rfl ?_
        refine gz_aload_n (pc := 73) F dX5_canSwap_73 rfl 1 rfl ?_
        refine gz_get (pc := 74) (v := .ref (a 14)) F hn_X5_canSwap_X5 0 5 rfl rfl 3 (by decide) fl_X5_canSwap_35 rfl dX5_canSwap_74 ?_
        refine gz_iload_n (pc := 77) F dX5_canSwap_77 rfl 2 rfl ?_
        refine gz_iload_n (pc := 78) F dX5_canSwap_78 rfl 3 rfl ?_
        refine gz_callV (pc := 79) (n := 2) (As := [vI p0, vI p1]) (rest := []) (bytes := cX4_exchange) (maxL := 4) (ret := none) F (ct_X4_exchange l D cI cJ cZ (fun i => a (i + 14)) (Mt_exch (Pl_mt u) p0 p1) p0 p1 hE (by omega) (by omega)) gX5_canSwap_X4_exchange rfl ⟨rfl, rfl⟩ (by decide +kernel) ⟨Nat.le_of_ble_eq_true rfl, Nat.le_of_ble_eq_true rfl⟩ rfl [14, 15, 16, 17, 18, 19, 20] rfl (by decide) 14 4 rfl rfl rfl (Nat.le_of_ble_eq_true rfl) ⟨Nat.zero_le _, Nat.zero_le _⟩ (gz_pE_sh rfl) dX5_canSwap_79 ?_
        refine gz_kE (ws2 := PlW cI cJ a ((Pl_mc u, Pl_lo u, Pl_lv u, Mt_exch (Mt_exch (Pl_mt u) p0 p1) p0 p1, Pl_bu u, Pl_now u))) rfl ?_
        refine gz_iload_n (pc := 82) F dX5_canSwap_82 rfl 0 rfl ?_
        refine Z _ _ 83 _ dX5_canSwap_83 rfl ?_
        exact ⟨congrArg (fun v => PlW cI cJ a (Pl_setMt u v)) (Mt_exch2 (Pl_mt u) p0 p1), _, rfl, (bz_f (fun h => by first | exact c8 h.1.1 | exact c19 h.1.2 | exact c47 h.2.1 | exact c64 h.2.2)).symm⟩
      · refine gz_aload_n (pc := 50) F dX5_canSwap_50 rfl 0 rfl ?_
        refine gz_iload_n (pc := 51) F dX5_canSwap_51 rfl 2 rfl ?_
        refine gz_aload_n (pc := 52) F dX5_canSwap_52 rfl 0 rfl ?_
        refine gz_get (pc := 53) (v := .ref (a 14)) F hn_X5_canSwap_X5 0 5 rfl rfl 3 (by decide) fl_X5_canSwap_35 rfl dX5_canSwap_53 ?_
        refine gz_get (pc := 56) (v := .ref (a 16)) F hn_X5_canSwap_X4 14 4 rfl rfl 1 (by decide) fl_X5_canSwap_115 rfl dX5_canSwap_56 ?_
        refine gz_iload_n (pc := 59) F dX5_canSwap_59 rfl 2 rfl ?_
        refine gz_iald (pc := 60) (f := Mt_sl (Mt_exch (Pl_mt u) p0 p1)) F 16 rfl (by omega) (by decide) dX5_canSwap_60 ?_
        refine gz_callVb (pc := 61) (n := 2) (As := [vI p1, vI (Mt_sl (Mt_exch (Pl_mt u) p0 p1) p1)]) (rest := []) (bytes := cX5_canBe) (maxL := 3) (ret := some .boolean) F (ct_X5_canBe l D cI cJ cZ a ((Pl_mc u, Pl_lo u, Pl_lv u, Mt_exch (Pl_mt u) p0 p1, Pl_bu u, Pl_now u)) p1 (Mt_sl (Mt_exch (Pl_mt u) p0 p1) p1) hPE (by omega) (by omega) hLE) gX5_canSwap_X5_canBe rfl ⟨rfl, rfl⟩ (by decide +kernel) ⟨Nat.le_of_ble_eq_true rfl, Nat.le_of_ble_eq_true rfl⟩ rfl [] [] (List.append_nil _).symm 5 rfl rfl rfl (Nat.le_of_ble_eq_true rfl) ⟨Nat.zero_le _, Nat.zero_le _⟩ gz_pI_sh dX5_canSwap_61 ?_
        refine gz_kIb (List.append_nil _) (fun r61 h61 => ?_)
        subst h61
        refine gz_if_eqb (pc := 64) (tgt := 71) F dX5_canSwap_64 (by decide) (fun c64 => ?_) (fun c64 => ?_)
        · refine gz_const (pc := 71) F dX5_canSwap_71 ?_
          refine gz_istore_n (pc := 72) (lv2 := [(3, vI 0), (0, .ref (a 0)), (1, vI p0), (2, vI p1)]) F dX5_canSwap_72 rfl (by decide) rfl ?_
          refine gz_aload_n (pc := 73) F dX5_canSwap_73 rfl 1 rfl ?_
          refine gz_get (pc := 74) (v := .ref (a 14)) F hn_X5_canSwap_X5 0 5 rfl rfl 3 (by decide) fl_X5_canSwap_35 rfl dX5_canSwap_74 ?_
          refine gz_iload_n (pc := 77) F dX5_canSwap_77 rfl 2 rfl ?_
          refine gz_iload_n (pc := 78) F dX5_canSwap_78 rfl 3 rfl ?_
          refine gz_callV (pc := 79) (n := 2) (As := [vI p0, vI p1]) (rest := []) (bytes := cX4_exchange) (maxL := 4) (ret := none) F (ct_X4_exchange l D cI cJ cZ (fun i => a (i + 14)) (Mt_exch (Pl_mt u) p0 p1) p0 p1 hE (by omega) (by omega)) gX5_canSwap_X4_exchange rfl ⟨rfl, rfl⟩ (by decide +kernel) ⟨Nat.le_of_ble_eq_true rfl, Nat.le_of_ble_eq_true rfl⟩ rfl [14, 15, 16, 17, 18, 19, 20] rfl (by decide) 14 4 rfl rfl rfl (Nat.le_of_ble_eq_true rfl) ⟨Nat.zero_le _, Nat.zero_le _⟩ (gz_pE_sh rfl) dX5_canSwap_79 ?_
          refine gz_kE (ws2 := PlW cI cJ a ((Pl_mc u, Pl_lo u, Pl_lv u, Mt_exch (Mt_exch (Pl_mt u) p0 p1) p0 p1, Pl_bu u, Pl_now u))) rfl ?_
          refine gz_iload_n (pc := 82) F dX5_canSwap_82 rfl 0 rfl ?_
          refine Z _ _ 83 _ dX5_canSwap_83 rfl ?_
          exact ⟨congrArg (fun v => PlW cI cJ a (Pl_setMt u v)) (Mt_exch2 (Pl_mt u) p0 p1), _, rfl, (bz_f (fun h => by first | exact c8 h.1.1 | exact c19 h.1.2 | exact c47 h.2.1 | exact c64 h.2.2)).symm⟩
        · refine gz_const (pc := 67) F dX5_canSwap_67 ?_
          refine gz_goto (pc := 68) (tgt := 72) F dX5_canSwap_68 (by decide) ?_
          refine gz_istore_n (pc := 72) (lv2 := [(3, vI 1), (0, .ref (a 0)), (1, vI p0), (2, vI p1)]) F dX5_canSwap_72 rfl (by decide) rfl ?_
          refine gz_aload_n (pc := 73) F dX5_canSwap_73 rfl 1 rfl ?_
          refine gz_get (pc := 74) (v := .ref (a 14)) F hn_X5_canSwap_X5 0 5 rfl rfl 3 (by decide) fl_X5_canSwap_35 rfl dX5_canSwap_74 ?_
          refine gz_iload_n (pc := 77) F dX5_canSwap_77 rfl 2 rfl ?_
          refine gz_iload_n (pc := 78) F dX5_canSwap_78 rfl 3 rfl ?_
          refine gz_callV (pc := 79) (n := 2) (As := [vI p0, vI p1]) (rest := []) (bytes := cX4_exchange) (maxL := 4) (ret := none) F (ct_X4_exchange l D cI cJ cZ (fun i => a (i + 14)) (Mt_exch (Pl_mt u) p0 p1) p0 p1 hE (by omega) (by omega)) gX5_canSwap_X4_exchange rfl ⟨rfl, rfl⟩ (by decide +kernel) ⟨Nat.le_of_ble_eq_true rfl, Nat.le_of_ble_eq_true rfl⟩ rfl [14, 15, 16, 17, 18, 19, 20] rfl (by decide) 14 4 rfl rfl rfl (Nat.le_of_ble_eq_true rfl) ⟨Nat.zero_le _, Nat.zero_le _⟩ (gz_pE_sh rfl) dX5_canSwap_79 ?_
          refine gz_kE (ws2 := PlW cI cJ a ((Pl_mc u, Pl_lo u, Pl_lv u, Mt_exch (Mt_exch (Pl_mt u) p0 p1) p0 p1, Pl_bu u, Pl_now u))) rfl ?_
          refine gz_iload_n (pc := 82) F dX5_canSwap_82 rfl 0 rfl ?_
          refine Z _ _ 83 _ dX5_canSwap_83 rfl ?_
          exact ⟨congrArg (fun v => PlW cI cJ a (Pl_setMt u v)) (Mt_exch2 (Pl_mt u) p0 p1), _, rfl, (bz_t ⟨⟨c8, c19⟩, c47, c64⟩).symm⟩
    · refine gz_const (pc := 22) F dX5_canSwap_22 ?_
      refine Z _ _ 23 _ dX5_canSwap_23 rfl ?_
      exact ⟨rfl, _, rfl, (bz_f (fun h => by first | exact c8 h.1.1 | exact c19 h.1.2 | exact c47 h.2.1 | exact c64 h.2.2)).symm⟩
