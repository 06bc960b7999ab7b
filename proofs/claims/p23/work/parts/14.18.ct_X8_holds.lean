/-! ===== laid by wip/whole/gen/ri.py ===== -/
theorem hn_X8_holds_X8 : ∀ w ∈ u_ws RX8 TX8 4, w ∈ wsX8_holds := by decide +kernel
theorem fl_X8_holds_29 : Cond.fieldLink RX8 29 (TX8 3).1 (TX8 3).2.1 (TX8 3).2.2.1 ∈ wsX8_holds := by decide +kernel
theorem hn_X8_holds_X6 : ∀ w ∈ u_ws RX6 TX6 7, w ∈ wsX8_holds := by decide +kernel
theorem fl_X8_holds_133 : Cond.fieldLink RX8 133 (TX6 0).1 (TX6 0).2.1 (TX6 0).2.2.1 ∈ wsX8_holds := by decide +kernel
theorem fl_X8_holds_140 : Cond.fieldLink RX8 140 (TX6 2).1 (TX6 2).2.1 (TX6 2).2.2.1 ∈ wsX8_holds := by decide +kernel
theorem fl_X8_holds_10 : Cond.fieldLink RX8 10 (TX8 0).1 (TX8 0).2.1 (TX8 0).2.2.1 ∈ wsX8_holds := by decide +kernel
theorem hn_X8_holds_X5 : ∀ w ∈ u_ws RX5 TX5 6, w ∈ wsX8_holds := by decide +kernel
theorem fl_X8_holds_62 : Cond.fieldLink RX8 62 (TX5 3).1 (TX5 3).2.1 (TX5 3).2.2.1 ∈ wsX8_holds := by decide +kernel
theorem hn_X8_holds_X4 : ∀ w ∈ u_ws RX4 TX4 7, w ∈ wsX8_holds := by decide +kernel
theorem fl_X8_holds_120 : Cond.fieldLink RX8 120 (TX4 5).1 (TX4 5).2.1 (TX4 5).2.2.1 ∈ wsX8_holds := by decide +kernel
theorem fl_X8_holds_272 : Cond.fieldLink RX8 272 (TX6 1).1 (TX6 1).2.1 (TX6 1).2.2.1 ∈ wsX8_holds := by decide +kernel
theorem fl_X8_holds_275 : Cond.fieldLink RX8 275 (TX6 3).1 (TX6 3).2.1 (TX6 3).2.2.1 ∈ wsX8_holds := by decide +kernel
set_option maxHeartbeats 4000000 in
set_option maxRecDepth 100000 in
theorem ct_X8_holds (l : Launch) (D : va_G) (cI cJ cZ : ClassId) (a : Nat → Nat) (r : RiS) (p0 : Int) (hr : RiI r) (h0 : 0 ≤ p0 ∧ p0 < 20) : gz_M l yX8_holds wsX8_holds { frames := 2, cells := 0, slots := 0, locals := 42 } D cI cJ cZ [.ref (a 0), vI p0] (RiW cI cJ a r) (gz_pI (RiW cI cJ a r) (fun q => q = bz (Ri_holds r p0))) := by
  refine gz_ofZ (cc := cX8_holds) (maxL := 4) (ty := .boolean) (own := RX8) (by decide) rfl rfl (Nat.le_of_ble_eq_true rfl) (lv0 := [(0, .ref (a 0)), (1, vI p0)]) rfl ?_
  intro p e s m args below meth c A Q F Z
  obtain ⟨hP, hA, hTo, hSw⟩ := id hr
  obtain ⟨hMc, hLo, hLv, hMt, hBu, hnw⟩ := id hP
  have hMcn := hMc.1
  have hMtn := hMt.1
  have hBun := hBu.1
  have hTon := hTo.1
  have hSwn := hSw.1
  refine gz_aload_n (pc := 0) F dX8_holds_0 rfl 0 rfl ?_
  refine gz_get (pc := 1) (v := .ref (a 66)) F hn_X8_holds_X8 0 8 rfl rfl 3 (by decide) fl_X8_holds_29 rfl dX8_holds_1 ?_
  refine gz_get (pc := 4) (v := .ref (a 67)) F hn_X8_holds_X6 66 6 rfl rfl 0 (by decide) fl_X8_holds_133 rfl dX8_holds_4 ?_
  refine gz_iload_n (pc := 7) F dX8_holds_7 rfl 1 rfl ?_
  refine gz_iald (pc := 8) (f := Sw_me (Ri_S r)) F 67 rfl (by omega) (by decide) dX8_holds_8 ?_
  have b8 := (hSw.2 p0).1
  refine gz_istore_n (pc := 9) (lv2 := [(2, vI (Sw_me (Ri_S r) p0)), (0, .ref (a 0)), (1, vI p0)]) F dX8_holds_9 rfl (by decide) rfl ?_
  refine gz_aload_n (pc := 10) F dX8_holds_10 rfl 1 rfl ?_
  refine gz_get (pc := 11) (v := .ref (a 66)) F hn_X8_holds_X8 0 8 rfl rfl 3 (by decide) fl_X8_holds_29 rfl dX8_holds_11 ?_
  refine gz_get (pc := 14) (v := .ref (a 69)) F hn_X8_holds_X6 66 6 rfl rfl 2 (by decide) fl_X8_holds_140 rfl dX8_holds_14 ?_
  refine gz_iload_n (pc := 17) F dX8_holds_17 rfl 2 rfl ?_
  refine gz_iald (pc := 18) (f := Sw_ot (Ri_S r)) F 69 rfl (by omega) (by decide) dX8_holds_18 ?_
  have b18 := (hSw.2 p0).2.1
  refine gz_istore_n (pc := 19) (lv2 := [(3, vI (Sw_ot (Ri_S r) p0)), (2, vI (Sw_me (Ri_S r) p0)), (0, .ref (a 0)), (1, vI p0)]) F dX8_holds_19 rfl (by decide) rfl ?_
  refine gz_aload_n (pc := 20) F dX8_holds_20 rfl 2 rfl ?_
  refine gz_get (pc := 21) (v := .ref (a 1)) F hn_X8_holds_X8 0 8 rfl rfl 0 (by decide) fl_X8_holds_10 rfl dX8_holds_21 ?_
  refine gz_iload_n (pc := 24) F dX8_holds_24 rfl 1 rfl ?_
  refine gz_callVb (pc := 25) (n := 1) (As := [vI (Sw_me (Ri_S r) p0)]) (rest := []) (bytes := cX5_isAhead) (maxL := 2) (ret := some .boolean) F (ct_X5_isAhead l D cI cJ cZ (fun i => a (i + 1)) (Ri_P r) (Sw_me (Ri_S r) p0) hP (by omega)) gX8_holds_X5_isAhead rfl ⟨rfl, rfl⟩ (by decide +kernel) ⟨Nat.le_of_ble_eq_true rfl, Nat.le_of_ble_eq_true rfl⟩ rfl [RiO a] (PlW cI cJ (fun i => a (i + 30)) (Ri_A r) ++ (ToW cI (fun i => a (i + 59)) (Ri_T r) ++ SwW cI (fun i => a (i + 66)) (Ri_S r))) (RiW_P cI cJ a (Ri_P r) (Ri_A r) (Ri_T r) (Ri_S r)) 5 rfl rfl rfl (Nat.le_of_ble_eq_true rfl) ⟨Nat.zero_le _, Nat.zero_le _⟩ gz_pI_sh dX8_holds_25 ?_
  refine gz_kIb (RiW_P cI cJ a (Ri_P r) (Ri_A r) (Ri_T r) (Ri_S r)).symm (fun r25 h25 => ?_)
  subst h25
  refine gz_if_eqb (pc := 28) (tgt := 94) F dX8_holds_28 (by decide) (fun c28 => ?_) (fun c28 => ?_)
  · refine gz_const (pc := 94) F dX8_holds_94 ?_
    refine Z _ _ 95 _ dX8_holds_95 rfl ?_
    exact ⟨rfl, _, rfl, (bz_f (fun h => by first | exact c28 h.1 | exact c39 h.2.1 | exact c63 h.2.2.1 | exact c87 h.2.2.2)).symm⟩
  · refine gz_aload_n (pc := 31) F dX8_holds_31 rfl 2 rfl ?_
    refine gz_get (pc := 32) (v := .ref (a 1)) F hn_X8_holds_X8 0 8 rfl rfl 0 (by decide) fl_X8_holds_10 rfl dX8_holds_32 ?_
    refine gz_iload_n (pc := 35) F dX8_holds_35 rfl 0 rfl ?_
    refine gz_callVb (pc := 36) (n := 1) (As := [vI (Sw_ot (Ri_S r) p0)]) (rest := []) (bytes := cX5_isAhead) (maxL := 2) (ret := some .boolean) F (ct_X5_isAhead l D cI cJ cZ (fun i => a (i + 1)) (Ri_P r) (Sw_ot (Ri_S r) p0) hP (by omega)) gX8_holds_X5_isAhead rfl ⟨rfl, rfl⟩ (by decide +kernel) ⟨Nat.le_of_ble_eq_true rfl, Nat.le_of_ble_eq_true rfl⟩ rfl [RiO a] (PlW cI cJ (fun i => a (i + 30)) (Ri_A r) ++ (ToW cI (fun i => a (i + 59)) (Ri_T r) ++ SwW cI (fun i => a (i + 66)) (Ri_S r))) (RiW_P cI cJ a (Ri_P r) (Ri_A r) (Ri_T r) (Ri_S r)) 5 rfl rfl rfl (Nat.le_of_ble_eq_true rfl) ⟨Nat.zero_le _, Nat.zero_le _⟩ gz_pI_sh dX8_holds_36 ?_
    refine gz_kIb (RiW_P cI cJ a (Ri_P r) (Ri_A r) (Ri_T r) (Ri_S r)).symm (fun r36 h36 => ?_)
    subst h36
    refine gz_if_eqb (pc := 39) (tgt := 94) F dX8_holds_39 (by decide) (fun c39 => ?_) (fun c39 => ?_)
    · refine gz_const (pc := 94) F dX8_holds_94 ?_
      refine Z _ _ 95 _ dX8_holds_95 rfl ?_
      exact ⟨rfl, _, rfl, (bz_f (fun h => by first | exact c28 h.1 | exact c39 h.2.1 | exact c63 h.2.2.1 | exact c87 h.2.2.2)).symm⟩
    · have k28 := c28.1
      have k39 := c39.1
      refine gz_aload_n (pc := 42) F dX8_holds_42 rfl 2 rfl ?_
      refine gz_get (pc := 43) (v := .ref (a 1)) F hn_X8_holds_X8 0 8 rfl rfl 0 (by decide) fl_X8_holds_10 rfl dX8_holds_43 ?_
      refine gz_get (pc := 46) (v := .ref (a 15)) F hn_X8_holds_X5 1 5 rfl rfl 3 (by decide) fl_X8_holds_62 rfl dX8_holds_46 ?_
      refine gz_get (pc := 49) (v := .ref (a 21)) F hn_X8_holds_X4 15 4 rfl rfl 5 (by decide) fl_X8_holds_120 rfl dX8_holds_49 ?_
      refine gz_iload_n (pc := 52) F dX8_holds_52 rfl 1 rfl ?_
      refine gz_iald (pc := 53) (f := Mt_mv (Pl_mt (Ri_P r))) F 21 rfl (by omega) (by decide) dX8_holds_53 ?_
      refine gz_aload_n (pc := 54) F dX8_holds_54 rfl 2 rfl ?_
      refine gz_get (pc := 55) (v := .ref (a 66)) F hn_X8_holds_X8 0 8 rfl rfl 3 (by decide) fl_X8_holds_29 rfl dX8_holds_55 ?_
      refine gz_get (pc := 58) (v := .ref (a 68)) F hn_X8_holds_X6 66 6 rfl rfl 1 (by decide) fl_X8_holds_272 rfl dX8_holds_58 ?_
      refine gz_iload_n (pc := 61) F dX8_holds_61 rfl 3 rfl ?_
      refine gz_iald (pc := 62) (f := Sw_mm (Ri_S r)) F 68 rfl (by omega) (by decide) dX8_holds_62 ?_
      refine gz_icmp32_ne (pc := 63) (tgt := 94) F dX8_holds_63 (by decide) (fun c63 => ?_) (fun c63 => ?_)
      · refine gz_const (pc := 94) F dX8_holds_94 ?_
        refine Z _ _ 95 _ dX8_holds_95 rfl ?_
        exact ⟨rfl, _, rfl, (bz_f (fun h => by first | exact c28 h.1 | exact c39 h.2.1 | exact c63 h.2.2.1 | exact c87 h.2.2.2)).symm⟩
      · refine gz_aload_n (pc := 66) F dX8_holds_66 rfl 2 rfl ?_
        refine gz_get (pc := 67) (v := .ref (a 1)) F hn_X8_holds_X8 0 8 rfl rfl 0 (by decide) fl_X8_holds_10 rfl dX8_holds_67 ?_
        refine gz_get (pc := 70) (v := .ref (a 15)) F hn_X8_holds_X5 1 5 rfl rfl 3 (by decide) fl_X8_holds_62 rfl dX8_holds_70 ?_
        refine gz_get (pc := 73) (v := .ref (a 21)) F hn_X8_holds_X4 15 4 rfl rfl 5 (by decide) fl_X8_holds_120 rfl dX8_holds_73 ?_
        refine gz_iload_n (pc := 76) F dX8_holds_76 rfl 0 rfl ?_
        refine gz_iald (pc := 77) (f := Mt_mv (Pl_mt (Ri_P r))) F 21 rfl (by omega) (by decide) dX8_holds_77 ?_
        refine gz_aload_n (pc := 78) F dX8_holds_78 rfl 2 rfl ?_
        refine gz_get (pc := 79) (v := .ref (a 66)) F hn_X8_holds_X8 0 8 rfl rfl 3 (by decide) fl_X8_holds_29 rfl dX8_holds_79 ?_
        refine gz_get (pc := 82) (v := .ref (a 70)) F hn_X8_holds_X6 66 6 rfl rfl 3 (by decide) fl_X8_holds_275 rfl dX8_holds_82 ?_
        refine gz_iload_n (pc := 85) F dX8_holds_85 rfl 3 rfl ?_
        refine gz_iald (pc := 86) (f := Sw_om (Ri_S r)) F 70 rfl (by omega) (by decide) dX8_holds_86 ?_
        refine gz_icmp32_ne (pc := 87) (tgt := 94) F dX8_holds_87 (by decide) (fun c87 => ?_) (fun c87 => ?_)
        · refine gz_const (pc := 94) F dX8_holds_94 ?_
          refine Z _ _ 95 _ dX8_holds_95 rfl ?_
          exact ⟨rfl, _, rfl, (bz_f (fun h => by first | exact c28 h.1 | exact c39 h.2.1 | exact c63 h.2.2.1 | exact c87 h.2.2.2)).symm⟩
        · refine gz_const (pc := 90) F dX8_holds_90 ?_
          refine gz_goto (pc := 91) (tgt := 95) F dX8_holds_91 (by decide) ?_
          refine Z _ _ 95 _ dX8_holds_95 rfl ?_
          exact ⟨rfl, _, rfl, (bz_t (⟨c28, c39, c63, c87⟩)).symm⟩
