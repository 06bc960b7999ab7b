/-! ===== laid by wip/whole/gen/ri.py ===== -/
theorem hn_X8_settle_X8 : ∀ w ∈ u_ws RX8 TX8 4, w ∈ wsX8_settle := by decide +kernel
theorem fl_X8_settle_29 : Cond.fieldLink RX8 29 (TX8 3).1 (TX8 3).2.1 (TX8 3).2.2.1 ∈ wsX8_settle := by decide +kernel
theorem hn_X8_settle_X6 : ∀ w ∈ u_ws RX6 TX6 7, w ∈ wsX8_settle := by decide +kernel
theorem fl_X8_settle_133 : Cond.fieldLink RX8 133 (TX6 0).1 (TX6 0).2.1 (TX6 0).2.2.1 ∈ wsX8_settle := by decide +kernel
theorem fl_X8_settle_140 : Cond.fieldLink RX8 140 (TX6 2).1 (TX6 2).2.1 (TX6 2).2.2.1 ∈ wsX8_settle := by decide +kernel
theorem fl_X8_settle_10 : Cond.fieldLink RX8 10 (TX8 0).1 (TX8 0).2.1 (TX8 0).2.2.1 ∈ wsX8_settle := by decide +kernel
theorem fl_X8_settle_130 : Cond.fieldLink RX8 130 (TX6 5).1 (TX6 5).2.1 (TX6 5).2.2.1 ∈ wsX8_settle := by decide +kernel
set_option maxHeartbeats 4000000 in
set_option maxRecDepth 100000 in
theorem ct_X8_settle (l : Launch) (D : va_G) (cI cJ cZ : ClassId) (a : Nat → Nat) (r : RiS) (p0 : Int) (hr : RiI r) (h0 : 0 ≤ p0 ∧ p0 < 20) (hL : ∀ k, 0 ≤ k → k < Mt_n (Pl_mt (Ri_P r)) → 1 ≤ Mt_ln (Pl_mt (Ri_P r)) k) : gz_M l yX8_settle wsX8_settle { frames := 5, cells := 0, slots := 0, locals := 119 } D cI cJ cZ [.ref (a 0), vI p0] (RiW cI cJ a r) (gz_pE (RiW cI cJ a (Ri_settle r p0))) := by
  refine gz_ofV (cc := cX8_settle) (maxL := 4) (own := RX8) (by decide) rfl rfl (Nat.le_of_ble_eq_true rfl) (lv0 := [(0, .ref (a 0)), (1, vI p0)]) rfl ?_
  intro p e s m args below meth c A Q F Z
  obtain ⟨hP, hA, hTo, hSw⟩ := id hr
  obtain ⟨hMc, hLo, hLv, hMt, hBu, hnw⟩ := id hP
  have hMcn := hMc.1
  have hMtn := hMt.1
  have hBun := hBu.1
  have hTon := hTo.1
  have hSwn := hSw.1
  refine gz_aload_n (pc := 0) F dX8_settle_0 rfl 0 rfl ?_
  refine gz_get (pc := 1) (v := .ref (a 66)) F hn_X8_settle_X8 0 8 rfl rfl 3 (by decide) fl_X8_settle_29 rfl dX8_settle_1 ?_
  refine gz_get (pc := 4) (v := .ref (a 67)) F hn_X8_settle_X6 66 6 rfl rfl 0 (by decide) fl_X8_settle_133 rfl dX8_settle_4 ?_
  refine gz_iload_n (pc := 7) F dX8_settle_7 rfl 1 rfl ?_
  refine gz_iald (pc := 8) (f := Sw_me (Ri_S r)) F 67 rfl (by omega) (by decide) dX8_settle_8 ?_
  have b8 := (hSw.2 p0).1
  refine gz_istore_n (pc := 9) (lv2 := [(2, vI (Sw_me (Ri_S r) p0)), (0, .ref (a 0)), (1, vI p0)]) F dX8_settle_9 rfl (by decide) rfl ?_
  refine gz_aload_n (pc := 10) F dX8_settle_10 rfl 1 rfl ?_
  refine gz_get (pc := 11) (v := .ref (a 66)) F hn_X8_settle_X8 0 8 rfl rfl 3 (by decide) fl_X8_settle_29 rfl dX8_settle_11 ?_
  refine gz_get (pc := 14) (v := .ref (a 69)) F hn_X8_settle_X6 66 6 rfl rfl 2 (by decide) fl_X8_settle_140 rfl dX8_settle_14 ?_
  refine gz_iload_n (pc := 17) F dX8_settle_17 rfl 2 rfl ?_
  refine gz_iald (pc := 18) (f := Sw_ot (Ri_S r)) F 69 rfl (by omega) (by decide) dX8_settle_18 ?_
  have b18 := (hSw.2 p0).2.1
  refine gz_istore_n (pc := 19) (lv2 := [(3, vI (Sw_ot (Ri_S r) p0)), (2, vI (Sw_me (Ri_S r) p0)), (0, .ref (a 0)), (1, vI p0)]) F dX8_settle_19 rfl (by decide) rfl ?_
  refine gz_aload_n (pc := 20) F dX8_settle_20 rfl 2 rfl ?_
  refine gz_get (pc := 21) (v := .ref (a 1)) F hn_X8_settle_X8 0 8 rfl rfl 0 (by decide) fl_X8_settle_10 rfl dX8_settle_21 ?_
  refine gz_iload_n (pc := 24) F dX8_settle_24 rfl 1 rfl ?_
  refine gz_iload_n (pc := 25) F dX8_settle_25 rfl 0 rfl ?_
  refine gz_callVb (pc := 26) (n := 2) (As := [vI (Sw_me (Ri_S r) p0), vI (Sw_ot (Ri_S r) p0)]) (rest := []) (bytes := cX5_canSwap) (maxL := 4) (ret := some .boolean) F (ct_X5_canSwap l D cI cJ cZ (fun i => a (i + 1)) (Ri_P r) (Sw_me (Ri_S r) p0) (Sw_ot (Ri_S r) p0) hP (by omega) (by omega) hL) gX8_settle_X5_canSwap rfl ⟨rfl, rfl⟩ (by decide +kernel) ⟨Nat.le_of_ble_eq_true rfl, Nat.le_of_ble_eq_true rfl⟩ rfl [RiO a] (PlW cI cJ (fun i => a (i + 30)) (Ri_A r) ++ (ToW cI (fun i => a (i + 59)) (Ri_T r) ++ SwW cI (fun i => a (i + 66)) (Ri_S r))) (RiW_P cI cJ a (Ri_P r) (Ri_A r) (Ri_T r) (Ri_S r)) 5 rfl rfl rfl (Nat.le_of_ble_eq_true rfl) ⟨Nat.zero_le _, Nat.zero_le _⟩ gz_pI_sh dX8_settle_26 ?_
  refine gz_kIb (RiW_P cI cJ a (Ri_P r) (Ri_A r) (Ri_T r) (Ri_S r)).symm (fun r26 h26 => ?_)
  subst h26
  refine gz_if_eqb (pc := 29) (tgt := 55) F dX8_settle_29 (by decide) (fun c29 => ?_) (fun c29 => ?_)
  · refine gz_aload_n (pc := 55) F dX8_settle_55 rfl 2 rfl ?_
    refine gz_get (pc := 56) (v := .ref (a 66)) F hn_X8_settle_X8 0 8 rfl rfl 3 (by decide) fl_X8_settle_29 rfl dX8_settle_56 ?_
    refine gz_get (pc := 59) (v := .ref (a 72)) F hn_X8_settle_X6 66 6 rfl rfl 5 (by decide) fl_X8_settle_130 rfl dX8_settle_59 ?_
    refine gz_iload_n (pc := 62) F dX8_settle_62 rfl 3 rfl ?_
    refine gz_const (pc := 63) F dX8_settle_63 ?_
    refine gz_iast (pc := 64) (f := Sw_st (Ri_S r)) (ws2 := RiW cI cJ a (Ri_P r, Ri_A r, Ri_T r, (Sw_n (Ri_S r), Sw_me (Ri_S r), Sw_mm (Ri_S r), Sw_ot (Ri_S r), Sw_om (Ri_S r), Sw_ag (Ri_S r), zU (Sw_st (Ri_S r)) p0 2))) F 72 rfl (by omega) (by decide) rfl dX8_settle_64 ?_
    refine Z _ _ 65 dX8_settle_65 ?_
    refine ⟨rfl, ?_⟩
    first | exact (congrArg (RiW cI cJ a) (Ri_settle_y c29)).symm | exact (congrArg (RiW cI cJ a) (Ri_settle_n c29)).symm
  · refine gz_aload_n (pc := 32) F dX8_settle_32 rfl 2 rfl ?_
    refine gz_bipush (pc := 33) F dX8_settle_33 (by decide) ?_
    refine gz_iload_n (pc := 35) F dX8_settle_35 rfl 1 rfl ?_
    refine gz_iload_n (pc := 36) F dX8_settle_36 rfl 0 rfl ?_
    refine gz_const (pc := 37) F dX8_settle_37 ?_
    refine gz_const (pc := 38) F dX8_settle_38 ?_
    refine gz_callVb (pc := 39) (n := 5) (As := [vI 7, vI (Sw_me (Ri_S r) p0), vI (Sw_ot (Ri_S r) p0), vI 0, vI 0]) (rest := []) (bytes := cX8_tell) (maxL := 6) (ret := none) F (ct_X8_tell l D cI cJ cZ a r 7 (Sw_me (Ri_S r) p0) (Sw_ot (Ri_S r) p0) 0 0 hr (by omega) (by omega) (by omega) (by omega) (by omega)) gX8_settle_X8_tell rfl ⟨rfl, rfl⟩ (by decide +kernel) ⟨Nat.le_of_ble_eq_true rfl, Nat.le_of_ble_eq_true rfl⟩ rfl [] [] ((List.append_nil _).symm) 8 rfl rfl rfl (Nat.le_of_ble_eq_true rfl) ⟨Nat.zero_le _, Nat.zero_le _⟩ (gz_pE_sh rfl) dX8_settle_39 ?_
    refine gz_kEb (ws2 := RiW cI cJ a (Ri_tell r 7 (Sw_me (Ri_S r) p0) (Sw_ot (Ri_S r) p0) 0 0)) ((List.append_nil _).symm).symm ?_
    refine gz_aload_n (pc := 42) F dX8_settle_42 rfl 2 rfl ?_
    refine gz_get (pc := 43) (v := .ref (a 66)) F hn_X8_settle_X8 0 8 rfl rfl 3 (by decide) fl_X8_settle_29 rfl dX8_settle_43 ?_
    refine gz_get (pc := 46) (v := .ref (a 72)) F hn_X8_settle_X6 66 6 rfl rfl 5 (by decide) fl_X8_settle_130 rfl dX8_settle_46 ?_
    refine gz_iload_n (pc := 49) F dX8_settle_49 rfl 3 rfl ?_
    refine gz_const (pc := 50) F dX8_settle_50 ?_
    refine gz_iast (pc := 51) (f := Sw_st (Ri_S (Ri_tell r 7 (Sw_me (Ri_S r) p0) (Sw_ot (Ri_S r) p0) 0 0))) (ws2 := RiW cI cJ a (Ri_P (Ri_tell r 7 (Sw_me (Ri_S r) p0) (Sw_ot (Ri_S r) p0) 0 0), Ri_A (Ri_tell r 7 (Sw_me (Ri_S r) p0) (Sw_ot (Ri_S r) p0) 0 0), Ri_T (Ri_tell r 7 (Sw_me (Ri_S r) p0) (Sw_ot (Ri_S r) p0) 0 0), (Sw_n (Ri_S (Ri_tell r 7 (Sw_me (Ri_S r) p0) (Sw_ot (Ri_S r) p0) 0 0)), Sw_me (Ri_S (Ri_tell r 7 (Sw_me (Ri_S r) p0) (Sw_ot (Ri_S r) p0) 0 0)), Sw_mm (Ri_S (Ri_tell r 7 (Sw_me (Ri_S r) p0) (Sw_ot (Ri_S r) p0) 0 0)), Sw_ot (Ri_S (Ri_tell r 7 (Sw_me (Ri_S r) p0) (Sw_ot (Ri_S r) p0) 0 0)), Sw_om (Ri_S (Ri_tell r 7 (Sw_me (Ri_S r) p0) (Sw_ot (Ri_S r) p0) 0 0)), Sw_ag (Ri_S (Ri_tell r 7 (Sw_me (Ri_S r) p0) (Sw_ot (Ri_S r) p0) 0 0)), zU (Sw_st (Ri_S (Ri_tell r 7 (Sw_me (Ri_S r) p0) (Sw_ot (Ri_S r) p0) 0 0))) p0 1))) F 72 rfl (by omega) (by decide) rfl dX8_settle_51 ?_
    refine gz_goto (pc := 52) (tgt := 65) F dX8_settle_52 (by decide) ?_
    refine Z _ _ 65 dX8_settle_65 ?_
    refine ⟨rfl, ?_⟩
    first | exact (congrArg (RiW cI cJ a) (Ri_settle_y c29)).symm | exact (congrArg (RiW cI cJ a) (Ri_settle_n c29)).symm
