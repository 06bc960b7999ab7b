/-! ===== laid by wip/whole/gen/ri.py ===== -/
abbrev cd_move (r : RiS) (p0 p1 : Int) : List (Prop × String) := [(¬ (0 ≤ p0 ∧ p0 < Mt_n (Pl_mt (Ri_P r))), xIO), (¬ (Pl_now (Ri_P r) ≤ p1 ∧ p1 ≤ 399), xIA), (¬ (p1 / 8 = (p1 + Mt_ln (Pl_mt (Ri_P r)) p0 - 1) / 8), xIA), (¬ (Pl_ahead (Ri_P r) p0), xIS)]
theorem hn_X8_move_X8 : ∀ w ∈ u_ws RX8 TX8 4, w ∈ wsX8_move := by decide +kernel
theorem fl_X8_move_10 : Cond.fieldLink RX8 10 (TX8 0).1 (TX8 0).2.1 (TX8 0).2.2.1 ∈ wsX8_move := by decide +kernel
theorem hn_X8_move_X5 : ∀ w ∈ u_ws RX5 TX5 6, w ∈ wsX8_move := by decide +kernel
theorem fl_X8_move_59 : Cond.fieldLink RX8 59 (TX5 5).1 (TX5 5).2.1 (TX5 5).2.2.1 ∈ wsX8_move := by decide +kernel
theorem fl_X8_move_62 : Cond.fieldLink RX8 62 (TX5 3).1 (TX5 3).2.1 (TX5 3).2.2.1 ∈ wsX8_move := by decide +kernel
theorem hn_X8_move_X4 : ∀ w ∈ u_ws RX4 TX4 7, w ∈ wsX8_move := by decide +kernel
theorem fl_X8_move_102 : Cond.fieldLink RX8 102 (TX4 2).1 (TX4 2).2.1 (TX4 2).2.2.1 ∈ wsX8_move := by decide +kernel
set_option maxHeartbeats 4000000 in
set_option maxRecDepth 100000 in
theorem cx_X8_move (l : Launch) (hfl : l.stackTraces = false) (D : va_G) (cI cJ cZ : ClassId) (a : Nat → Nat) (r : RiS) (p0 p1 : Int) (hr : RiI r) (h0 : -2147483648 ≤ p0 ∧ p0 < 2147483648) (h1 : -2147483648 ≤ p1 ∧ p1 < 2147483648) (hL : ∀ k, 0 ≤ k → k < Mt_n (Pl_mt (Ri_P r)) → 1 ≤ Mt_ln (Pl_mt (Ri_P r)) k) : gz_X l yX8_move wsX8_move { frames := 7, cells := 1, slots := 6, locals := 116 } D cI cJ cZ [.ref (a 0), vI p0, vI p1] (RiW cI cJ a r) (gz_pO (cd_move r p0 p1) (some (vI (bz (Pl_can (Ri_P r) p0 p1)))) (RiW cI cJ a (@ite _ (Pl_can (Ri_P r) p0 p1) (Classical.propDecidable _) (Ri_tell r 5 p0 p1 0 0) r))) (gz_px (cd_move r p0 p1)) := by
  refine gz_ofXZ (cc := cX8_move) (maxL := 4) (ty := .boolean) (own := RX8) hfl (by decide) rfl rfl (Nat.le_of_ble_eq_true rfl) (lv0 := [(0, .ref (a 0)), (1, vI p0), (2, vI p1)]) rfl ?_
  intro p e s m args below meth c A Q F FX Z ZT ZC
  obtain ⟨hP, hA, hTo, hSw⟩ := id hr
  obtain ⟨hMc, hLo, hLv, hMt, hBu, hnw⟩ := id hP
  have hMcn := hMc.1
  have hMtn := hMt.1
  have hBun := hBu.1
  have hTon := hTo.1
  have hSwn := hSw.1
  refine gz_aload_n (pc := 0) F dX8_move_0 rfl 0 rfl ?_
  refine gz_iload_n (pc := 1) F dX8_move_1 rfl 1 rfl ?_
  by_cases n2 : 0 ≤ p0 ∧ p0 < Mt_n (Pl_mt (Ri_P r))
  · refine gz_callVb (pc := 2) (n := 1) (As := [vI p0]) (rest := []) (bytes := cX8_needMeeting) (maxL := 2) (ret := none) F (ct_X8_needMeeting l D cI cJ cZ a r p0 hr (by omega) n2) gX8_move_X8_needMeeting rfl ⟨rfl, rfl⟩ (by decide +kernel) ⟨Nat.le_of_ble_eq_true rfl, Nat.le_of_ble_eq_true rfl⟩ rfl [] [] ((List.append_nil _).symm) 8 rfl rfl rfl (Nat.le_of_ble_eq_true rfl) ⟨Nat.zero_le _, Nat.zero_le _⟩ (gz_pE_sh rfl) dX8_move_2 ?_
    refine gz_kEb (ws2 := RiW cI cJ a r) ((List.append_nil _).symm).symm ?_
    have k5 := hL p0 n2.1 n2.2
    refine gz_iload_n (pc := 5) F dX8_move_5 rfl 2 rfl ?_
    refine gz_aload_n (pc := 6) F dX8_move_6 rfl 0 rfl ?_
    refine gz_get (pc := 7) (v := .ref (a 1)) F hn_X8_move_X8 0 8 rfl rfl 0 (by decide) fl_X8_move_10 rfl dX8_move_7 ?_
    refine gz_get (pc := 10) (v := vI (Pl_now (Ri_P r))) F hn_X8_move_X5 1 5 rfl rfl 5 (by decide) fl_X8_move_59 rfl dX8_move_10 ?_
    have b10 := hnw
    refine gz_sipush (pc := 13) F dX8_move_13 (by decide) ?_
    by_cases n16 : (Pl_now (Ri_P r)) ≤ p1 ∧ p1 ≤ 399
    · refine gz_callS (pc := 16) (n := 3) (As := [vI p1, vI (Pl_now (Ri_P r)), vI 399]) (rest := []) (bytes := cX8_needRange) (maxL := 3) (ret := none) F (ct_X8_needRange l D cI cJ cZ p1 (Pl_now (Ri_P r)) 399 (by omega) (by omega) (by omega) n16) gX8_move_X8_needRange rfl ⟨rfl, rfl⟩ (by decide +kernel) ⟨Nat.le_of_ble_eq_true rfl, Nat.le_of_ble_eq_true rfl⟩ rfl [] rfl (by decide) rfl (Nat.le_of_ble_eq_true rfl) ⟨Nat.zero_le _, Nat.zero_le _⟩ (gz_pE_sh rfl) dX8_move_16 ?_
      refine gz_kE (ws2 := RiW cI cJ a r) rfl ?_
      refine gz_iload_n (pc := 19) F dX8_move_19 rfl 2 rfl ?_
      refine gz_aload_n (pc := 20) F dX8_move_20 rfl 0 rfl ?_
      refine gz_get (pc := 21) (v := .ref (a 1)) F hn_X8_move_X8 0 8 rfl rfl 0 (by decide) fl_X8_move_10 rfl dX8_move_21 ?_
      refine gz_get (pc := 24) (v := .ref (a 15)) F hn_X8_move_X5 1 5 rfl rfl 3 (by decide) fl_X8_move_62 rfl dX8_move_24 ?_
      refine gz_get (pc := 27) (v := .ref (a 18)) F hn_X8_move_X4 15 4 rfl rfl 2 (by decide) fl_X8_move_102 rfl dX8_move_27 ?_
      refine gz_iload_n (pc := 30) F dX8_move_30 rfl 1 rfl ?_
      refine gz_iald (pc := 31) (f := Mt_ln (Pl_mt (Ri_P r))) F 18 rfl (by omega) (by decide) dX8_move_31 ?_
      have b31 := (hMt.2 p0).2.2.1
      by_cases n32 : p1 / 8 = (p1 + (Mt_ln (Pl_mt (Ri_P r)) p0) - 1) / 8
      · refine gz_callS (pc := 32) (n := 2) (As := [vI p1, vI (Mt_ln (Pl_mt (Ri_P r)) p0)]) (rest := []) (bytes := cX8_needOneDay) (maxL := 2) (ret := none) F (ct_X8_needOneDay l D cI cJ cZ p1 (Mt_ln (Pl_mt (Ri_P r)) p0) (by omega) (by omega) n32) gX8_move_X8_needOneDay rfl ⟨rfl, rfl⟩ (by decide +kernel) ⟨Nat.le_of_ble_eq_true rfl, Nat.le_of_ble_eq_true rfl⟩ rfl [] rfl (by decide) rfl (Nat.le_of_ble_eq_true rfl) ⟨Nat.zero_le _, Nat.zero_le _⟩ (gz_pE_sh rfl) dX8_move_32 ?_
        refine gz_kE (ws2 := RiW cI cJ a r) rfl ?_
        refine gz_aload_n (pc := 35) F dX8_move_35 rfl 0 rfl ?_
        refine gz_get (pc := 36) (v := .ref (a 1)) F hn_X8_move_X8 0 8 rfl rfl 0 (by decide) fl_X8_move_10 rfl dX8_move_36 ?_
        refine gz_iload_n (pc := 39) F dX8_move_39 rfl 1 rfl ?_
        refine gz_callVb (pc := 40) (n := 1) (As := [vI p0]) (rest := []) (bytes := cX5_isAhead) (maxL := 2) (ret := some .boolean) F (ct_X5_isAhead l D cI cJ cZ (fun i => a (i + 1)) (Ri_P r) p0 hP (by omega)) gX8_move_X5_isAhead rfl ⟨rfl, rfl⟩ (by decide +kernel) ⟨Nat.le_of_ble_eq_true rfl, Nat.le_of_ble_eq_true rfl⟩ rfl [RiO a] (PlW cI cJ (fun i => a (i + 30)) (Ri_A r) ++ (ToW cI (fun i => a (i + 59)) (Ri_T r) ++ SwW cI (fun i => a (i + 66)) (Ri_S r))) (RiW_P cI cJ a (Ri_P r) (Ri_A r) (Ri_T r) (Ri_S r)) 5 rfl rfl rfl (Nat.le_of_ble_eq_true rfl) ⟨Nat.zero_le _, Nat.zero_le _⟩ gz_pI_sh dX8_move_40 ?_
        refine gz_kIb (RiW_P cI cJ a (Ri_P r) (Ri_A r) (Ri_T r) (Ri_S r)).symm (fun r40 h40 => ?_)
        subst h40
        by_cases n43 : (Pl_ahead (Ri_P r) p0)
        · refine gz_callS (pc := 43) (n := 1) (As := [vI (bz (Pl_ahead (Ri_P r) p0))]) (rest := []) (bytes := cX8_needState) (maxL := 1) (ret := none) F (ct_X8_needState l D cI cJ cZ ((Pl_ahead (Ri_P r) p0)) n43) gX8_move_X8_needState rfl ⟨rfl, rfl⟩ (by decide +kernel) ⟨Nat.le_of_ble_eq_true rfl, Nat.le_of_ble_eq_true rfl⟩ rfl [] rfl (by decide) rfl (Nat.le_of_ble_eq_true rfl) ⟨Nat.zero_le _, Nat.zero_le _⟩ (gz_pE_sh rfl) dX8_move_43 ?_
          refine gz_kE (ws2 := RiW cI cJ a r) rfl ?_
          refine gz_aload_n (pc := 46) F dX8_move_46 rfl 0 rfl ?_
          refine gz_get (pc := 47) (v := .ref (a 1)) F hn_X8_move_X8 0 8 rfl rfl 0 (by decide) fl_X8_move_10 rfl dX8_move_47 ?_
          refine gz_iload_n (pc := 50) F dX8_move_50 rfl 1 rfl ?_
          refine gz_iload_n (pc := 51) F dX8_move_51 rfl 2 rfl ?_
          refine gz_callVb (pc := 52) (n := 2) (As := [vI p0, vI p1]) (rest := []) (bytes := cX5_canBe) (maxL := 3) (ret := some .boolean) F (ct_X5_canBe l D cI cJ cZ (fun i => a (i + 1)) (Ri_P r) p0 p1 hP (by omega) (by omega) hL) gX8_move_X5_canBe rfl ⟨rfl, rfl⟩ (by decide +kernel) ⟨Nat.le_of_ble_eq_true rfl, Nat.le_of_ble_eq_true rfl⟩ rfl [RiO a] (PlW cI cJ (fun i => a (i + 30)) (Ri_A r) ++ (ToW cI (fun i => a (i + 59)) (Ri_T r) ++ SwW cI (fun i => a (i + 66)) (Ri_S r))) (RiW_P cI cJ a (Ri_P r) (Ri_A r) (Ri_T r) (Ri_S r)) 5 rfl rfl rfl (Nat.le_of_ble_eq_true rfl) ⟨Nat.zero_le _, Nat.zero_le _⟩ gz_pI_sh dX8_move_52 ?_
          refine gz_kIb (RiW_P cI cJ a (Ri_P r) (Ri_A r) (Ri_T r) (Ri_S r)).symm (fun r52 h52 => ?_)
          subst h52
          refine gz_istore_n (pc := 55) (lv2 := [(3, vI (bz (Pl_can (Ri_P r) p0 p1))), (0, .ref (a 0)), (1, vI p0), (2, vI p1)]) F dX8_move_55 rfl (by decide) rfl ?_
          refine gz_iload_n (pc := 56) F dX8_move_56 rfl 0 rfl ?_
          refine gz_if_eqb (pc := 57) (tgt := 69) F dX8_move_57 (by decide) (fun c57 => ?_) (fun c57 => ?_)
          · refine gz_iload_n (pc := 69) F dX8_move_69 rfl 0 rfl ?_
            refine Z _ _ 70 _ dX8_move_70 (bz_nar _) ?_
            exact ⟨⟨not_not_intro n2, not_not_intro n16, not_not_intro n32, not_not_intro n43, trivial⟩, rfl, (by rw [if_neg c57])⟩
          · refine gz_aload_n (pc := 60) F dX8_move_60 rfl 1 rfl ?_
            refine gz_const (pc := 61) F dX8_move_61 ?_
            refine gz_iload_n (pc := 62) F dX8_move_62 rfl 2 rfl ?_
            refine gz_iload_n (pc := 63) F dX8_move_63 rfl 3 rfl ?_
            refine gz_const (pc := 64) F dX8_move_64 ?_
            refine gz_const (pc := 65) F dX8_move_65 ?_
            refine gz_callVb (pc := 66) (n := 5) (As := [vI 5, vI p0, vI p1, vI 0, vI 0]) (rest := []) (bytes := cX8_tell) (maxL := 6) (ret := none) F (ct_X8_tell l D cI cJ cZ a r 5 p0 p1 0 0 hr (by omega) (by omega) (by omega) (by omega) (by omega)) gX8_move_X8_tell rfl ⟨rfl, rfl⟩ (by decide +kernel) ⟨Nat.le_of_ble_eq_true rfl, Nat.le_of_ble_eq_true rfl⟩ rfl [] [] ((List.append_nil _).symm) 8 rfl rfl rfl (Nat.le_of_ble_eq_true rfl) ⟨Nat.zero_le _, Nat.zero_le _⟩ (gz_pE_sh rfl) dX8_move_66 ?_
            refine gz_kEb (ws2 := RiW cI cJ a (Ri_tell r 5 p0 p1 0 0)) ((List.append_nil _).symm).symm ?_
            refine gz_iload_n (pc := 69) F dX8_move_69 rfl 0 rfl ?_
            refine Z _ _ 70 _ dX8_move_70 (bz_nar _) ?_
            exact ⟨⟨not_not_intro n2, not_not_intro n16, not_not_intro n32, not_not_intro n43, trivial⟩, rfl, (by rw [if_pos c57])⟩
        · refine gz_callSX (pc := 43) (n := 1) (As := [vI (bz (Pl_ahead (Ri_P r) p0))]) (rest := []) (bytes := cX8_needState) (maxL := 1) (ret := none) F FX (cx_X8_needState l hfl D cI cJ cZ ((Pl_ahead (Ri_P r) p0)) n43) gX8_move_X8_needState rfl ⟨rfl, rfl⟩ (by decide +kernel) ⟨Nat.le_of_ble_eq_true rfl, Nat.le_of_ble_eq_true rfl⟩ rfl [] rfl (by decide) rfl (Nat.le_of_ble_eq_true rfl) (by decide) gz_pF_sh dX8_move_43 (fun _ _ h => h.elim) (fun E hE => ?_)
          subst hE
          exact ZC _ _ _ _ (Or.inr ⟨not_not_intro n2, Or.inr ⟨not_not_intro n16, Or.inr ⟨not_not_intro n32, Or.inl ⟨n43, rfl⟩⟩⟩⟩)
      · refine gz_callSX (pc := 32) (n := 2) (As := [vI p1, vI (Mt_ln (Pl_mt (Ri_P r)) p0)]) (rest := []) (bytes := cX8_needOneDay) (maxL := 2) (ret := none) F FX (cx_X8_needOneDay l hfl D cI cJ cZ p1 (Mt_ln (Pl_mt (Ri_P r)) p0) (by omega) (by omega) n32) gX8_move_X8_needOneDay rfl ⟨rfl, rfl⟩ (by decide +kernel) ⟨Nat.le_of_ble_eq_true rfl, Nat.le_of_ble_eq_true rfl⟩ rfl [] rfl (by decide) rfl (Nat.le_of_ble_eq_true rfl) (by decide) gz_pF_sh dX8_move_32 (fun _ _ h => h.elim) (fun E hE => ?_)
        subst hE
        exact ZC _ _ _ _ (Or.inr ⟨not_not_intro n2, Or.inr ⟨not_not_intro n16, Or.inl ⟨n32, rfl⟩⟩⟩)
    · refine gz_callSX (pc := 16) (n := 3) (As := [vI p1, vI (Pl_now (Ri_P r)), vI 399]) (rest := []) (bytes := cX8_needRange) (maxL := 3) (ret := none) F FX (cx_X8_needRange l hfl D cI cJ cZ p1 (Pl_now (Ri_P r)) 399 (by omega) (by omega) (by omega) n16) gX8_move_X8_needRange rfl ⟨rfl, rfl⟩ (by decide +kernel) ⟨Nat.le_of_ble_eq_true rfl, Nat.le_of_ble_eq_true rfl⟩ rfl [] rfl (by decide) rfl (Nat.le_of_ble_eq_true rfl) (by decide) gz_pF_sh dX8_move_16 (fun _ _ h => h.elim) (fun E hE => ?_)
      subst hE
      exact ZC _ _ _ _ (Or.inr ⟨not_not_intro n2, Or.inl ⟨n16, rfl⟩⟩)
  · refine gz_callVXb (pc := 2) (n := 1) (As := [vI p0]) (rest := []) (bytes := cX8_needMeeting) (maxL := 2) (ret := none) F FX (cx_X8_needMeeting l hfl D cI cJ cZ a r p0 hr (by omega) n2) gX8_move_X8_needMeeting rfl ⟨rfl, rfl⟩ (by decide +kernel) ⟨Nat.le_of_ble_eq_true rfl, Nat.le_of_ble_eq_true rfl⟩ rfl [] [] ((List.append_nil _).symm) 8 rfl rfl rfl (Nat.le_of_ble_eq_true rfl) (by decide) gz_pF_sh dX8_move_2 (fun _ _ h => h.elim) (fun E hE => ?_)
    subst hE
    exact ZC _ _ _ _ (Or.inl ⟨n2, rfl⟩)
