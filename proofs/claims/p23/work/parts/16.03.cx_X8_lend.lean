/-! ===== laid by wip/whole/gen/ri.py ===== -/
abbrev cd_lend (r : RiS) (p0 p1 p2 p3 : Int) : List (Prop × String) := [(¬ (0 ≤ p0 ∧ p0 < Mc_n (Pl_mc (Ri_P r))), xIO), (¬ (0 ≤ p1 ∧ p1 < 10), xIO), (¬ (Pl_now (Ri_P r) ≤ p2 ∧ p2 ≤ 399), xIA), (¬ (p2 ≤ p3 ∧ p3 ≤ 399), xIA), (¬ (Lo_n (Pl_lo (Ri_P r)) < 20), xIS)]
theorem hn_X8_lend_X8 : ∀ w ∈ u_ws RX8 TX8 4, w ∈ wsX8_lend := by decide +kernel
theorem fl_X8_lend_10 : Cond.fieldLink RX8 10 (TX8 0).1 (TX8 0).2.1 (TX8 0).2.2.1 ∈ wsX8_lend := by decide +kernel
theorem hn_X8_lend_X5 : ∀ w ∈ u_ws RX5 TX5 6, w ∈ wsX8_lend := by decide +kernel
theorem fl_X8_lend_59 : Cond.fieldLink RX8 59 (TX5 5).1 (TX5 5).2.1 (TX5 5).2.2.1 ∈ wsX8_lend := by decide +kernel
theorem fl_X8_lend_79 : Cond.fieldLink RX8 79 (TX5 1).1 (TX5 1).2.1 (TX5 1).2.2.1 ∈ wsX8_lend := by decide +kernel
theorem hn_X8_lend_X2 : ∀ w ∈ u_ws RX2 TX2 5, w ∈ wsX8_lend := by decide +kernel
theorem fl_X8_lend_83 : Cond.fieldLink RX8 83 (TX2 4).1 (TX2 4).2.1 (TX2 4).2.2.1 ∈ wsX8_lend := by decide +kernel
set_option maxHeartbeats 4000000 in
set_option maxRecDepth 100000 in
theorem cx_X8_lend (l : Launch) (hfl : l.stackTraces = false) (D : va_G) (cI cJ cZ : ClassId) (a : Nat → Nat) (r : RiS) (p0 p1 p2 p3 : Int) (hr : RiI r) (h0 : -2147483648 ≤ p0 ∧ p0 < 2147483648) (h1 : -2147483648 ≤ p1 ∧ p1 < 2147483648) (h2 : -2147483648 ≤ p2 ∧ p2 < 2147483648) (h3 : -2147483648 ≤ p3 ∧ p3 < 2147483648)  : gz_X l yX8_lend wsX8_lend { frames := 7, cells := 1, slots := 6, locals := 116 } D cI cJ cZ [.ref (a 0), vI p0, vI p1, vI p2, vI p3] (RiW cI cJ a r) (gz_pO (cd_lend r p0 p1 p2 p3) none (RiW cI cJ a (Ri_tell r 2 p0 p1 p2 p3))) (gz_px (cd_lend r p0 p1 p2 p3)) := by
  refine gz_ofXV (cc := cX8_lend) (maxL := 5) (own := RX8) hfl (by decide) rfl rfl (Nat.le_of_ble_eq_true rfl) (lv0 := [(0, .ref (a 0)), (1, vI p0), (2, vI p1), (3, vI p2), (4, vI p3)]) rfl ?_
  intro p e s m args below meth c A Q F FX Z ZT ZC
  obtain ⟨hP, hA, hTo, hSw⟩ := id hr
  obtain ⟨hMc, hLo, hLv, hMt, hBu, hnw⟩ := id hP
  have hMcn := hMc.1
  have hMtn := hMt.1
  have hBun := hBu.1
  have hTon := hTo.1
  have hSwn := hSw.1
  refine gz_aload_n (pc := 0) F dX8_lend_0 rfl 0 rfl ?_
  refine gz_iload_n (pc := 1) F dX8_lend_1 rfl 1 rfl ?_
  by_cases n2 : 0 ≤ p0 ∧ p0 < Mc_n (Pl_mc (Ri_P r))
  · refine gz_callVb (pc := 2) (n := 1) (As := [vI p0]) (rest := []) (bytes := cX8_needMachine) (maxL := 2) (ret := none) F (ct_X8_needMachine l D cI cJ cZ a r p0 hr (by omega) n2) gX8_lend_X8_needMachine rfl ⟨rfl, rfl⟩ (by decide +kernel) ⟨Nat.le_of_ble_eq_true rfl, Nat.le_of_ble_eq_true rfl⟩ rfl [] [] ((List.append_nil _).symm) 8 rfl rfl rfl (Nat.le_of_ble_eq_true rfl) ⟨Nat.zero_le _, Nat.zero_le _⟩ (gz_pE_sh rfl) dX8_lend_2 ?_
    refine gz_kEb (ws2 := RiW cI cJ a r) ((List.append_nil _).symm).symm ?_
    refine gz_iload_n (pc := 5) F dX8_lend_5 rfl 2 rfl ?_
    by_cases n6 : 0 ≤ p1 ∧ p1 < 10
    · refine gz_callS (pc := 6) (n := 1) (As := [vI p1]) (rest := []) (bytes := cX8_needPerson) (maxL := 1) (ret := none) F (ct_X8_needPerson l D cI cJ cZ p1 (by omega) n6) gX8_lend_X8_needPerson rfl ⟨rfl, rfl⟩ (by decide +kernel) ⟨Nat.le_of_ble_eq_true rfl, Nat.le_of_ble_eq_true rfl⟩ rfl [] rfl (by decide) rfl (Nat.le_of_ble_eq_true rfl) ⟨Nat.zero_le _, Nat.zero_le _⟩ (gz_pE_sh rfl) dX8_lend_6 ?_
      refine gz_kE (ws2 := RiW cI cJ a r) rfl ?_
      refine gz_iload_n (pc := 9) F dX8_lend_9 rfl 3 rfl ?_
      refine gz_aload_n (pc := 10) F dX8_lend_10 rfl 0 rfl ?_
      refine gz_get (pc := 11) (v := .ref (a 1)) F hn_X8_lend_X8 0 8 rfl rfl 0 (by decide) fl_X8_lend_10 rfl dX8_lend_11 ?_
      refine gz_get (pc := 14) (v := vI (Pl_now (Ri_P r))) F hn_X8_lend_X5 1 5 rfl rfl 5 (by decide) fl_X8_lend_59 rfl dX8_lend_14 ?_
      have b14 := hnw
      refine gz_sipush (pc := 17) F dX8_lend_17 (by decide) ?_
      by_cases n20 : (Pl_now (Ri_P r)) ≤ p2 ∧ p2 ≤ 399
      · refine gz_callS (pc := 20) (n := 3) (As := [vI p2, vI (Pl_now (Ri_P r)), vI 399]) (rest := []) (bytes := cX8_needRange) (maxL := 3) (ret := none) F (ct_X8_needRange l D cI cJ cZ p2 (Pl_now (Ri_P r)) 399 (by omega) (by omega) (by omega) n20) gX8_lend_X8_needRange rfl ⟨rfl, rfl⟩ (by decide +kernel) ⟨Nat.le_of_ble_eq_true rfl, Nat.le_of_ble_eq_true rfl⟩ rfl [] rfl (by decide) rfl (Nat.le_of_ble_eq_true rfl) ⟨Nat.zero_le _, Nat.zero_le _⟩ (gz_pE_sh rfl) dX8_lend_20 ?_
        refine gz_kE (ws2 := RiW cI cJ a r) rfl ?_
        refine gz_iload (pc := 23) F dX8_lend_23 4 rfl ?_
        refine gz_iload_n (pc := 25) F dX8_lend_25 rfl 3 rfl ?_
        refine gz_sipush (pc := 26) F dX8_lend_26 (by decide) ?_
        by_cases n29 : p2 ≤ p3 ∧ p3 ≤ 399
        · refine gz_callS (pc := 29) (n := 3) (As := [vI p3, vI p2, vI 399]) (rest := []) (bytes := cX8_needRange) (maxL := 3) (ret := none) F (ct_X8_needRange l D cI cJ cZ p3 p2 399 (by omega) (by omega) (by omega) n29) gX8_lend_X8_needRange rfl ⟨rfl, rfl⟩ (by decide +kernel) ⟨Nat.le_of_ble_eq_true rfl, Nat.le_of_ble_eq_true rfl⟩ rfl [] rfl (by decide) rfl (Nat.le_of_ble_eq_true rfl) ⟨Nat.zero_le _, Nat.zero_le _⟩ (gz_pE_sh rfl) dX8_lend_29 ?_
          refine gz_kE (ws2 := RiW cI cJ a r) rfl ?_
          refine gz_aload_n (pc := 32) F dX8_lend_32 rfl 0 rfl ?_
          refine gz_get (pc := 33) (v := .ref (a 1)) F hn_X8_lend_X8 0 8 rfl rfl 0 (by decide) fl_X8_lend_10 rfl dX8_lend_33 ?_
          refine gz_get (pc := 36) (v := .ref (a 8)) F hn_X8_lend_X5 1 5 rfl rfl 1 (by decide) fl_X8_lend_79 rfl dX8_lend_36 ?_
          refine gz_get (pc := 39) (v := vI (Lo_n (Pl_lo (Ri_P r)))) F hn_X8_lend_X2 8 2 rfl rfl 4 (by decide) fl_X8_lend_83 rfl dX8_lend_39 ?_
          have b39 := hLo.1
          refine gz_bipush (pc := 42) F dX8_lend_42 (by decide) ?_
          refine gz_icmp_ge (pc := 44) (tgt := 51) F dX8_lend_44 (by decide) (by omega) (by omega) (fun c44 => ?_) (fun c44 => ?_)
          · refine gz_const (pc := 51) F dX8_lend_51 ?_
            refine gz_eqst (st2 := [vI (bz False)]) (congrArg (fun x => [vI x]) (bz_f not_false).symm) ?_
            have n52 : ¬ False := not_false
            refine gz_callSX (pc := 52) (n := 1) (As := [vI (bz False)]) (rest := []) (bytes := cX8_needState) (maxL := 1) (ret := none) F FX (cx_X8_needState l hfl D cI cJ cZ (False) n52) gX8_lend_X8_needState rfl ⟨rfl, rfl⟩ (by decide +kernel) ⟨Nat.le_of_ble_eq_true rfl, Nat.le_of_ble_eq_true rfl⟩ rfl [] rfl (by decide) rfl (Nat.le_of_ble_eq_true rfl) (by decide) gz_pF_sh dX8_lend_52 (fun _ _ h => h.elim) (fun E hE => ?_)
            subst hE
            exact ZC _ _ _ _ (Or.inr ⟨not_not_intro n2, Or.inr ⟨not_not_intro n6, Or.inr ⟨not_not_intro n20, Or.inr ⟨not_not_intro n29, Or.inl ⟨(by omega), rfl⟩⟩⟩⟩⟩)
          · refine gz_const (pc := 47) F dX8_lend_47 ?_
            refine gz_goto (pc := 48) (tgt := 52) F dX8_lend_48 (by decide) ?_
            refine gz_eqst (st2 := [vI (bz True)]) (congrArg (fun x => [vI x]) (bz_t trivial).symm) ?_
            have n52 : True := trivial
            refine gz_callS (pc := 52) (n := 1) (As := [vI (bz True)]) (rest := []) (bytes := cX8_needState) (maxL := 1) (ret := none) F (ct_X8_needState l D cI cJ cZ (True) n52) gX8_lend_X8_needState rfl ⟨rfl, rfl⟩ (by decide +kernel) ⟨Nat.le_of_ble_eq_true rfl, Nat.le_of_ble_eq_true rfl⟩ rfl [] rfl (by decide) rfl (Nat.le_of_ble_eq_true rfl) ⟨Nat.zero_le _, Nat.zero_le _⟩ (gz_pE_sh rfl) dX8_lend_52 ?_
            refine gz_kE (ws2 := RiW cI cJ a r) rfl ?_
            refine gz_aload_n (pc := 55) F dX8_lend_55 rfl 0 rfl ?_
            refine gz_const (pc := 56) F dX8_lend_56 ?_
            refine gz_iload_n (pc := 57) F dX8_lend_57 rfl 1 rfl ?_
            refine gz_iload_n (pc := 58) F dX8_lend_58 rfl 2 rfl ?_
            refine gz_iload_n (pc := 59) F dX8_lend_59 rfl 3 rfl ?_
            refine gz_iload (pc := 60) F dX8_lend_60 4 rfl ?_
            refine gz_callVb (pc := 62) (n := 5) (As := [vI 2, vI p0, vI p1, vI p2, vI p3]) (rest := []) (bytes := cX8_tell) (maxL := 6) (ret := none) F (ct_X8_tell l D cI cJ cZ a r 2 p0 p1 p2 p3 hr (by omega) (by omega) (by omega) (by omega) (by omega)) gX8_lend_X8_tell rfl ⟨rfl, rfl⟩ (by decide +kernel) ⟨Nat.le_of_ble_eq_true rfl, Nat.le_of_ble_eq_true rfl⟩ rfl [] [] ((List.append_nil _).symm) 8 rfl rfl rfl (Nat.le_of_ble_eq_true rfl) ⟨Nat.zero_le _, Nat.zero_le _⟩ (gz_pE_sh rfl) dX8_lend_62 ?_
            refine gz_kEb (ws2 := RiW cI cJ a (Ri_tell r 2 p0 p1 p2 p3)) ((List.append_nil _).symm).symm ?_
            refine Z _ _ 65 dX8_lend_65 ?_
            exact ⟨⟨not_not_intro n2, not_not_intro n6, not_not_intro n20, not_not_intro n29, (by omega), trivial⟩, rfl, rfl⟩
        · refine gz_callSX (pc := 29) (n := 3) (As := [vI p3, vI p2, vI 399]) (rest := []) (bytes := cX8_needRange) (maxL := 3) (ret := none) F FX (cx_X8_needRange l hfl D cI cJ cZ p3 p2 399 (by omega) (by omega) (by omega) n29) gX8_lend_X8_needRange rfl ⟨rfl, rfl⟩ (by decide +kernel) ⟨Nat.le_of_ble_eq_true rfl, Nat.le_of_ble_eq_true rfl⟩ rfl [] rfl (by decide) rfl (Nat.le_of_ble_eq_true rfl) (by decide) gz_pF_sh dX8_lend_29 (fun _ _ h => h.elim) (fun E hE => ?_)
          subst hE
          exact ZC _ _ _ _ (Or.inr ⟨not_not_intro n2, Or.inr ⟨not_not_intro n6, Or.inr ⟨not_not_intro n20, Or.inl ⟨n29, rfl⟩⟩⟩⟩)
      · refine gz_callSX (pc := 20) (n := 3) (As := [vI p2, vI (Pl_now (Ri_P r)), vI 399]) (rest := []) (bytes := cX8_needRange) (maxL := 3) (ret := none) F FX (cx_X8_needRange l hfl D cI cJ cZ p2 (Pl_now (Ri_P r)) 399 (by omega) (by omega) (by omega) n20) gX8_lend_X8_needRange rfl ⟨rfl, rfl⟩ (by decide +kernel) ⟨Nat.le_of_ble_eq_true rfl, Nat.le_of_ble_eq_true rfl⟩ rfl [] rfl (by decide) rfl (Nat.le_of_ble_eq_true rfl) (by decide) gz_pF_sh dX8_lend_20 (fun _ _ h => h.elim) (fun E hE => ?_)
        subst hE
        exact ZC _ _ _ _ (Or.inr ⟨not_not_intro n2, Or.inr ⟨not_not_intro n6, Or.inl ⟨n20, rfl⟩⟩⟩)
    · refine gz_callSX (pc := 6) (n := 1) (As := [vI p1]) (rest := []) (bytes := cX8_needPerson) (maxL := 1) (ret := none) F FX (cx_X8_needPerson l hfl D cI cJ cZ p1 (by omega) n6) gX8_lend_X8_needPerson rfl ⟨rfl, rfl⟩ (by decide +kernel) ⟨Nat.le_of_ble_eq_true rfl, Nat.le_of_ble_eq_true rfl⟩ rfl [] rfl (by decide) rfl (Nat.le_of_ble_eq_true rfl) (by decide) gz_pF_sh dX8_lend_6 (fun _ _ h => h.elim) (fun E hE => ?_)
      subst hE
      exact ZC _ _ _ _ (Or.inr ⟨not_not_intro n2, Or.inl ⟨n6, rfl⟩⟩)
  · refine gz_callVXb (pc := 2) (n := 1) (As := [vI p0]) (rest := []) (bytes := cX8_needMachine) (maxL := 2) (ret := none) F FX (cx_X8_needMachine l hfl D cI cJ cZ a r p0 hr (by omega) n2) gX8_lend_X8_needMachine rfl ⟨rfl, rfl⟩ (by decide +kernel) ⟨Nat.le_of_ble_eq_true rfl, Nat.le_of_ble_eq_true rfl⟩ rfl [] [] ((List.append_nil _).symm) 8 rfl rfl rfl (Nat.le_of_ble_eq_true rfl) (by decide) gz_pF_sh dX8_lend_2 (fun _ _ h => h.elim) (fun E hE => ?_)
    subst hE
    exact ZC _ _ _ _ (Or.inl ⟨n2, rfl⟩)
