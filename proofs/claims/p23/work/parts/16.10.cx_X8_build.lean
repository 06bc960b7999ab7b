/-! ===== laid by wip/whole/gen/ri.py ===== -/
abbrev cd_build (r : RiS) (p0 p1 p2 : Int) : List (Prop × String) := [(¬ (0 ≤ p0 ∧ p0 ≤ 15), xIA), (¬ (0 ≤ p1 ∧ p1 ≤ 9), xIA), (¬ (1 ≤ p2 ∧ p2 ≤ 6), xIA), (¬ (Bu_n (Pl_bu (Ri_P r)) < 40), xIS)]
theorem hn_X8_build_X8 : ∀ w ∈ u_ws RX8 TX8 4, w ∈ wsX8_build := by decide +kernel
theorem fl_X8_build_10 : Cond.fieldLink RX8 10 (TX8 0).1 (TX8 0).2.1 (TX8 0).2.2.1 ∈ wsX8_build := by decide +kernel
theorem hn_X8_build_X5 : ∀ w ∈ u_ws RX5 TX5 6, w ∈ wsX8_build := by decide +kernel
theorem fl_X8_build_152 : Cond.fieldLink RX8 152 (TX5 4).1 (TX5 4).2.1 (TX5 4).2.2.1 ∈ wsX8_build := by decide +kernel
theorem hn_X8_build_X0 : ∀ w ∈ u_ws RX0 TX0 8, w ∈ wsX8_build := by decide +kernel
theorem fl_X8_build_156 : Cond.fieldLink RX8 156 (TX0 7).1 (TX0 7).2.1 (TX0 7).2.2.1 ∈ wsX8_build := by decide +kernel
set_option maxHeartbeats 4000000 in
set_option maxRecDepth 100000 in
theorem cx_X8_build (l : Launch) (hfl : l.stackTraces = false) (D : va_G) (cI cJ cZ : ClassId) (a : Nat → Nat) (r : RiS) (p0 p1 p2 : Int) (hr : RiI r) (h0 : -2147483648 ≤ p0 ∧ p0 < 2147483648) (h1 : -2147483648 ≤ p1 ∧ p1 < 2147483648) (h2 : -2147483648 ≤ p2 ∧ p2 < 2147483648)  : gz_X l yX8_build wsX8_build { frames := 7, cells := 1, slots := 6, locals := 116 } D cI cJ cZ [.ref (a 0), vI p0, vI p1, vI p2] (RiW cI cJ a r) (gz_pO (cd_build r p0 p1 p2) (some (vI (Bu_n (Pl_bu (Ri_P r))))) (RiW cI cJ a (Ri_tell r 8 p0 p1 p2 0))) (gz_px (cd_build r p0 p1 p2)) := by
  refine gz_ofXZ (cc := cX8_build) (maxL := 5) (ty := .int) (own := RX8) hfl (by decide) rfl rfl (Nat.le_of_ble_eq_true rfl) (lv0 := [(0, .ref (a 0)), (1, vI p0), (2, vI p1), (3, vI p2)]) rfl ?_
  intro p e s m args below meth c A Q F FX Z ZT ZC
  obtain ⟨hP, hA, hTo, hSw⟩ := id hr
  obtain ⟨hMc, hLo, hLv, hMt, hBu, hnw⟩ := id hP
  have hMcn := hMc.1
  have hMtn := hMt.1
  have hBun := hBu.1
  have hTon := hTo.1
  have hSwn := hSw.1
  refine gz_iload_n (pc := 0) F dX8_build_0 rfl 1 rfl ?_
  refine gz_const (pc := 1) F dX8_build_1 ?_
  refine gz_bipush (pc := 2) F dX8_build_2 (by decide) ?_
  by_cases n4 : 0 ≤ p0 ∧ p0 ≤ 15
  · refine gz_callS (pc := 4) (n := 3) (As := [vI p0, vI 0, vI 15]) (rest := []) (bytes := cX8_needRange) (maxL := 3) (ret := none) F (ct_X8_needRange l D cI cJ cZ p0 0 15 (by omega) (by omega) (by omega) n4) gX8_build_X8_needRange rfl ⟨rfl, rfl⟩ (by decide +kernel) ⟨Nat.le_of_ble_eq_true rfl, Nat.le_of_ble_eq_true rfl⟩ rfl [] rfl (by decide) rfl (Nat.le_of_ble_eq_true rfl) ⟨Nat.zero_le _, Nat.zero_le _⟩ (gz_pE_sh rfl) dX8_build_4 ?_
    refine gz_kE (ws2 := RiW cI cJ a r) rfl ?_
    refine gz_iload_n (pc := 7) F dX8_build_7 rfl 2 rfl ?_
    refine gz_const (pc := 8) F dX8_build_8 ?_
    refine gz_bipush (pc := 9) F dX8_build_9 (by decide) ?_
    by_cases n11 : 0 ≤ p1 ∧ p1 ≤ 9
    · refine gz_callS (pc := 11) (n := 3) (As := [vI p1, vI 0, vI 9]) (rest := []) (bytes := cX8_needRange) (maxL := 3) (ret := none) F (ct_X8_needRange l D cI cJ cZ p1 0 9 (by omega) (by omega) (by omega) n11) gX8_build_X8_needRange rfl ⟨rfl, rfl⟩ (by decide +kernel) ⟨Nat.le_of_ble_eq_true rfl, Nat.le_of_ble_eq_true rfl⟩ rfl [] rfl (by decide) rfl (Nat.le_of_ble_eq_true rfl) ⟨Nat.zero_le _, Nat.zero_le _⟩ (gz_pE_sh rfl) dX8_build_11 ?_
      refine gz_kE (ws2 := RiW cI cJ a r) rfl ?_
      refine gz_iload_n (pc := 14) F dX8_build_14 rfl 3 rfl ?_
      refine gz_const (pc := 15) F dX8_build_15 ?_
      refine gz_bipush (pc := 16) F dX8_build_16 (by decide) ?_
      by_cases n18 : 1 ≤ p2 ∧ p2 ≤ 6
      · refine gz_callS (pc := 18) (n := 3) (As := [vI p2, vI 1, vI 6]) (rest := []) (bytes := cX8_needRange) (maxL := 3) (ret := none) F (ct_X8_needRange l D cI cJ cZ p2 1 6 (by omega) (by omega) (by omega) n18) gX8_build_X8_needRange rfl ⟨rfl, rfl⟩ (by decide +kernel) ⟨Nat.le_of_ble_eq_true rfl, Nat.le_of_ble_eq_true rfl⟩ rfl [] rfl (by decide) rfl (Nat.le_of_ble_eq_true rfl) ⟨Nat.zero_le _, Nat.zero_le _⟩ (gz_pE_sh rfl) dX8_build_18 ?_
        refine gz_kE (ws2 := RiW cI cJ a r) rfl ?_
        refine gz_aload_n (pc := 21) F dX8_build_21 rfl 0 rfl ?_
        refine gz_get (pc := 22) (v := .ref (a 1)) F hn_X8_build_X8 0 8 rfl rfl 0 (by decide) fl_X8_build_10 rfl dX8_build_22 ?_
        refine gz_get (pc := 25) (v := .ref (a 22)) F hn_X8_build_X5 1 5 rfl rfl 4 (by decide) fl_X8_build_152 rfl dX8_build_25 ?_
        refine gz_get (pc := 28) (v := vI (Bu_n (Pl_bu (Ri_P r)))) F hn_X8_build_X0 22 0 rfl rfl 7 (by decide) fl_X8_build_156 rfl dX8_build_28 ?_
        have b28 := hBu.1
        refine gz_istore (pc := 31) (lv2 := [(4, vI (Bu_n (Pl_bu (Ri_P r)))), (0, .ref (a 0)), (1, vI p0), (2, vI p1), (3, vI p2)]) F dX8_build_31 (by decide) rfl ?_
        refine gz_iload (pc := 33) F dX8_build_33 0 rfl ?_
        refine gz_bipush (pc := 35) F dX8_build_35 (by decide) ?_
        refine gz_icmp_ge (pc := 37) (tgt := 44) F dX8_build_37 (by decide) (by omega) (by omega) (fun c37 => ?_) (fun c37 => ?_)
        · refine gz_const (pc := 44) F dX8_build_44 ?_
          refine gz_eqst (st2 := [vI (bz False)]) (congrArg (fun x => [vI x]) (bz_f not_false).symm) ?_
          have n45 : ¬ False := not_false
          refine gz_callSX (pc := 45) (n := 1) (As := [vI (bz False)]) (rest := []) (bytes := cX8_needState) (maxL := 1) (ret := none) F FX (cx_X8_needState l hfl D cI cJ cZ (False) n45) gX8_build_X8_needState rfl ⟨rfl, rfl⟩ (by decide +kernel) ⟨Nat.le_of_ble_eq_true rfl, Nat.le_of_ble_eq_true rfl⟩ rfl [] rfl (by decide) rfl (Nat.le_of_ble_eq_true rfl) (by decide) gz_pF_sh dX8_build_45 (fun _ _ h => h.elim) (fun E hE => ?_)
          subst hE
          exact ZC _ _ _ _ (Or.inr ⟨not_not_intro n4, Or.inr ⟨not_not_intro n11, Or.inr ⟨not_not_intro n18, Or.inl ⟨(by omega), rfl⟩⟩⟩⟩)
        · refine gz_const (pc := 40) F dX8_build_40 ?_
          refine gz_goto (pc := 41) (tgt := 45) F dX8_build_41 (by decide) ?_
          refine gz_eqst (st2 := [vI (bz True)]) (congrArg (fun x => [vI x]) (bz_t trivial).symm) ?_
          have n45 : True := trivial
          refine gz_callS (pc := 45) (n := 1) (As := [vI (bz True)]) (rest := []) (bytes := cX8_needState) (maxL := 1) (ret := none) F (ct_X8_needState l D cI cJ cZ (True) n45) gX8_build_X8_needState rfl ⟨rfl, rfl⟩ (by decide +kernel) ⟨Nat.le_of_ble_eq_true rfl, Nat.le_of_ble_eq_true rfl⟩ rfl [] rfl (by decide) rfl (Nat.le_of_ble_eq_true rfl) ⟨Nat.zero_le _, Nat.zero_le _⟩ (gz_pE_sh rfl) dX8_build_45 ?_
          refine gz_kE (ws2 := RiW cI cJ a r) rfl ?_
          refine gz_aload_n (pc := 48) F dX8_build_48 rfl 1 rfl ?_
          refine gz_bipush (pc := 49) F dX8_build_49 (by decide) ?_
          refine gz_iload_n (pc := 51) F dX8_build_51 rfl 2 rfl ?_
          refine gz_iload_n (pc := 52) F dX8_build_52 rfl 3 rfl ?_
          refine gz_iload_n (pc := 53) F dX8_build_53 rfl 4 rfl ?_
          refine gz_const (pc := 54) F dX8_build_54 ?_
          refine gz_callVb (pc := 55) (n := 5) (As := [vI 8, vI p0, vI p1, vI p2, vI 0]) (rest := []) (bytes := cX8_tell) (maxL := 6) (ret := none) F (ct_X8_tell l D cI cJ cZ a r 8 p0 p1 p2 0 hr (by omega) (by omega) (by omega) (by omega) (by omega)) gX8_build_X8_tell rfl ⟨rfl, rfl⟩ (by decide +kernel) ⟨Nat.le_of_ble_eq_true rfl, Nat.le_of_ble_eq_true rfl⟩ rfl [] [] ((List.append_nil _).symm) 8 rfl rfl rfl (Nat.le_of_ble_eq_true rfl) ⟨Nat.zero_le _, Nat.zero_le _⟩ (gz_pE_sh rfl) dX8_build_55 ?_
          refine gz_kEb (ws2 := RiW cI cJ a (Ri_tell r 8 p0 p1 p2 0)) ((List.append_nil _).symm).symm ?_
          refine gz_iload (pc := 58) F dX8_build_58 0 rfl ?_
          refine Z _ _ 60 _ dX8_build_60 rfl ?_
          exact ⟨⟨not_not_intro n4, not_not_intro n11, not_not_intro n18, (by omega), trivial⟩, rfl, rfl⟩
      · refine gz_callSX (pc := 18) (n := 3) (As := [vI p2, vI 1, vI 6]) (rest := []) (bytes := cX8_needRange) (maxL := 3) (ret := none) F FX (cx_X8_needRange l hfl D cI cJ cZ p2 1 6 (by omega) (by omega) (by omega) n18) gX8_build_X8_needRange rfl ⟨rfl, rfl⟩ (by decide +kernel) ⟨Nat.le_of_ble_eq_true rfl, Nat.le_of_ble_eq_true rfl⟩ rfl [] rfl (by decide) rfl (Nat.le_of_ble_eq_true rfl) (by decide) gz_pF_sh dX8_build_18 (fun _ _ h => h.elim) (fun E hE => ?_)
        subst hE
        exact ZC _ _ _ _ (Or.inr ⟨not_not_intro n4, Or.inr ⟨not_not_intro n11, Or.inl ⟨n18, rfl⟩⟩⟩)
    · refine gz_callSX (pc := 11) (n := 3) (As := [vI p1, vI 0, vI 9]) (rest := []) (bytes := cX8_needRange) (maxL := 3) (ret := none) F FX (cx_X8_needRange l hfl D cI cJ cZ p1 0 9 (by omega) (by omega) (by omega) n11) gX8_build_X8_needRange rfl ⟨rfl, rfl⟩ (by decide +kernel) ⟨Nat.le_of_ble_eq_true rfl, Nat.le_of_ble_eq_true rfl⟩ rfl [] rfl (by decide) rfl (Nat.le_of_ble_eq_true rfl) (by decide) gz_pF_sh dX8_build_11 (fun _ _ h => h.elim) (fun E hE => ?_)
      subst hE
      exact ZC _ _ _ _ (Or.inr ⟨not_not_intro n4, Or.inl ⟨n11, rfl⟩⟩)
  · refine gz_callSX (pc := 4) (n := 3) (As := [vI p0, vI 0, vI 15]) (rest := []) (bytes := cX8_needRange) (maxL := 3) (ret := none) F FX (cx_X8_needRange l hfl D cI cJ cZ p0 0 15 (by omega) (by omega) (by omega) n4) gX8_build_X8_needRange rfl ⟨rfl, rfl⟩ (by decide +kernel) ⟨Nat.le_of_ble_eq_true rfl, Nat.le_of_ble_eq_true rfl⟩ rfl [] rfl (by decide) rfl (Nat.le_of_ble_eq_true rfl) (by decide) gz_pF_sh dX8_build_4 (fun _ _ h => h.elim) (fun E hE => ?_)
    subst hE
    exact ZC _ _ _ _ (Or.inl ⟨n4, rfl⟩)
