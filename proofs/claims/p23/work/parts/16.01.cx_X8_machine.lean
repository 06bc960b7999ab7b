/-! ===== laid by wip/whole/gen/ri.py ===== -/
abbrev cd_machine (r : RiS) (p0 p1 : Int) : List (Prop × String) := [(¬ (0 ≤ p1 ∧ p1 < 10), xIO), (¬ (0 ≤ p0 ∧ p0 ≤ 15), xIA), (¬ (Mc_n (Pl_mc (Ri_P r)) < 6), xIS)]
theorem hn_X8_machine_X8 : ∀ w ∈ u_ws RX8 TX8 4, w ∈ wsX8_machine := by decide +kernel
theorem fl_X8_machine_10 : Cond.fieldLink RX8 10 (TX8 0).1 (TX8 0).2.1 (TX8 0).2.2.1 ∈ wsX8_machine := by decide +kernel
theorem hn_X8_machine_X5 : ∀ w ∈ u_ws RX5 TX5 6, w ∈ wsX8_machine := by decide +kernel
theorem fl_X8_machine_41 : Cond.fieldLink RX8 41 (TX5 0).1 (TX5 0).2.1 (TX5 0).2.2.1 ∈ wsX8_machine := by decide +kernel
theorem hn_X8_machine_X3 : ∀ w ∈ u_ws RX3 TX3 6, w ∈ wsX8_machine := by decide +kernel
theorem fl_X8_machine_45 : Cond.fieldLink RX8 45 (TX3 5).1 (TX3 5).2.1 (TX3 5).2.2.1 ∈ wsX8_machine := by decide +kernel
set_option maxHeartbeats 4000000 in
set_option maxRecDepth 100000 in
theorem cx_X8_machine (l : Launch) (hfl : l.stackTraces = false) (D : va_G) (cI cJ cZ : ClassId) (a : Nat → Nat) (r : RiS) (p0 p1 : Int) (hr : RiI r) (h0 : -2147483648 ≤ p0 ∧ p0 < 2147483648) (h1 : -2147483648 ≤ p1 ∧ p1 < 2147483648)  : gz_X l yX8_machine wsX8_machine { frames := 7, cells := 1, slots := 6, locals := 116 } D cI cJ cZ [.ref (a 0), vI p0, vI p1] (RiW cI cJ a r) (gz_pO (cd_machine r p0 p1) (some (vI (Mc_n (Pl_mc (Ri_P r))))) (RiW cI cJ a (Ri_tell r 0 p0 p1 0 0))) (gz_px (cd_machine r p0 p1)) := by
  refine gz_ofXZ (cc := cX8_machine) (maxL := 4) (ty := .int) (own := RX8) hfl (by decide) rfl rfl (Nat.le_of_ble_eq_true rfl) (lv0 := [(0, .ref (a 0)), (1, vI p0), (2, vI p1)]) rfl ?_
  intro p e s m args below meth c A Q F FX Z ZT ZC
  obtain ⟨hP, hA, hTo, hSw⟩ := id hr
  obtain ⟨hMc, hLo, hLv, hMt, hBu, hnw⟩ := id hP
  have hMcn := hMc.1
  have hMtn := hMt.1
  have hBun := hBu.1
  have hTon := hTo.1
  have hSwn := hSw.1
  refine gz_iload_n (pc := 0) F dX8_machine_0 rfl 2 rfl ?_
  by_cases n1 : 0 ≤ p1 ∧ p1 < 10
  · refine gz_callS (pc := 1) (n := 1) (As := [vI p1]) (rest := []) (bytes := cX8_needPerson) (maxL := 1) (ret := none) F (ct_X8_needPerson l D cI cJ cZ p1 (by omega) n1) gX8_machine_X8_needPerson rfl ⟨rfl, rfl⟩ (by decide +kernel) ⟨Nat.le_of_ble_eq_true rfl, Nat.le_of_ble_eq_true rfl⟩ rfl [] rfl (by decide) rfl (Nat.le_of_ble_eq_true rfl) ⟨Nat.zero_le _, Nat.zero_le _⟩ (gz_pE_sh rfl) dX8_machine_1 ?_
    refine gz_kE (ws2 := RiW cI cJ a r) rfl ?_
    refine gz_iload_n (pc := 4) F dX8_machine_4 rfl 1 rfl ?_
    refine gz_const (pc := 5) F dX8_machine_5 ?_
    refine gz_bipush (pc := 6) F dX8_machine_6 (by decide) ?_
    by_cases n8 : 0 ≤ p0 ∧ p0 ≤ 15
    · refine gz_callS (pc := 8) (n := 3) (As := [vI p0, vI 0, vI 15]) (rest := []) (bytes := cX8_needRange) (maxL := 3) (ret := none) F (ct_X8_needRange l D cI cJ cZ p0 0 15 (by omega) (by omega) (by omega) n8) gX8_machine_X8_needRange rfl ⟨rfl, rfl⟩ (by decide +kernel) ⟨Nat.le_of_ble_eq_true rfl, Nat.le_of_ble_eq_true rfl⟩ rfl [] rfl (by decide) rfl (Nat.le_of_ble_eq_true rfl) ⟨Nat.zero_le _, Nat.zero_le _⟩ (gz_pE_sh rfl) dX8_machine_8 ?_
      refine gz_kE (ws2 := RiW cI cJ a r) rfl ?_
      refine gz_aload_n (pc := 11) F dX8_machine_11 rfl 0 rfl ?_
      refine gz_get (pc := 12) (v := .ref (a 1)) F hn_X8_machine_X8 0 8 rfl rfl 0 (by decide) fl_X8_machine_10 rfl dX8_machine_12 ?_
      refine gz_get (pc := 15) (v := .ref (a 2)) F hn_X8_machine_X5 1 5 rfl rfl 0 (by decide) fl_X8_machine_41 rfl dX8_machine_15 ?_
      refine gz_get (pc := 18) (v := vI (Mc_n (Pl_mc (Ri_P r)))) F hn_X8_machine_X3 2 3 rfl rfl 5 (by decide) fl_X8_machine_45 rfl dX8_machine_18 ?_
      have b18 := hMc.1
      refine gz_istore_n (pc := 21) (lv2 := [(3, vI (Mc_n (Pl_mc (Ri_P r)))), (0, .ref (a 0)), (1, vI p0), (2, vI p1)]) F dX8_machine_21 rfl (by decide) rfl ?_
      refine gz_iload_n (pc := 22) F dX8_machine_22 rfl 0 rfl ?_
      refine gz_bipush (pc := 23) F dX8_machine_23 (by decide) ?_
      refine gz_icmp_ge (pc := 25) (tgt := 32) F dX8_machine_25 (by decide) (by omega) (by omega) (fun c25 => ?_) (fun c25 => ?_)
      · refine gz_const (pc := 32) F dX8_machine_32 ?_
        refine gz_eqst (st2 := [vI (bz False)]) (congrArg (fun x => [vI x]) (bz_f not_false).symm) ?_
        have n33 : ¬ False := not_false
        refine gz_callSX (pc := 33) (n := 1) (As := [vI (bz False)]) (rest := []) (bytes := cX8_needState) (maxL := 1) (ret := none) F FX (cx_X8_needState l hfl D cI cJ cZ (False) n33) gX8_machine_X8_needState rfl ⟨rfl, rfl⟩ (by decide +kernel) ⟨Nat.le_of_ble_eq_true rfl, Nat.le_of_ble_eq_true rfl⟩ rfl [] rfl (by decide) rfl (Nat.le_of_ble_eq_true rfl) (by decide) gz_pF_sh dX8_machine_33 (fun _ _ h => h.elim) (fun E hE => ?_)
        subst hE
        exact ZC _ _ _ _ (Or.inr ⟨not_not_intro n1, Or.inr ⟨not_not_intro n8, Or.inl ⟨(by omega), rfl⟩⟩⟩)
      · refine gz_const (pc := 28) F dX8_machine_28 ?_
        refine gz_goto (pc := 29) (tgt := 33) F dX8_machine_29 (by decide) ?_
        refine gz_eqst (st2 := [vI (bz True)]) (congrArg (fun x => [vI x]) (bz_t trivial).symm) ?_
        have n33 : True := trivial
        refine gz_callS (pc := 33) (n := 1) (As := [vI (bz True)]) (rest := []) (bytes := cX8_needState) (maxL := 1) (ret := none) F (ct_X8_needState l D cI cJ cZ (True) n33) gX8_machine_X8_needState rfl ⟨rfl, rfl⟩ (by decide +kernel) ⟨Nat.le_of_ble_eq_true rfl, Nat.le_of_ble_eq_true rfl⟩ rfl [] rfl (by decide) rfl (Nat.le_of_ble_eq_true rfl) ⟨Nat.zero_le _, Nat.zero_le _⟩ (gz_pE_sh rfl) dX8_machine_33 ?_
        refine gz_kE (ws2 := RiW cI cJ a r) rfl ?_
        refine gz_aload_n (pc := 36) F dX8_machine_36 rfl 1 rfl ?_
        refine gz_const (pc := 37) F dX8_machine_37 ?_
        refine gz_iload_n (pc := 38) F dX8_machine_38 rfl 2 rfl ?_
        refine gz_iload_n (pc := 39) F dX8_machine_39 rfl 3 rfl ?_
        refine gz_const (pc := 40) F dX8_machine_40 ?_
        refine gz_const (pc := 41) F dX8_machine_41 ?_
        refine gz_callVb (pc := 42) (n := 5) (As := [vI 0, vI p0, vI p1, vI 0, vI 0]) (rest := []) (bytes := cX8_tell) (maxL := 6) (ret := none) F (ct_X8_tell l D cI cJ cZ a r 0 p0 p1 0 0 hr (by omega) (by omega) (by omega) (by omega) (by omega)) gX8_machine_X8_tell rfl ⟨rfl, rfl⟩ (by decide +kernel) ⟨Nat.le_of_ble_eq_true rfl, Nat.le_of_ble_eq_true rfl⟩ rfl [] [] ((List.append_nil _).symm) 8 rfl rfl rfl (Nat.le_of_ble_eq_true rfl) ⟨Nat.zero_le _, Nat.zero_le _⟩ (gz_pE_sh rfl) dX8_machine_42 ?_
        refine gz_kEb (ws2 := RiW cI cJ a (Ri_tell r 0 p0 p1 0 0)) ((List.append_nil _).symm).symm ?_
        refine gz_iload_n (pc := 45) F dX8_machine_45 rfl 0 rfl ?_
        refine Z _ _ 46 _ dX8_machine_46 rfl ?_
        exact ⟨⟨not_not_intro n1, not_not_intro n8, (by omega), trivial⟩, rfl, rfl⟩
    · refine gz_callSX (pc := 8) (n := 3) (As := [vI p0, vI 0, vI 15]) (rest := []) (bytes := cX8_needRange) (maxL := 3) (ret := none) F FX (cx_X8_needRange l hfl D cI cJ cZ p0 0 15 (by omega) (by omega) (by omega) n8) gX8_machine_X8_needRange rfl ⟨rfl, rfl⟩ (by decide +kernel) ⟨Nat.le_of_ble_eq_true rfl, Nat.le_of_ble_eq_true rfl⟩ rfl [] rfl (by decide) rfl (Nat.le_of_ble_eq_true rfl) (by decide) gz_pF_sh dX8_machine_8 (fun _ _ h => h.elim) (fun E hE => ?_)
      subst hE
      exact ZC _ _ _ _ (Or.inr ⟨not_not_intro n1, Or.inl ⟨n8, rfl⟩⟩)
  · refine gz_callSX (pc := 1) (n := 1) (As := [vI p1]) (rest := []) (bytes := cX8_needPerson) (maxL := 1) (ret := none) F FX (cx_X8_needPerson l hfl D cI cJ cZ p1 (by omega) n1) gX8_machine_X8_needPerson rfl ⟨rfl, rfl⟩ (by decide +kernel) ⟨Nat.le_of_ble_eq_true rfl, Nat.le_of_ble_eq_true rfl⟩ rfl [] rfl (by decide) rfl (Nat.le_of_ble_eq_true rfl) (by decide) gz_pF_sh dX8_machine_1 (fun _ _ h => h.elim) (fun E hE => ?_)
    subst hE
    exact ZC _ _ _ _ (Or.inl ⟨n1, rfl⟩)
