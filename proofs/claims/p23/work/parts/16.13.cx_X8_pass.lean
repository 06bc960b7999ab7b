/-! ===== laid by wip/whole/gen/ri.py ===== -/
abbrev cd_pass (r : RiS) (p0 : Int) : List (Prop × String) := [(¬ (1 ≤ p0 ∧ p0 ≤ 50), xIA), (¬ (Pl_now (Ri_P r) + p0 ≤ 400), xIS)]
theorem hn_X8_pass_X8 : ∀ w ∈ u_ws RX8 TX8 4, w ∈ wsX8_pass := by decide +kernel
theorem fl_X8_pass_10 : Cond.fieldLink RX8 10 (TX8 0).1 (TX8 0).2.1 (TX8 0).2.2.1 ∈ wsX8_pass := by decide +kernel
theorem hn_X8_pass_X5 : ∀ w ∈ u_ws RX5 TX5 6, w ∈ wsX8_pass := by decide +kernel
theorem fl_X8_pass_59 : Cond.fieldLink RX8 59 (TX5 5).1 (TX5 5).2.1 (TX5 5).2.2.1 ∈ wsX8_pass := by decide +kernel
set_option maxHeartbeats 4000000 in
set_option maxRecDepth 100000 in
theorem cx_X8_pass (l : Launch) (hfl : l.stackTraces = false) (D : va_G) (cI cJ cZ : ClassId) (a : Nat → Nat) (r : RiS) (p0 : Int) (hr : RiI r) (h0 : -2147483648 ≤ p0 ∧ p0 < 2147483648)  : gz_X l yX8_pass wsX8_pass { frames := 7, cells := 1, slots := 6, locals := 117 } D cI cJ cZ [.ref (a 0), vI p0] (RiW cI cJ a r) (gz_pO (cd_pass r p0) (some (vI (Pl_now (Pl_pass (Ri_P r) (Pl_now (Ri_P r) + p0))))) (RiW cI cJ a ((Pl_pass (Ri_P r) (Pl_now (Ri_P r) + p0), Ri_A r, Ri_T r, Ri_S r)))) (gz_px (cd_pass r p0)) := by
  refine gz_ofXZ (cc := cX8_pass) (maxL := 2) (ty := .int) (own := RX8) hfl (by decide) rfl rfl (Nat.le_of_ble_eq_true rfl) (lv0 := [(0, .ref (a 0)), (1, vI p0)]) rfl ?_
  intro p e s m args below meth c A Q F FX Z ZT ZC
  obtain ⟨hP, hA, hTo, hSw⟩ := id hr
  obtain ⟨hMc, hLo, hLv, hMt, hBu, hnw⟩ := id hP
  have hMcn := hMc.1
  have hMtn := hMt.1
  have hBun := hBu.1
  have hTon := hTo.1
  have hSwn := hSw.1
  refine gz_iload_n (pc := 0) F dX8_pass_0 rfl 1 rfl ?_
  refine gz_const (pc := 1) F dX8_pass_1 ?_
  refine gz_bipush (pc := 2) F dX8_pass_2 (by decide) ?_
  by_cases n4 : 1 ≤ p0 ∧ p0 ≤ 50
  · refine gz_callS (pc := 4) (n := 3) (As := [vI p0, vI 1, vI 50]) (rest := []) (bytes := cX8_needRange) (maxL := 3) (ret := none) F (ct_X8_needRange l D cI cJ cZ p0 1 50 (by omega) (by omega) (by omega) n4) gX8_pass_X8_needRange rfl ⟨rfl, rfl⟩ (by decide +kernel) ⟨Nat.le_of_ble_eq_true rfl, Nat.le_of_ble_eq_true rfl⟩ rfl [] rfl (by decide) rfl (Nat.le_of_ble_eq_true rfl) ⟨Nat.zero_le _, Nat.zero_le _⟩ (gz_pE_sh rfl) dX8_pass_4 ?_
    refine gz_kE (ws2 := RiW cI cJ a r) rfl ?_
    refine gz_aload_n (pc := 7) F dX8_pass_7 rfl 0 rfl ?_
    refine gz_get (pc := 8) (v := .ref (a 1)) F hn_X8_pass_X8 0 8 rfl rfl 0 (by decide) fl_X8_pass_10 rfl dX8_pass_8 ?_
    refine gz_get (pc := 11) (v := vI (Pl_now (Ri_P r))) F hn_X8_pass_X5 1 5 rfl rfl 5 (by decide) fl_X8_pass_59 rfl dX8_pass_11 ?_
    have b11 := hnw
    refine gz_iload_n (pc := 14) F dX8_pass_14 rfl 1 rfl ?_
    refine gz_iadd (pc := 15) F dX8_pass_15 ?_
    refine gz_sipush (pc := 16) F dX8_pass_16 (by decide) ?_
    refine gz_icmp_gt (pc := 19) (tgt := 26) F dX8_pass_19 (by decide) (by omega) (by omega) (fun c19 => ?_) (fun c19 => ?_)
    · refine gz_const (pc := 26) F dX8_pass_26 ?_
      refine gz_eqst (st2 := [vI (bz False)]) (congrArg (fun x => [vI x]) (bz_f not_false).symm) ?_
      have n27 : ¬ False := not_false
      refine gz_callSX (pc := 27) (n := 1) (As := [vI (bz False)]) (rest := []) (bytes := cX8_needState) (maxL := 1) (ret := none) F FX (cx_X8_needState l hfl D cI cJ cZ (False) n27) gX8_pass_X8_needState rfl ⟨rfl, rfl⟩ (by decide +kernel) ⟨Nat.le_of_ble_eq_true rfl, Nat.le_of_ble_eq_true rfl⟩ rfl [] rfl (by decide) rfl (Nat.le_of_ble_eq_true rfl) (by decide) gz_pF_sh dX8_pass_27 (fun _ _ h => h.elim) (fun E hE => ?_)
      subst hE
      exact ZC _ _ _ _ (Or.inr ⟨not_not_intro n4, Or.inl ⟨(by omega), rfl⟩⟩)
    · refine gz_const (pc := 22) F dX8_pass_22 ?_
      refine gz_goto (pc := 23) (tgt := 27) F dX8_pass_23 (by decide) ?_
      refine gz_eqst (st2 := [vI (bz True)]) (congrArg (fun x => [vI x]) (bz_t trivial).symm) ?_
      have n27 : True := trivial
      refine gz_callS (pc := 27) (n := 1) (As := [vI (bz True)]) (rest := []) (bytes := cX8_needState) (maxL := 1) (ret := none) F (ct_X8_needState l D cI cJ cZ (True) n27) gX8_pass_X8_needState rfl ⟨rfl, rfl⟩ (by decide +kernel) ⟨Nat.le_of_ble_eq_true rfl, Nat.le_of_ble_eq_true rfl⟩ rfl [] rfl (by decide) rfl (Nat.le_of_ble_eq_true rfl) ⟨Nat.zero_le _, Nat.zero_le _⟩ (gz_pE_sh rfl) dX8_pass_27 ?_
      refine gz_kE (ws2 := RiW cI cJ a r) rfl ?_
      refine gz_aload_n (pc := 30) F dX8_pass_30 rfl 0 rfl ?_
      refine gz_get (pc := 31) (v := .ref (a 1)) F hn_X8_pass_X8 0 8 rfl rfl 0 (by decide) fl_X8_pass_10 rfl dX8_pass_31 ?_
      refine gz_aload_n (pc := 34) F dX8_pass_34 rfl 0 rfl ?_
      refine gz_get (pc := 35) (v := .ref (a 1)) F hn_X8_pass_X8 0 8 rfl rfl 0 (by decide) fl_X8_pass_10 rfl dX8_pass_35 ?_
      refine gz_get (pc := 38) (v := vI (Pl_now (Ri_P r))) F hn_X8_pass_X5 1 5 rfl rfl 5 (by decide) fl_X8_pass_59 rfl dX8_pass_38 ?_
      have b38 := hnw
      refine gz_iload_n (pc := 41) F dX8_pass_41 rfl 1 rfl ?_
      refine gz_iadd (pc := 42) F dX8_pass_42 ?_
      refine gz_callVb (pc := 43) (n := 1) (As := [vI ((Pl_now (Ri_P r)) + p0)]) (rest := []) (bytes := cX5_passTo) (maxL := 4) (ret := none) F (ct_X5_passTo l D cI cJ cZ (fun i => a (i + 1)) (Ri_P r) ((Pl_now (Ri_P r)) + p0) hP (by omega)) gX8_pass_X5_passTo rfl ⟨rfl, rfl⟩ (by decide +kernel) ⟨Nat.le_of_ble_eq_true rfl, Nat.le_of_ble_eq_true rfl⟩ rfl [RiO a] (PlW cI cJ (fun i => a (i + 30)) (Ri_A r) ++ (ToW cI (fun i => a (i + 59)) (Ri_T r) ++ SwW cI (fun i => a (i + 66)) (Ri_S r))) (RiW_P cI cJ a (Ri_P r) (Ri_A r) (Ri_T r) (Ri_S r)) 5 rfl rfl rfl (Nat.le_of_ble_eq_true rfl) ⟨Nat.zero_le _, Nat.zero_le _⟩ (gz_pE_sh rfl) dX8_pass_43 ?_
      refine gz_kEb (ws2 := RiW cI cJ a (Pl_pass (Ri_P r) ((Pl_now (Ri_P r)) + p0), Ri_A r, Ri_T r, Ri_S r)) (RiW_P cI cJ a (Pl_pass (Ri_P r) ((Pl_now (Ri_P r)) + p0)) (Ri_A r) (Ri_T r) (Ri_S r)).symm ?_
      refine gz_aload_n (pc := 46) F dX8_pass_46 rfl 0 rfl ?_
      refine gz_get (pc := 47) (v := .ref (a 1)) F hn_X8_pass_X8 0 8 rfl rfl 0 (by decide) fl_X8_pass_10 rfl dX8_pass_47 ?_
      refine gz_get (pc := 50) (v := vI (Pl_now (Pl_pass (Ri_P r) ((Pl_now (Ri_P r)) + p0)))) F hn_X8_pass_X5 1 5 rfl rfl 5 (by decide) fl_X8_pass_59 rfl dX8_pass_50 ?_
      have b50 := hnw
      refine Z _ _ 53 _ dX8_pass_53 rfl ?_
      exact ⟨⟨not_not_intro n4, (by omega), trivial⟩, rfl, rfl⟩
  · refine gz_callSX (pc := 4) (n := 3) (As := [vI p0, vI 1, vI 50]) (rest := []) (bytes := cX8_needRange) (maxL := 3) (ret := none) F FX (cx_X8_needRange l hfl D cI cJ cZ p0 1 50 (by omega) (by omega) (by omega) n4) gX8_pass_X8_needRange rfl ⟨rfl, rfl⟩ (by decide +kernel) ⟨Nat.le_of_ble_eq_true rfl, Nat.le_of_ble_eq_true rfl⟩ rfl [] rfl (by decide) rfl (Nat.le_of_ble_eq_true rfl) (by decide) gz_pF_sh dX8_pass_4 (fun _ _ h => h.elim) (fun E hE => ?_)
    subst hE
    exact ZC _ _ _ _ (Or.inl ⟨n4, rfl⟩)
