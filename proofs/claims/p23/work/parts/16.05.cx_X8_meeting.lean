/-! ===== laid by wip/whole/gen/ri.py ===== -/
abbrev cd_meeting (r : RiS) (p0 p1 p2 p3 : Int) : List (Prop × String) := [(p3 ≠ -1 ∧ ¬ (0 ≤ p3 ∧ p3 < Mc_n (Pl_mc (Ri_P r))), xIO), (¬ (1 ≤ p0 ∧ p0 ≤ 1023), xIA), (¬ (Pl_now (Ri_P r) ≤ p1 ∧ p1 ≤ 399), xIA), (¬ (1 ≤ p2 ∧ p2 ≤ 4), xIA), (¬ (p1 / 8 = (p1 + p2 - 1) / 8), xIA), (¬ (Mt_n (Pl_mt (Ri_P r)) < 30), xIS), (¬ (Pl_room (Ri_P r) p0 p1 p2 p3 (-1)), xIS)]
theorem hn_X8_meeting_X8 : ∀ w ∈ u_ws RX8 TX8 4, w ∈ wsX8_meeting := by decide +kernel
theorem fl_X8_meeting_10 : Cond.fieldLink RX8 10 (TX8 0).1 (TX8 0).2.1 (TX8 0).2.2.1 ∈ wsX8_meeting := by decide +kernel
theorem hn_X8_meeting_X5 : ∀ w ∈ u_ws RX5 TX5 6, w ∈ wsX8_meeting := by decide +kernel
theorem fl_X8_meeting_59 : Cond.fieldLink RX8 59 (TX5 5).1 (TX5 5).2.1 (TX5 5).2.2.1 ∈ wsX8_meeting := by decide +kernel
theorem fl_X8_meeting_62 : Cond.fieldLink RX8 62 (TX5 3).1 (TX5 3).2.1 (TX5 3).2.2.1 ∈ wsX8_meeting := by decide +kernel
theorem hn_X8_meeting_X4 : ∀ w ∈ u_ws RX4 TX4 7, w ∈ wsX8_meeting := by decide +kernel
theorem fl_X8_meeting_94 : Cond.fieldLink RX8 94 (TX4 6).1 (TX4 6).2.1 (TX4 6).2.2.1 ∈ wsX8_meeting := by decide +kernel
set_option maxHeartbeats 4000000 in
set_option maxRecDepth 100000 in
theorem cx_X8_meeting (l : Launch) (hfl : l.stackTraces = false) (D : va_G) (cI cJ cZ : ClassId) (a : Nat → Nat) (r : RiS) (p0 p1 p2 p3 : Int) (hr : RiI r) (h0 : -2147483648 ≤ p0 ∧ p0 < 2147483648) (h1 : -2147483648 ≤ p1 ∧ p1 < 2147483648) (h2 : -2147483648 ≤ p2 ∧ p2 < 2147483648) (h3 : -2147483648 ≤ p3 ∧ p3 < 2147483648)  : gz_X l yX8_meeting wsX8_meeting { frames := 7, cells := 1, slots := 6, locals := 116 } D cI cJ cZ [.ref (a 0), vI p0, vI p1, vI p2, vI p3] (RiW cI cJ a r) (gz_pO (cd_meeting r p0 p1 p2 p3) (some (vI (Mt_n (Pl_mt (Ri_P r))))) (RiW cI cJ a (Ri_tell r 4 p0 p1 p2 p3))) (gz_px (cd_meeting r p0 p1 p2 p3)) := by
  refine gz_ofXZ (cc := cX8_meeting) (maxL := 6) (ty := .int) (own := RX8) hfl (by decide) rfl rfl (Nat.le_of_ble_eq_true rfl) (lv0 := [(0, .ref (a 0)), (1, vI p0), (2, vI p1), (3, vI p2), (4, vI p3)]) rfl ?_
  intro p e s m args below meth c A Q F FX Z ZT ZC
  obtain ⟨hP, hA, hTo, hSw⟩ := id hr
  obtain ⟨hMc, hLo, hLv, hMt, hBu, hnw⟩ := id hP
  have hMcn := hMc.1
  have hMtn := hMt.1
  have hBun := hBu.1
  have hTon := hTo.1
  have hSwn := hSw.1
  refine gz_iload (pc := 0) F dX8_meeting_0 4 rfl ?_
  refine gz_const (pc := 2) F dX8_meeting_2 ?_
  refine gz_icmp_eq (pc := 3) (tgt := 12) F dX8_meeting_3 (by decide) (by omega) (by omega) (fun c3 => ?_) (fun c3 => ?_)
  · have b12 : -1 ≤ p3 ∧ p3 ≤ 6 := by omega
    refine gz_iload_n (pc := 12) F dX8_meeting_12 rfl 1 rfl ?_
    refine gz_const (pc := 13) F dX8_meeting_13 ?_
    refine gz_sipush (pc := 14) F dX8_meeting_14 (by decide) ?_
    by_cases n17 : 1 ≤ p0 ∧ p0 ≤ 1023
    · refine gz_callS (pc := 17) (n := 3) (As := [vI p0, vI 1, vI 1023]) (rest := []) (bytes := cX8_needRange) (maxL := 3) (ret := none) F (ct_X8_needRange l D cI cJ cZ p0 1 1023 (by omega) (by omega) (by omega) n17) gX8_meeting_X8_needRange rfl ⟨rfl, rfl⟩ (by decide +kernel) ⟨Nat.le_of_ble_eq_true rfl, Nat.le_of_ble_eq_true rfl⟩ rfl [] rfl (by decide) rfl (Nat.le_of_ble_eq_true rfl) ⟨Nat.zero_le _, Nat.zero_le _⟩ (gz_pE_sh rfl) dX8_meeting_17 ?_
      refine gz_kE (ws2 := RiW cI cJ a r) rfl ?_
      refine gz_iload_n (pc := 20) F dX8_meeting_20 rfl 2 rfl ?_
      refine gz_aload_n (pc := 21) F dX8_meeting_21 rfl 0 rfl ?_
      refine gz_get (pc := 22) (v := .ref (a 1)) F hn_X8_meeting_X8 0 8 rfl rfl 0 (by decide) fl_X8_meeting_10 rfl dX8_meeting_22 ?_
      refine gz_get (pc := 25) (v := vI (Pl_now (Ri_P r))) F hn_X8_meeting_X5 1 5 rfl rfl 5 (by decide) fl_X8_meeting_59 rfl dX8_meeting_25 ?_
      have b25 := hnw
      refine gz_sipush (pc := 28) F dX8_meeting_28 (by decide) ?_
      by_cases n31 : (Pl_now (Ri_P r)) ≤ p1 ∧ p1 ≤ 399
      · refine gz_callS (pc := 31) (n := 3) (As := [vI p1, vI (Pl_now (Ri_P r)), vI 399]) (rest := []) (bytes := cX8_needRange) (maxL := 3) (ret := none) F (ct_X8_needRange l D cI cJ cZ p1 (Pl_now (Ri_P r)) 399 (by omega) (by omega) (by omega) n31) gX8_meeting_X8_needRange rfl ⟨rfl, rfl⟩ (by decide +kernel) ⟨Nat.le_of_ble_eq_true rfl, Nat.le_of_ble_eq_true rfl⟩ rfl [] rfl (by decide) rfl (Nat.le_of_ble_eq_true rfl) ⟨Nat.zero_le _, Nat.zero_le _⟩ (gz_pE_sh rfl) dX8_meeting_31 ?_
        refine gz_kE (ws2 := RiW cI cJ a r) rfl ?_
        refine gz_iload_n (pc := 34) F dX8_meeting_34 rfl 3 rfl ?_
        refine gz_const (pc := 35) F dX8_meeting_35 ?_
        refine gz_const (pc := 36) F dX8_meeting_36 ?_
        by_cases n37 : 1 ≤ p2 ∧ p2 ≤ 4
        · refine gz_callS (pc := 37) (n := 3) (As := [vI p2, vI 1, vI 4]) (rest := []) (bytes := cX8_needRange) (maxL := 3) (ret := none) F (ct_X8_needRange l D cI cJ cZ p2 1 4 (by omega) (by omega) (by omega) n37) gX8_meeting_X8_needRange rfl ⟨rfl, rfl⟩ (by decide +kernel) ⟨Nat.le_of_ble_eq_true rfl, Nat.le_of_ble_eq_true rfl⟩ rfl [] rfl (by decide) rfl (Nat.le_of_ble_eq_true rfl) ⟨Nat.zero_le _, Nat.zero_le _⟩ (gz_pE_sh rfl) dX8_meeting_37 ?_
          refine gz_kE (ws2 := RiW cI cJ a r) rfl ?_
          refine gz_iload_n (pc := 40) F dX8_meeting_40 rfl 2 rfl ?_
          refine gz_iload_n (pc := 41) F dX8_meeting_41 rfl 3 rfl ?_
          by_cases n42 : p1 / 8 = (p1 + p2 - 1) / 8
          · refine gz_callS (pc := 42) (n := 2) (As := [vI p1, vI p2]) (rest := []) (bytes := cX8_needOneDay) (maxL := 2) (ret := none) F (ct_X8_needOneDay l D cI cJ cZ p1 p2 (by omega) (by omega) n42) gX8_meeting_X8_needOneDay rfl ⟨rfl, rfl⟩ (by decide +kernel) ⟨Nat.le_of_ble_eq_true rfl, Nat.le_of_ble_eq_true rfl⟩ rfl [] rfl (by decide) rfl (Nat.le_of_ble_eq_true rfl) ⟨Nat.zero_le _, Nat.zero_le _⟩ (gz_pE_sh rfl) dX8_meeting_42 ?_
            refine gz_kE (ws2 := RiW cI cJ a r) rfl ?_
            refine gz_aload_n (pc := 45) F dX8_meeting_45 rfl 0 rfl ?_
            refine gz_get (pc := 46) (v := .ref (a 1)) F hn_X8_meeting_X8 0 8 rfl rfl 0 (by decide) fl_X8_meeting_10 rfl dX8_meeting_46 ?_
            refine gz_get (pc := 49) (v := .ref (a 15)) F hn_X8_meeting_X5 1 5 rfl rfl 3 (by decide) fl_X8_meeting_62 rfl dX8_meeting_49 ?_
            refine gz_get (pc := 52) (v := vI (Mt_n (Pl_mt (Ri_P r)))) F hn_X8_meeting_X4 15 4 rfl rfl 6 (by decide) fl_X8_meeting_94 rfl dX8_meeting_52 ?_
            have b52 := hMt.1
            refine gz_istore (pc := 55) (lv2 := [(5, vI (Mt_n (Pl_mt (Ri_P r)))), (0, .ref (a 0)), (1, vI p0), (2, vI p1), (3, vI p2), (4, vI p3)]) F dX8_meeting_55 (by decide) rfl ?_
            refine gz_iload (pc := 57) F dX8_meeting_57 0 rfl ?_
            refine gz_bipush (pc := 59) F dX8_meeting_59 (by decide) ?_
            refine gz_icmp_ge (pc := 61) (tgt := 68) F dX8_meeting_61 (by decide) (by omega) (by omega) (fun c61 => ?_) (fun c61 => ?_)
            · refine gz_const (pc := 68) F dX8_meeting_68 ?_
              refine gz_eqst (st2 := [vI (bz False)]) (congrArg (fun x => [vI x]) (bz_f not_false).symm) ?_
              have n69 : ¬ False := not_false
              refine gz_callSX (pc := 69) (n := 1) (As := [vI (bz False)]) (rest := []) (bytes := cX8_needState) (maxL := 1) (ret := none) F FX (cx_X8_needState l hfl D cI cJ cZ (False) n69) gX8_meeting_X8_needState rfl ⟨rfl, rfl⟩ (by decide +kernel) ⟨Nat.le_of_ble_eq_true rfl, Nat.le_of_ble_eq_true rfl⟩ rfl [] rfl (by decide) rfl (Nat.le_of_ble_eq_true rfl) (by decide) gz_pF_sh dX8_meeting_69 (fun _ _ h => h.elim) (fun E hE => ?_)
              subst hE
              exact ZC _ _ _ _ (Or.inr ⟨(fun h => h.1 c3), Or.inr ⟨not_not_intro n17, Or.inr ⟨not_not_intro n31, Or.inr ⟨not_not_intro n37, Or.inr ⟨not_not_intro n42, Or.inl ⟨(by omega), rfl⟩⟩⟩⟩⟩⟩)
            · refine gz_const (pc := 64) F dX8_meeting_64 ?_
              refine gz_goto (pc := 65) (tgt := 69) F dX8_meeting_65 (by decide) ?_
              refine gz_eqst (st2 := [vI (bz True)]) (congrArg (fun x => [vI x]) (bz_t trivial).symm) ?_
              have n69 : True := trivial
              refine gz_callS (pc := 69) (n := 1) (As := [vI (bz True)]) (rest := []) (bytes := cX8_needState) (maxL := 1) (ret := none) F (ct_X8_needState l D cI cJ cZ (True) n69) gX8_meeting_X8_needState rfl ⟨rfl, rfl⟩ (by decide +kernel) ⟨Nat.le_of_ble_eq_true rfl, Nat.le_of_ble_eq_true rfl⟩ rfl [] rfl (by decide) rfl (Nat.le_of_ble_eq_true rfl) ⟨Nat.zero_le _, Nat.zero_le _⟩ (gz_pE_sh rfl) dX8_meeting_69 ?_
              refine gz_kE (ws2 := RiW cI cJ a r) rfl ?_
              refine gz_aload_n (pc := 72) F dX8_meeting_72 rfl 1 rfl ?_
              refine gz_get (pc := 73) (v := .ref (a 1)) F hn_X8_meeting_X8 0 8 rfl rfl 0 (by decide) fl_X8_meeting_10 rfl dX8_meeting_73 ?_
              refine gz_iload_n (pc := 76) F dX8_meeting_76 rfl 2 rfl ?_
              refine gz_iload_n (pc := 77) F dX8_meeting_77 rfl 3 rfl ?_
              refine gz_iload_n (pc := 78) F dX8_meeting_78 rfl 4 rfl ?_
              refine gz_iload (pc := 79) F dX8_meeting_79 5 rfl ?_
              refine gz_const (pc := 81) F dX8_meeting_81 ?_
              refine gz_callVb (pc := 82) (n := 5) (As := [vI p0, vI p1, vI p2, vI p3, vI (-1)]) (rest := []) (bytes := cX5_hasRoom) (maxL := 7) (ret := some .boolean) F (ct_X5_hasRoom l D cI cJ cZ (fun i => a (i + 1)) (Ri_P r) p0 p1 p2 p3 (-1) hP (by omega) (by omega) (by omega) (by omega) (by omega)) gX8_meeting_X5_hasRoom rfl ⟨rfl, rfl⟩ (by decide +kernel) ⟨Nat.le_of_ble_eq_true rfl, Nat.le_of_ble_eq_true rfl⟩ rfl [RiO a] (PlW cI cJ (fun i => a (i + 30)) (Ri_A r) ++ (ToW cI (fun i => a (i + 59)) (Ri_T r) ++ SwW cI (fun i => a (i + 66)) (Ri_S r))) (RiW_P cI cJ a (Ri_P r) (Ri_A r) (Ri_T r) (Ri_S r)) 5 rfl rfl rfl (Nat.le_of_ble_eq_true rfl) ⟨Nat.zero_le _, Nat.zero_le _⟩ gz_pI_sh dX8_meeting_82 ?_
              refine gz_kIb (RiW_P cI cJ a (Ri_P r) (Ri_A r) (Ri_T r) (Ri_S r)).symm (fun r82 h82 => ?_)
              subst h82
              by_cases n85 : (Pl_room (Ri_P r) p0 p1 p2 p3 (-1))
              · refine gz_callS (pc := 85) (n := 1) (As := [vI (bz (Pl_room (Ri_P r) p0 p1 p2 p3 (-1)))]) (rest := []) (bytes := cX8_needState) (maxL := 1) (ret := none) F (ct_X8_needState l D cI cJ cZ ((Pl_room (Ri_P r) p0 p1 p2 p3 (-1))) n85) gX8_meeting_X8_needState rfl ⟨rfl, rfl⟩ (by decide +kernel) ⟨Nat.le_of_ble_eq_true rfl, Nat.le_of_ble_eq_true rfl⟩ rfl [] rfl (by decide) rfl (Nat.le_of_ble_eq_true rfl) ⟨Nat.zero_le _, Nat.zero_le _⟩ (gz_pE_sh rfl) dX8_meeting_85 ?_
                refine gz_kE (ws2 := RiW cI cJ a r) rfl ?_
                refine gz_aload_n (pc := 88) F dX8_meeting_88 rfl 1 rfl ?_
                refine gz_const (pc := 89) F dX8_meeting_89 ?_
                refine gz_iload_n (pc := 90) F dX8_meeting_90 rfl 2 rfl ?_
                refine gz_iload_n (pc := 91) F dX8_meeting_91 rfl 3 rfl ?_
                refine gz_iload_n (pc := 92) F dX8_meeting_92 rfl 4 rfl ?_
                refine gz_iload (pc := 93) F dX8_meeting_93 5 rfl ?_
                refine gz_callVb (pc := 95) (n := 5) (As := [vI 4, vI p0, vI p1, vI p2, vI p3]) (rest := []) (bytes := cX8_tell) (maxL := 6) (ret := none) F (ct_X8_tell l D cI cJ cZ a r 4 p0 p1 p2 p3 hr (by omega) (by omega) (by omega) (by omega) (by omega)) gX8_meeting_X8_tell rfl ⟨rfl, rfl⟩ (by decide +kernel) ⟨Nat.le_of_ble_eq_true rfl, Nat.le_of_ble_eq_true rfl⟩ rfl [] [] ((List.append_nil _).symm) 8 rfl rfl rfl (Nat.le_of_ble_eq_true rfl) ⟨Nat.zero_le _, Nat.zero_le _⟩ (gz_pE_sh rfl) dX8_meeting_95 ?_
                refine gz_kEb (ws2 := RiW cI cJ a (Ri_tell r 4 p0 p1 p2 p3)) ((List.append_nil _).symm).symm ?_
                refine gz_iload (pc := 98) F dX8_meeting_98 0 rfl ?_
                refine Z _ _ 100 _ dX8_meeting_100 rfl ?_
                exact ⟨⟨(fun h => h.1 c3), not_not_intro n17, not_not_intro n31, not_not_intro n37, not_not_intro n42, (by omega), not_not_intro n85, trivial⟩, rfl, rfl⟩
              · refine gz_callSX (pc := 85) (n := 1) (As := [vI (bz (Pl_room (Ri_P r) p0 p1 p2 p3 (-1)))]) (rest := []) (bytes := cX8_needState) (maxL := 1) (ret := none) F FX (cx_X8_needState l hfl D cI cJ cZ ((Pl_room (Ri_P r) p0 p1 p2 p3 (-1))) n85) gX8_meeting_X8_needState rfl ⟨rfl, rfl⟩ (by decide +kernel) ⟨Nat.le_of_ble_eq_true rfl, Nat.le_of_ble_eq_true rfl⟩ rfl [] rfl (by decide) rfl (Nat.le_of_ble_eq_true rfl) (by decide) gz_pF_sh dX8_meeting_85 (fun _ _ h => h.elim) (fun E hE => ?_)
                subst hE
                exact ZC _ _ _ _ (Or.inr ⟨(fun h => h.1 c3), Or.inr ⟨not_not_intro n17, Or.inr ⟨not_not_intro n31, Or.inr ⟨not_not_intro n37, Or.inr ⟨not_not_intro n42, Or.inr ⟨(by omega), Or.inl ⟨n85, rfl⟩⟩⟩⟩⟩⟩⟩)
          · refine gz_callSX (pc := 42) (n := 2) (As := [vI p1, vI p2]) (rest := []) (bytes := cX8_needOneDay) (maxL := 2) (ret := none) F FX (cx_X8_needOneDay l hfl D cI cJ cZ p1 p2 (by omega) (by omega) n42) gX8_meeting_X8_needOneDay rfl ⟨rfl, rfl⟩ (by decide +kernel) ⟨Nat.le_of_ble_eq_true rfl, Nat.le_of_ble_eq_true rfl⟩ rfl [] rfl (by decide) rfl (Nat.le_of_ble_eq_true rfl) (by decide) gz_pF_sh dX8_meeting_42 (fun _ _ h => h.elim) (fun E hE => ?_)
            subst hE
            exact ZC _ _ _ _ (Or.inr ⟨(fun h => h.1 c3), Or.inr ⟨not_not_intro n17, Or.inr ⟨not_not_intro n31, Or.inr ⟨not_not_intro n37, Or.inl ⟨n42, rfl⟩⟩⟩⟩⟩)
        · refine gz_callSX (pc := 37) (n := 3) (As := [vI p2, vI 1, vI 4]) (rest := []) (bytes := cX8_needRange) (maxL := 3) (ret := none) F FX (cx_X8_needRange l hfl D cI cJ cZ p2 1 4 (by omega) (by omega) (by omega) n37) gX8_meeting_X8_needRange rfl ⟨rfl, rfl⟩ (by decide +kernel) ⟨Nat.le_of_ble_eq_true rfl, Nat.le_of_ble_eq_true rfl⟩ rfl [] rfl (by decide) rfl (Nat.le_of_ble_eq_true rfl) (by decide) gz_pF_sh dX8_meeting_37 (fun _ _ h => h.elim) (fun E hE => ?_)
          subst hE
          exact ZC _ _ _ _ (Or.inr ⟨(fun h => h.1 c3), Or.inr ⟨not_not_intro n17, Or.inr ⟨not_not_intro n31, Or.inl ⟨n37, rfl⟩⟩⟩⟩)
      · refine gz_callSX (pc := 31) (n := 3) (As := [vI p1, vI (Pl_now (Ri_P r)), vI 399]) (rest := []) (bytes := cX8_needRange) (maxL := 3) (ret := none) F FX (cx_X8_needRange l hfl D cI cJ cZ p1 (Pl_now (Ri_P r)) 399 (by omega) (by omega) (by omega) n31) gX8_meeting_X8_needRange rfl ⟨rfl, rfl⟩ (by decide +kernel) ⟨Nat.le_of_ble_eq_true rfl, Nat.le_of_ble_eq_true rfl⟩ rfl [] rfl (by decide) rfl (Nat.le_of_ble_eq_true rfl) (by decide) gz_pF_sh dX8_meeting_31 (fun _ _ h => h.elim) (fun E hE => ?_)
        subst hE
        exact ZC _ _ _ _ (Or.inr ⟨(fun h => h.1 c3), Or.inr ⟨not_not_intro n17, Or.inl ⟨n31, rfl⟩⟩⟩)
    · refine gz_callSX (pc := 17) (n := 3) (As := [vI p0, vI 1, vI 1023]) (rest := []) (bytes := cX8_needRange) (maxL := 3) (ret := none) F FX (cx_X8_needRange l hfl D cI cJ cZ p0 1 1023 (by omega) (by omega) (by omega) n17) gX8_meeting_X8_needRange rfl ⟨rfl, rfl⟩ (by decide +kernel) ⟨Nat.le_of_ble_eq_true rfl, Nat.le_of_ble_eq_true rfl⟩ rfl [] rfl (by decide) rfl (Nat.le_of_ble_eq_true rfl) (by decide) gz_pF_sh dX8_meeting_17 (fun _ _ h => h.elim) (fun E hE => ?_)
      subst hE
      exact ZC _ _ _ _ (Or.inr ⟨(fun h => h.1 c3), Or.inl ⟨n17, rfl⟩⟩)
  · refine gz_aload_n (pc := 6) F dX8_meeting_6 rfl 0 rfl ?_
    refine gz_iload (pc := 7) F dX8_meeting_7 4 rfl ?_
    by_cases n9 : 0 ≤ p3 ∧ p3 < Mc_n (Pl_mc (Ri_P r))
    · refine gz_callVb (pc := 9) (n := 1) (As := [vI p3]) (rest := []) (bytes := cX8_needMachine) (maxL := 2) (ret := none) F (ct_X8_needMachine l D cI cJ cZ a r p3 hr (by omega) n9) gX8_meeting_X8_needMachine rfl ⟨rfl, rfl⟩ (by decide +kernel) ⟨Nat.le_of_ble_eq_true rfl, Nat.le_of_ble_eq_true rfl⟩ rfl [] [] ((List.append_nil _).symm) 8 rfl rfl rfl (Nat.le_of_ble_eq_true rfl) ⟨Nat.zero_le _, Nat.zero_le _⟩ (gz_pE_sh rfl) dX8_meeting_9 ?_
      refine gz_kEb (ws2 := RiW cI cJ a r) ((List.append_nil _).symm).symm ?_
      have b12 : -1 ≤ p3 ∧ p3 ≤ 6 := by omega
      refine gz_iload_n (pc := 12) F dX8_meeting_12 rfl 1 rfl ?_
      refine gz_const (pc := 13) F dX8_meeting_13 ?_
      refine gz_sipush (pc := 14) F dX8_meeting_14 (by decide) ?_
      by_cases n17 : 1 ≤ p0 ∧ p0 ≤ 1023
      · refine gz_callS (pc := 17) (n := 3) (As := [vI p0, vI 1, vI 1023]) (rest := []) (bytes := cX8_needRange) (maxL := 3) (ret := none) F (ct_X8_needRange l D cI cJ cZ p0 1 1023 (by omega) (by omega) (by omega) n17) gX8_meeting_X8_needRange rfl ⟨rfl, rfl⟩ (by decide +kernel) ⟨Nat.le_of_ble_eq_true rfl, Nat.le_of_ble_eq_true rfl⟩ rfl [] rfl (by decide) rfl (Nat.le_of_ble_eq_true rfl) ⟨Nat.zero_le _, Nat.zero_le _⟩ (gz_pE_sh rfl) dX8_meeting_17 ?_
        refine gz_kE (ws2 := RiW cI cJ a r) rfl ?_
        refine gz_iload_n (pc := 20) F dX8_meeting_20 rfl 2 rfl ?_
        refine gz_aload_n (pc := 21) F dX8_meeting_21 rfl 0 rfl ?_
        refine gz_get (pc := 22) (v := .ref (a 1)) F hn_X8_meeting_X8 0 8 rfl rfl 0 (by decide) fl_X8_meeting_10 rfl dX8_meeting_22 ?_
        refine gz_get (pc := 25) (v := vI (Pl_now (Ri_P r))) F hn_X8_meeting_X5 1 5 rfl rfl 5 (by decide) fl_X8_meeting_59 rfl dX8_meeting_25 ?_
        have b25 := hnw
        refine gz_sipush (pc := 28) F dX8_meeting_28 (by decide) ?_
        by_cases n31 : (Pl_now (Ri_P r)) ≤ p1 ∧ p1 ≤ 399
        · refine gz_callS (pc := 31) (n := 3) (As := [vI p1, vI (Pl_now (Ri_P r)), vI 399]) (rest := []) (bytes := cX8_needRange) (maxL := 3) (ret := none) F (ct_X8_needRange l D cI cJ cZ p1 (Pl_now (Ri_P r)) 399 (by omega) (by omega) (by omega) n31) gX8_meeting_X8_needRange rfl ⟨rfl, rfl⟩ (by decide +kernel) ⟨Nat.le_of_ble_eq_true rfl, Nat.le_of_ble_eq_true rfl⟩ rfl [] rfl (by decide) rfl (Nat.le_of_ble_eq_true rfl) ⟨Nat.zero_le _, Nat.zero_le _⟩ (gz_pE_sh rfl) dX8_meeting_31 ?_
          refine gz_kE (ws2 := RiW cI cJ a r) rfl ?_
          refine gz_iload_n (pc := 34) F dX8_meeting_34 rfl 3 rfl ?_
          refine gz_const (pc := 35) F dX8_meeting_35 ?_
          refine gz_const (pc := 36) F dX8_meeting_36 ?_
          by_cases n37 : 1 ≤ p2 ∧ p2 ≤ 4
          · refine gz_callS (pc := 37) (n := 3) (As := [vI p2, vI 1, vI 4]) (rest := []) (bytes := cX8_needRange) (maxL := 3) (ret := none) F (ct_X8_needRange l D cI cJ cZ p2 1 4 (by omega) (by omega) (by omega) n37) gX8_meeting_X8_needRange rfl ⟨rfl, rfl⟩ (by decide +kernel) ⟨Nat.le_of_ble_eq_true rfl, Nat.le_of_ble_eq_true rfl⟩ rfl [] rfl (by decide) rfl (Nat.le_of_ble_eq_true rfl) ⟨Nat.zero_le _, Nat.zero_le _⟩ (gz_pE_sh rfl) dX8_meeting_37 ?_
            refine gz_kE (ws2 := RiW cI cJ a r) rfl ?_
            refine gz_iload_n (pc := 40) F dX8_meeting_40 rfl 2 rfl ?_
            refine gz_iload_n (pc := 41) F dX8_meeting_41 rfl 3 rfl ?_
            by_cases n42 : p1 / 8 = (p1 + p2 - 1) / 8
            · refine gz_callS (pc := 42) (n := 2) (As := [vI p1, vI p2]) (rest := []) (bytes := cX8_needOneDay) (maxL := 2) (ret := none) F (ct_X8_needOneDay l D cI cJ cZ p1 p2 (by omega) (by omega) n42) gX8_meeting_X8_needOneDay rfl ⟨rfl, rfl⟩ (by decide +kernel) ⟨Nat.le_of_ble_eq_true rfl, Nat.le_of_ble_eq_true rfl⟩ rfl [] rfl (by decide) rfl (Nat.le_of_ble_eq_true rfl) ⟨Nat.zero_le _, Nat.zero_le _⟩ (gz_pE_sh rfl) dX8_meeting_42 ?_
              refine gz_kE (ws2 := RiW cI cJ a r) rfl ?_
              refine gz_aload_n (pc := 45) F dX8_meeting_45 rfl 0 rfl ?_
              refine gz_get (pc := 46) (v := .ref (a 1)) F hn_X8_meeting_X8 0 8 rfl rfl 0 (by decide) fl_X8_meeting_10 rfl dX8_meeting_46 ?_
              refine gz_get (pc := 49) (v := .ref (a 15)) F hn_X8_meeting_X5 1 5 rfl rfl 3 (by decide) fl_X8_meeting_62 rfl dX8_meeting_49 ?_
              refine gz_get (pc := 52) (v := vI (Mt_n (Pl_mt (Ri_P r)))) F hn_X8_meeting_X4 15 4 rfl rfl 6 (by decide) fl_X8_meeting_94 rfl dX8_meeting_52 ?_
              have b52 := hMt.1
              refine gz_istore (pc := 55) (lv2 := [(5, vI (Mt_n (Pl_mt (Ri_P r)))), (0, .ref (a 0)), (1, vI p0), (2, vI p1), (3, vI p2), (4, vI p3)]) F dX8_meeting_55 (by decide) rfl ?_
              refine gz_iload (pc := 57) F dX8_meeting_57 0 rfl ?_
              refine gz_bipush (pc := 59) F dX8_meeting_59 (by decide) ?_
              refine gz_icmp_ge (pc := 61) (tgt := 68) F dX8_meeting_61 (by decide) (by omega) (by omega) (fun c61 => ?_) (fun c61 => ?_)
              · refine gz_const (pc := 68) F dX8_meeting_68 ?_
                refine gz_eqst (st2 := [vI (bz False)]) (congrArg (fun x => [vI x]) (bz_f not_false).symm) ?_
                have n69 : ¬ False := not_false
                refine gz_callSX (pc := 69) (n := 1) (As := [vI (bz False)]) (rest := []) (bytes := cX8_needState) (maxL := 1) (ret := none) F FX (cx_X8_needState l hfl D cI cJ cZ (False) n69) gX8_meeting_X8_needState rfl ⟨rfl, rfl⟩ (by decide +kernel) ⟨Nat.le_of_ble_eq_true rfl, Nat.le_of_ble_eq_true rfl⟩ rfl [] rfl (by decide) rfl (Nat.le_of_ble_eq_true rfl) (by decide) gz_pF_sh dX8_meeting_69 (fun _ _ h => h.elim) (fun E hE => ?_)
                subst hE
                exact ZC _ _ _ _ (Or.inr ⟨(fun h => h.2 n9), Or.inr ⟨not_not_intro n17, Or.inr ⟨not_not_intro n31, Or.inr ⟨not_not_intro n37, Or.inr ⟨not_not_intro n42, Or.inl ⟨(by omega), rfl⟩⟩⟩⟩⟩⟩)
              · refine gz_const (pc := 64) F dX8_meeting_64 ?_
                refine gz_goto (pc := 65) (tgt := 69) F dX8_meeting_65 (by decide) ?_
                refine gz_eqst (st2 := [vI (bz True)]) (congrArg (fun x => [vI x]) (bz_t trivial).symm) ?_
                have n69 : True := trivial
                refine gz_callS (pc := 69) (n := 1) (As := [vI (bz True)]) (rest := []) (bytes := cX8_needState) (maxL := 1) (ret := none) F (ct_X8_needState l D cI cJ cZ (True) n69) gX8_meeting_X8_needState rfl ⟨rfl, rfl⟩ (by decide +kernel) ⟨Nat.le_of_ble_eq_true rfl, Nat.le_of_ble_eq_true rfl⟩ rfl [] rfl (by decide) rfl (Nat.le_of_ble_eq_true rfl) ⟨Nat.zero_le _, Nat.zero_le _⟩ (gz_pE_sh rfl) dX8_meeting_69 ?_
                refine gz_kE (ws2 := RiW cI cJ a r) rfl ?_
                refine gz_aload_n (pc := 72) F dX8_meeting_72 rfl 1 rfl ?_
                refine gz_get (pc := 73) (v := .ref (a 1)) F hn_X8_meeting_X8 0 8 rfl rfl 0 (by decide) fl_X8_meeting_10 rfl dX8_meeting_73 ?_
                refine gz_iload_n (pc := 76) F dX8_meeting_76 rfl 2 rfl ?_
                refine gz_iload_n (pc := 77) F dX8_meeting_77 rfl 3 rfl ?_
                refine gz_iload_n (pc := 78) F dX8_meeting_78 rfl 4 rfl ?_
                refine gz_iload (pc := 79) F dX8_meeting_79 5 rfl ?_
                refine gz_const (pc := 81) F dX8_meeting_81 ?_
                refine gz_callVb (pc := 82) (n := 5) (As := [vI p0, vI p1, vI p2, vI p3, vI (-1)]) (rest := []) (bytes := cX5_hasRoom) (maxL := 7) (ret := some .boolean) F (ct_X5_hasRoom l D cI cJ cZ (fun i => a (i + 1)) (Ri_P r) p0 p1 p2 p3 (-1) hP (by omega) (by omega) (by omega) (by omega) (by omega)) gX8_meeting_X5_hasRoom rfl ⟨rfl, rfl⟩ (by decide +kernel) ⟨Nat.le_of_ble_eq_true rfl, Nat.le_of_ble_eq_true rfl⟩ rfl [RiO a] (PlW cI cJ (fun i => a (i + 30)) (Ri_A r) ++ (ToW cI (fun i => a (i + 59)) (Ri_T r) ++ SwW cI (fun i => a (i + 66)) (Ri_S r))) (RiW_P cI cJ a (Ri_P r) (Ri_A r) (Ri_T r) (Ri_S r)) 5 rfl rfl rfl (Nat.le_of_ble_eq_true rfl) ⟨Nat.zero_le _, Nat.zero_le _⟩ gz_pI_sh dX8_meeting_82 ?_
                refine gz_kIb (RiW_P cI cJ a (Ri_P r) (Ri_A r) (Ri_T r) (Ri_S r)).symm (fun r82 h82 => ?_)
                subst h82
                by_cases n85 : (Pl_room (Ri_P r) p0 p1 p2 p3 (-1))
                · refine gz_callS (pc := 85) (n := 1) (As := [vI (bz (Pl_room (Ri_P r) p0 p1 p2 p3 (-1)))]) (rest := []) (bytes := cX8_needState) (maxL := 1) (ret := none) F (ct_X8_needState l D cI cJ cZ ((Pl_room (Ri_P r) p0 p1 p2 p3 (-1))) n85) gX8_meeting_X8_needState rfl ⟨rfl, rfl⟩ (by decide +kernel) ⟨Nat.le_of_ble_eq_true rfl, Nat.le_of_ble_eq_true rfl⟩ rfl [] rfl (by decide) rfl (Nat.le_of_ble_eq_true rfl) ⟨Nat.zero_le _, Nat.zero_le _⟩ (gz_pE_sh rfl) dX8_meeting_85 ?_
                  refine gz_kE (ws2 := RiW cI cJ a r) rfl ?_
                  refine gz_aload_n (pc := 88) F dX8_meeting_88 rfl 1 rfl ?_
                  refine gz_const (pc := 89) F dX8_meeting_89 ?_
                  refine gz_iload_n (pc := 90) F dX8_meeting_90 rfl 2 rfl ?_
                  refine gz_iload_n (pc := 91) F dX8_meeting_91 rfl 3 rfl ?_
                  refine gz_iload_n (pc := 92) F dX8_meeting_92 rfl 4 rfl ?_
                  refine gz_iload (pc := 93) F dX8_meeting_93 5 rfl ?_
                  refine gz_callVb (pc := 95) (n := 5) (As := [vI 4, vI p0, vI p1, vI p2, vI p3]) (rest := []) (bytes := cX8_tell) (maxL := 6) (ret := none) F (ct_X8_tell l D cI cJ cZ a r 4 p0 p1 p2 p3 hr (by omega) (by omega) (by omega) (by omega) (by omega)) gX8_meeting_X8_tell rfl ⟨rfl, rfl⟩ (by decide +kernel) ⟨Nat.le_of_ble_eq_true rfl, Nat.le_of_ble_eq_true rfl⟩ rfl [] [] ((List.append_nil _).symm) 8 rfl rfl rfl (Nat.le_of_ble_eq_true rfl) ⟨Nat.zero_le _, Nat.zero_le _⟩ (gz_pE_sh rfl) dX8_meeting_95 ?_
                  refine gz_kEb (ws2 := RiW cI cJ a (Ri_tell r 4 p0 p1 p2 p3)) ((List.append_nil _).symm).symm ?_
                  refine gz_iload (pc := 98) F dX8_meeting_98 0 rfl ?_
                  refine Z _ _ 100 _ dX8_meeting_100 rfl ?_
                  exact ⟨⟨(fun h => h.2 n9), not_not_intro n17, not_not_intro n31, not_not_intro n37, not_not_intro n42, (by omega), not_not_intro n85, trivial⟩, rfl, rfl⟩
                · refine gz_callSX (pc := 85) (n := 1) (As := [vI (bz (Pl_room (Ri_P r) p0 p1 p2 p3 (-1)))]) (rest := []) (bytes := cX8_needState) (maxL := 1) (ret := none) F FX (cx_X8_needState l hfl D cI cJ cZ ((Pl_room (Ri_P r) p0 p1 p2 p3 (-1))) n85) gX8_meeting_X8_needState rfl ⟨rfl, rfl⟩ (by decide +kernel) ⟨Nat.le_of_ble_eq_true rfl, Nat.le_of_ble_eq_true rfl⟩ rfl [] rfl (by decide) rfl (Nat.le_of_ble_eq_true rfl) (by decide) gz_pF_sh dX8_meeting_85 (fun _ _ h => h.elim) (fun E hE => ?_)
                  subst hE
                  exact ZC _ _ _ _ (Or.inr ⟨(fun h => h.2 n9), Or.inr ⟨not_not_intro n17, Or.inr ⟨not_not_intro n31, Or.inr ⟨not_not_intro n37, Or.inr ⟨not_not_intro n42, Or.inr ⟨(by omega), Or.inl ⟨n85, rfl⟩⟩⟩⟩⟩⟩⟩)
            · refine gz_callSX (pc := 42) (n := 2) (As := [vI p1, vI p2]) (rest := []) (bytes := cX8_needOneDay) (maxL := 2) (ret := none) F FX (cx_X8_needOneDay l hfl D cI cJ cZ p1 p2 (by omega) (by omega) n42) gX8_meeting_X8_needOneDay rfl ⟨rfl, rfl⟩ (by decide +kernel) ⟨Nat.le_of_ble_eq_true rfl, Nat.le_of_ble_eq_true rfl⟩ rfl [] rfl (by decide) rfl (Nat.le_of_ble_eq_true rfl) (by decide) gz_pF_sh dX8_meeting_42 (fun _ _ h => h.elim) (fun E hE => ?_)
              subst hE
              exact ZC _ _ _ _ (Or.inr ⟨(fun h => h.2 n9), Or.inr ⟨not_not_intro n17, Or.inr ⟨not_not_intro n31, Or.inr ⟨not_not_intro n37, Or.inl ⟨n42, rfl⟩⟩⟩⟩⟩)
          · refine gz_callSX (pc := 37) (n := 3) (As := [vI p2, vI 1, vI 4]) (rest := []) (bytes := cX8_needRange) (maxL := 3) (ret := none) F FX (cx_X8_needRange l hfl D cI cJ cZ p2 1 4 (by omega) (by omega) (by omega) n37) gX8_meeting_X8_needRange rfl ⟨rfl, rfl⟩ (by decide +kernel) ⟨Nat.le_of_ble_eq_true rfl, Nat.le_of_ble_eq_true rfl⟩ rfl [] rfl (by decide) rfl (Nat.le_of_ble_eq_true rfl) (by decide) gz_pF_sh dX8_meeting_37 (fun _ _ h => h.elim) (fun E hE => ?_)
            subst hE
            exact ZC _ _ _ _ (Or.inr ⟨(fun h => h.2 n9), Or.inr ⟨not_not_intro n17, Or.inr ⟨not_not_intro n31, Or.inl ⟨n37, rfl⟩⟩⟩⟩)
        · refine gz_callSX (pc := 31) (n := 3) (As := [vI p1, vI (Pl_now (Ri_P r)), vI 399]) (rest := []) (bytes := cX8_needRange) (maxL := 3) (ret := none) F FX (cx_X8_needRange l hfl D cI cJ cZ p1 (Pl_now (Ri_P r)) 399 (by omega) (by omega) (by omega) n31) gX8_meeting_X8_needRange rfl ⟨rfl, rfl⟩ (by decide +kernel) ⟨Nat.le_of_ble_eq_true rfl, Nat.le_of_ble_eq_true rfl⟩ rfl [] rfl (by decide) rfl (Nat.le_of_ble_eq_true rfl) (by decide) gz_pF_sh dX8_meeting_31 (fun _ _ h => h.elim) (fun E hE => ?_)
          subst hE
          exact ZC _ _ _ _ (Or.inr ⟨(fun h => h.2 n9), Or.inr ⟨not_not_intro n17, Or.inl ⟨n31, rfl⟩⟩⟩)
      · refine gz_callSX (pc := 17) (n := 3) (As := [vI p0, vI 1, vI 1023]) (rest := []) (bytes := cX8_needRange) (maxL := 3) (ret := none) F FX (cx_X8_needRange l hfl D cI cJ cZ p0 1 1023 (by omega) (by omega) (by omega) n17) gX8_meeting_X8_needRange rfl ⟨rfl, rfl⟩ (by decide +kernel) ⟨Nat.le_of_ble_eq_true rfl, Nat.le_of_ble_eq_true rfl⟩ rfl [] rfl (by decide) rfl (Nat.le_of_ble_eq_true rfl) (by decide) gz_pF_sh dX8_meeting_17 (fun _ _ h => h.elim) (fun E hE => ?_)
        subst hE
        exact ZC _ _ _ _ (Or.inr ⟨(fun h => h.2 n9), Or.inl ⟨n17, rfl⟩⟩)
    · refine gz_callVXb (pc := 9) (n := 1) (As := [vI p3]) (rest := []) (bytes := cX8_needMachine) (maxL := 2) (ret := none) F FX (cx_X8_needMachine l hfl D cI cJ cZ a r p3 hr (by omega) n9) gX8_meeting_X8_needMachine rfl ⟨rfl, rfl⟩ (by decide +kernel) ⟨Nat.le_of_ble_eq_true rfl, Nat.le_of_ble_eq_true rfl⟩ rfl [] [] ((List.append_nil _).symm) 8 rfl rfl rfl (Nat.le_of_ble_eq_true rfl) (by decide) gz_pF_sh dX8_meeting_9 (fun _ _ h => h.elim) (fun E hE => ?_)
      subst hE
      exact ZC _ _ _ _ (Or.inl ⟨⟨c3, n9⟩, rfl⟩)
