/-! ===== laid by wip/whole/gen/ri.py ===== -/
abbrev cd_swap (r : RiS) (p0 p1 : Int) : List (Prop × String) := [(¬ (0 ≤ p0 ∧ p0 < Mt_n (Pl_mt (Ri_P r))), xIO), (¬ (0 ≤ p1 ∧ p1 < Mt_n (Pl_mt (Ri_P r))), xIO), (p0 = p1, xIA), (¬ (Pl_ahead (Ri_P r) p0), xIS), (¬ (Pl_ahead (Ri_P r) p1), xIS), (¬ (Sw_n (Ri_S r) < 20), xIS)]
theorem hn_X8_swap_X8 : ∀ w ∈ u_ws RX8 TX8 4, w ∈ wsX8_swap := by decide +kernel
theorem fl_X8_swap_10 : Cond.fieldLink RX8 10 (TX8 0).1 (TX8 0).2.1 (TX8 0).2.2.1 ∈ wsX8_swap := by decide +kernel
theorem fl_X8_swap_29 : Cond.fieldLink RX8 29 (TX8 3).1 (TX8 3).2.1 (TX8 3).2.2.1 ∈ wsX8_swap := by decide +kernel
theorem hn_X8_swap_X6 : ∀ w ∈ u_ws RX6 TX6 7, w ∈ wsX8_swap := by decide +kernel
theorem fl_X8_swap_119 : Cond.fieldLink RX8 119 (TX6 6).1 (TX6 6).2.1 (TX6 6).2.2.1 ∈ wsX8_swap := by decide +kernel
theorem hn_X8_swap_X5 : ∀ w ∈ u_ws RX5 TX5 6, w ∈ wsX8_swap := by decide +kernel
theorem fl_X8_swap_62 : Cond.fieldLink RX8 62 (TX5 3).1 (TX5 3).2.1 (TX5 3).2.2.1 ∈ wsX8_swap := by decide +kernel
theorem hn_X8_swap_X4 : ∀ w ∈ u_ws RX4 TX4 7, w ∈ wsX8_swap := by decide +kernel
theorem fl_X8_swap_120 : Cond.fieldLink RX8 120 (TX4 5).1 (TX4 5).2.1 (TX4 5).2.2.1 ∈ wsX8_swap := by decide +kernel
theorem iw_X8_swap_cl_IA : Cond.classLink RX8 112 xIA ∈ wsX8_swap := by decide +kernel
theorem iw_X8_swap_in_IA : Cond.initialized xIA ∈ wsX8_swap := by decide +kernel
theorem gd_X8_swap_IA : ∀ w ∈ (vx_atS RX8 116 xIA gz_names).filter goodWord, w ∈ wsX8_swap := by decide +kernel
set_option maxHeartbeats 4000000 in
set_option maxRecDepth 100000 in
theorem cx_X8_swap (l : Launch) (hfl : l.stackTraces = false) (D : va_G) (cI cJ cZ : ClassId) (a : Nat → Nat) (r : RiS) (p0 p1 : Int) (hr : RiI r) (h0 : -2147483648 ≤ p0 ∧ p0 < 2147483648) (h1 : -2147483648 ≤ p1 ∧ p1 < 2147483648)  : gz_X l yX8_swap wsX8_swap { frames := 7, cells := 1, slots := 6, locals := 103 } D cI cJ cZ [.ref (a 0), vI p0, vI p1] (RiW cI cJ a r) (gz_pO (cd_swap r p0 p1) (some (vI (Sw_n (Ri_S r)))) (RiW cI cJ a (Ri_setS r (Sw_add (Ri_S r) p0 (Mt_mv (Pl_mt (Ri_P r)) p0) p1 (Mt_mv (Pl_mt (Ri_P r)) p1))))) (gz_px (cd_swap r p0 p1)) := by
  refine gz_ofXZ (cc := cX8_swap) (maxL := 4) (ty := .int) (own := RX8) hfl (by decide) rfl rfl (Nat.le_of_ble_eq_true rfl) (lv0 := [(0, .ref (a 0)), (1, vI p0), (2, vI p1)]) rfl ?_
  intro p e s m args below meth c A Q F FX Z ZT ZC
  obtain ⟨hP, hA, hTo, hSw⟩ := id hr
  obtain ⟨hMc, hLo, hLv, hMt, hBu, hnw⟩ := id hP
  have hMcn := hMc.1
  have hMtn := hMt.1
  have hBun := hBu.1
  have hTon := hTo.1
  have hSwn := hSw.1
  refine gz_aload_n (pc := 0) F dX8_swap_0 rfl 0 rfl ?_
  refine gz_iload_n (pc := 1) F dX8_swap_1 rfl 1 rfl ?_
  by_cases n2 : 0 ≤ p0 ∧ p0 < Mt_n (Pl_mt (Ri_P r))
  · refine gz_callVb (pc := 2) (n := 1) (As := [vI p0]) (rest := []) (bytes := cX8_needMeeting) (maxL := 2) (ret := none) F (ct_X8_needMeeting l D cI cJ cZ a r p0 hr (by omega) n2) gX8_swap_X8_needMeeting rfl ⟨rfl, rfl⟩ (by decide +kernel) ⟨Nat.le_of_ble_eq_true rfl, Nat.le_of_ble_eq_true rfl⟩ rfl [] [] ((List.append_nil _).symm) 8 rfl rfl rfl (Nat.le_of_ble_eq_true rfl) ⟨Nat.zero_le _, Nat.zero_le _⟩ (gz_pE_sh rfl) dX8_swap_2 ?_
    refine gz_kEb (ws2 := RiW cI cJ a r) ((List.append_nil _).symm).symm ?_
    refine gz_aload_n (pc := 5) F dX8_swap_5 rfl 0 rfl ?_
    refine gz_iload_n (pc := 6) F dX8_swap_6 rfl 2 rfl ?_
    by_cases n7 : 0 ≤ p1 ∧ p1 < Mt_n (Pl_mt (Ri_P r))
    · refine gz_callVb (pc := 7) (n := 1) (As := [vI p1]) (rest := []) (bytes := cX8_needMeeting) (maxL := 2) (ret := none) F (ct_X8_needMeeting l D cI cJ cZ a r p1 hr (by omega) n7) gX8_swap_X8_needMeeting rfl ⟨rfl, rfl⟩ (by decide +kernel) ⟨Nat.le_of_ble_eq_true rfl, Nat.le_of_ble_eq_true rfl⟩ rfl [] [] ((List.append_nil _).symm) 8 rfl rfl rfl (Nat.le_of_ble_eq_true rfl) ⟨Nat.zero_le _, Nat.zero_le _⟩ (gz_pE_sh rfl) dX8_swap_7 ?_
      refine gz_kEb (ws2 := RiW cI cJ a r) ((List.append_nil _).symm).symm ?_
      refine gz_iload_n (pc := 10) F dX8_swap_10 rfl 1 rfl ?_
      refine gz_iload_n (pc := 11) F dX8_swap_11 rfl 2 rfl ?_
      refine gz_icmp_ne (pc := 12) (tgt := 25) F dX8_swap_12 (by decide) (by omega) (by omega) (fun c12 => ?_) (fun c12 => ?_)
      · refine gz_aload_n (pc := 25) F dX8_swap_25 rfl 0 rfl ?_
        refine gz_get (pc := 26) (v := .ref (a 1)) F hn_X8_swap_X8 0 8 rfl rfl 0 (by decide) fl_X8_swap_10 rfl dX8_swap_26 ?_
        refine gz_iload_n (pc := 29) F dX8_swap_29 rfl 1 rfl ?_
        refine gz_callVb (pc := 30) (n := 1) (As := [vI p0]) (rest := []) (bytes := cX5_isAhead) (maxL := 2) (ret := some .boolean) F (ct_X5_isAhead l D cI cJ cZ (fun i => a (i + 1)) (Ri_P r) p0 hP (by omega)) gX8_swap_X5_isAhead rfl ⟨rfl, rfl⟩ (by decide +kernel) ⟨Nat.le_of_ble_eq_true rfl, Nat.le_of_ble_eq_true rfl⟩ rfl [RiO a] (PlW cI cJ (fun i => a (i + 30)) (Ri_A r) ++ (ToW cI (fun i => a (i + 59)) (Ri_T r) ++ SwW cI (fun i => a (i + 66)) (Ri_S r))) (RiW_P cI cJ a (Ri_P r) (Ri_A r) (Ri_T r) (Ri_S r)) 5 rfl rfl rfl (Nat.le_of_ble_eq_true rfl) ⟨Nat.zero_le _, Nat.zero_le _⟩ gz_pI_sh dX8_swap_30 ?_
        refine gz_kIb (RiW_P cI cJ a (Ri_P r) (Ri_A r) (Ri_T r) (Ri_S r)).symm (fun r30 h30 => ?_)
        subst h30
        by_cases n33 : (Pl_ahead (Ri_P r) p0)
        · refine gz_callS (pc := 33) (n := 1) (As := [vI (bz (Pl_ahead (Ri_P r) p0))]) (rest := []) (bytes := cX8_needState) (maxL := 1) (ret := none) F (ct_X8_needState l D cI cJ cZ ((Pl_ahead (Ri_P r) p0)) n33) gX8_swap_X8_needState rfl ⟨rfl, rfl⟩ (by decide +kernel) ⟨Nat.le_of_ble_eq_true rfl, Nat.le_of_ble_eq_true rfl⟩ rfl [] rfl (by decide) rfl (Nat.le_of_ble_eq_true rfl) ⟨Nat.zero_le _, Nat.zero_le _⟩ (gz_pE_sh rfl) dX8_swap_33 ?_
          refine gz_kE (ws2 := RiW cI cJ a r) rfl ?_
          refine gz_aload_n (pc := 36) F dX8_swap_36 rfl 0 rfl ?_
          refine gz_get (pc := 37) (v := .ref (a 1)) F hn_X8_swap_X8 0 8 rfl rfl 0 (by decide) fl_X8_swap_10 rfl dX8_swap_37 ?_
          refine gz_iload_n (pc := 40) F dX8_swap_40 rfl 2 rfl ?_
          refine gz_callVb (pc := 41) (n := 1) (As := [vI p1]) (rest := []) (bytes := cX5_isAhead) (maxL := 2) (ret := some .boolean) F (ct_X5_isAhead l D cI cJ cZ (fun i => a (i + 1)) (Ri_P r) p1 hP (by omega)) gX8_swap_X5_isAhead rfl ⟨rfl, rfl⟩ (by decide +kernel) ⟨Nat.le_of_ble_eq_true rfl, Nat.le_of_ble_eq_true rfl⟩ rfl [RiO a] (PlW cI cJ (fun i => a (i + 30)) (Ri_A r) ++ (ToW cI (fun i => a (i + 59)) (Ri_T r) ++ SwW cI (fun i => a (i + 66)) (Ri_S r))) (RiW_P cI cJ a (Ri_P r) (Ri_A r) (Ri_T r) (Ri_S r)) 5 rfl rfl rfl (Nat.le_of_ble_eq_true rfl) ⟨Nat.zero_le _, Nat.zero_le _⟩ gz_pI_sh dX8_swap_41 ?_
          refine gz_kIb (RiW_P cI cJ a (Ri_P r) (Ri_A r) (Ri_T r) (Ri_S r)).symm (fun r41 h41 => ?_)
          subst h41
          by_cases n44 : (Pl_ahead (Ri_P r) p1)
          · refine gz_callS (pc := 44) (n := 1) (As := [vI (bz (Pl_ahead (Ri_P r) p1))]) (rest := []) (bytes := cX8_needState) (maxL := 1) (ret := none) F (ct_X8_needState l D cI cJ cZ ((Pl_ahead (Ri_P r) p1)) n44) gX8_swap_X8_needState rfl ⟨rfl, rfl⟩ (by decide +kernel) ⟨Nat.le_of_ble_eq_true rfl, Nat.le_of_ble_eq_true rfl⟩ rfl [] rfl (by decide) rfl (Nat.le_of_ble_eq_true rfl) ⟨Nat.zero_le _, Nat.zero_le _⟩ (gz_pE_sh rfl) dX8_swap_44 ?_
            refine gz_kE (ws2 := RiW cI cJ a r) rfl ?_
            refine gz_aload_n (pc := 47) F dX8_swap_47 rfl 0 rfl ?_
            refine gz_get (pc := 48) (v := .ref (a 66)) F hn_X8_swap_X8 0 8 rfl rfl 3 (by decide) fl_X8_swap_29 rfl dX8_swap_48 ?_
            refine gz_get (pc := 51) (v := vI (Sw_n (Ri_S r))) F hn_X8_swap_X6 66 6 rfl rfl 6 (by decide) fl_X8_swap_119 rfl dX8_swap_51 ?_
            have b51 := hSw.1
            refine gz_istore_n (pc := 54) (lv2 := [(3, vI (Sw_n (Ri_S r))), (0, .ref (a 0)), (1, vI p0), (2, vI p1)]) F dX8_swap_54 rfl (by decide) rfl ?_
            refine gz_iload_n (pc := 55) F dX8_swap_55 rfl 0 rfl ?_
            refine gz_bipush (pc := 56) F dX8_swap_56 (by decide) ?_
            refine gz_icmp_ge (pc := 58) (tgt := 65) F dX8_swap_58 (by decide) (by omega) (by omega) (fun c58 => ?_) (fun c58 => ?_)
            · refine gz_const (pc := 65) F dX8_swap_65 ?_
              refine gz_eqst (st2 := [vI (bz False)]) (congrArg (fun x => [vI x]) (bz_f not_false).symm) ?_
              have n66 : ¬ False := not_false
              refine gz_callSX (pc := 66) (n := 1) (As := [vI (bz False)]) (rest := []) (bytes := cX8_needState) (maxL := 1) (ret := none) F FX (cx_X8_needState l hfl D cI cJ cZ (False) n66) gX8_swap_X8_needState rfl ⟨rfl, rfl⟩ (by decide +kernel) ⟨Nat.le_of_ble_eq_true rfl, Nat.le_of_ble_eq_true rfl⟩ rfl [] rfl (by decide) rfl (Nat.le_of_ble_eq_true rfl) (by decide) gz_pF_sh dX8_swap_66 (fun _ _ h => h.elim) (fun E hE => ?_)
              subst hE
              exact ZC _ _ _ _ (Or.inr ⟨not_not_intro n2, Or.inr ⟨not_not_intro n7, Or.inr ⟨c12, Or.inr ⟨not_not_intro n33, Or.inr ⟨not_not_intro n44, Or.inl ⟨(by omega), rfl⟩⟩⟩⟩⟩⟩)
            · refine gz_const (pc := 61) F dX8_swap_61 ?_
              refine gz_goto (pc := 62) (tgt := 66) F dX8_swap_62 (by decide) ?_
              refine gz_eqst (st2 := [vI (bz True)]) (congrArg (fun x => [vI x]) (bz_t trivial).symm) ?_
              have n66 : True := trivial
              refine gz_callS (pc := 66) (n := 1) (As := [vI (bz True)]) (rest := []) (bytes := cX8_needState) (maxL := 1) (ret := none) F (ct_X8_needState l D cI cJ cZ (True) n66) gX8_swap_X8_needState rfl ⟨rfl, rfl⟩ (by decide +kernel) ⟨Nat.le_of_ble_eq_true rfl, Nat.le_of_ble_eq_true rfl⟩ rfl [] rfl (by decide) rfl (Nat.le_of_ble_eq_true rfl) ⟨Nat.zero_le _, Nat.zero_le _⟩ (gz_pE_sh rfl) dX8_swap_66 ?_
              refine gz_kE (ws2 := RiW cI cJ a r) rfl ?_
              refine gz_aload_n (pc := 69) F dX8_swap_69 rfl 1 rfl ?_
              refine gz_get (pc := 70) (v := .ref (a 66)) F hn_X8_swap_X8 0 8 rfl rfl 3 (by decide) fl_X8_swap_29 rfl dX8_swap_70 ?_
              refine gz_iload_n (pc := 73) F dX8_swap_73 rfl 2 rfl ?_
              refine gz_aload_n (pc := 74) F dX8_swap_74 rfl 1 rfl ?_
              refine gz_get (pc := 75) (v := .ref (a 1)) F hn_X8_swap_X8 0 8 rfl rfl 0 (by decide) fl_X8_swap_10 rfl dX8_swap_75 ?_
              refine gz_get (pc := 78) (v := .ref (a 15)) F hn_X8_swap_X5 1 5 rfl rfl 3 (by decide) fl_X8_swap_62 rfl dX8_swap_78 ?_
              refine gz_get (pc := 81) (v := .ref (a 21)) F hn_X8_swap_X4 15 4 rfl rfl 5 (by decide) fl_X8_swap_120 rfl dX8_swap_81 ?_
              refine gz_iload_n (pc := 84) F dX8_swap_84 rfl 2 rfl ?_
              refine gz_iald (pc := 85) (f := Mt_mv (Pl_mt (Ri_P r))) F 21 rfl (by omega) (by decide) dX8_swap_85 ?_
              refine gz_iload_n (pc := 86) F dX8_swap_86 rfl 3 rfl ?_
              refine gz_aload_n (pc := 87) F dX8_swap_87 rfl 1 rfl ?_
              refine gz_get (pc := 88) (v := .ref (a 1)) F hn_X8_swap_X8 0 8 rfl rfl 0 (by decide) fl_X8_swap_10 rfl dX8_swap_88 ?_
              refine gz_get (pc := 91) (v := .ref (a 15)) F hn_X8_swap_X5 1 5 rfl rfl 3 (by decide) fl_X8_swap_62 rfl dX8_swap_91 ?_
              refine gz_get (pc := 94) (v := .ref (a 21)) F hn_X8_swap_X4 15 4 rfl rfl 5 (by decide) fl_X8_swap_120 rfl dX8_swap_94 ?_
              refine gz_iload_n (pc := 97) F dX8_swap_97 rfl 3 rfl ?_
              refine gz_iald (pc := 98) (f := Mt_mv (Pl_mt (Ri_P r))) F 21 rfl (by omega) (by decide) dX8_swap_98 ?_
              refine gz_callVb (pc := 99) (n := 4) (As := [vI p0, vI (Mt_mv (Pl_mt (Ri_P r)) p0), vI p1, vI (Mt_mv (Pl_mt (Ri_P r)) p1)]) (rest := []) (bytes := cX6_add) (maxL := 5) (ret := none) F (ct_X6_add l D cI cJ cZ (fun i => a (i + 66)) (Ri_S r) p0 (Mt_mv (Pl_mt (Ri_P r)) p0) p1 (Mt_mv (Pl_mt (Ri_P r)) p1) hSw ) gX8_swap_X6_add rfl ⟨rfl, rfl⟩ (by decide +kernel) ⟨Nat.le_of_ble_eq_true rfl, Nat.le_of_ble_eq_true rfl⟩ rfl (RiO a :: (PlW cI cJ (fun i => a (i + 1)) (Ri_P r) ++ (PlW cI cJ (fun i => a (i + 30)) (Ri_A r) ++ ToW cI (fun i => a (i + 59)) (Ri_T r)))) [] (RiW_S cI cJ a (Ri_P r) (Ri_A r) (Ri_T r) (Ri_S r)) 6 rfl rfl rfl (Nat.le_of_ble_eq_true rfl) ⟨Nat.zero_le _, Nat.zero_le _⟩ (gz_pE_sh rfl) dX8_swap_99 ?_
              refine gz_kEb (ws2 := RiW cI cJ a (Ri_P r, Ri_A r, Ri_T r, Sw_add (Ri_S r) p0 (Mt_mv (Pl_mt (Ri_P r)) p0) p1 (Mt_mv (Pl_mt (Ri_P r)) p1))) (RiW_S cI cJ a (Ri_P r) (Ri_A r) (Ri_T r) (Sw_add (Ri_S r) p0 (Mt_mv (Pl_mt (Ri_P r)) p0) p1 (Mt_mv (Pl_mt (Ri_P r)) p1))).symm ?_
              refine gz_iload_n (pc := 102) F dX8_swap_102 rfl 0 rfl ?_
              refine Z _ _ 103 _ dX8_swap_103 rfl ?_
              exact ⟨⟨not_not_intro n2, not_not_intro n7, c12, not_not_intro n33, not_not_intro n44, (by omega), trivial⟩, rfl, rfl⟩
          · refine gz_callSX (pc := 44) (n := 1) (As := [vI (bz (Pl_ahead (Ri_P r) p1))]) (rest := []) (bytes := cX8_needState) (maxL := 1) (ret := none) F FX (cx_X8_needState l hfl D cI cJ cZ ((Pl_ahead (Ri_P r) p1)) n44) gX8_swap_X8_needState rfl ⟨rfl, rfl⟩ (by decide +kernel) ⟨Nat.le_of_ble_eq_true rfl, Nat.le_of_ble_eq_true rfl⟩ rfl [] rfl (by decide) rfl (Nat.le_of_ble_eq_true rfl) (by decide) gz_pF_sh dX8_swap_44 (fun _ _ h => h.elim) (fun E hE => ?_)
            subst hE
            exact ZC _ _ _ _ (Or.inr ⟨not_not_intro n2, Or.inr ⟨not_not_intro n7, Or.inr ⟨c12, Or.inr ⟨not_not_intro n33, Or.inl ⟨n44, rfl⟩⟩⟩⟩⟩)
        · refine gz_callSX (pc := 33) (n := 1) (As := [vI (bz (Pl_ahead (Ri_P r) p0))]) (rest := []) (bytes := cX8_needState) (maxL := 1) (ret := none) F FX (cx_X8_needState l hfl D cI cJ cZ ((Pl_ahead (Ri_P r) p0)) n33) gX8_swap_X8_needState rfl ⟨rfl, rfl⟩ (by decide +kernel) ⟨Nat.le_of_ble_eq_true rfl, Nat.le_of_ble_eq_true rfl⟩ rfl [] rfl (by decide) rfl (Nat.le_of_ble_eq_true rfl) (by decide) gz_pF_sh dX8_swap_33 (fun _ _ h => h.elim) (fun E hE => ?_)
          subst hE
          exact ZC _ _ _ _ (Or.inr ⟨not_not_intro n2, Or.inr ⟨not_not_intro n7, Or.inr ⟨c12, Or.inl ⟨n33, rfl⟩⟩⟩⟩)
      · exact ZT _ _ 15 xIA "a swap is of two meetings" 112 114 116 (Or.inr ⟨not_not_intro n2, Or.inr ⟨not_not_intro n7, Or.inl ⟨c12, rfl⟩⟩⟩) (by decide) (by decide) rfl iw_X8_swap_cl_IA iw_X8_swap_in_IA gd_X8_swap_IA gx_bad_IA gx_ot_IA dX8_swap_15 dX8_swap_18 dX8_swap_19 dX8_swap_21 dX8_swap_24 (by decide) (by decide) (by decide) (by decide)
    · refine gz_callVXb (pc := 7) (n := 1) (As := [vI p1]) (rest := []) (bytes := cX8_needMeeting) (maxL := 2) (ret := none) F FX (cx_X8_needMeeting l hfl D cI cJ cZ a r p1 hr (by omega) n7) gX8_swap_X8_needMeeting rfl ⟨rfl, rfl⟩ (by decide +kernel) ⟨Nat.le_of_ble_eq_true rfl, Nat.le_of_ble_eq_true rfl⟩ rfl [] [] ((List.append_nil _).symm) 8 rfl rfl rfl (Nat.le_of_ble_eq_true rfl) (by decide) gz_pF_sh dX8_swap_7 (fun _ _ h => h.elim) (fun E hE => ?_)
      subst hE
      exact ZC _ _ _ _ (Or.inr ⟨not_not_intro n2, Or.inl ⟨n7, rfl⟩⟩)
  · refine gz_callVXb (pc := 2) (n := 1) (As := [vI p0]) (rest := []) (bytes := cX8_needMeeting) (maxL := 2) (ret := none) F FX (cx_X8_needMeeting l hfl D cI cJ cZ a r p0 hr (by omega) n2) gX8_swap_X8_needMeeting rfl ⟨rfl, rfl⟩ (by decide +kernel) ⟨Nat.le_of_ble_eq_true rfl, Nat.le_of_ble_eq_true rfl⟩ rfl [] [] ((List.append_nil _).symm) 8 rfl rfl rfl (Nat.le_of_ble_eq_true rfl) (by decide) gz_pF_sh dX8_swap_2 (fun _ _ h => h.elim) (fun E hE => ?_)
    subst hE
    exact ZC _ _ _ _ (Or.inl ⟨n2, rfl⟩)
