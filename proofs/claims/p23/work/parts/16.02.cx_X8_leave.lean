/-! ===== laid by wip/whole/gen/ri.py ===== -/
abbrev cd_leave (r : RiS) (p0 p1 p2 : Int) : List (Prop × String) := [(¬ (0 ≤ p0 ∧ p0 < 10), xIO), (¬ (Pl_now (Ri_P r) / 8 ≤ p1 ∧ p1 ≤ 49), xIA), (¬ (p1 ≤ p2 ∧ p2 ≤ 49), xIA), (Mt_busy (Pl_mt (Ri_P r)) (Mt_n (Pl_mt (Ri_P r))) p0.toNat (p1 * 8) ((p2 - p1 + 1) * 8) (-1), xIS)]
theorem hn_X8_leave_X8 : ∀ w ∈ u_ws RX8 TX8 4, w ∈ wsX8_leave := by decide +kernel
theorem fl_X8_leave_10 : Cond.fieldLink RX8 10 (TX8 0).1 (TX8 0).2.1 (TX8 0).2.2.1 ∈ wsX8_leave := by decide +kernel
theorem hn_X8_leave_X5 : ∀ w ∈ u_ws RX5 TX5 6, w ∈ wsX8_leave := by decide +kernel
theorem fl_X8_leave_59 : Cond.fieldLink RX8 59 (TX5 5).1 (TX5 5).2.1 (TX5 5).2.2.1 ∈ wsX8_leave := by decide +kernel
theorem fl_X8_leave_62 : Cond.fieldLink RX8 62 (TX5 3).1 (TX5 3).2.1 (TX5 3).2.2.1 ∈ wsX8_leave := by decide +kernel
set_option maxHeartbeats 4000000 in
set_option maxRecDepth 100000 in
theorem cx_X8_leave (l : Launch) (hfl : l.stackTraces = false) (D : va_G) (cI cJ cZ : ClassId) (a : Nat → Nat) (r : RiS) (p0 p1 p2 : Int) (hr : RiI r) (h0 : -2147483648 ≤ p0 ∧ p0 < 2147483648) (h1 : -2147483648 ≤ p1 ∧ p1 < 2147483648) (h2 : -2147483648 ≤ p2 ∧ p2 < 2147483648)  : gz_X l yX8_leave wsX8_leave { frames := 7, cells := 1, slots := 6, locals := 116 } D cI cJ cZ [.ref (a 0), vI p0, vI p1, vI p2] (RiW cI cJ a r) (gz_pO (cd_leave r p0 p1 p2) none (RiW cI cJ a (Ri_tell r 1 p0 p1 p2 0))) (gz_px (cd_leave r p0 p1 p2)) := by
  refine gz_ofXV (cc := cX8_leave) (maxL := 5) (own := RX8) hfl (by decide) rfl rfl (Nat.le_of_ble_eq_true rfl) (lv0 := [(0, .ref (a 0)), (1, vI p0), (2, vI p1), (3, vI p2)]) rfl ?_
  intro p e s m args below meth c A Q F FX Z ZT ZC
  obtain ⟨hP, hA, hTo, hSw⟩ := id hr
  obtain ⟨hMc, hLo, hLv, hMt, hBu, hnw⟩ := id hP
  have hMcn := hMc.1
  have hMtn := hMt.1
  have hBun := hBu.1
  have hTon := hTo.1
  have hSwn := hSw.1
  refine gz_iload_n (pc := 0) F dX8_leave_0 rfl 1 rfl ?_
  by_cases n1 : 0 ≤ p0 ∧ p0 < 10
  · refine gz_callS (pc := 1) (n := 1) (As := [vI p0]) (rest := []) (bytes := cX8_needPerson) (maxL := 1) (ret := none) F (ct_X8_needPerson l D cI cJ cZ p0 (by omega) n1) gX8_leave_X8_needPerson rfl ⟨rfl, rfl⟩ (by decide +kernel) ⟨Nat.le_of_ble_eq_true rfl, Nat.le_of_ble_eq_true rfl⟩ rfl [] rfl (by decide) rfl (Nat.le_of_ble_eq_true rfl) ⟨Nat.zero_le _, Nat.zero_le _⟩ (gz_pE_sh rfl) dX8_leave_1 ?_
    refine gz_kE (ws2 := RiW cI cJ a r) rfl ?_
    refine gz_iload_n (pc := 4) F dX8_leave_4 rfl 2 rfl ?_
    refine gz_aload_n (pc := 5) F dX8_leave_5 rfl 0 rfl ?_
    refine gz_get (pc := 6) (v := .ref (a 1)) F hn_X8_leave_X8 0 8 rfl rfl 0 (by decide) fl_X8_leave_10 rfl dX8_leave_6 ?_
    refine gz_get (pc := 9) (v := vI (Pl_now (Ri_P r))) F hn_X8_leave_X5 1 5 rfl rfl 5 (by decide) fl_X8_leave_59 rfl dX8_leave_9 ?_
    have b9 := hnw
    refine gz_bipush (pc := 12) F dX8_leave_12 (by decide) ?_
    refine gz_idiv (pc := 14) F dX8_leave_14 (by omega) (by omega) ?_
    refine gz_bipush (pc := 15) F dX8_leave_15 (by decide) ?_
    by_cases n17 : ((Pl_now (Ri_P r)) / 8) ≤ p1 ∧ p1 ≤ 49
    · refine gz_callS (pc := 17) (n := 3) (As := [vI p1, vI ((Pl_now (Ri_P r)) / 8), vI 49]) (rest := []) (bytes := cX8_needRange) (maxL := 3) (ret := none) F (ct_X8_needRange l D cI cJ cZ p1 ((Pl_now (Ri_P r)) / 8) 49 (by omega) (by omega) (by omega) n17) gX8_leave_X8_needRange rfl ⟨rfl, rfl⟩ (by decide +kernel) ⟨Nat.le_of_ble_eq_true rfl, Nat.le_of_ble_eq_true rfl⟩ rfl [] rfl (by decide) rfl (Nat.le_of_ble_eq_true rfl) ⟨Nat.zero_le _, Nat.zero_le _⟩ (gz_pE_sh rfl) dX8_leave_17 ?_
      refine gz_kE (ws2 := RiW cI cJ a r) rfl ?_
      refine gz_iload_n (pc := 20) F dX8_leave_20 rfl 3 rfl ?_
      refine gz_iload_n (pc := 21) F dX8_leave_21 rfl 2 rfl ?_
      refine gz_bipush (pc := 22) F dX8_leave_22 (by decide) ?_
      by_cases n24 : p1 ≤ p2 ∧ p2 ≤ 49
      · refine gz_callS (pc := 24) (n := 3) (As := [vI p2, vI p1, vI 49]) (rest := []) (bytes := cX8_needRange) (maxL := 3) (ret := none) F (ct_X8_needRange l D cI cJ cZ p2 p1 49 (by omega) (by omega) (by omega) n24) gX8_leave_X8_needRange rfl ⟨rfl, rfl⟩ (by decide +kernel) ⟨Nat.le_of_ble_eq_true rfl, Nat.le_of_ble_eq_true rfl⟩ rfl [] rfl (by decide) rfl (Nat.le_of_ble_eq_true rfl) ⟨Nat.zero_le _, Nat.zero_le _⟩ (gz_pE_sh rfl) dX8_leave_24 ?_
        refine gz_kE (ws2 := RiW cI cJ a r) rfl ?_
        refine gz_iload_n (pc := 27) F dX8_leave_27 rfl 3 rfl ?_
        refine gz_iload_n (pc := 28) F dX8_leave_28 rfl 2 rfl ?_
        refine gz_isub (pc := 29) F dX8_leave_29 ?_
        refine gz_const (pc := 30) F dX8_leave_30 ?_
        refine gz_iadd (pc := 31) F dX8_leave_31 ?_
        refine gz_bipush (pc := 32) F dX8_leave_32 (by decide) ?_
        refine gz_imul (pc := 34) F dX8_leave_34 ?_
        refine gz_istore (pc := 35) (lv2 := [(4, vI (((p2 - p1) + 1) * 8)), (0, .ref (a 0)), (1, vI p0), (2, vI p1), (3, vI p2)]) F dX8_leave_35 (by decide) rfl ?_
        refine gz_iload_n (pc := 37) F dX8_leave_37 rfl 2 rfl ?_
        refine gz_aload_n (pc := 38) F dX8_leave_38 rfl 1 rfl ?_
        refine gz_get (pc := 39) (v := .ref (a 1)) F hn_X8_leave_X8 0 8 rfl rfl 0 (by decide) fl_X8_leave_10 rfl dX8_leave_39 ?_
        refine gz_get (pc := 42) (v := .ref (a 15)) F hn_X8_leave_X5 1 5 rfl rfl 3 (by decide) fl_X8_leave_62 rfl dX8_leave_42 ?_
        refine gz_iload_n (pc := 45) F dX8_leave_45 rfl 3 rfl ?_
        refine gz_bipush (pc := 46) F dX8_leave_46 (by decide) ?_
        refine gz_imul (pc := 48) F dX8_leave_48 ?_
        refine gz_iload (pc := 49) F dX8_leave_49 0 rfl ?_
        refine gz_const (pc := 51) F dX8_leave_51 ?_
        refine gz_callV (pc := 52) (n := 3) (As := [vI (p1 * 8), vI (((p2 - p1) + 1) * 8), vI (-1)]) (rest := [vI p0]) (bytes := cX4_busyPeople) (maxL := 6) (ret := some .int) F (ct_X4_busyPeople l D cI cJ cZ (fun i => a (i + 14 + 1)) (Pl_mt (Ri_P r)) (p1 * 8) (((p2 - p1) + 1) * 8) (-1) hMt (by omega) (by omega) (by omega)) gX8_leave_X4_busyPeople rfl ⟨rfl, rfl⟩ (by decide +kernel) ⟨Nat.le_of_ble_eq_true rfl, Nat.le_of_ble_eq_true rfl⟩ rfl [15, 16, 17, 18, 19, 20, 21] rfl (by decide) 15 4 rfl rfl rfl (Nat.le_of_ble_eq_true rfl) ⟨Nat.zero_le _, Nat.zero_le _⟩ gz_pI_sh dX8_leave_52 ?_
        refine gz_kI rfl (fun r52 h52 => ?_)
        obtain ⟨b52, q52⟩ := h52
        refine gz_callS (pc := 55) (n := 2) (As := [vI p0, vI r52]) (rest := []) (bytes := cX8_isIn) (maxL := 2) (ret := some .boolean) F (ct_X8_isIn l D cI cJ cZ p0 r52 (by omega) (by omega)) gX8_leave_X8_isIn rfl ⟨rfl, rfl⟩ (by decide +kernel) ⟨Nat.le_of_ble_eq_true rfl, Nat.le_of_ble_eq_true rfl⟩ rfl [] rfl (by decide) rfl (Nat.le_of_ble_eq_true rfl) ⟨Nat.zero_le _, Nat.zero_le _⟩ gz_pI_sh dX8_leave_55 ?_
        refine gz_kI rfl (fun r55 h55 => ?_)
        subst h55
        refine gz_if_neb (pc := 58) (tgt := 65) F dX8_leave_58 (by decide) (fun c58 => ?_) (fun c58 => ?_)
        · refine gz_const (pc := 65) F dX8_leave_65 ?_
          refine gz_eqst (st2 := [vI (bz False)]) (congrArg (fun x => [vI x]) (bz_f not_false).symm) ?_
          have n66 : ¬ False := not_false
          refine gz_callSX (pc := 66) (n := 1) (As := [vI (bz False)]) (rest := []) (bytes := cX8_needState) (maxL := 1) (ret := none) F FX (cx_X8_needState l hfl D cI cJ cZ (False) n66) gX8_leave_X8_needState rfl ⟨rfl, rfl⟩ (by decide +kernel) ⟨Nat.le_of_ble_eq_true rfl, Nat.le_of_ble_eq_true rfl⟩ rfl [] rfl (by decide) rfl (Nat.le_of_ble_eq_true rfl) (by decide) gz_pF_sh dX8_leave_66 (fun _ _ h => h.elim) (fun E hE => ?_)
          subst hE
          exact ZC _ _ _ _ (Or.inr ⟨not_not_intro n1, Or.inr ⟨not_not_intro n17, Or.inr ⟨not_not_intro n24, Or.inl ⟨(q52 _).mp c58, rfl⟩⟩⟩⟩)
        · refine gz_const (pc := 61) F dX8_leave_61 ?_
          refine gz_goto (pc := 62) (tgt := 66) F dX8_leave_62 (by decide) ?_
          refine gz_eqst (st2 := [vI (bz True)]) (congrArg (fun x => [vI x]) (bz_t trivial).symm) ?_
          have n66 : True := trivial
          refine gz_callS (pc := 66) (n := 1) (As := [vI (bz True)]) (rest := []) (bytes := cX8_needState) (maxL := 1) (ret := none) F (ct_X8_needState l D cI cJ cZ (True) n66) gX8_leave_X8_needState rfl ⟨rfl, rfl⟩ (by decide +kernel) ⟨Nat.le_of_ble_eq_true rfl, Nat.le_of_ble_eq_true rfl⟩ rfl [] rfl (by decide) rfl (Nat.le_of_ble_eq_true rfl) ⟨Nat.zero_le _, Nat.zero_le _⟩ (gz_pE_sh rfl) dX8_leave_66 ?_
          refine gz_kE (ws2 := RiW cI cJ a r) rfl ?_
          refine gz_aload_n (pc := 69) F dX8_leave_69 rfl 1 rfl ?_
          refine gz_const (pc := 70) F dX8_leave_70 ?_
          refine gz_iload_n (pc := 71) F dX8_leave_71 rfl 2 rfl ?_
          refine gz_iload_n (pc := 72) F dX8_leave_72 rfl 3 rfl ?_
          refine gz_iload_n (pc := 73) F dX8_leave_73 rfl 4 rfl ?_
          refine gz_const (pc := 74) F dX8_leave_74 ?_
          refine gz_callVb (pc := 75) (n := 5) (As := [vI 1, vI p0, vI p1, vI p2, vI 0]) (rest := []) (bytes := cX8_tell) (maxL := 6) (ret := none) F (ct_X8_tell l D cI cJ cZ a r 1 p0 p1 p2 0 hr (by omega) (by omega) (by omega) (by omega) (by omega)) gX8_leave_X8_tell rfl ⟨rfl, rfl⟩ (by decide +kernel) ⟨Nat.le_of_ble_eq_true rfl, Nat.le_of_ble_eq_true rfl⟩ rfl [] [] ((List.append_nil _).symm) 8 rfl rfl rfl (Nat.le_of_ble_eq_true rfl) ⟨Nat.zero_le _, Nat.zero_le _⟩ (gz_pE_sh rfl) dX8_leave_75 ?_
          refine gz_kEb (ws2 := RiW cI cJ a (Ri_tell r 1 p0 p1 p2 0)) ((List.append_nil _).symm).symm ?_
          refine Z _ _ 78 dX8_leave_78 ?_
          exact ⟨⟨not_not_intro n1, not_not_intro n17, not_not_intro n24, (fun h => c58 ((q52 _).mpr h)), trivial⟩, rfl, rfl⟩
      · refine gz_callSX (pc := 24) (n := 3) (As := [vI p2, vI p1, vI 49]) (rest := []) (bytes := cX8_needRange) (maxL := 3) (ret := none) F FX (cx_X8_needRange l hfl D cI cJ cZ p2 p1 49 (by omega) (by omega) (by omega) n24) gX8_leave_X8_needRange rfl ⟨rfl, rfl⟩ (by decide +kernel) ⟨Nat.le_of_ble_eq_true rfl, Nat.le_of_ble_eq_true rfl⟩ rfl [] rfl (by decide) rfl (Nat.le_of_ble_eq_true rfl) (by decide) gz_pF_sh dX8_leave_24 (fun _ _ h => h.elim) (fun E hE => ?_)
        subst hE
        exact ZC _ _ _ _ (Or.inr ⟨not_not_intro n1, Or.inr ⟨not_not_intro n17, Or.inl ⟨n24, rfl⟩⟩⟩)
    · refine gz_callSX (pc := 17) (n := 3) (As := [vI p1, vI ((Pl_now (Ri_P r)) / 8), vI 49]) (rest := []) (bytes := cX8_needRange) (maxL := 3) (ret := none) F FX (cx_X8_needRange l hfl D cI cJ cZ p1 ((Pl_now (Ri_P r)) / 8) 49 (by omega) (by omega) (by omega) n17) gX8_leave_X8_needRange rfl ⟨rfl, rfl⟩ (by decide +kernel) ⟨Nat.le_of_ble_eq_true rfl, Nat.le_of_ble_eq_true rfl⟩ rfl [] rfl (by decide) rfl (Nat.le_of_ble_eq_true rfl) (by decide) gz_pF_sh dX8_leave_17 (fun _ _ h => h.elim) (fun E hE => ?_)
      subst hE
      exact ZC _ _ _ _ (Or.inr ⟨not_not_intro n1, Or.inl ⟨n17, rfl⟩⟩)
  · refine gz_callSX (pc := 1) (n := 1) (As := [vI p0]) (rest := []) (bytes := cX8_needPerson) (maxL := 1) (ret := none) F FX (cx_X8_needPerson l hfl D cI cJ cZ p0 (by omega) n1) gX8_leave_X8_needPerson rfl ⟨rfl, rfl⟩ (by decide +kernel) ⟨Nat.le_of_ble_eq_true rfl, Nat.le_of_ble_eq_true rfl⟩ rfl [] rfl (by decide) rfl (Nat.le_of_ble_eq_true rfl) (by decide) gz_pF_sh dX8_leave_1 (fun _ _ h => h.elim) (fun E hE => ?_)
    subst hE
    exact ZC _ _ _ _ (Or.inl ⟨n1, rfl⟩)
