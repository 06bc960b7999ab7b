/-! ===== laid by wip/whole/gen/ri.py ===== -/
abbrev cd_agree (r : RiS) (p0 p1 : Int) : List (Prop × String) := [(¬ (0 ≤ p0 ∧ p0 < 10), xIO), (¬ (0 ≤ p1 ∧ p1 < Sw_n (Ri_S r)), xIO), (¬ (Sw_st (Ri_S r) p1 = 0), xIS), (¬ (bit (Ri_all r p1) p0.toNat), xIS)]
theorem hn_X8_agree_X8 : ∀ w ∈ u_ws RX8 TX8 4, w ∈ wsX8_agree := by decide +kernel
theorem fl_X8_agree_29 : Cond.fieldLink RX8 29 (TX8 3).1 (TX8 3).2.1 (TX8 3).2.2.1 ∈ wsX8_agree := by decide +kernel
theorem hn_X8_agree_X6 : ∀ w ∈ u_ws RX6 TX6 7, w ∈ wsX8_agree := by decide +kernel
theorem fl_X8_agree_130 : Cond.fieldLink RX8 130 (TX6 5).1 (TX6 5).2.1 (TX6 5).2.2.1 ∈ wsX8_agree := by decide +kernel
theorem fl_X8_agree_10 : Cond.fieldLink RX8 10 (TX8 0).1 (TX8 0).2.1 (TX8 0).2.2.1 ∈ wsX8_agree := by decide +kernel
theorem hn_X8_agree_X5 : ∀ w ∈ u_ws RX5 TX5 6, w ∈ wsX8_agree := by decide +kernel
theorem fl_X8_agree_62 : Cond.fieldLink RX8 62 (TX5 3).1 (TX5 3).2.1 (TX5 3).2.2.1 ∈ wsX8_agree := by decide +kernel
theorem fl_X8_agree_133 : Cond.fieldLink RX8 133 (TX6 0).1 (TX6 0).2.1 (TX6 0).2.2.1 ∈ wsX8_agree := by decide +kernel
theorem fl_X8_agree_140 : Cond.fieldLink RX8 140 (TX6 2).1 (TX6 2).2.1 (TX6 2).2.2.1 ∈ wsX8_agree := by decide +kernel
theorem fl_X8_agree_143 : Cond.fieldLink RX8 143 (TX6 4).1 (TX6 4).2.1 (TX6 4).2.2.1 ∈ wsX8_agree := by decide +kernel
set_option maxHeartbeats 4000000 in
set_option maxRecDepth 100000 in
theorem cx_X8_agree (l : Launch) (hfl : l.stackTraces = false) (D : va_G) (cI cJ cZ : ClassId) (a : Nat → Nat) (r : RiS) (p0 p1 : Int) (hr : RiI r) (h0 : -2147483648 ≤ p0 ∧ p0 < 2147483648) (h1 : -2147483648 ≤ p1 ∧ p1 < 2147483648) (hL : ∀ k, 0 ≤ k → k < Mt_n (Pl_mt (Ri_P r)) → 1 ≤ Mt_ln (Pl_mt (Ri_P r)) k) : gz_X l yX8_agree wsX8_agree { frames := 7, cells := 1, slots := 6, locals := 142 } D cI cJ cZ [.ref (a 0), vI p0, vI p1] (RiW cI cJ a r) (gz_pO (cd_agree r p0 p1) (some (vI (Sw_st (Ri_S (Ri_agr r p0 p1)) p1))) (RiW cI cJ a (Ri_agr r p0 p1))) (gz_px (cd_agree r p0 p1)) := by
  refine gz_ofXZ (cc := cX8_agree) (maxL := 4) (ty := .int) (own := RX8) hfl (by decide) rfl rfl (Nat.le_of_ble_eq_true rfl) (lv0 := [(0, .ref (a 0)), (1, vI p0), (2, vI p1)]) rfl ?_
  intro p e s m args below meth c A Q F FX Z ZT ZC
  obtain ⟨hP, hA, hTo, hSw⟩ := id hr
  obtain ⟨hMc, hLo, hLv, hMt, hBu, hnw⟩ := id hP
  have hMcn := hMc.1
  have hMtn := hMt.1
  have hBun := hBu.1
  have hTon := hTo.1
  have hSwn := hSw.1
  refine gz_iload_n (pc := 0) F dX8_agree_0 rfl 1 rfl ?_
  by_cases n1 : 0 ≤ p0 ∧ p0 < 10
  · refine gz_callS (pc := 1) (n := 1) (As := [vI p0]) (rest := []) (bytes := cX8_needPerson) (maxL := 1) (ret := none) F (ct_X8_needPerson l D cI cJ cZ p0 (by omega) n1) gX8_agree_X8_needPerson rfl ⟨rfl, rfl⟩ (by decide +kernel) ⟨Nat.le_of_ble_eq_true rfl, Nat.le_of_ble_eq_true rfl⟩ rfl [] rfl (by decide) rfl (Nat.le_of_ble_eq_true rfl) ⟨Nat.zero_le _, Nat.zero_le _⟩ (gz_pE_sh rfl) dX8_agree_1 ?_
    refine gz_kE (ws2 := RiW cI cJ a r) rfl ?_
    refine gz_aload_n (pc := 4) F dX8_agree_4 rfl 0 rfl ?_
    refine gz_iload_n (pc := 5) F dX8_agree_5 rfl 2 rfl ?_
    by_cases n6 : 0 ≤ p1 ∧ p1 < Sw_n (Ri_S r)
    · refine gz_callVb (pc := 6) (n := 1) (As := [vI p1]) (rest := []) (bytes := cX8_needSwap) (maxL := 2) (ret := none) F (ct_X8_needSwap l D cI cJ cZ a r p1 hr (by omega) n6) gX8_agree_X8_needSwap rfl ⟨rfl, rfl⟩ (by decide +kernel) ⟨Nat.le_of_ble_eq_true rfl, Nat.le_of_ble_eq_true rfl⟩ rfl [] [] ((List.append_nil _).symm) 8 rfl rfl rfl (Nat.le_of_ble_eq_true rfl) ⟨Nat.zero_le _, Nat.zero_le _⟩ (gz_pE_sh rfl) dX8_agree_6 ?_
      refine gz_kEb (ws2 := RiW cI cJ a r) ((List.append_nil _).symm).symm ?_
      refine gz_aload_n (pc := 9) F dX8_agree_9 rfl 0 rfl ?_
      refine gz_get (pc := 10) (v := .ref (a 66)) F hn_X8_agree_X8 0 8 rfl rfl 3 (by decide) fl_X8_agree_29 rfl dX8_agree_10 ?_
      refine gz_get (pc := 13) (v := .ref (a 72)) F hn_X8_agree_X6 66 6 rfl rfl 5 (by decide) fl_X8_agree_130 rfl dX8_agree_13 ?_
      refine gz_iload_n (pc := 16) F dX8_agree_16 rfl 2 rfl ?_
      refine gz_iald (pc := 17) (f := Sw_st (Ri_S r)) F 72 rfl (by omega) (by decide) dX8_agree_17 ?_
      have b17 := (hSw.2 p1).2.2.2
      refine gz_if_ne (pc := 18) (tgt := 25) F dX8_agree_18 (by decide) (by omega) (fun c18 => ?_) (fun c18 => ?_)
      · refine gz_const (pc := 25) F dX8_agree_25 ?_
        refine gz_eqst (st2 := [vI (bz False)]) (congrArg (fun x => [vI x]) (bz_f not_false).symm) ?_
        have n26 : ¬ False := not_false
        refine gz_callSX (pc := 26) (n := 1) (As := [vI (bz False)]) (rest := []) (bytes := cX8_needState) (maxL := 1) (ret := none) F FX (cx_X8_needState l hfl D cI cJ cZ (False) n26) gX8_agree_X8_needState rfl ⟨rfl, rfl⟩ (by decide +kernel) ⟨Nat.le_of_ble_eq_true rfl, Nat.le_of_ble_eq_true rfl⟩ rfl [] rfl (by decide) rfl (Nat.le_of_ble_eq_true rfl) (by decide) gz_pF_sh dX8_agree_26 (fun _ _ h => h.elim) (fun E hE => ?_)
        subst hE
        exact ZC _ _ _ _ (Or.inr ⟨not_not_intro n1, Or.inr ⟨not_not_intro n6, Or.inl ⟨(by omega), rfl⟩⟩⟩)
      · refine gz_const (pc := 21) F dX8_agree_21 ?_
        refine gz_goto (pc := 22) (tgt := 26) F dX8_agree_22 (by decide) ?_
        refine gz_eqst (st2 := [vI (bz True)]) (congrArg (fun x => [vI x]) (bz_t trivial).symm) ?_
        have n26 : True := trivial
        refine gz_callS (pc := 26) (n := 1) (As := [vI (bz True)]) (rest := []) (bytes := cX8_needState) (maxL := 1) (ret := none) F (ct_X8_needState l D cI cJ cZ (True) n26) gX8_agree_X8_needState rfl ⟨rfl, rfl⟩ (by decide +kernel) ⟨Nat.le_of_ble_eq_true rfl, Nat.le_of_ble_eq_true rfl⟩ rfl [] rfl (by decide) rfl (Nat.le_of_ble_eq_true rfl) ⟨Nat.zero_le _, Nat.zero_le _⟩ (gz_pE_sh rfl) dX8_agree_26 ?_
        refine gz_kE (ws2 := RiW cI cJ a r) rfl ?_
        refine gz_aload_n (pc := 29) F dX8_agree_29 rfl 0 rfl ?_
        refine gz_get (pc := 30) (v := .ref (a 1)) F hn_X8_agree_X8 0 8 rfl rfl 0 (by decide) fl_X8_agree_10 rfl dX8_agree_30 ?_
        refine gz_get (pc := 33) (v := .ref (a 15)) F hn_X8_agree_X5 1 5 rfl rfl 3 (by decide) fl_X8_agree_62 rfl dX8_agree_33 ?_
        refine gz_aload_n (pc := 36) F dX8_agree_36 rfl 0 rfl ?_
        refine gz_get (pc := 37) (v := .ref (a 66)) F hn_X8_agree_X8 0 8 rfl rfl 3 (by decide) fl_X8_agree_29 rfl dX8_agree_37 ?_
        refine gz_get (pc := 40) (v := .ref (a 67)) F hn_X8_agree_X6 66 6 rfl rfl 0 (by decide) fl_X8_agree_133 rfl dX8_agree_40 ?_
        refine gz_iload_n (pc := 43) F dX8_agree_43 rfl 2 rfl ?_
        refine gz_iald (pc := 44) (f := Sw_me (Ri_S r)) F 67 rfl (by omega) (by decide) dX8_agree_44 ?_
        have b44 := (hSw.2 p1).1
        refine gz_callV (pc := 45) (n := 1) (As := [vI (Sw_me (Ri_S r) p1)]) (rest := []) (bytes := cX4_peopleOf) (maxL := 2) (ret := some .int) F (ct_X4_peopleOf l D cI cJ cZ (fun i => a (i + 14 + 1)) (Pl_mt (Ri_P r)) (Sw_me (Ri_S r) p1) hMt (by omega)) gX8_agree_X4_peopleOf rfl ⟨rfl, rfl⟩ (by decide +kernel) ⟨Nat.le_of_ble_eq_true rfl, Nat.le_of_ble_eq_true rfl⟩ rfl [15, 16, 17, 18, 19, 20, 21] rfl (by decide) 15 4 rfl rfl rfl (Nat.le_of_ble_eq_true rfl) ⟨Nat.zero_le _, Nat.zero_le _⟩ gz_pI_sh dX8_agree_45 ?_
        refine gz_kI rfl (fun r45 h45 => ?_)
        subst h45
        refine gz_aload_n (pc := 48) F dX8_agree_48 rfl 0 rfl ?_
        refine gz_get (pc := 49) (v := .ref (a 1)) F hn_X8_agree_X8 0 8 rfl rfl 0 (by decide) fl_X8_agree_10 rfl dX8_agree_49 ?_
        refine gz_get (pc := 52) (v := .ref (a 15)) F hn_X8_agree_X5 1 5 rfl rfl 3 (by decide) fl_X8_agree_62 rfl dX8_agree_52 ?_
        refine gz_aload_n (pc := 55) F dX8_agree_55 rfl 0 rfl ?_
        refine gz_get (pc := 56) (v := .ref (a 66)) F hn_X8_agree_X8 0 8 rfl rfl 3 (by decide) fl_X8_agree_29 rfl dX8_agree_56 ?_
        refine gz_get (pc := 59) (v := .ref (a 69)) F hn_X8_agree_X6 66 6 rfl rfl 2 (by decide) fl_X8_agree_140 rfl dX8_agree_59 ?_
        refine gz_iload_n (pc := 62) F dX8_agree_62 rfl 2 rfl ?_
        refine gz_iald (pc := 63) (f := Sw_ot (Ri_S r)) F 69 rfl (by omega) (by decide) dX8_agree_63 ?_
        have b63 := (hSw.2 p1).2.1
        refine gz_callV (pc := 64) (n := 1) (As := [vI (Sw_ot (Ri_S r) p1)]) (rest := [vI (Mt_peof (Pl_mt (Ri_P r)) (Sw_me (Ri_S r) p1))]) (bytes := cX4_peopleOf) (maxL := 2) (ret := some .int) F (ct_X4_peopleOf l D cI cJ cZ (fun i => a (i + 14 + 1)) (Pl_mt (Ri_P r)) (Sw_ot (Ri_S r) p1) hMt (by omega)) gX8_agree_X4_peopleOf rfl ⟨rfl, rfl⟩ (by decide +kernel) ⟨Nat.le_of_ble_eq_true rfl, Nat.le_of_ble_eq_true rfl⟩ rfl [15, 16, 17, 18, 19, 20, 21] rfl (by decide) 15 4 rfl rfl rfl (Nat.le_of_ble_eq_true rfl) ⟨Nat.zero_le _, Nat.zero_le _⟩ gz_pI_sh dX8_agree_64 ?_
        refine gz_kI rfl (fun r64 h64 => ?_)
        subst h64
        refine gz_ior (pc := 67) (v := zor (Mt_peof (Pl_mt (Ri_P r)) (Sw_me (Ri_S r) p1)) (Mt_peof (Pl_mt (Ri_P r)) (Sw_ot (Ri_S r) p1))) F dX8_agree_67 (zor_I (Mt_peof_r hMt _).1 (Mt_peof_r hMt _).1) ?_
        refine gz_istore_n (pc := 68) (lv2 := [(3, vI (zor (Mt_peof (Pl_mt (Ri_P r)) (Sw_me (Ri_S r) p1)) (Mt_peof (Pl_mt (Ri_P r)) (Sw_ot (Ri_S r) p1)))), (0, .ref (a 0)), (1, vI p0), (2, vI p1)]) F dX8_agree_68 rfl (by decide) rfl ?_
        have b69 := zor_r (Mt_peof_r hMt (Sw_me (Ri_S r) p1)) (Mt_peof_r hMt (Sw_ot (Ri_S r) p1))
        refine gz_iload_n (pc := 69) F dX8_agree_69 rfl 2 rfl ?_
        refine gz_iload_n (pc := 70) F dX8_agree_70 rfl 0 rfl ?_
        refine gz_callS (pc := 71) (n := 2) (As := [vI p0, vI (zor (Mt_peof (Pl_mt (Ri_P r)) (Sw_me (Ri_S r) p1)) (Mt_peof (Pl_mt (Ri_P r)) (Sw_ot (Ri_S r) p1)))]) (rest := []) (bytes := cX8_isIn) (maxL := 2) (ret := some .boolean) F (ct_X8_isIn l D cI cJ cZ p0 (zor (Mt_peof (Pl_mt (Ri_P r)) (Sw_me (Ri_S r) p1)) (Mt_peof (Pl_mt (Ri_P r)) (Sw_ot (Ri_S r) p1))) (by omega) (by omega)) gX8_agree_X8_isIn rfl ⟨rfl, rfl⟩ (by decide +kernel) ⟨Nat.le_of_ble_eq_true rfl, Nat.le_of_ble_eq_true rfl⟩ rfl [] rfl (by decide) rfl (Nat.le_of_ble_eq_true rfl) ⟨Nat.zero_le _, Nat.zero_le _⟩ gz_pI_sh dX8_agree_71 ?_
        refine gz_kI rfl (fun r71 h71 => ?_)
        subst h71
        by_cases n74 : (bit (zor (Mt_peof (Pl_mt (Ri_P r)) (Sw_me (Ri_S r) p1)) (Mt_peof (Pl_mt (Ri_P r)) (Sw_ot (Ri_S r) p1))) (Int.toNat p0))
        · refine gz_callS (pc := 74) (n := 1) (As := [vI (bz (bit (zor (Mt_peof (Pl_mt (Ri_P r)) (Sw_me (Ri_S r) p1)) (Mt_peof (Pl_mt (Ri_P r)) (Sw_ot (Ri_S r) p1))) (Int.toNat p0)))]) (rest := []) (bytes := cX8_needState) (maxL := 1) (ret := none) F (ct_X8_needState l D cI cJ cZ ((bit (zor (Mt_peof (Pl_mt (Ri_P r)) (Sw_me (Ri_S r) p1)) (Mt_peof (Pl_mt (Ri_P r)) (Sw_ot (Ri_S r) p1))) (Int.toNat p0))) n74) gX8_agree_X8_needState rfl ⟨rfl, rfl⟩ (by decide +kernel) ⟨Nat.le_of_ble_eq_true rfl, Nat.le_of_ble_eq_true rfl⟩ rfl [] rfl (by decide) rfl (Nat.le_of_ble_eq_true rfl) ⟨Nat.zero_le _, Nat.zero_le _⟩ (gz_pE_sh rfl) dX8_agree_74 ?_
          refine gz_kE (ws2 := RiW cI cJ a r) rfl ?_
          refine gz_aload_n (pc := 77) F dX8_agree_77 rfl 1 rfl ?_
          refine gz_get (pc := 78) (v := .ref (a 66)) F hn_X8_agree_X8 0 8 rfl rfl 3 (by decide) fl_X8_agree_29 rfl dX8_agree_78 ?_
          refine gz_get (pc := 81) (v := .ref (a 71)) F hn_X8_agree_X6 66 6 rfl rfl 4 (by decide) fl_X8_agree_143 rfl dX8_agree_81 ?_
          refine gz_iload_n (pc := 84) F dX8_agree_84 rfl 3 rfl ?_
          refine gz_dup2 (pc := 85) F dX8_agree_85 rfl rfl ?_
          refine gz_iald (pc := 86) (f := Sw_ag (Ri_S r)) F 71 rfl (by omega) (by decide) dX8_agree_86 ?_
          have b86 := (hSw.2 p1).2.2.1
          refine gz_const (pc := 87) F dX8_agree_87 ?_
          refine gz_iload_n (pc := 88) F dX8_agree_88 rfl 2 rfl ?_
          refine gz_ishl (pc := 89) (v := ((2 ^ (Int.toNat p0) : Nat) : Int)) F dX8_agree_89 (zshl_1 (by omega)) ?_
          refine gz_ior (pc := 90) (v := zor (Sw_ag (Ri_S r) p1) (((2 ^ (Int.toNat p0) : Nat) : Int))) F dX8_agree_90 (zor_I (hSw.2 p1).2.2.1.1 (pow_r n1).1) ?_
          refine gz_iast (pc := 91) (f := Sw_ag (Ri_S r)) (ws2 := RiW cI cJ a (Ri_P r, Ri_A r, Ri_T r, (Sw_n (Ri_S r), Sw_me (Ri_S r), Sw_mm (Ri_S r), Sw_ot (Ri_S r), Sw_om (Ri_S r), zU (Sw_ag (Ri_S r)) p1 (zor (Sw_ag (Ri_S r) p1) (((2 ^ (Int.toNat p0) : Nat) : Int))), Sw_st (Ri_S r)))) F 71 rfl (by omega) (by decide) rfl dX8_agree_91 ?_
          have b92 := zor_r (hSw.2 p1).2.2.1 (pow_r n1)
          refine gz_aload_n (pc := 92) F dX8_agree_92 rfl 1 rfl ?_
          refine gz_iload_n (pc := 93) F dX8_agree_93 rfl 3 rfl ?_
          refine gz_callVb (pc := 94) (n := 1) (As := [vI p1]) (rest := []) (bytes := cX8_holds) (maxL := 4) (ret := some .boolean) F (ct_X8_holds l D cI cJ cZ a ((Ri_P r, Ri_A r, Ri_T r, (Sw_n (Ri_S r), Sw_me (Ri_S r), Sw_mm (Ri_S r), Sw_ot (Ri_S r), Sw_om (Ri_S r), zU (Sw_ag (Ri_S r)) p1 (zor (Sw_ag (Ri_S r) p1) (((2 ^ (Int.toNat p0) : Nat) : Int))), Sw_st (Ri_S r)))) p1 (Ri_ag_I hr n1) (by omega)) gX8_agree_X8_holds rfl ⟨rfl, rfl⟩ (by decide +kernel) ⟨Nat.le_of_ble_eq_true rfl, Nat.le_of_ble_eq_true rfl⟩ rfl [] [] ((List.append_nil _).symm) 8 rfl rfl rfl (Nat.le_of_ble_eq_true rfl) ⟨Nat.zero_le _, Nat.zero_le _⟩ gz_pI_sh dX8_agree_94 ?_
          refine gz_kIb ((List.append_nil _).symm).symm (fun r94 h94 => ?_)
          subst h94
          refine gz_if_neb (pc := 97) (tgt := 113) F dX8_agree_97 (by decide) (fun c97 => ?_) (fun c97 => ?_)
          · refine gz_aload_n (pc := 113) F dX8_agree_113 rfl 1 rfl ?_
            refine gz_get (pc := 114) (v := .ref (a 66)) F hn_X8_agree_X8 0 8 rfl rfl 3 (by decide) fl_X8_agree_29 rfl dX8_agree_114 ?_
            refine gz_get (pc := 117) (v := .ref (a 71)) F hn_X8_agree_X6 66 6 rfl rfl 4 (by decide) fl_X8_agree_143 rfl dX8_agree_117 ?_
            refine gz_iload_n (pc := 120) F dX8_agree_120 rfl 3 rfl ?_
            refine gz_iald (pc := 121) (f := zU (Sw_ag (Ri_S r)) p1 (zor (Sw_ag (Ri_S r) p1) (((2 ^ (Int.toNat p0) : Nat) : Int)))) F 71 rfl (by omega) (by decide) dX8_agree_121 ?_
            have b122 : -2147483648 ≤ (zU (Sw_ag (Ri_S r)) p1 (zor (Sw_ag (Ri_S r) p1) ((2 ^ (Int.toNat p0) : Nat) : Int))) p1 ∧ (zU (Sw_ag (Ri_S r)) p1 (zor (Sw_ag (Ri_S r) p1) ((2 ^ (Int.toNat p0) : Nat) : Int))) p1 < 2147483648 := by rw [zU_s]; omega
            refine gz_iload_n (pc := 122) F dX8_agree_122 rfl 0 rfl ?_
            refine gz_icmp_ne (pc := 123) (tgt := 131) F dX8_agree_123 (by decide) (by omega) (by omega) (fun c123 => ?_) (fun c123 => ?_)
            · refine gz_aload_n (pc := 131) F dX8_agree_131 rfl 1 rfl ?_
              refine gz_get (pc := 132) (v := .ref (a 66)) F hn_X8_agree_X8 0 8 rfl rfl 3 (by decide) fl_X8_agree_29 rfl dX8_agree_132 ?_
              refine gz_get (pc := 135) (v := .ref (a 72)) F hn_X8_agree_X6 66 6 rfl rfl 5 (by decide) fl_X8_agree_130 rfl dX8_agree_135 ?_
              refine gz_iload_n (pc := 138) F dX8_agree_138 rfl 3 rfl ?_
              refine gz_iald (pc := 139) (f := Sw_st (Ri_S r)) F 72 rfl (by omega) (by decide) dX8_agree_139 ?_
              have b139 := (hSw.2 p1).2.2.2
              refine Z _ _ 140 _ dX8_agree_140 rfl ?_
              exact ⟨⟨not_not_intro n1, not_not_intro n6, (by omega), not_not_intro n74, trivial⟩, (congrArg (fun q => some (vI (Sw_st (Ri_S q) p1))) (Ri_agr_2 c97 c123)).symm, (congrArg (RiW cI cJ a) (Ri_agr_2 c97 c123)).symm⟩
            · refine gz_aload_n (pc := 126) F dX8_agree_126 rfl 1 rfl ?_
              refine gz_iload_n (pc := 127) F dX8_agree_127 rfl 3 rfl ?_
              refine gz_callVb (pc := 128) (n := 1) (As := [vI p1]) (rest := []) (bytes := cX8_settle) (maxL := 4) (ret := none) F (ct_X8_settle l D cI cJ cZ a ((Ri_P r, Ri_A r, Ri_T r, (Sw_n (Ri_S r), Sw_me (Ri_S r), Sw_mm (Ri_S r), Sw_ot (Ri_S r), Sw_om (Ri_S r), zU (Sw_ag (Ri_S r)) p1 (zor (Sw_ag (Ri_S r) p1) (((2 ^ (Int.toNat p0) : Nat) : Int))), Sw_st (Ri_S r)))) p1 (Ri_ag_I hr n1) (by omega) hL) gX8_agree_X8_settle rfl ⟨rfl, rfl⟩ (by decide +kernel) ⟨Nat.le_of_ble_eq_true rfl, Nat.le_of_ble_eq_true rfl⟩ rfl [] [] ((List.append_nil _).symm) 8 rfl rfl rfl (Nat.le_of_ble_eq_true rfl) ⟨Nat.zero_le _, Nat.zero_le _⟩ (gz_pE_sh rfl) dX8_agree_128 ?_
              refine gz_kEb (ws2 := RiW cI cJ a (Ri_settle ((Ri_P r, Ri_A r, Ri_T r, (Sw_n (Ri_S r), Sw_me (Ri_S r), Sw_mm (Ri_S r), Sw_ot (Ri_S r), Sw_om (Ri_S r), zU (Sw_ag (Ri_S r)) p1 (zor (Sw_ag (Ri_S r) p1) (((2 ^ (Int.toNat p0) : Nat) : Int))), Sw_st (Ri_S r)))) p1)) ((List.append_nil _).symm).symm ?_
              refine gz_aload_n (pc := 131) F dX8_agree_131 rfl 1 rfl ?_
              refine gz_get (pc := 132) (v := .ref (a 66)) F hn_X8_agree_X8 0 8 rfl rfl 3 (by decide) fl_X8_agree_29 rfl dX8_agree_132 ?_
              refine gz_get (pc := 135) (v := .ref (a 72)) F hn_X8_agree_X6 66 6 rfl rfl 5 (by decide) fl_X8_agree_130 rfl dX8_agree_135 ?_
              refine gz_iload_n (pc := 138) F dX8_agree_138 rfl 3 rfl ?_
              refine gz_iald (pc := 139) (f := Sw_st (Ri_S (Ri_settle ((Ri_P r, Ri_A r, Ri_T r, (Sw_n (Ri_S r), Sw_me (Ri_S r), Sw_mm (Ri_S r), Sw_ot (Ri_S r), Sw_om (Ri_S r), zU (Sw_ag (Ri_S r)) p1 (zor (Sw_ag (Ri_S r) p1) (((2 ^ (Int.toNat p0) : Nat) : Int))), Sw_st (Ri_S r)))) p1))) F 72 rfl (by omega) (by decide) dX8_agree_139 ?_
              refine Z _ _ 140 _ dX8_agree_140 rfl ?_
              exact ⟨⟨not_not_intro n1, not_not_intro n6, (by omega), not_not_intro n74, trivial⟩, (congrArg (fun q => some (vI (Sw_st (Ri_S q) p1))) (Ri_agr_1 c97 c123)).symm, (congrArg (RiW cI cJ a) (Ri_agr_1 c97 c123)).symm⟩
          · refine gz_aload_n (pc := 100) F dX8_agree_100 rfl 1 rfl ?_
            refine gz_get (pc := 101) (v := .ref (a 66)) F hn_X8_agree_X8 0 8 rfl rfl 3 (by decide) fl_X8_agree_29 rfl dX8_agree_101 ?_
            refine gz_get (pc := 104) (v := .ref (a 72)) F hn_X8_agree_X6 66 6 rfl rfl 5 (by decide) fl_X8_agree_130 rfl dX8_agree_104 ?_
            refine gz_iload_n (pc := 107) F dX8_agree_107 rfl 3 rfl ?_
            refine gz_const (pc := 108) F dX8_agree_108 ?_
            refine gz_iast (pc := 109) (f := Sw_st (Ri_S r)) (ws2 := RiW cI cJ a (Ri_P r, Ri_A r, Ri_T r, (Sw_n (Ri_S r), Sw_me (Ri_S r), Sw_mm (Ri_S r), Sw_ot (Ri_S r), Sw_om (Ri_S r), zU (Sw_ag (Ri_S r)) p1 (zor (Sw_ag (Ri_S r) p1) (((2 ^ (Int.toNat p0) : Nat) : Int))), zU (Sw_st (Ri_S r)) p1 2))) F 72 rfl (by omega) (by decide) rfl dX8_agree_109 ?_
            refine gz_goto (pc := 110) (tgt := 131) F dX8_agree_110 (by decide) ?_
            refine gz_aload_n (pc := 131) F dX8_agree_131 rfl 1 rfl ?_
            refine gz_get (pc := 132) (v := .ref (a 66)) F hn_X8_agree_X8 0 8 rfl rfl 3 (by decide) fl_X8_agree_29 rfl dX8_agree_132 ?_
            refine gz_get (pc := 135) (v := .ref (a 72)) F hn_X8_agree_X6 66 6 rfl rfl 5 (by decide) fl_X8_agree_130 rfl dX8_agree_135 ?_
            refine gz_iload_n (pc := 138) F dX8_agree_138 rfl 3 rfl ?_
            refine gz_iald (pc := 139) (f := zU (Sw_st (Ri_S r)) p1 2) F 72 rfl (by omega) (by decide) dX8_agree_139 ?_
            refine Z _ _ 140 _ dX8_agree_140 rfl ?_
            exact ⟨⟨not_not_intro n1, not_not_intro n6, (by omega), not_not_intro n74, trivial⟩, (congrArg (fun q => some (vI (Sw_st (Ri_S q) p1))) (Ri_agr_0 c97)).symm, (congrArg (RiW cI cJ a) (Ri_agr_0 c97)).symm⟩
        · refine gz_callSX (pc := 74) (n := 1) (As := [vI (bz (bit (zor (Mt_peof (Pl_mt (Ri_P r)) (Sw_me (Ri_S r) p1)) (Mt_peof (Pl_mt (Ri_P r)) (Sw_ot (Ri_S r) p1))) (Int.toNat p0)))]) (rest := []) (bytes := cX8_needState) (maxL := 1) (ret := none) F FX (cx_X8_needState l hfl D cI cJ cZ ((bit (zor (Mt_peof (Pl_mt (Ri_P r)) (Sw_me (Ri_S r) p1)) (Mt_peof (Pl_mt (Ri_P r)) (Sw_ot (Ri_S r) p1))) (Int.toNat p0))) n74) gX8_agree_X8_needState rfl ⟨rfl, rfl⟩ (by decide +kernel) ⟨Nat.le_of_ble_eq_true rfl, Nat.le_of_ble_eq_true rfl⟩ rfl [] rfl (by decide) rfl (Nat.le_of_ble_eq_true rfl) (by decide) gz_pF_sh dX8_agree_74 (fun _ _ h => h.elim) (fun E hE => ?_)
          subst hE
          exact ZC _ _ _ _ (Or.inr ⟨not_not_intro n1, Or.inr ⟨not_not_intro n6, Or.inr ⟨(by omega), Or.inl ⟨n74, rfl⟩⟩⟩⟩)
    · refine gz_callVXb (pc := 6) (n := 1) (As := [vI p1]) (rest := []) (bytes := cX8_needSwap) (maxL := 2) (ret := none) F FX (cx_X8_needSwap l hfl D cI cJ cZ a r p1 hr (by omega) n6) gX8_agree_X8_needSwap rfl ⟨rfl, rfl⟩ (by decide +kernel) ⟨Nat.le_of_ble_eq_true rfl, Nat.le_of_ble_eq_true rfl⟩ rfl [] [] ((List.append_nil _).symm) 8 rfl rfl rfl (Nat.le_of_ble_eq_true rfl) (by decide) gz_pF_sh dX8_agree_6 (fun _ _ h => h.elim) (fun E hE => ?_)
      subst hE
      exact ZC _ _ _ _ (Or.inr ⟨not_not_intro n1, Or.inl ⟨n6, rfl⟩⟩)
  · refine gz_callSX (pc := 1) (n := 1) (As := [vI p0]) (rest := []) (bytes := cX8_needPerson) (maxL := 1) (ret := none) F FX (cx_X8_needPerson l hfl D cI cJ cZ p0 (by omega) n1) gX8_agree_X8_needPerson rfl ⟨rfl, rfl⟩ (by decide +kernel) ⟨Nat.le_of_ble_eq_true rfl, Nat.le_of_ble_eq_true rfl⟩ rfl [] rfl (by decide) rfl (Nat.le_of_ble_eq_true rfl) (by decide) gz_pF_sh dX8_agree_1 (fun _ _ h => h.elim) (fun E hE => ?_)
    subst hE
    exact ZC _ _ _ _ (Or.inl ⟨n1, rfl⟩)
