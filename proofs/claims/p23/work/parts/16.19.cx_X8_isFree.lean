/-! ===== laid by wip/whole/gen/ri.py ===== -/
abbrev cd_isFree (r : RiS) (p0 p1 : Int) : List (Prop × String) := [(¬ (0 ≤ p0 ∧ p0 < 10), xIO), (¬ (0 ≤ p1 ∧ p1 ≤ 399), xIA)]
theorem hn_X8_isFree_X8 : ∀ w ∈ u_ws RX8 TX8 4, w ∈ wsX8_isFree := by decide +kernel
theorem fl_X8_isFree_10 : Cond.fieldLink RX8 10 (TX8 0).1 (TX8 0).2.1 (TX8 0).2.2.1 ∈ wsX8_isFree := by decide +kernel
theorem hn_X8_isFree_X5 : ∀ w ∈ u_ws RX5 TX5 6, w ∈ wsX8_isFree := by decide +kernel
theorem fl_X8_isFree_62 : Cond.fieldLink RX8 62 (TX5 3).1 (TX5 3).2.1 (TX5 3).2.2.1 ∈ wsX8_isFree := by decide +kernel
theorem fl_X8_isFree_199 : Cond.fieldLink RX8 199 (TX5 2).1 (TX5 2).2.1 (TX5 2).2.2.1 ∈ wsX8_isFree := by decide +kernel
set_option maxHeartbeats 4000000 in
set_option maxRecDepth 100000 in
theorem cx_X8_isFree (l : Launch) (hfl : l.stackTraces = false) (D : va_G) (cI cJ cZ : ClassId) (a : Nat → Nat) (r : RiS) (p0 p1 : Int) (hr : RiI r) (h0 : -2147483648 ≤ p0 ∧ p0 < 2147483648) (h1 : -2147483648 ≤ p1 ∧ p1 < 2147483648)  : gz_X l yX8_isFree wsX8_isFree { frames := 7, cells := 1, slots := 6, locals := 104 } D cI cJ cZ [.ref (a 0), vI p0, vI p1] (RiW cI cJ a r) (gz_pO (cd_isFree r p0 p1) (some (vI (bz (¬ (Mt_busy (Pl_mt (Ri_P r)) (Mt_n (Pl_mt (Ri_P r))) p0.toNat p1 1 (-1) ∨ Lv_off (Pl_lv (Ri_P r)) (p0.toNat : Int) p1))))) (RiW cI cJ a r)) (gz_px (cd_isFree r p0 p1)) := by
  refine gz_ofXZ (cc := cX8_isFree) (maxL := 3) (ty := .boolean) (own := RX8) hfl (by decide) rfl rfl (Nat.le_of_ble_eq_true rfl) (lv0 := [(0, .ref (a 0)), (1, vI p0), (2, vI p1)]) rfl ?_
  intro p e s m args below meth c A Q F FX Z ZT ZC
  obtain ⟨hP, hA, hTo, hSw⟩ := id hr
  obtain ⟨hMc, hLo, hLv, hMt, hBu, hnw⟩ := id hP
  have hMcn := hMc.1
  have hMtn := hMt.1
  have hBun := hBu.1
  have hTon := hTo.1
  have hSwn := hSw.1
  refine gz_iload_n (pc := 0) F dX8_isFree_0 rfl 1 rfl ?_
  by_cases n1 : 0 ≤ p0 ∧ p0 < 10
  · refine gz_callS (pc := 1) (n := 1) (As := [vI p0]) (rest := []) (bytes := cX8_needPerson) (maxL := 1) (ret := none) F (ct_X8_needPerson l D cI cJ cZ p0 (by omega) n1) gX8_isFree_X8_needPerson rfl ⟨rfl, rfl⟩ (by decide +kernel) ⟨Nat.le_of_ble_eq_true rfl, Nat.le_of_ble_eq_true rfl⟩ rfl [] rfl (by decide) rfl (Nat.le_of_ble_eq_true rfl) ⟨Nat.zero_le _, Nat.zero_le _⟩ (gz_pE_sh rfl) dX8_isFree_1 ?_
    refine gz_kE (ws2 := RiW cI cJ a r) rfl ?_
    refine gz_iload_n (pc := 4) F dX8_isFree_4 rfl 2 rfl ?_
    refine gz_const (pc := 5) F dX8_isFree_5 ?_
    refine gz_sipush (pc := 6) F dX8_isFree_6 (by decide) ?_
    by_cases n9 : 0 ≤ p1 ∧ p1 ≤ 399
    · refine gz_callS (pc := 9) (n := 3) (As := [vI p1, vI 0, vI 399]) (rest := []) (bytes := cX8_needRange) (maxL := 3) (ret := none) F (ct_X8_needRange l D cI cJ cZ p1 0 399 (by omega) (by omega) (by omega) n9) gX8_isFree_X8_needRange rfl ⟨rfl, rfl⟩ (by decide +kernel) ⟨Nat.le_of_ble_eq_true rfl, Nat.le_of_ble_eq_true rfl⟩ rfl [] rfl (by decide) rfl (Nat.le_of_ble_eq_true rfl) ⟨Nat.zero_le _, Nat.zero_le _⟩ (gz_pE_sh rfl) dX8_isFree_9 ?_
      refine gz_kE (ws2 := RiW cI cJ a r) rfl ?_
      refine gz_iload_n (pc := 12) F dX8_isFree_12 rfl 1 rfl ?_
      refine gz_aload_n (pc := 13) F dX8_isFree_13 rfl 0 rfl ?_
      refine gz_get (pc := 14) (v := .ref (a 1)) F hn_X8_isFree_X8 0 8 rfl rfl 0 (by decide) fl_X8_isFree_10 rfl dX8_isFree_14 ?_
      refine gz_get (pc := 17) (v := .ref (a 15)) F hn_X8_isFree_X5 1 5 rfl rfl 3 (by decide) fl_X8_isFree_62 rfl dX8_isFree_17 ?_
      refine gz_iload_n (pc := 20) F dX8_isFree_20 rfl 2 rfl ?_
      refine gz_const (pc := 21) F dX8_isFree_21 ?_
      refine gz_const (pc := 22) F dX8_isFree_22 ?_
      refine gz_callV (pc := 23) (n := 3) (As := [vI p1, vI 1, vI (-1)]) (rest := [vI p0]) (bytes := cX4_busyPeople) (maxL := 6) (ret := some .int) F (ct_X4_busyPeople l D cI cJ cZ (fun i => a (i + 14 + 1)) (Pl_mt (Ri_P r)) p1 1 (-1) hMt (by omega) (by omega) (by omega)) gX8_isFree_X4_busyPeople rfl ⟨rfl, rfl⟩ (by decide +kernel) ⟨Nat.le_of_ble_eq_true rfl, Nat.le_of_ble_eq_true rfl⟩ rfl [15, 16, 17, 18, 19, 20, 21] rfl (by decide) 15 4 rfl rfl rfl (Nat.le_of_ble_eq_true rfl) ⟨Nat.zero_le _, Nat.zero_le _⟩ gz_pI_sh dX8_isFree_23 ?_
      refine gz_kI rfl (fun r23 h23 => ?_)
      obtain ⟨b23, q23⟩ := h23
      refine gz_aload_n (pc := 26) F dX8_isFree_26 rfl 0 rfl ?_
      refine gz_get (pc := 27) (v := .ref (a 1)) F hn_X8_isFree_X8 0 8 rfl rfl 0 (by decide) fl_X8_isFree_10 rfl dX8_isFree_27 ?_
      refine gz_get (pc := 30) (v := .ref (a 13)) F hn_X8_isFree_X5 1 5 rfl rfl 2 (by decide) fl_X8_isFree_199 rfl dX8_isFree_30 ?_
      refine gz_iload_n (pc := 33) F dX8_isFree_33 rfl 2 rfl ?_
      refine gz_callV (pc := 34) (n := 1) (As := [vI p1]) (rest := [vI r23, vI p0]) (bytes := cX1_peopleAway) (maxL := 4) (ret := some .int) F (ct_X1_peopleAway l D cI cJ cZ (fun i => a (i + 12 + 1)) (Pl_lv (Ri_P r)) p1 hLv (by omega)) gX8_isFree_X1_peopleAway rfl ⟨rfl, rfl⟩ (by decide +kernel) ⟨Nat.le_of_ble_eq_true rfl, Nat.le_of_ble_eq_true rfl⟩ rfl [13, 14] rfl (by decide) 13 1 rfl rfl rfl (Nat.le_of_ble_eq_true rfl) ⟨Nat.zero_le _, Nat.zero_le _⟩ gz_pI_sh dX8_isFree_34 ?_
      refine gz_kI rfl (fun r34 h34 => ?_)
      obtain ⟨b34, q34⟩ := h34
      refine gz_ior (pc := 37) (v := zor r23 r34) F dX8_isFree_37 (zor_I b23.1 b34.1) ?_
      have b38 := zor_r b23 b34
      have e38 : bit (zor r23 r34) p0.toNat ↔ _ := (zor_bit r23 r34 p0.toNat).trans (or_congr (q23 _) (q34 _))
      refine gz_callS (pc := 38) (n := 2) (As := [vI p0, vI (zor r23 r34)]) (rest := []) (bytes := cX8_isIn) (maxL := 2) (ret := some .boolean) F (ct_X8_isIn l D cI cJ cZ p0 (zor r23 r34) (by omega) (by omega)) gX8_isFree_X8_isIn rfl ⟨rfl, rfl⟩ (by decide +kernel) ⟨Nat.le_of_ble_eq_true rfl, Nat.le_of_ble_eq_true rfl⟩ rfl [] rfl (by decide) rfl (Nat.le_of_ble_eq_true rfl) ⟨Nat.zero_le _, Nat.zero_le _⟩ gz_pI_sh dX8_isFree_38 ?_
      refine gz_kI rfl (fun r38 h38 => ?_)
      subst h38
      refine gz_if_neb (pc := 41) (tgt := 48) F dX8_isFree_41 (by decide) (fun c41 => ?_) (fun c41 => ?_)
      · refine gz_const (pc := 48) F dX8_isFree_48 ?_
        refine Z _ _ 49 _ dX8_isFree_49 rfl ?_
        exact ⟨⟨not_not_intro n1, not_not_intro n9, trivial⟩, (congrArg (fun x => some (vI x)) (bz_f (fun h => h (e38.mp c41))).symm), rfl⟩
      · refine gz_const (pc := 44) F dX8_isFree_44 ?_
        refine gz_goto (pc := 45) (tgt := 49) F dX8_isFree_45 (by decide) ?_
        refine Z _ _ 49 _ dX8_isFree_49 rfl ?_
        exact ⟨⟨not_not_intro n1, not_not_intro n9, trivial⟩, (congrArg (fun x => some (vI x)) (bz_t (fun h => c41 (e38.mpr h))).symm), rfl⟩
    · refine gz_callSX (pc := 9) (n := 3) (As := [vI p1, vI 0, vI 399]) (rest := []) (bytes := cX8_needRange) (maxL := 3) (ret := none) F FX (cx_X8_needRange l hfl D cI cJ cZ p1 0 399 (by omega) (by omega) (by omega) n9) gX8_isFree_X8_needRange rfl ⟨rfl, rfl⟩ (by decide +kernel) ⟨Nat.le_of_ble_eq_true rfl, Nat.le_of_ble_eq_true rfl⟩ rfl [] rfl (by decide) rfl (Nat.le_of_ble_eq_true rfl) (by decide) gz_pF_sh dX8_isFree_9 (fun _ _ h => h.elim) (fun E hE => ?_)
      subst hE
      exact ZC _ _ _ _ (Or.inr ⟨not_not_intro n1, Or.inl ⟨n9, rfl⟩⟩)
  · refine gz_callSX (pc := 1) (n := 1) (As := [vI p0]) (rest := []) (bytes := cX8_needPerson) (maxL := 1) (ret := none) F FX (cx_X8_needPerson l hfl D cI cJ cZ p0 (by omega) n1) gX8_isFree_X8_needPerson rfl ⟨rfl, rfl⟩ (by decide +kernel) ⟨Nat.le_of_ble_eq_true rfl, Nat.le_of_ble_eq_true rfl⟩ rfl [] rfl (by decide) rfl (Nat.le_of_ble_eq_true rfl) (by decide) gz_pF_sh dX8_isFree_1 (fun _ _ h => h.elim) (fun E hE => ?_)
    subst hE
    exact ZC _ _ _ _ (Or.inl ⟨n1, rfl⟩)
