/-! ===== laid by wip/whole/gen/ri.py ===== -/
abbrev cd_cancel (r : RiS) (p0 : Int) : List (Prop × String) := [(¬ (0 ≤ p0 ∧ p0 < Mt_n (Pl_mt (Ri_P r))), xIO), (¬ (Pl_ahead (Ri_P r) p0), xIS)]
theorem hn_X8_cancel_X8 : ∀ w ∈ u_ws RX8 TX8 4, w ∈ wsX8_cancel := by decide +kernel
theorem fl_X8_cancel_10 : Cond.fieldLink RX8 10 (TX8 0).1 (TX8 0).2.1 (TX8 0).2.2.1 ∈ wsX8_cancel := by decide +kernel
set_option maxHeartbeats 4000000 in
set_option maxRecDepth 100000 in
theorem cx_X8_cancel (l : Launch) (hfl : l.stackTraces = false) (D : va_G) (cI cJ cZ : ClassId) (a : Nat → Nat) (r : RiS) (p0 : Int) (hr : RiI r) (h0 : -2147483648 ≤ p0 ∧ p0 < 2147483648)  : gz_X l yX8_cancel wsX8_cancel { frames := 7, cells := 1, slots := 6, locals := 116 } D cI cJ cZ [.ref (a 0), vI p0] (RiW cI cJ a r) (gz_pO (cd_cancel r p0) none (RiW cI cJ a (Ri_tell r 6 p0 0 0 0))) (gz_px (cd_cancel r p0)) := by
  refine gz_ofXV (cc := cX8_cancel) (maxL := 2) (own := RX8) hfl (by decide) rfl rfl (Nat.le_of_ble_eq_true rfl) (lv0 := [(0, .ref (a 0)), (1, vI p0)]) rfl ?_
  intro p e s m args below meth c A Q F FX Z ZT ZC
  obtain ⟨hP, hA, hTo, hSw⟩ := id hr
  obtain ⟨hMc, hLo, hLv, hMt, hBu, hnw⟩ := id hP
  have hMcn := hMc.1
  have hMtn := hMt.1
  have hBun := hBu.1
  have hTon := hTo.1
  have hSwn := hSw.1
  refine gz_aload_n (pc := 0) F dX8_cancel_0 rfl 0 rfl ?_
  refine gz_iload_n (pc := 1) F dX8_cancel_1 rfl 1 rfl ?_
  by_cases n2 : 0 ≤ p0 ∧ p0 < Mt_n (Pl_mt (Ri_P r))
  · refine gz_callVb (pc := 2) (n := 1) (As := [vI p0]) (rest := []) (bytes := cX8_needMeeting) (maxL := 2) (ret := none) F (ct_X8_needMeeting l D cI cJ cZ a r p0 hr (by omega) n2) gX8_cancel_X8_needMeeting rfl ⟨rfl, rfl⟩ (by decide +kernel) ⟨Nat.le_of_ble_eq_true rfl, Nat.le_of_ble_eq_true rfl⟩ rfl [] [] ((List.append_nil _).symm) 8 rfl rfl rfl (Nat.le_of_ble_eq_true rfl) ⟨Nat.zero_le _, Nat.zero_le _⟩ (gz_pE_sh rfl) dX8_cancel_2 ?_
    refine gz_kEb (ws2 := RiW cI cJ a r) ((List.append_nil _).symm).symm ?_
    refine gz_aload_n (pc := 5) F dX8_cancel_5 rfl 0 rfl ?_
    refine gz_get (pc := 6) (v := .ref (a 1)) F hn_X8_cancel_X8 0 8 rfl rfl 0 (by decide) fl_X8_cancel_10 rfl dX8_cancel_6 ?_
    refine gz_iload_n (pc := 9) F dX8_cancel_9 rfl 1 rfl ?_
    refine gz_callVb (pc := 10) (n := 1) (As := [vI p0]) (rest := []) (bytes := cX5_isAhead) (maxL := 2) (ret := some .boolean) F (ct_X5_isAhead l D cI cJ cZ (fun i => a (i + 1)) (Ri_P r) p0 hP (by omega)) gX8_cancel_X5_isAhead rfl ⟨rfl, rfl⟩ (by decide +kernel) ⟨Nat.le_of_ble_eq_true rfl, Nat.le_of_ble_eq_true rfl⟩ rfl [RiO a] (PlW cI cJ (fun i => a (i + 30)) (Ri_A r) ++ (ToW cI (fun i => a (i + 59)) (Ri_T r) ++ SwW cI (fun i => a (i + 66)) (Ri_S r))) (RiW_P cI cJ a (Ri_P r) (Ri_A r) (Ri_T r) (Ri_S r)) 5 rfl rfl rfl (Nat.le_of_ble_eq_true rfl) ⟨Nat.zero_le _, Nat.zero_le _⟩ gz_pI_sh dX8_cancel_10 ?_
    refine gz_kIb (RiW_P cI cJ a (Ri_P r) (Ri_A r) (Ri_T r) (Ri_S r)).symm (fun r10 h10 => ?_)
    subst h10
    by_cases n13 : (Pl_ahead (Ri_P r) p0)
    · refine gz_callS (pc := 13) (n := 1) (As := [vI (bz (Pl_ahead (Ri_P r) p0))]) (rest := []) (bytes := cX8_needState) (maxL := 1) (ret := none) F (ct_X8_needState l D cI cJ cZ ((Pl_ahead (Ri_P r) p0)) n13) gX8_cancel_X8_needState rfl ⟨rfl, rfl⟩ (by decide +kernel) ⟨Nat.le_of_ble_eq_true rfl, Nat.le_of_ble_eq_true rfl⟩ rfl [] rfl (by decide) rfl (Nat.le_of_ble_eq_true rfl) ⟨Nat.zero_le _, Nat.zero_le _⟩ (gz_pE_sh rfl) dX8_cancel_13 ?_
      refine gz_kE (ws2 := RiW cI cJ a r) rfl ?_
      refine gz_aload_n (pc := 16) F dX8_cancel_16 rfl 0 rfl ?_
      refine gz_bipush (pc := 17) F dX8_cancel_17 (by decide) ?_
      refine gz_iload_n (pc := 19) F dX8_cancel_19 rfl 1 rfl ?_
      refine gz_const (pc := 20) F dX8_cancel_20 ?_
      refine gz_const (pc := 21) F dX8_cancel_21 ?_
      refine gz_const (pc := 22) F dX8_cancel_22 ?_
      refine gz_callVb (pc := 23) (n := 5) (As := [vI 6, vI p0, vI 0, vI 0, vI 0]) (rest := []) (bytes := cX8_tell) (maxL := 6) (ret := none) F (ct_X8_tell l D cI cJ cZ a r 6 p0 0 0 0 hr (by omega) (by omega) (by omega) (by omega) (by omega)) gX8_cancel_X8_tell rfl ⟨rfl, rfl⟩ (by decide +kernel) ⟨Nat.le_of_ble_eq_true rfl, Nat.le_of_ble_eq_true rfl⟩ rfl [] [] ((List.append_nil _).symm) 8 rfl rfl rfl (Nat.le_of_ble_eq_true rfl) ⟨Nat.zero_le _, Nat.zero_le _⟩ (gz_pE_sh rfl) dX8_cancel_23 ?_
      refine gz_kEb (ws2 := RiW cI cJ a (Ri_tell r 6 p0 0 0 0)) ((List.append_nil _).symm).symm ?_
      refine Z _ _ 26 dX8_cancel_26 ?_
      exact ⟨⟨not_not_intro n2, not_not_intro n13, trivial⟩, rfl, rfl⟩
    · refine gz_callSX (pc := 13) (n := 1) (As := [vI (bz (Pl_ahead (Ri_P r) p0))]) (rest := []) (bytes := cX8_needState) (maxL := 1) (ret := none) F FX (cx_X8_needState l hfl D cI cJ cZ ((Pl_ahead (Ri_P r) p0)) n13) gX8_cancel_X8_needState rfl ⟨rfl, rfl⟩ (by decide +kernel) ⟨Nat.le_of_ble_eq_true rfl, Nat.le_of_ble_eq_true rfl⟩ rfl [] rfl (by decide) rfl (Nat.le_of_ble_eq_true rfl) (by decide) gz_pF_sh dX8_cancel_13 (fun _ _ h => h.elim) (fun E hE => ?_)
      subst hE
      exact ZC _ _ _ _ (Or.inr ⟨not_not_intro n2, Or.inl ⟨n13, rfl⟩⟩)
  · refine gz_callVXb (pc := 2) (n := 1) (As := [vI p0]) (rest := []) (bytes := cX8_needMeeting) (maxL := 2) (ret := none) F FX (cx_X8_needMeeting l hfl D cI cJ cZ a r p0 hr (by omega) n2) gX8_cancel_X8_needMeeting rfl ⟨rfl, rfl⟩ (by decide +kernel) ⟨Nat.le_of_ble_eq_true rfl, Nat.le_of_ble_eq_true rfl⟩ rfl [] [] ((List.append_nil _).symm) 8 rfl rfl rfl (Nat.le_of_ble_eq_true rfl) (by decide) gz_pF_sh dX8_cancel_2 (fun _ _ h => h.elim) (fun E hE => ?_)
    subst hE
    exact ZC _ _ _ _ (Or.inl ⟨n2, rfl⟩)
