/-! ===== laid by wip/whole/gen/ri.py ===== -/
theorem hn_X8_tell_X8 : ∀ w ∈ u_ws RX8 TX8 4, w ∈ wsX8_tell := by decide +kernel
theorem fl_X8_tell_22 : Cond.fieldLink RX8 22 (TX8 2).1 (TX8 2).2.1 (TX8 2).2.2.1 ∈ wsX8_tell := by decide +kernel
theorem fl_X8_tell_10 : Cond.fieldLink RX8 10 (TX8 0).1 (TX8 0).2.1 (TX8 0).2.2.1 ∈ wsX8_tell := by decide +kernel
theorem hn_X8_tell_X5 : ∀ w ∈ u_ws RX5 TX5 6, w ∈ wsX8_tell := by decide +kernel
theorem fl_X8_tell_59 : Cond.fieldLink RX8 59 (TX5 5).1 (TX5 5).2.1 (TX5 5).2.2.1 ∈ wsX8_tell := by decide +kernel
set_option maxHeartbeats 4000000 in
set_option maxRecDepth 100000 in
theorem ct_X8_tell (l : Launch) (D : va_G) (cI cJ cZ : ClassId) (a : Nat → Nat) (r : RiS) (p0 p1 p2 p3 p4 : Int) (hr : RiI r) (h0 : 0 ≤ p0 ∧ p0 ≤ 9) (h1 : zR2 p1) (h2 : zR0 p2) (h3 : zR0 p3) (h4 : zR p4) : gz_M l yX8_tell wsX8_tell { frames := 4, cells := 0, slots := 0, locals := 91 } D cI cJ cZ [.ref (a 0), vI p0, vI p1, vI p2, vI p3, vI p4] (RiW cI cJ a r) (gz_pE (RiW cI cJ a (Ri_tell r p0 p1 p2 p3 p4))) := by
  refine gz_ofV (cc := cX8_tell) (maxL := 6) (own := RX8) (by decide) rfl rfl (Nat.le_of_ble_eq_true rfl) (lv0 := [(0, .ref (a 0)), (1, vI p0), (2, vI p1), (3, vI p2), (4, vI p3), (5, vI p4)]) rfl ?_
  intro p e s m args below meth c A Q F Z
  obtain ⟨hP, hA, hTo, hSw⟩ := id hr
  obtain ⟨hMc, hLo, hLv, hMt, hBu, hnw⟩ := id hP
  have hMcn := hMc.1
  have hMtn := hMt.1
  have hBun := hBu.1
  have hTon := hTo.1
  have hSwn := hSw.1
  refine gz_aload_n (pc := 0) F dX8_tell_0 rfl 0 rfl ?_
  refine gz_get (pc := 1) (v := .ref (a 59)) F hn_X8_tell_X8 0 8 rfl rfl 2 (by decide) fl_X8_tell_22 rfl dX8_tell_1 ?_
  refine gz_iload_n (pc := 4) F dX8_tell_4 rfl 1 rfl ?_
  refine gz_aload_n (pc := 5) F dX8_tell_5 rfl 0 rfl ?_
  refine gz_get (pc := 6) (v := .ref (a 1)) F hn_X8_tell_X8 0 8 rfl rfl 0 (by decide) fl_X8_tell_10 rfl dX8_tell_6 ?_
  refine gz_get (pc := 9) (v := vI (Pl_now (Ri_P r))) F hn_X8_tell_X5 1 5 rfl rfl 5 (by decide) fl_X8_tell_59 rfl dX8_tell_9 ?_
  have b9 := hnw
  refine gz_iload_n (pc := 12) F dX8_tell_12 rfl 2 rfl ?_
  refine gz_iload_n (pc := 13) F dX8_tell_13 rfl 3 rfl ?_
  refine gz_iload (pc := 14) F dX8_tell_14 4 rfl ?_
  refine gz_iload (pc := 16) F dX8_tell_16 5 rfl ?_
  refine gz_callVb (pc := 18) (n := 6) (As := [vI p0, vI (Pl_now (Ri_P r)), vI p1, vI p2, vI p3, vI p4]) (rest := []) (bytes := cX7_note) (maxL := 7) (ret := none) F (ct_X7_note l D cI cJ cZ (fun i => a (i + 59)) (Ri_T r) p0 (Pl_now (Ri_P r)) p1 p2 p3 p4 hTo ) gX8_tell_X7_note rfl ⟨rfl, rfl⟩ (by decide +kernel) ⟨Nat.le_of_ble_eq_true rfl, Nat.le_of_ble_eq_true rfl⟩ rfl (RiO a :: (PlW cI cJ (fun i => a (i + 1)) (Ri_P r) ++ PlW cI cJ (fun i => a (i + 30)) (Ri_A r))) (SwW cI (fun i => a (i + 66)) (Ri_S r)) (RiW_T cI cJ a (Ri_P r) (Ri_A r) (Ri_T r) (Ri_S r)) 7 rfl rfl rfl (Nat.le_of_ble_eq_true rfl) ⟨Nat.zero_le _, Nat.zero_le _⟩ (gz_pE_sh rfl) dX8_tell_18 ?_
  refine gz_kEb (ws2 := RiW cI cJ a (Ri_P r, Ri_A r, To_note (Ri_T r) p0 (Pl_now (Ri_P r)) p1 p2 p3 p4, Ri_S r)) (RiW_T cI cJ a (Ri_P r) (Ri_A r) (To_note (Ri_T r) p0 (Pl_now (Ri_P r)) p1 p2 p3 p4) (Ri_S r)).symm ?_
  refine gz_aload_n (pc := 21) F dX8_tell_21 rfl 0 rfl ?_
  refine gz_get (pc := 22) (v := .ref (a 1)) F hn_X8_tell_X8 0 8 rfl rfl 0 (by decide) fl_X8_tell_10 rfl dX8_tell_22 ?_
  refine gz_iload_n (pc := 25) F dX8_tell_25 rfl 1 rfl ?_
  refine gz_iload_n (pc := 26) F dX8_tell_26 rfl 2 rfl ?_
  refine gz_iload_n (pc := 27) F dX8_tell_27 rfl 3 rfl ?_
  refine gz_iload (pc := 28) F dX8_tell_28 4 rfl ?_
  refine gz_iload (pc := 30) F dX8_tell_30 5 rfl ?_
  refine gz_callVb (pc := 32) (n := 5) (As := [vI p0, vI p1, vI p2, vI p3, vI p4]) (rest := []) (bytes := cX5_take) (maxL := 6) (ret := none) F (ct_X5_take l D cI cJ cZ (fun i => a (i + 1)) (Ri_P r) p0 p1 p2 p3 p4 hP (by omega) (by omega) (by omega) (by omega) (by omega)) gX8_tell_X5_take rfl ⟨rfl, rfl⟩ (by decide +kernel) ⟨Nat.le_of_ble_eq_true rfl, Nat.le_of_ble_eq_true rfl⟩ rfl [RiO a] (PlW cI cJ (fun i => a (i + 30)) (Ri_A r) ++ (ToW cI (fun i => a (i + 59)) (To_note (Ri_T r) p0 (Pl_now (Ri_P r)) p1 p2 p3 p4) ++ SwW cI (fun i => a (i + 66)) (Ri_S r))) (RiW_P cI cJ a (Ri_P r) (Ri_A r) (To_note (Ri_T r) p0 (Pl_now (Ri_P r)) p1 p2 p3 p4) (Ri_S r)) 5 rfl rfl rfl (Nat.le_of_ble_eq_true rfl) ⟨Nat.zero_le _, Nat.zero_le _⟩ (gz_pE_sh rfl) dX8_tell_32 ?_
  refine gz_kEb (ws2 := RiW cI cJ a (Pl_take (Ri_P r) p0 p1 p2 p3 p4, Ri_A r, To_note (Ri_T r) p0 (Pl_now (Ri_P r)) p1 p2 p3 p4, Ri_S r)) (RiW_P cI cJ a (Pl_take (Ri_P r) p0 p1 p2 p3 p4) (Ri_A r) (To_note (Ri_T r) p0 (Pl_now (Ri_P r)) p1 p2 p3 p4) (Ri_S r)).symm ?_
  refine Z _ _ 35 dX8_tell_35 ?_
  exact ⟨rfl, rfl⟩
