/-! ===== laid by wip/whole/gen/plan.py ===== -/
theorem hn_X5_holder_X5 : ∀ w ∈ u_ws RX5 TX5 6, w ∈ wsX5_holder := by decide +kernel
theorem fl_X5_holder_21 : Cond.fieldLink RX5 21 (TX5 1).1 (TX5 1).2.1 (TX5 1).2.2.1 ∈ wsX5_holder := by decide +kernel
theorem fl_X5_holder_12 : Cond.fieldLink RX5 12 (TX5 0).1 (TX5 0).2.1 (TX5 0).2.2.1 ∈ wsX5_holder := by decide +kernel
theorem hn_X5_holder_X3 : ∀ w ∈ u_ws RX3 TX3 6, w ∈ wsX5_holder := by decide +kernel
theorem fl_X5_holder_108 : Cond.fieldLink RX5 108 (TX3 1).1 (TX3 1).2.1 (TX3 1).2.2.1 ∈ wsX5_holder := by decide +kernel
set_option maxHeartbeats 4000000 in
set_option maxRecDepth 100000 in
theorem ct_X5_holder (l : Launch) (D : va_G) (cI cJ cZ : ClassId) (a : Nat → Nat) (u : PlS) (p0 p1 : Int) (hu : PlI u) (h0 : -1 ≤ p0 ∧ p0 ≤ 1023) (h1 : -1 ≤ p1 ∧ p1 ≤ 1023) : gz_M l yX5_holder wsX5_holder { frames := 1, cells := 0, slots := 0, locals := 23 } D cI cJ cZ [.ref (a 0), vI p0, vI p1] (PlW cI cJ a u) (gz_pI (PlW cI cJ a u) (fun r => r = Pl_hold u p0 p1)) := by
  refine gz_ofZ (cc := cX5_holder) (maxL := 4) (ty := .int) (own := RX5) (by decide) rfl rfl (Nat.le_of_ble_eq_true rfl) (lv0 := [(0, .ref (a 0)), (1, vI p0), (2, vI p1)]) rfl ?_
  intro p e s m args below meth c A Q F Z
  obtain ⟨hMc, hLo, hLv, hMt, hBu, hnw⟩ := id hu
  have hMcn := hMc.1
  have hMtn := hMt.1
  have hBun := hBu.1
  refine gz_aload_n (pc := 0) F dX5_holder_0 rfl 0 rfl ?_
  refine gz_get (pc := 1) (v := .ref (a 7)) F hn_X5_holder_X5 0 5 rfl rfl 1 (by decide) fl_X5_holder_21 rfl dX5_holder_1 ?_
  refine gz_iload_n (pc := 4) F dX5_holder_4 rfl 1 rfl ?_
  refine gz_iload_n (pc := 5) F dX5_holder_5 rfl 2 rfl ?_
  refine gz_callV (pc := 6) (n := 2) (As := [vI p0, vI p1]) (rest := []) (bytes := cX2_borrower) (maxL := 4) (ret := some .int) F (ct_X2_borrower l D cI cJ cZ (fun i => a (i + 7)) (Pl_lo u) p0 p1 hLo (by omega) (by omega)) gX5_holder_X2_borrower rfl ⟨rfl, rfl⟩ (by decide +kernel) ⟨Nat.le_of_ble_eq_true rfl, Nat.le_of_ble_eq_true rfl⟩ rfl [7, 8, 9, 10, 11] rfl (by decide) 7 2 rfl rfl rfl (Nat.le_of_ble_eq_true rfl) ⟨Nat.zero_le _, Nat.zero_le _⟩ gz_pI_sh dX5_holder_6 ?_
  refine gz_kI rfl (fun r6 h6 => ?_)
  subst h6
  have b6 := Lo_bor_r hLo p0 p1
  refine gz_istore_n (pc := 9) (lv2 := [(3, vI (Lo_bor (Pl_lo u) p0 p1)), (0, .ref (a 0)), (1, vI p0), (2, vI p1)]) F dX5_holder_9 rfl (by decide) rfl ?_
  refine gz_iload_n (pc := 10) F dX5_holder_10 rfl 0 rfl ?_
  refine gz_const (pc := 11) F dX5_holder_11 ?_
  refine gz_icmp_ne (pc := 12) (tgt := 38) F dX5_holder_12 (by decide) (by omega) (by omega) (fun c12 => ?_) (fun c12 => ?_)
  · refine gz_iload_n (pc := 38) F dX5_holder_38 rfl 0 rfl ?_
    refine Z _ _ 39 _ dX5_holder_39 rfl ?_
    refine ⟨rfl, _, rfl, ?_⟩
    unfold Pl_hold
    first | rw [if_neg (fun h => c23 h.2)] | rw [if_neg (fun h => c12 h.1)]
  · refine gz_aload_n (pc := 15) F dX5_holder_15 rfl 1 rfl ?_
    refine gz_get (pc := 16) (v := .ref (a 1)) F hn_X5_holder_X5 0 5 rfl rfl 0 (by decide) fl_X5_holder_12 rfl dX5_holder_16 ?_
    refine gz_iload_n (pc := 19) F dX5_holder_19 rfl 2 rfl ?_
    refine gz_callV (pc := 20) (n := 1) (As := [vI p0]) (rest := []) (bytes := cX3_knows) (maxL := 2) (ret := some .boolean) F (ct_X3_knows l D cI cJ cZ (fun i => a (i + 1)) (Pl_mc u) p0 hMc (by omega)) gX5_holder_X3_knows rfl ⟨rfl, rfl⟩ (by decide +kernel) ⟨Nat.le_of_ble_eq_true rfl, Nat.le_of_ble_eq_true rfl⟩ rfl [1, 2, 3, 4, 5, 6] rfl (by decide) 1 3 rfl rfl rfl (Nat.le_of_ble_eq_true rfl) ⟨Nat.zero_le _, Nat.zero_le _⟩ gz_pI_sh dX5_holder_20 ?_
    refine gz_kI rfl (fun r20 h20 => ?_)
    subst h20
    refine gz_if_eqb (pc := 23) (tgt := 38) F dX5_holder_23 (by decide) (fun c23 => ?_) (fun c23 => ?_)
    · refine gz_iload_n (pc := 38) F dX5_holder_38 rfl 0 rfl ?_
      refine Z _ _ 39 _ dX5_holder_39 rfl ?_
      refine ⟨rfl, _, rfl, ?_⟩
      unfold Pl_hold
      first | rw [if_neg (fun h => c23 h.2)] | rw [if_neg (fun h => c12 h.1)]
    · refine gz_aload_n (pc := 26) F dX5_holder_26 rfl 1 rfl ?_
      refine gz_get (pc := 27) (v := .ref (a 1)) F hn_X5_holder_X5 0 5 rfl rfl 0 (by decide) fl_X5_holder_12 rfl dX5_holder_27 ?_
      refine gz_get (pc := 30) (v := .ref (a 3)) F hn_X5_holder_X3 1 3 rfl rfl 1 (by decide) fl_X5_holder_108 rfl dX5_holder_30 ?_
      refine gz_iload_n (pc := 33) F dX5_holder_33 rfl 2 rfl ?_
      refine gz_iald (pc := 34) (f := Mc_ow (Pl_mc u)) F 3 rfl (by omega) (by decide) dX5_holder_34 ?_
      have b34 := (hMc.2 p0).2.1
      refine gz_goto (pc := 35) (tgt := 39) F dX5_holder_35 (by decide) ?_
      refine Z _ _ 39 _ dX5_holder_39 rfl ?_
      refine ⟨rfl, _, rfl, ?_⟩
      unfold Pl_hold
      rw [if_pos ⟨c12, c23⟩]
