/-! ===== laid by wip/whole/gen/plan.py ===== -/
theorem hn_X5_sign_X5 : ∀ w ∈ u_ws RX5 TX5 6, w ∈ wsX5_sign := by decide +kernel
theorem fl_X5_sign_35 : Cond.fieldLink RX5 35 (TX5 3).1 (TX5 3).2.1 (TX5 3).2.2.1 ∈ wsX5_sign := by decide +kernel
theorem fl_X5_sign_12 : Cond.fieldLink RX5 12 (TX5 0).1 (TX5 0).2.1 (TX5 0).2.2.1 ∈ wsX5_sign := by decide +kernel
theorem iw_X5_sign_c195 : Cond.constant RX5 195 (zI 55357) ∈ wsX5_sign := by decide +kernel
set_option maxHeartbeats 4000000 in
set_option maxRecDepth 100000 in
theorem ct_X5_sign (l : Launch) (D : va_G) (cI cJ cZ : ClassId) (a : Nat → Nat) (u : PlS) (p0 p1 : Int) (hu : PlI u) (h0 : -1 ≤ p0 ∧ p0 ≤ 1023) (h1 : zR0 p1) : gz_M l yX5_sign wsX5_sign { frames := 2, cells := 0, slots := 0, locals := 48 } D cI cJ cZ [.ref (a 0), vI p0, vI p1] (PlW cI cJ a u) (gz_pI (PlW cI cJ a u) (fun r => Pl_sign u p0 p1 r)) := by
  refine gz_ofZ (cc := cX5_sign) (maxL := 3) (ty := .char) (own := RX5) (by decide) rfl rfl (Nat.le_of_ble_eq_true rfl) (lv0 := [(0, .ref (a 0)), (1, vI p0), (2, vI p1)]) rfl ?_
  intro p e s m args below meth c A Q F Z
  obtain ⟨hMc, hLo, hLv, hMt, hBu, hnw⟩ := id hu
  have hMcn := hMc.1
  have hMtn := hMt.1
  have hBun := hBu.1
  refine gz_aload_n (pc := 0) F dX5_sign_0 rfl 0 rfl ?_
  refine gz_get (pc := 1) (v := .ref (a 14)) F hn_X5_sign_X5 0 5 rfl rfl 3 (by decide) fl_X5_sign_35 rfl dX5_sign_1 ?_
  refine gz_iload_n (pc := 4) F dX5_sign_4 rfl 1 rfl ?_
  refine gz_iload_n (pc := 5) F dX5_sign_5 rfl 2 rfl ?_
  refine gz_const (pc := 6) F dX5_sign_6 ?_
  refine gz_const (pc := 7) F dX5_sign_7 ?_
  refine gz_callV (pc := 8) (n := 4) (As := [vI p0, vI p1, vI 1, vI (-1)]) (rest := []) (bytes := cX4_isPromised) (maxL := 6) (ret := some .boolean) F (ct_X4_isPromised l D cI cJ cZ (fun i => a (i + 14)) (Pl_mt u) p0 p1 1 (-1) hMt (by omega) (by omega) (by omega) (by omega)) gX5_sign_X4_isPromised rfl ⟨rfl, rfl⟩ (by decide +kernel) ⟨Nat.le_of_ble_eq_true rfl, Nat.le_of_ble_eq_true rfl⟩ rfl [14, 15, 16, 17, 18, 19, 20] rfl (by decide) 14 4 rfl rfl rfl (Nat.le_of_ble_eq_true rfl) ⟨Nat.zero_le _, Nat.zero_le _⟩ gz_pI_sh dX5_sign_8 ?_
  refine gz_kI rfl (fun r8 h8 => ?_)
  subst h8
  refine gz_if_eqb (pc := 11) (tgt := 17) F dX5_sign_11 (by decide) (fun c11 => ?_) (fun c11 => ?_)
  · refine gz_aload_n (pc := 17) F dX5_sign_17 rfl 0 rfl ?_
    refine gz_iload_n (pc := 18) F dX5_sign_18 rfl 1 rfl ?_
    refine gz_iload_n (pc := 19) F dX5_sign_19 rfl 2 rfl ?_
    refine gz_const (pc := 20) F dX5_sign_20 ?_
    refine gz_callVb (pc := 21) (n := 3) (As := [vI p0, vI p1, vI 1]) (rest := []) (bytes := cX5_runsIn) (maxL := 5) (ret := some .boolean) F (ct_X5_runsIn l D cI cJ cZ a u p0 p1 1 hu (by omega) (by omega) (by omega)) gX5_sign_X5_runsIn rfl ⟨rfl, rfl⟩ (by decide +kernel) ⟨Nat.le_of_ble_eq_true rfl, Nat.le_of_ble_eq_true rfl⟩ rfl [] [] (List.append_nil _).symm 5 rfl rfl rfl (Nat.le_of_ble_eq_true rfl) ⟨Nat.zero_le _, Nat.zero_le _⟩ gz_pI_sh dX5_sign_21 ?_
    refine gz_kIb (List.append_nil _) (fun r21 h21 => ?_)
    subst h21
    refine gz_if_eqb (pc := 24) (tgt := 30) F dX5_sign_24 (by decide) (fun c24 => ?_) (fun c24 => ?_)
    · refine gz_aload_n (pc := 30) F dX5_sign_30 rfl 0 rfl ?_
      refine gz_get (pc := 31) (v := .ref (a 1)) F hn_X5_sign_X5 0 5 rfl rfl 0 (by decide) fl_X5_sign_12 rfl dX5_sign_31 ?_
      refine gz_iload_n (pc := 34) F dX5_sign_34 rfl 1 rfl ?_
      refine gz_iload_n (pc := 35) F dX5_sign_35 rfl 2 rfl ?_
      refine gz_const (pc := 36) F dX5_sign_36 ?_
      refine gz_callV (pc := 37) (n := 3) (As := [vI p0, vI p1, vI 1]) (rest := []) (bytes := cX3_isBroken) (maxL := 4) (ret := some .boolean) F (ct_X3_isBroken l D cI cJ cZ (fun i => a (i + 1)) (Pl_mc u) p0 p1 1 hMc (by omega) (by omega) (by omega)) gX5_sign_X3_isBroken rfl ⟨rfl, rfl⟩ (by decide +kernel) ⟨Nat.le_of_ble_eq_true rfl, Nat.le_of_ble_eq_true rfl⟩ rfl [1, 2, 3, 4, 5, 6] rfl (by decide) 1 3 rfl rfl rfl (Nat.le_of_ble_eq_true rfl) ⟨Nat.zero_le _, Nat.zero_le _⟩ gz_pI_sh dX5_sign_37 ?_
      refine gz_kI rfl (fun r37 h37 => ?_)
      subst h37
      refine gz_if_eqb (pc := 40) (tgt := 48) F dX5_sign_40 (by decide) (fun c40 => ?_) (fun c40 => ?_)
      · refine gz_bipush (pc := 48) F dX5_sign_48 (by decide) ?_
        refine Z _ _ 50 _ dX5_sign_50 rfl ?_
        first | exact ⟨rfl, _, rfl, Or.inr (Or.inr (Or.inl ⟨c11, c24, c40, rfl⟩))⟩ | exact ⟨rfl, _, rfl, Or.inr (Or.inr (Or.inr ⟨c11, c24, c40, rfl⟩))⟩
      · refine gz_ldc (pc := 43) (v := 55357) F iw_X5_sign_c195 dX5_sign_43 ?_
        refine gz_goto (pc := 45) (tgt := 50) F dX5_sign_45 (by decide) ?_
        refine Z _ _ 50 _ dX5_sign_50 rfl ?_
        first | exact ⟨rfl, _, rfl, Or.inr (Or.inr (Or.inl ⟨c11, c24, c40, rfl⟩))⟩ | exact ⟨rfl, _, rfl, Or.inr (Or.inr (Or.inr ⟨c11, c24, c40, rfl⟩))⟩
    · refine gz_bipush (pc := 27) F dX5_sign_27 (by decide) ?_
      refine Z _ _ 29 _ dX5_sign_29 rfl ?_
      exact ⟨rfl, _, rfl, Or.inr (Or.inl ⟨c11, c24, rfl⟩)⟩
  · refine gz_bipush (pc := 14) F dX5_sign_14 (by decide) ?_
    refine Z _ _ 16 _ dX5_sign_16 rfl ?_
    exact ⟨rfl, _, rfl, Or.inl ⟨c11, rfl⟩⟩
