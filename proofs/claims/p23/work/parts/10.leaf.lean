/-! ===== laid by wip/whole/gen/leaf.py ===== -/
set_option maxHeartbeats 4000000 in
set_option maxRecDepth 100000 in
theorem ct_X8_overlap (l : Launch) (D : va_G) (cI cJ cZ : ClassId) (p0 p1 p2 p3 : Int) (h0 : -1 ≤ p0 ∧ p0 ≤ 1023) (h1 : -1 ≤ p1 ∧ p1 ≤ 1023) (h2 : -1 ≤ p2 ∧ p2 ≤ 1023) (h3 : -1 ≤ p3 ∧ p3 ≤ 1023) : gz_M l yX8_overlap wsX8_overlap { frames := 0, cells := 0, slots := 0, locals := 0 } D cI cJ cZ [vI p0, vI p1, vI p2, vI p3] ([]) (gz_pI [] (fun r => r = bz (ovl p0 p1 p2 p3))) := by
  refine gz_ofZ (cc := cX8_overlap) (maxL := 4) (ty := .boolean) (own := RX8) (by decide) rfl rfl (Nat.le_of_ble_eq_true rfl) (lv0 := [(0, vI p0), (1, vI p1), (2, vI p2), (3, vI p3)]) rfl ?_
  intro p e s m args below meth c A Q F Z
  refine gz_iload_n (pc := 0) F dX8_overlap_0 rfl 0 rfl ?_
  refine gz_iload_n (pc := 1) F dX8_overlap_1 rfl 2 rfl ?_
  refine gz_iload_n (pc := 2) F dX8_overlap_2 rfl 3 rfl ?_
  refine gz_iadd (pc := 3) F dX8_overlap_3 ?_
  refine gz_icmp_ge (pc := 4) (tgt := 18) F dX8_overlap_4 (by decide) (by omega) (by omega) (fun c4 => ?_) (fun c4 => ?_)
  · refine gz_const (pc := 18) F dX8_overlap_18 ?_
    refine Z _ _ 19 _ dX8_overlap_19 rfl ?_
    exact ⟨rfl, _, rfl, (bz_f (fun h => by have h1 := h.1; have h2 := h.2; omega)).symm⟩
  · refine gz_iload_n (pc := 7) F dX8_overlap_7 rfl 2 rfl ?_
    refine gz_iload_n (pc := 8) F dX8_overlap_8 rfl 0 rfl ?_
    refine gz_iload_n (pc := 9) F dX8_overlap_9 rfl 1 rfl ?_
    refine gz_iadd (pc := 10) F dX8_overlap_10 ?_
    refine gz_icmp_ge (pc := 11) (tgt := 18) F dX8_overlap_11 (by decide) (by omega) (by omega) (fun c11 => ?_) (fun c11 => ?_)
    · refine gz_const (pc := 18) F dX8_overlap_18 ?_
      refine Z _ _ 19 _ dX8_overlap_19 rfl ?_
      exact ⟨rfl, _, rfl, (bz_f (fun h => by have h1 := h.1; have h2 := h.2; omega)).symm⟩
    · refine gz_const (pc := 14) F dX8_overlap_14 ?_
      refine gz_goto (pc := 15) (tgt := 19) F dX8_overlap_15 (by decide) ?_
      refine Z _ _ 19 _ dX8_overlap_19 rfl ?_
      exact ⟨rfl, _, rfl, (bz_t (⟨by omega, by omega⟩)).symm⟩

set_option maxHeartbeats 4000000 in
set_option maxRecDepth 100000 in
theorem ct_X8_isOneDay (l : Launch) (D : va_G) (cI cJ cZ : ClassId) (p0 p1 : Int) (h0 : 0 ≤ p0 ∧ p0 ≤ 1023) (h1 : 1 ≤ p1 ∧ p1 ≤ 1023) : gz_M l yX8_isOneDay wsX8_isOneDay { frames := 0, cells := 0, slots := 0, locals := 0 } D cI cJ cZ [vI p0, vI p1] ([]) (gz_pI [] (fun r => r = bz (p0 / 8 = (p0 + p1 - 1) / 8))) := by
  refine gz_ofZ (cc := cX8_isOneDay) (maxL := 2) (ty := .boolean) (own := RX8) (by decide) rfl rfl (Nat.le_of_ble_eq_true rfl) (lv0 := [(0, vI p0), (1, vI p1)]) rfl ?_
  intro p e s m args below meth c A Q F Z
  refine gz_iload_n (pc := 0) F dX8_isOneDay_0 rfl 0 rfl ?_
  refine gz_bipush (pc := 1) F dX8_isOneDay_1 (by decide) ?_
  refine gz_idiv (pc := 3) F dX8_isOneDay_3 (by omega) (by omega) ?_
  refine gz_iload_n (pc := 4) F dX8_isOneDay_4 rfl 0 rfl ?_
  refine gz_iload_n (pc := 5) F dX8_isOneDay_5 rfl 1 rfl ?_
  refine gz_iadd (pc := 6) F dX8_isOneDay_6 ?_
  refine gz_const (pc := 7) F dX8_isOneDay_7 ?_
  refine gz_isub (pc := 8) F dX8_isOneDay_8 ?_
  refine gz_bipush (pc := 9) F dX8_isOneDay_9 (by decide) ?_
  refine gz_idiv (pc := 11) F dX8_isOneDay_11 (by omega) (by omega) ?_
  refine gz_icmp_ne (pc := 12) (tgt := 19) F dX8_isOneDay_12 (by decide) (by omega) (by omega) (fun c12 => ?_) (fun c12 => ?_)
  · refine gz_const (pc := 19) F dX8_isOneDay_19 ?_
    refine Z _ _ 20 _ dX8_isOneDay_20 rfl ?_
    exact ⟨rfl, _, rfl, (bz_f (by omega)).symm⟩
  · refine gz_const (pc := 15) F dX8_isOneDay_15 ?_
    refine gz_goto (pc := 16) (tgt := 20) F dX8_isOneDay_16 (by decide) ?_
    refine Z _ _ 20 _ dX8_isOneDay_20 rfl ?_
    exact ⟨rfl, _, rfl, (bz_t (by omega)).symm⟩

set_option maxHeartbeats 4000000 in
set_option maxRecDepth 100000 in
theorem ct_X8_isIn (l : Launch) (D : va_G) (cI cJ cZ : ClassId) (p0 p1 : Int) (h0 : 0 ≤ p0 ∧ p0 < 32) (h1 : 0 ≤ p1 ∧ p1 ≤ 1023) : gz_M l yX8_isIn wsX8_isIn { frames := 0, cells := 0, slots := 0, locals := 0 } D cI cJ cZ [vI p0, vI p1] ([]) (gz_pI [] (fun r => r = bz (bit p1 p0.toNat))) := by
  refine gz_ofZ (cc := cX8_isIn) (maxL := 2) (ty := .boolean) (own := RX8) (by decide) rfl rfl (Nat.le_of_ble_eq_true rfl) (lv0 := [(0, vI p0), (1, vI p1)]) rfl ?_
  intro p e s m args below meth c A Q F Z
  refine gz_iload_n (pc := 0) F dX8_isIn_0 rfl 1 rfl ?_
  refine gz_iload_n (pc := 1) F dX8_isIn_1 rfl 0 rfl ?_
  refine gz_ishr (pc := 2) (v := zsh p1 p0) F dX8_isIn_2 (zsh_I (by omega) (by omega)) ?_
  refine gz_const (pc := 3) F dX8_isIn_3 ?_
  refine gz_iand (pc := 4) (v := zsh p1 p0 % 2) F dX8_isIn_4 (zand_1 (zsh_r (x := p1) (y := p0) (by omega)).1) ?_
  refine gz_const (pc := 5) F dX8_isIn_5 ?_
  refine gz_icmp_ne (pc := 6) (tgt := 13) F dX8_isIn_6 (by decide) (by omega) (by omega) (fun c6 => ?_) (fun c6 => ?_)
  · refine gz_const (pc := 13) F dX8_isIn_13 ?_
    refine Z _ _ 14 _ dX8_isIn_14 rfl ?_
    exact ⟨rfl, _, rfl, (bz_f (fun h => by have h5 := (zsh_bit p1 p0).mp h; omega)).symm⟩
  · refine gz_const (pc := 9) F dX8_isIn_9 ?_
    refine gz_goto (pc := 10) (tgt := 14) F dX8_isIn_10 (by decide) ?_
    refine Z _ _ 14 _ dX8_isIn_14 rfl ?_
    exact ⟨rfl, _, rfl, (bz_t ((zsh_bit p1 p0).mpr (by omega))).symm⟩

theorem hn_X4_knows_X4 : ∀ w ∈ u_ws RX4 TX4 7, w ∈ wsX4_knows := by decide +kernel
theorem fl_X4_knows_30 : Cond.fieldLink RX4 30 (TX4 6).1 (TX4 6).2.1 (TX4 6).2.2.1 ∈ wsX4_knows := by decide +kernel
set_option maxHeartbeats 4000000 in
set_option maxRecDepth 100000 in
theorem ct_X4_knows (l : Launch) (D : va_G) (cI cJ cZ : ClassId) (a : Nat → Nat) (u : MtS) (p0 : Int) (hu : MtI u) (h0 : -2147483648 ≤ p0 ∧ p0 < 2147483648) : gz_M l yX4_knows wsX4_knows { frames := 0, cells := 0, slots := 0, locals := 0 } D cI cJ cZ [.ref (a 0), vI p0] (MtW cI a u) (gz_pI (MtW cI a u) (fun r => r = bz (0 ≤ p0 ∧ p0 < Mt_n u))) := by
  refine gz_ofZ (cc := cX4_knows) (maxL := 2) (ty := .boolean) (own := RX4) (by decide) rfl rfl (Nat.le_of_ble_eq_true rfl) (lv0 := [(0, .ref (a 0)), (1, vI p0)]) rfl ?_
  intro p e s m args below meth c A Q F Z
  refine gz_iload_n (pc := 0) F dX4_knows_0 rfl 1 rfl ?_
  refine gz_if_lt (pc := 1) (tgt := 16) F dX4_knows_1 (by decide) (by omega) (fun c1 => ?_) (fun c1 => ?_)
  · refine gz_const (pc := 16) F dX4_knows_16 ?_
    refine Z _ _ 17 _ dX4_knows_17 rfl ?_
    exact ⟨rfl, _, rfl, (bz_f (fun h => by have h1 := h.1; have h2 := h.2; omega)).symm⟩
  · refine gz_iload_n (pc := 4) F dX4_knows_4 rfl 1 rfl ?_
    refine gz_aload_n (pc := 5) F dX4_knows_5 rfl 0 rfl ?_
    refine gz_get (pc := 6) (v := vI (Mt_n u)) F hn_X4_knows_X4 0 4 rfl rfl 6 (by decide) fl_X4_knows_30 rfl dX4_knows_6 ?_
    have b6 := hu.1
    refine gz_icmp_ge (pc := 9) (tgt := 16) F dX4_knows_9 (by decide) (by omega) (by omega) (fun c9 => ?_) (fun c9 => ?_)
    · refine gz_const (pc := 16) F dX4_knows_16 ?_
      refine Z _ _ 17 _ dX4_knows_17 rfl ?_
      exact ⟨rfl, _, rfl, (bz_f (fun h => by have h1 := h.1; have h2 := h.2; omega)).symm⟩
    · refine gz_const (pc := 12) F dX4_knows_12 ?_
      refine gz_goto (pc := 13) (tgt := 17) F dX4_knows_13 (by decide) ?_
      refine Z _ _ 17 _ dX4_knows_17 rfl ?_
      exact ⟨rfl, _, rfl, (bz_t (⟨by omega, by omega⟩)).symm⟩

theorem hn_X3_knows_X3 : ∀ w ∈ u_ws RX3 TX3 6, w ∈ wsX3_knows := by decide +kernel
theorem fl_X3_knows_27 : Cond.fieldLink RX3 27 (TX3 5).1 (TX3 5).2.1 (TX3 5).2.2.1 ∈ wsX3_knows := by decide +kernel
set_option maxHeartbeats 4000000 in
set_option maxRecDepth 100000 in
theorem ct_X3_knows (l : Launch) (D : va_G) (cI cJ cZ : ClassId) (a : Nat → Nat) (u : McS) (p0 : Int) (hu : McI u) (h0 : -2147483648 ≤ p0 ∧ p0 < 2147483648) : gz_M l yX3_knows wsX3_knows { frames := 0, cells := 0, slots := 0, locals := 0 } D cI cJ cZ [.ref (a 0), vI p0] (McW cI a u) (gz_pI (McW cI a u) (fun r => r = bz (0 ≤ p0 ∧ p0 < Mc_n u))) := by
  refine gz_ofZ (cc := cX3_knows) (maxL := 2) (ty := .boolean) (own := RX3) (by decide) rfl rfl (Nat.le_of_ble_eq_true rfl) (lv0 := [(0, .ref (a 0)), (1, vI p0)]) rfl ?_
  intro p e s m args below meth c A Q F Z
  refine gz_iload_n (pc := 0) F dX3_knows_0 rfl 1 rfl ?_
  refine gz_if_lt (pc := 1) (tgt := 16) F dX3_knows_1 (by decide) (by omega) (fun c1 => ?_) (fun c1 => ?_)
  · refine gz_const (pc := 16) F dX3_knows_16 ?_
    refine Z _ _ 17 _ dX3_knows_17 rfl ?_
    exact ⟨rfl, _, rfl, (bz_f (fun h => by have h1 := h.1; have h2 := h.2; omega)).symm⟩
  · refine gz_iload_n (pc := 4) F dX3_knows_4 rfl 1 rfl ?_
    refine gz_aload_n (pc := 5) F dX3_knows_5 rfl 0 rfl ?_
    refine gz_get (pc := 6) (v := vI (Mc_n u)) F hn_X3_knows_X3 0 3 rfl rfl 5 (by decide) fl_X3_knows_27 rfl dX3_knows_6 ?_
    have b6 := hu.1
    refine gz_icmp_ge (pc := 9) (tgt := 16) F dX3_knows_9 (by decide) (by omega) (by omega) (fun c9 => ?_) (fun c9 => ?_)
    · refine gz_const (pc := 16) F dX3_knows_16 ?_
      refine Z _ _ 17 _ dX3_knows_17 rfl ?_
      exact ⟨rfl, _, rfl, (bz_f (fun h => by have h1 := h.1; have h2 := h.2; omega)).symm⟩
    · refine gz_const (pc := 12) F dX3_knows_12 ?_
      refine gz_goto (pc := 13) (tgt := 17) F dX3_knows_13 (by decide) ?_
      refine Z _ _ 17 _ dX3_knows_17 rfl ?_
      exact ⟨rfl, _, rfl, (bz_t (⟨by omega, by omega⟩)).symm⟩

theorem hn_X0_knows_X0 : ∀ w ∈ u_ws RX0 TX0 8, w ∈ wsX0_knows := by decide +kernel
theorem fl_X0_knows_33 : Cond.fieldLink RX0 33 (TX0 7).1 (TX0 7).2.1 (TX0 7).2.2.1 ∈ wsX0_knows := by decide +kernel
set_option maxHeartbeats 4000000 in
set_option maxRecDepth 100000 in
theorem ct_X0_knows (l : Launch) (D : va_G) (cI cJ cZ : ClassId) (a : Nat → Nat) (u : BuS) (p0 : Int) (hu : BuI u) (h0 : -2147483648 ≤ p0 ∧ p0 < 2147483648) : gz_M l yX0_knows wsX0_knows { frames := 0, cells := 0, slots := 0, locals := 0 } D cI cJ cZ [.ref (a 0), vI p0] (BuW cI a u) (gz_pI (BuW cI a u) (fun r => r = bz (0 ≤ p0 ∧ p0 < Bu_n u))) := by
  refine gz_ofZ (cc := cX0_knows) (maxL := 2) (ty := .boolean) (own := RX0) (by decide) rfl rfl (Nat.le_of_ble_eq_true rfl) (lv0 := [(0, .ref (a 0)), (1, vI p0)]) rfl ?_
  intro p e s m args below meth c A Q F Z
  refine gz_iload_n (pc := 0) F dX0_knows_0 rfl 1 rfl ?_
  refine gz_if_lt (pc := 1) (tgt := 16) F dX0_knows_1 (by decide) (by omega) (fun c1 => ?_) (fun c1 => ?_)
  · refine gz_const (pc := 16) F dX0_knows_16 ?_
    refine Z _ _ 17 _ dX0_knows_17 rfl ?_
    exact ⟨rfl, _, rfl, (bz_f (fun h => by have h1 := h.1; have h2 := h.2; omega)).symm⟩
  · refine gz_iload_n (pc := 4) F dX0_knows_4 rfl 1 rfl ?_
    refine gz_aload_n (pc := 5) F dX0_knows_5 rfl 0 rfl ?_
    refine gz_get (pc := 6) (v := vI (Bu_n u)) F hn_X0_knows_X0 0 0 rfl rfl 7 (by decide) fl_X0_knows_33 rfl dX0_knows_6 ?_
    have b6 := hu.1
    refine gz_icmp_ge (pc := 9) (tgt := 16) F dX0_knows_9 (by decide) (by omega) (by omega) (fun c9 => ?_) (fun c9 => ?_)
    · refine gz_const (pc := 16) F dX0_knows_16 ?_
      refine Z _ _ 17 _ dX0_knows_17 rfl ?_
      exact ⟨rfl, _, rfl, (bz_f (fun h => by have h1 := h.1; have h2 := h.2; omega)).symm⟩
    · refine gz_const (pc := 12) F dX0_knows_12 ?_
      refine gz_goto (pc := 13) (tgt := 17) F dX0_knows_13 (by decide) ?_
      refine Z _ _ 17 _ dX0_knows_17 rfl ?_
      exact ⟨rfl, _, rfl, (bz_t (⟨by omega, by omega⟩)).symm⟩

theorem hn_X4_isPromised_X4 : ∀ w ∈ u_ws RX4 TX4 7, w ∈ wsX4_isPromised := by decide +kernel
theorem fl_X4_isPromised_30 : Cond.fieldLink RX4 30 (TX4 6).1 (TX4 6).2.1 (TX4 6).2.2.1 ∈ wsX4_isPromised := by decide +kernel
theorem fl_X4_isPromised_21 : Cond.fieldLink RX4 21 (TX4 3).1 (TX4 3).2.1 (TX4 3).2.2.1 ∈ wsX4_isPromised := by decide +kernel
theorem fl_X4_isPromised_24 : Cond.fieldLink RX4 24 (TX4 4).1 (TX4 4).2.1 (TX4 4).2.2.1 ∈ wsX4_isPromised := by decide +kernel
theorem fl_X4_isPromised_15 : Cond.fieldLink RX4 15 (TX4 1).1 (TX4 1).2.1 (TX4 1).2.2.1 ∈ wsX4_isPromised := by decide +kernel
theorem fl_X4_isPromised_18 : Cond.fieldLink RX4 18 (TX4 2).1 (TX4 2).2.1 (TX4 2).2.2.1 ∈ wsX4_isPromised := by decide +kernel
theorem iw_X4_isPromised_ini_X8 : Cond.initialized RX8 ∈ wsX4_isPromised := by decide +kernel
theorem iw_X4_isPromised_sta_X8_overlap : Cond.static yX8_overlap ∈ wsX4_isPromised := by decide +kernel
set_option maxHeartbeats 4000000 in
set_option maxRecDepth 100000 in
theorem ct_X4_isPromised (l : Launch) (D : va_G) (cI cJ cZ : ClassId) (a : Nat → Nat) (u : MtS) (p0 p1 p2 p3 : Int) (hu : MtI u) (h0 : -1 ≤ p0 ∧ p0 ≤ 1023) (h1 : -1 ≤ p1 ∧ p1 ≤ 1023) (h2 : -1 ≤ p2 ∧ p2 ≤ 1023) (h3 : -1 ≤ p3 ∧ p3 ≤ 1023) : gz_M l yX4_isPromised wsX4_isPromised { frames := 1, cells := 0, slots := 0, locals := 23 } D cI cJ cZ [.ref (a 0), vI p0, vI p1, vI p2, vI p3] (MtW cI a u) (gz_pI (MtW cI a u) (fun r => r = bz (Mt_prom u (Mt_n u) p0 p1 p2 p3))) := by
  refine gz_ofZ (cc := cX4_isPromised) (maxL := 6) (ty := .boolean) (own := RX4) (by decide) rfl rfl (Nat.le_of_ble_eq_true rfl) (lv0 := [(0, .ref (a 0)), (1, vI p0), (2, vI p1), (3, vI p2), (4, vI p3)]) rfl ?_
  intro p e s m args below meth c A Q F Z
  have hn := hu.1
  have L3 : ∀ (N : Nat) (i : Int), (Mt_n u - i).toNat < N → (0 ≤ i ∧ i ≤ Mt_n u) → (¬ Mt_prom u i p0 p1 p2 p3) → gG p l e ({ frames := 1, cells := 0, slots := 0, locals := 23 } : Room) s m args below meth c D A 6 Q 0 0 (MtW cI a u) [(0, .ref (a 0)), (1, vI p0), (2, vI p1), (3, vI p2), (4, vI p3), (5, vI i)] [] 3 := by
    intro N
    induction N with
    | zero => intro i hN; exact absurd hN (Nat.not_lt_zero _)
    | succ N ih3 =>
      intro i hN hi hno
      refine gz_iload (pc := 3) F dX4_isPromised_3 5 rfl ?_
      refine gz_aload_n (pc := 5) F dX4_isPromised_5 rfl 0 rfl ?_
      refine gz_get (pc := 6) (v := vI (Mt_n u)) F hn_X4_isPromised_X4 0 4 rfl rfl 6 (by decide) fl_X4_isPromised_30 rfl dX4_isPromised_6 ?_
      have b6 := hu.1
      refine gz_icmp_ge (pc := 9) (tgt := 70) F dX4_isPromised_9 (by decide) (by omega) (by omega) (fun c9 => ?_) (fun c9 => ?_)
      · refine gz_const (pc := 70) F dX4_isPromised_70 ?_
        refine Z _ _ 71 _ dX4_isPromised_71 rfl ?_
        exact ⟨rfl, _, rfl, (bz_f ((show i = Mt_n u by omega) ▸ hno)).symm⟩
      · refine gz_iload (pc := 12) F dX4_isPromised_12 5 rfl ?_
        refine gz_iload (pc := 14) F dX4_isPromised_14 4 rfl ?_
        refine gz_icmp_eq (pc := 16) (tgt := 64) F dX4_isPromised_16 (by decide) (by omega) (by omega) (fun c16 => ?_) (fun c16 => ?_)
        · refine gz_iinc (pc := 64) (lv2 := [(5, vI (i + 1)), (0, .ref (a 0)), (1, vI p0), (2, vI p1), (3, vI p2), (4, vI p3)]) F dX4_isPromised_64 5 rfl (by decide) rfl ?_
          refine gz_goto (pc := 67) (tgt := 3) F dX4_isPromised_67 (by decide) ?_
          refine gz_lv [1, 2, 3, 4, 5, 0] rfl ?_
          exact ih3 (i + 1) (by omega) (by omega) (by first | exact Mt_prom_no hno (by omega) | (exact Mt_prom_0 _ _ _ _ _))
        · refine gz_aload_n (pc := 19) F dX4_isPromised_19 rfl 0 rfl ?_
          refine gz_get (pc := 20) (v := .ref (a 4)) F hn_X4_isPromised_X4 0 4 rfl rfl 3 (by decide) fl_X4_isPromised_21 rfl dX4_isPromised_20 ?_
          refine gz_iload (pc := 23) F dX4_isPromised_23 5 rfl ?_
          refine gz_iald (pc := 25) (f := Mt_ma u) F 4 rfl (by omega) (by decide) dX4_isPromised_25 ?_
          have b25 := (hu.2 i).2.2.2.1
          refine gz_iload_n (pc := 26) F dX4_isPromised_26 rfl 1 rfl ?_
          refine gz_icmp_ne (pc := 27) (tgt := 64) F dX4_isPromised_27 (by decide) (by omega) (by omega) (fun c27 => ?_) (fun c27 => ?_)
          · refine gz_iinc (pc := 64) (lv2 := [(5, vI (i + 1)), (0, .ref (a 0)), (1, vI p0), (2, vI p1), (3, vI p2), (4, vI p3)]) F dX4_isPromised_64 5 rfl (by decide) rfl ?_
            refine gz_goto (pc := 67) (tgt := 3) F dX4_isPromised_67 (by decide) ?_
            refine gz_lv [1, 2, 3, 4, 5, 0] rfl ?_
            exact ih3 (i + 1) (by omega) (by omega) (by first | exact Mt_prom_no hno (by omega) | (exact Mt_prom_0 _ _ _ _ _))
          · refine gz_aload_n (pc := 30) F dX4_isPromised_30 rfl 0 rfl ?_
            refine gz_get (pc := 31) (v := .ref (a 5)) F hn_X4_isPromised_X4 0 4 rfl rfl 4 (by decide) fl_X4_isPromised_24 rfl dX4_isPromised_31 ?_
            refine gz_iload (pc := 34) F dX4_isPromised_34 5 rfl ?_
            refine gz_iald (pc := 36) (f := Mt_st u) F 5 rfl (by omega) (by decide) dX4_isPromised_36 ?_
            have b36 := (hu.2 i).2.2.2.2
            refine gz_if_ne (pc := 37) (tgt := 64) F dX4_isPromised_37 (by decide) (by omega) (fun c37 => ?_) (fun c37 => ?_)
            · refine gz_iinc (pc := 64) (lv2 := [(5, vI (i + 1)), (0, .ref (a 0)), (1, vI p0), (2, vI p1), (3, vI p2), (4, vI p3)]) F dX4_isPromised_64 5 rfl (by decide) rfl ?_
              refine gz_goto (pc := 67) (tgt := 3) F dX4_isPromised_67 (by decide) ?_
              refine gz_lv [1, 2, 3, 4, 5, 0] rfl ?_
              exact ih3 (i + 1) (by omega) (by omega) (by first | exact Mt_prom_no hno (by omega) | (exact Mt_prom_0 _ _ _ _ _))
            · refine gz_aload_n (pc := 40) F dX4_isPromised_40 rfl 0 rfl ?_
              refine gz_get (pc := 41) (v := .ref (a 2)) F hn_X4_isPromised_X4 0 4 rfl rfl 1 (by decide) fl_X4_isPromised_15 rfl dX4_isPromised_41 ?_
              refine gz_iload (pc := 44) F dX4_isPromised_44 5 rfl ?_
              refine gz_iald (pc := 46) (f := Mt_sl u) F 2 rfl (by omega) (by decide) dX4_isPromised_46 ?_
              have b46 := (hu.2 i).2.1
              refine gz_aload_n (pc := 47) F dX4_isPromised_47 rfl 0 rfl ?_
              refine gz_get (pc := 48) (v := .ref (a 3)) F hn_X4_isPromised_X4 0 4 rfl rfl 2 (by decide) fl_X4_isPromised_18 rfl dX4_isPromised_48 ?_
              refine gz_iload (pc := 51) F dX4_isPromised_51 5 rfl ?_
              refine gz_iald (pc := 53) (f := Mt_ln u) F 3 rfl (by omega) (by decide) dX4_isPromised_53 ?_
              have b53 := (hu.2 i).2.2.1
              refine gz_iload_n (pc := 54) F dX4_isPromised_54 rfl 2 rfl ?_
              refine gz_iload_n (pc := 55) F dX4_isPromised_55 rfl 3 rfl ?_
              refine gz_callSN (pc := 56) (n := 4) (As := [vI (Mt_sl u i), vI (Mt_ln u i), vI p1, vI p2]) (rest := []) (bytes := cX8_overlap) (maxL := 4) (ret := some .boolean) F (ct_X8_overlap l D cI cJ cZ (Mt_sl u i) (Mt_ln u i) p1 p2 (by omega) (by omega) (by omega) (by omega)) gX4_isPromised_X8_overlap_n42 rfl ⟨rfl, rfl⟩ (by decide +kernel) iw_X4_isPromised_ini_X8 iw_X4_isPromised_sta_X8_overlap (by decide +kernel) ⟨Nat.le_of_ble_eq_true rfl, Nat.le_of_ble_eq_true rfl⟩ rfl [] rfl (by decide) rfl (by decide) ⟨Nat.zero_le _, Nat.zero_le _⟩ gz_pI_sh dX4_isPromised_56 ?_
              refine gz_kI rfl (fun r56 h56 => ?_)
              subst h56
              refine gz_if_eqb (pc := 59) (tgt := 64) F dX4_isPromised_59 (by decide) (fun c59 => ?_) (fun c59 => ?_)
              · refine gz_iinc (pc := 64) (lv2 := [(5, vI (i + 1)), (0, .ref (a 0)), (1, vI p0), (2, vI p1), (3, vI p2), (4, vI p3)]) F dX4_isPromised_64 5 rfl (by decide) rfl ?_
                refine gz_goto (pc := 67) (tgt := 3) F dX4_isPromised_67 (by decide) ?_
                refine gz_lv [1, 2, 3, 4, 5, 0] rfl ?_
                exact ih3 (i + 1) (by omega) (by omega) (by first | exact Mt_prom_no hno (by omega) | (exact Mt_prom_0 _ _ _ _ _))
              · refine gz_const (pc := 62) F dX4_isPromised_62 ?_
                refine Z _ _ 63 _ dX4_isPromised_63 rfl ?_
                exact ⟨rfl, _, rfl, (bz_t (Mt_prom_in (k := i) (by omega) (by omega) (by omega) (by omega) (by omega) (by assumption))).symm⟩
  refine gz_const (pc := 0) F dX4_isPromised_0 ?_
  refine gz_istore (pc := 1) (lv2 := [(5, vI 0), (0, .ref (a 0)), (1, vI p0), (2, vI p1), (3, vI p2), (4, vI p3)]) F dX4_isPromised_1 (by decide) rfl ?_
  refine gz_lv [1, 2, 3, 4, 5, 0] rfl ?_
  exact L3 _ 0 (Nat.lt_succ_self _) (by omega) (by first | exact Mt_prom_no hno (by omega) | (exact Mt_prom_0 _ _ _ _ _))

theorem hn_X4_busyPeople_X4 : ∀ w ∈ u_ws RX4 TX4 7, w ∈ wsX4_busyPeople := by decide +kernel
theorem fl_X4_busyPeople_30 : Cond.fieldLink RX4 30 (TX4 6).1 (TX4 6).2.1 (TX4 6).2.2.1 ∈ wsX4_busyPeople := by decide +kernel
theorem fl_X4_busyPeople_24 : Cond.fieldLink RX4 24 (TX4 4).1 (TX4 4).2.1 (TX4 4).2.2.1 ∈ wsX4_busyPeople := by decide +kernel
theorem fl_X4_busyPeople_15 : Cond.fieldLink RX4 15 (TX4 1).1 (TX4 1).2.1 (TX4 1).2.2.1 ∈ wsX4_busyPeople := by decide +kernel
theorem fl_X4_busyPeople_18 : Cond.fieldLink RX4 18 (TX4 2).1 (TX4 2).2.1 (TX4 2).2.2.1 ∈ wsX4_busyPeople := by decide +kernel
theorem iw_X4_busyPeople_ini_X8 : Cond.initialized RX8 ∈ wsX4_busyPeople := by decide +kernel
theorem iw_X4_busyPeople_sta_X8_overlap : Cond.static yX8_overlap ∈ wsX4_busyPeople := by decide +kernel
theorem fl_X4_busyPeople_9 : Cond.fieldLink RX4 9 (TX4 0).1 (TX4 0).2.1 (TX4 0).2.2.1 ∈ wsX4_busyPeople := by decide +kernel
set_option maxHeartbeats 4000000 in
set_option maxRecDepth 100000 in
theorem ct_X4_busyPeople (l : Launch) (D : va_G) (cI cJ cZ : ClassId) (a : Nat → Nat) (u : MtS) (p0 p1 p2 : Int) (hu : MtI u) (h0 : -1 ≤ p0 ∧ p0 ≤ 1023) (h1 : -1 ≤ p1 ∧ p1 ≤ 1023) (h2 : -1 ≤ p2 ∧ p2 ≤ 1023) : gz_M l yX4_busyPeople wsX4_busyPeople { frames := 1, cells := 0, slots := 0, locals := 23 } D cI cJ cZ [.ref (a 0), vI p0, vI p1, vI p2] (MtW cI a u) (gz_pI (MtW cI a u) (fun r => (0 ≤ r ∧ r ≤ 1023) ∧ ∀ q, bit r q ↔ Mt_busy u (Mt_n u) q p0 p1 p2)) := by
  refine gz_ofZ (cc := cX4_busyPeople) (maxL := 6) (ty := .int) (own := RX4) (by decide) rfl rfl (Nat.le_of_ble_eq_true rfl) (lv0 := [(0, .ref (a 0)), (1, vI p0), (2, vI p1), (3, vI p2)]) rfl ?_
  intro p e s m args below meth c A Q F Z
  have hn := hu.1
  have L6 : ∀ (N : Nat) (i : Int) (b : Int), (Mt_n u - i).toNat < N → (0 ≤ i ∧ i ≤ Mt_n u) → (0 ≤ b ∧ b ≤ 1023) → (∀ q, bit b q ↔ Mt_busy u i q p0 p1 p2) → gG p l e ({ frames := 1, cells := 0, slots := 0, locals := 23 } : Room) s m args below meth c D A 6 Q 0 0 (MtW cI a u) [(0, .ref (a 0)), (1, vI p0), (2, vI p1), (3, vI p2), (4, vI b), (5, vI i)] [] 6 := by
    intro N
    induction N with
    | zero => intro i b hN; exact absurd hN (Nat.not_lt_zero _)
    | succ N ih6 =>
      intro i b hN hi hb hq
      refine gz_iload (pc := 6) F dX4_busyPeople_6 5 rfl ?_
      refine gz_aload_n (pc := 8) F dX4_busyPeople_8 rfl 0 rfl ?_
      refine gz_get (pc := 9) (v := vI (Mt_n u)) F hn_X4_busyPeople_X4 0 4 rfl rfl 6 (by decide) fl_X4_busyPeople_30 rfl dX4_busyPeople_9 ?_
      have b9 := hu.1
      refine gz_icmp_ge (pc := 12) (tgt := 71) F dX4_busyPeople_12 (by decide) (by omega) (by omega) (fun c12 => ?_) (fun c12 => ?_)
      · refine gz_iload (pc := 71) F dX4_busyPeople_71 4 rfl ?_
        refine Z _ _ 73 _ dX4_busyPeople_73 rfl ?_
        exact ⟨rfl, _, rfl, hb, (show i = Mt_n u by omega) ▸ hq⟩
      · refine gz_iload (pc := 15) F dX4_busyPeople_15 5 rfl ?_
        refine gz_iload_n (pc := 17) F dX4_busyPeople_17 rfl 3 rfl ?_
        refine gz_icmp_eq (pc := 18) (tgt := 65) F dX4_busyPeople_18 (by decide) (by omega) (by omega) (fun c18 => ?_) (fun c18 => ?_)
        · refine gz_iinc (pc := 65) (lv2 := [(5, vI (i + 1)), (0, .ref (a 0)), (1, vI p0), (2, vI p1), (3, vI p2), (4, vI b)]) F dX4_busyPeople_65 5 rfl (by decide) rfl ?_
          refine gz_goto (pc := 68) (tgt := 6) F dX4_busyPeople_68 (by decide) ?_
          refine gz_lv [1, 2, 3, 4, 5, 0] rfl ?_
          exact ih6 (i + 1) b (by omega) (by omega) (by first | omega | exact zor_r hb b61) (by first | exact Mt_busy_0 _ _ _ _ | exact Mt_busy_no hi.1 hq (fun h => by have h1 := h.1; have h2 := h.2.1; have h3 := h.2.2; omega) | exact Mt_busy_yes hi.1 hq ⟨by omega, by omega, by assumption⟩)
        · refine gz_aload_n (pc := 21) F dX4_busyPeople_21 rfl 0 rfl ?_
          refine gz_get (pc := 22) (v := .ref (a 5)) F hn_X4_busyPeople_X4 0 4 rfl rfl 4 (by decide) fl_X4_busyPeople_24 rfl dX4_busyPeople_22 ?_
          refine gz_iload (pc := 25) F dX4_busyPeople_25 5 rfl ?_
          refine gz_iald (pc := 27) (f := Mt_st u) F 5 rfl (by omega) (by decide) dX4_busyPeople_27 ?_
          have b27 := (hu.2 i).2.2.2.2
          refine gz_if_ne (pc := 28) (tgt := 65) F dX4_busyPeople_28 (by decide) (by omega) (fun c28 => ?_) (fun c28 => ?_)
          · refine gz_iinc (pc := 65) (lv2 := [(5, vI (i + 1)), (0, .ref (a 0)), (1, vI p0), (2, vI p1), (3, vI p2), (4, vI b)]) F dX4_busyPeople_65 5 rfl (by decide) rfl ?_
            refine gz_goto (pc := 68) (tgt := 6) F dX4_busyPeople_68 (by decide) ?_
            refine gz_lv [1, 2, 3, 4, 5, 0] rfl ?_
            exact ih6 (i + 1) b (by omega) (by omega) (by first | omega | exact zor_r hb b61) (by first | exact Mt_busy_0 _ _ _ _ | exact Mt_busy_no hi.1 hq (fun h => by have h1 := h.1; have h2 := h.2.1; have h3 := h.2.2; omega) | exact Mt_busy_yes hi.1 hq ⟨by omega, by omega, by assumption⟩)
          · refine gz_aload_n (pc := 31) F dX4_busyPeople_31 rfl 0 rfl ?_
            refine gz_get (pc := 32) (v := .ref (a 2)) F hn_X4_busyPeople_X4 0 4 rfl rfl 1 (by decide) fl_X4_busyPeople_15 rfl dX4_busyPeople_32 ?_
            refine gz_iload (pc := 35) F dX4_busyPeople_35 5 rfl ?_
            refine gz_iald (pc := 37) (f := Mt_sl u) F 2 rfl (by omega) (by decide) dX4_busyPeople_37 ?_
            have b37 := (hu.2 i).2.1
            refine gz_aload_n (pc := 38) F dX4_busyPeople_38 rfl 0 rfl ?_
            refine gz_get (pc := 39) (v := .ref (a 3)) F hn_X4_busyPeople_X4 0 4 rfl rfl 2 (by decide) fl_X4_busyPeople_18 rfl dX4_busyPeople_39 ?_
            refine gz_iload (pc := 42) F dX4_busyPeople_42 5 rfl ?_
            refine gz_iald (pc := 44) (f := Mt_ln u) F 3 rfl (by omega) (by decide) dX4_busyPeople_44 ?_
            have b44 := (hu.2 i).2.2.1
            refine gz_iload_n (pc := 45) F dX4_busyPeople_45 rfl 1 rfl ?_
            refine gz_iload_n (pc := 46) F dX4_busyPeople_46 rfl 2 rfl ?_
            refine gz_callSN (pc := 47) (n := 4) (As := [vI (Mt_sl u i), vI (Mt_ln u i), vI p0, vI p1]) (rest := []) (bytes := cX8_overlap) (maxL := 4) (ret := some .boolean) F (ct_X8_overlap l D cI cJ cZ (Mt_sl u i) (Mt_ln u i) p0 p1 (by omega) (by omega) (by omega) (by omega)) gX4_busyPeople_X8_overlap_n42 rfl ⟨rfl, rfl⟩ (by decide +kernel) iw_X4_busyPeople_ini_X8 iw_X4_busyPeople_sta_X8_overlap (by decide +kernel) ⟨Nat.le_of_ble_eq_true rfl, Nat.le_of_ble_eq_true rfl⟩ rfl [] rfl (by decide) rfl (by decide) ⟨Nat.zero_le _, Nat.zero_le _⟩ gz_pI_sh dX4_busyPeople_47 ?_
            refine gz_kI rfl (fun r47 h47 => ?_)
            subst h47
            refine gz_if_eqb (pc := 50) (tgt := 65) F dX4_busyPeople_50 (by decide) (fun c50 => ?_) (fun c50 => ?_)
            · refine gz_iinc (pc := 65) (lv2 := [(5, vI (i + 1)), (0, .ref (a 0)), (1, vI p0), (2, vI p1), (3, vI p2), (4, vI b)]) F dX4_busyPeople_65 5 rfl (by decide) rfl ?_
              refine gz_goto (pc := 68) (tgt := 6) F dX4_busyPeople_68 (by decide) ?_
              refine gz_lv [1, 2, 3, 4, 5, 0] rfl ?_
              exact ih6 (i + 1) b (by omega) (by omega) (by first | omega | exact zor_r hb b61) (by first | exact Mt_busy_0 _ _ _ _ | exact Mt_busy_no hi.1 hq (fun h => by have h1 := h.1; have h2 := h.2.1; have h3 := h.2.2; omega) | exact Mt_busy_yes hi.1 hq ⟨by omega, by omega, by assumption⟩)
            · refine gz_iload (pc := 53) F dX4_busyPeople_53 4 rfl ?_
              refine gz_aload_n (pc := 55) F dX4_busyPeople_55 rfl 0 rfl ?_
              refine gz_get (pc := 56) (v := .ref (a 1)) F hn_X4_busyPeople_X4 0 4 rfl rfl 0 (by decide) fl_X4_busyPeople_9 rfl dX4_busyPeople_56 ?_
              refine gz_iload (pc := 59) F dX4_busyPeople_59 5 rfl ?_
              refine gz_iald (pc := 61) (f := Mt_pe u) F 1 rfl (by omega) (by decide) dX4_busyPeople_61 ?_
              have b61 := (hu.2 i).1
              refine gz_ior (pc := 62) (v := zor b (Mt_pe u i)) F dX4_busyPeople_62 (zor_I (by omega) (by omega)) ?_
              refine gz_istore (pc := 63) (lv2 := [(4, vI (zor b (Mt_pe u i))), (0, .ref (a 0)), (1, vI p0), (2, vI p1), (3, vI p2), (5, vI i)]) F dX4_busyPeople_63 (by decide) rfl ?_
              refine gz_iinc (pc := 65) (lv2 := [(5, vI (i + 1)), (4, vI (zor b (Mt_pe u i))), (0, .ref (a 0)), (1, vI p0), (2, vI p1), (3, vI p2)]) F dX4_busyPeople_65 5 rfl (by decide) rfl ?_
              refine gz_goto (pc := 68) (tgt := 6) F dX4_busyPeople_68 (by decide) ?_
              refine gz_lv [2, 3, 4, 5, 1, 0] rfl ?_
              exact ih6 (i + 1) (zor b (Mt_pe u i)) (by omega) (by omega) (by first | omega | exact zor_r hb b61) (by first | exact Mt_busy_0 _ _ _ _ | exact Mt_busy_no hi.1 hq (fun h => by have h1 := h.1; have h2 := h.2.1; have h3 := h.2.2; omega) | exact Mt_busy_yes hi.1 hq ⟨by omega, by omega, by assumption⟩)
  refine gz_const (pc := 0) F dX4_busyPeople_0 ?_
  refine gz_istore (pc := 1) (lv2 := [(4, vI 0), (0, .ref (a 0)), (1, vI p0), (2, vI p1), (3, vI p2)]) F dX4_busyPeople_1 (by decide) rfl ?_
  refine gz_const (pc := 3) F dX4_busyPeople_3 ?_
  refine gz_istore (pc := 4) (lv2 := [(5, vI 0), (4, vI 0), (0, .ref (a 0)), (1, vI p0), (2, vI p1), (3, vI p2)]) F dX4_busyPeople_4 (by decide) rfl ?_
  refine gz_lv [2, 3, 4, 5, 1, 0] rfl ?_
  exact L6 _ 0 0 (Nat.lt_succ_self _) (by omega) (by first | omega | exact zor_r hb b61) (by first | exact Mt_busy_0 _ _ _ _ | exact Mt_busy_no hi.1 hq (fun h => by have h1 := h.1; have h2 := h.2.1; have h3 := h.2.2; omega) | exact Mt_busy_yes hi.1 hq ⟨by omega, by omega, by assumption⟩)

theorem hn_X4_peopleOf_X4 : ∀ w ∈ u_ws RX4 TX4 7, w ∈ wsX4_peopleOf := by decide +kernel
theorem fl_X4_peopleOf_9 : Cond.fieldLink RX4 9 (TX4 0).1 (TX4 0).2.1 (TX4 0).2.2.1 ∈ wsX4_peopleOf := by decide +kernel
set_option maxHeartbeats 4000000 in
set_option maxRecDepth 100000 in
theorem ct_X4_peopleOf (l : Launch) (D : va_G) (cI cJ cZ : ClassId) (a : Nat → Nat) (u : MtS) (p0 : Int) (hu : MtI u) (h0 : -2147483648 ≤ p0 ∧ p0 < 2147483648) : gz_M l yX4_peopleOf wsX4_peopleOf { frames := 1, cells := 0, slots := 0, locals := 21 } D cI cJ cZ [.ref (a 0), vI p0] (MtW cI a u) (gz_pI (MtW cI a u) (fun r => r = Mt_peof u p0)) := by
  refine gz_ofZ (cc := cX4_peopleOf) (maxL := 2) (ty := .int) (own := RX4) (by decide) rfl rfl (Nat.le_of_ble_eq_true rfl) (lv0 := [(0, .ref (a 0)), (1, vI p0)]) rfl ?_
  intro p e s m args below meth c A Q F Z
  have hn := hu.1
  refine gz_aload_n (pc := 0) F dX4_peopleOf_0 rfl 0 rfl ?_
  refine gz_iload_n (pc := 1) F dX4_peopleOf_1 rfl 1 rfl ?_
  refine gz_callV (pc := 2) (n := 1) (As := [vI p0]) (rest := []) (bytes := cX4_knows) (maxL := 2) (ret := some .boolean) F (ct_X4_knows l D cI cJ cZ a u p0 hu (by omega)) gX4_peopleOf_X4_knows rfl ⟨rfl, rfl⟩ (by decide +kernel) ⟨Nat.le_of_ble_eq_true rfl, Nat.le_of_ble_eq_true rfl⟩ rfl [0, 1, 2, 3, 4, 5, 6] rfl (by decide) 0 4 rfl rfl rfl (by decide) ⟨Nat.zero_le _, Nat.zero_le _⟩ gz_pI_sh dX4_peopleOf_2 ?_
  refine gz_kI rfl (fun r2 h2 => ?_)
  subst h2
  refine gz_if_eqb (pc := 5) (tgt := 17) F dX4_peopleOf_5 (by decide) (fun c5 => ?_) (fun c5 => ?_)
  · refine gz_const (pc := 17) F dX4_peopleOf_17 ?_
    refine Z _ _ 18 _ dX4_peopleOf_18 rfl ?_
    first | exact ⟨rfl, _, rfl, (if_pos c5).symm⟩ | exact ⟨rfl, _, rfl, (if_neg c5).symm⟩
  · refine gz_aload_n (pc := 8) F dX4_peopleOf_8 rfl 0 rfl ?_
    refine gz_get (pc := 9) (v := .ref (a 1)) F hn_X4_peopleOf_X4 0 4 rfl rfl 0 (by decide) fl_X4_peopleOf_9 rfl dX4_peopleOf_9 ?_
    refine gz_iload_n (pc := 12) F dX4_peopleOf_12 rfl 1 rfl ?_
    refine gz_iald (pc := 13) (f := Mt_pe u) F 1 rfl (by omega) (by decide) dX4_peopleOf_13 ?_
    have b13 := (hu.2 p0).1
    refine gz_goto (pc := 14) (tgt := 18) F dX4_peopleOf_14 (by decide) ?_
    refine Z _ _ 18 _ dX4_peopleOf_18 rfl ?_
    first | exact ⟨rfl, _, rfl, (if_pos c5).symm⟩ | exact ⟨rfl, _, rfl, (if_neg c5).symm⟩

theorem hn_X4_place_X4 : ∀ w ∈ u_ws RX4 TX4 7, w ∈ wsX4_place := by decide +kernel
theorem fl_X4_place_15 : Cond.fieldLink RX4 15 (TX4 1).1 (TX4 1).2.1 (TX4 1).2.2.1 ∈ wsX4_place := by decide +kernel
theorem fl_X4_place_27 : Cond.fieldLink RX4 27 (TX4 5).1 (TX4 5).2.1 (TX4 5).2.2.1 ∈ wsX4_place := by decide +kernel
set_option maxHeartbeats 4000000 in
set_option maxRecDepth 100000 in
theorem ct_X4_place (l : Launch) (D : va_G) (cI cJ cZ : ClassId) (a : Nat → Nat) (u : MtS) (p0 p1 : Int) (hu : MtI u) (h0 : -2147483648 ≤ p0 ∧ p0 < 2147483648) : gz_M l yX4_place wsX4_place { frames := 1, cells := 0, slots := 0, locals := 21 } D cI cJ cZ [.ref (a 0), vI p0, vI p1] (MtW cI a u) (gz_pE (MtW cI a (Mt_place u p0 p1))) := by
  refine gz_ofV (cc := cX4_place) (maxL := 3) (own := RX4) (by decide) rfl rfl (Nat.le_of_ble_eq_true rfl) (lv0 := [(0, .ref (a 0)), (1, vI p0), (2, vI p1)]) rfl ?_
  intro p e s m args below meth c A Q F Z
  have hn := hu.1
  refine gz_aload_n (pc := 0) F dX4_place_0 rfl 0 rfl ?_
  refine gz_iload_n (pc := 1) F dX4_place_1 rfl 1 rfl ?_
  refine gz_callV (pc := 2) (n := 1) (As := [vI p0]) (rest := []) (bytes := cX4_knows) (maxL := 2) (ret := some .boolean) F (ct_X4_knows l D cI cJ cZ a u p0 hu (by omega)) gX4_place_X4_knows rfl ⟨rfl, rfl⟩ (by decide +kernel) ⟨Nat.le_of_ble_eq_true rfl, Nat.le_of_ble_eq_true rfl⟩ rfl [0, 1, 2, 3, 4, 5, 6] rfl (by decide) 0 4 rfl rfl rfl (by decide) ⟨Nat.zero_le _, Nat.zero_le _⟩ gz_pI_sh dX4_place_2 ?_
  refine gz_kI rfl (fun r2 h2 => ?_)
  subst h2
  refine gz_if_eqb (pc := 5) (tgt := 25) F dX4_place_5 (by decide) (fun c5 => ?_) (fun c5 => ?_)
  · refine Z _ _ 25 dX4_place_25 ?_
    refine ⟨rfl, ?_⟩
    first | (rw [Mt_place, if_pos (c5)] <;> rfl) | (rw [Mt_place, if_neg (c5)] <;> rfl)
  · refine gz_aload_n (pc := 8) F dX4_place_8 rfl 0 rfl ?_
    refine gz_get (pc := 9) (v := .ref (a 2)) F hn_X4_place_X4 0 4 rfl rfl 1 (by decide) fl_X4_place_15 rfl dX4_place_9 ?_
    refine gz_iload_n (pc := 12) F dX4_place_12 rfl 1 rfl ?_
    refine gz_iload_n (pc := 13) F dX4_place_13 rfl 2 rfl ?_
    refine gz_iast (pc := 14) (f := Mt_sl u) (ws2 := MtW cI a ((Mt_n u, Mt_pe u, zU (Mt_sl u) p0 p1, Mt_ln u, Mt_ma u, Mt_st u, Mt_mv u))) F 2 rfl (by omega) (by decide) rfl dX4_place_14 ?_
    refine gz_aload_n (pc := 15) F dX4_place_15 rfl 0 rfl ?_
    refine gz_get (pc := 16) (v := .ref (a 6)) F hn_X4_place_X4 0 4 rfl rfl 5 (by decide) fl_X4_place_27 rfl dX4_place_16 ?_
    refine gz_iload_n (pc := 19) F dX4_place_19 rfl 1 rfl ?_
    refine gz_dup2 (pc := 20) F dX4_place_20 rfl rfl ?_
    refine gz_iald (pc := 21) (f := Mt_mv u) F 6 rfl (by omega) (by decide) dX4_place_21 ?_
    refine gz_const (pc := 22) F dX4_place_22 ?_
    refine gz_iadd (pc := 23) F dX4_place_23 ?_
    refine gz_iast (pc := 24) (f := Mt_mv u) (ws2 := MtW cI a ((Mt_n u, Mt_pe u, zU (Mt_sl u) p0 p1, Mt_ln u, Mt_ma u, Mt_st u, zU (Mt_mv u) p0 ((Mt_mv u p0) + 1)))) F 6 rfl (by omega) (by decide) rfl dX4_place_24 ?_
    refine Z _ _ 25 dX4_place_25 ?_
    refine ⟨rfl, ?_⟩
    first | (rw [Mt_place, if_pos (c5)] <;> rfl) | (rw [Mt_place, if_neg (c5)] <;> rfl)

theorem hn_X4_callOff_X4 : ∀ w ∈ u_ws RX4 TX4 7, w ∈ wsX4_callOff := by decide +kernel
theorem fl_X4_callOff_24 : Cond.fieldLink RX4 24 (TX4 4).1 (TX4 4).2.1 (TX4 4).2.2.1 ∈ wsX4_callOff := by decide +kernel
set_option maxHeartbeats 4000000 in
set_option maxRecDepth 100000 in
theorem ct_X4_callOff (l : Launch) (D : va_G) (cI cJ cZ : ClassId) (a : Nat → Nat) (u : MtS) (p0 : Int) (hu : MtI u) (h0 : -2147483648 ≤ p0 ∧ p0 < 2147483648) : gz_M l yX4_callOff wsX4_callOff { frames := 1, cells := 0, slots := 0, locals := 21 } D cI cJ cZ [.ref (a 0), vI p0] (MtW cI a u) (gz_pE (MtW cI a (Mt_callOff u p0))) := by
  refine gz_ofV (cc := cX4_callOff) (maxL := 2) (own := RX4) (by decide) rfl rfl (Nat.le_of_ble_eq_true rfl) (lv0 := [(0, .ref (a 0)), (1, vI p0)]) rfl ?_
  intro p e s m args below meth c A Q F Z
  have hn := hu.1
  refine gz_aload_n (pc := 0) F dX4_callOff_0 rfl 0 rfl ?_
  refine gz_iload_n (pc := 1) F dX4_callOff_1 rfl 1 rfl ?_
  refine gz_callV (pc := 2) (n := 1) (As := [vI p0]) (rest := []) (bytes := cX4_knows) (maxL := 2) (ret := some .boolean) F (ct_X4_knows l D cI cJ cZ a u p0 hu (by omega)) gX4_callOff_X4_knows rfl ⟨rfl, rfl⟩ (by decide +kernel) ⟨Nat.le_of_ble_eq_true rfl, Nat.le_of_ble_eq_true rfl⟩ rfl [0, 1, 2, 3, 4, 5, 6] rfl (by decide) 0 4 rfl rfl rfl (by decide) ⟨Nat.zero_le _, Nat.zero_le _⟩ gz_pI_sh dX4_callOff_2 ?_
  refine gz_kI rfl (fun r2 h2 => ?_)
  subst h2
  refine gz_if_eqb (pc := 5) (tgt := 15) F dX4_callOff_5 (by decide) (fun c5 => ?_) (fun c5 => ?_)
  · refine Z _ _ 15 dX4_callOff_15 ?_
    refine ⟨rfl, ?_⟩
    first | (rw [Mt_callOff, if_pos (c5)] <;> rfl) | (rw [Mt_callOff, if_neg (c5)] <;> rfl)
  · refine gz_aload_n (pc := 8) F dX4_callOff_8 rfl 0 rfl ?_
    refine gz_get (pc := 9) (v := .ref (a 5)) F hn_X4_callOff_X4 0 4 rfl rfl 4 (by decide) fl_X4_callOff_24 rfl dX4_callOff_9 ?_
    refine gz_iload_n (pc := 12) F dX4_callOff_12 rfl 1 rfl ?_
    refine gz_const (pc := 13) F dX4_callOff_13 ?_
    refine gz_iast (pc := 14) (f := Mt_st u) (ws2 := MtW cI a ((Mt_n u, Mt_pe u, Mt_sl u, Mt_ln u, Mt_ma u, zU (Mt_st u) p0 1, Mt_mv u))) F 5 rfl (by omega) (by decide) rfl dX4_callOff_14 ?_
    refine Z _ _ 15 dX4_callOff_15 ?_
    refine ⟨rfl, ?_⟩
    first | (rw [Mt_callOff, if_pos (c5)] <;> rfl) | (rw [Mt_callOff, if_neg (c5)] <;> rfl)

theorem hn_X4_exchange_X4 : ∀ w ∈ u_ws RX4 TX4 7, w ∈ wsX4_exchange := by decide +kernel
theorem fl_X4_exchange_15 : Cond.fieldLink RX4 15 (TX4 1).1 (TX4 1).2.1 (TX4 1).2.2.1 ∈ wsX4_exchange := by decide +kernel
set_option maxHeartbeats 4000000 in
set_option maxRecDepth 100000 in
theorem ct_X4_exchange (l : Launch) (D : va_G) (cI cJ cZ : ClassId) (a : Nat → Nat) (u : MtS) (p0 p1 : Int) (hu : MtI u) (h0 : -2147483648 ≤ p0 ∧ p0 < 2147483648) (h1 : -2147483648 ≤ p1 ∧ p1 < 2147483648) : gz_M l yX4_exchange wsX4_exchange { frames := 1, cells := 0, slots := 0, locals := 21 } D cI cJ cZ [.ref (a 0), vI p0, vI p1] (MtW cI a u) (gz_pE (MtW cI a (Mt_exch u p0 p1))) := by
  refine gz_ofV (cc := cX4_exchange) (maxL := 4) (own := RX4) (by decide) rfl rfl (Nat.le_of_ble_eq_true rfl) (lv0 := [(0, .ref (a 0)), (1, vI p0), (2, vI p1)]) rfl ?_
  intro p e s m args below meth c A Q F Z
  have hn := hu.1
  refine gz_aload_n (pc := 0) F dX4_exchange_0 rfl 0 rfl ?_
  refine gz_iload_n (pc := 1) F dX4_exchange_1 rfl 1 rfl ?_
  refine gz_callV (pc := 2) (n := 1) (As := [vI p0]) (rest := []) (bytes := cX4_knows) (maxL := 2) (ret := some .boolean) F (ct_X4_knows l D cI cJ cZ a u p0 hu (by omega)) gX4_exchange_X4_knows rfl ⟨rfl, rfl⟩ (by decide +kernel) ⟨Nat.le_of_ble_eq_true rfl, Nat.le_of_ble_eq_true rfl⟩ rfl [0, 1, 2, 3, 4, 5, 6] rfl (by decide) 0 4 rfl rfl rfl (by decide) ⟨Nat.zero_le _, Nat.zero_le _⟩ gz_pI_sh dX4_exchange_2 ?_
  refine gz_kI rfl (fun r2 h2 => ?_)
  subst h2
  refine gz_if_eqb (pc := 5) (tgt := 42) F dX4_exchange_5 (by decide) (fun c5 => ?_) (fun c5 => ?_)
  · refine Z _ _ 42 dX4_exchange_42 ?_
    refine ⟨rfl, ?_⟩
    first | (rw [Mt_exch, if_pos (⟨c5, c13⟩)] <;> rfl) | (rw [Mt_exch, if_neg (fun h => c5 h.1)] <;> rfl) | (rw [Mt_exch, if_neg (fun h => c13 h.2)] <;> rfl)
  · refine gz_aload_n (pc := 8) F dX4_exchange_8 rfl 0 rfl ?_
    refine gz_iload_n (pc := 9) F dX4_exchange_9 rfl 2 rfl ?_
    refine gz_callV (pc := 10) (n := 1) (As := [vI p1]) (rest := []) (bytes := cX4_knows) (maxL := 2) (ret := some .boolean) F (ct_X4_knows l D cI cJ cZ a u p1 hu (by omega)) gX4_exchange_X4_knows rfl ⟨rfl, rfl⟩ (by decide +kernel) ⟨Nat.le_of_ble_eq_true rfl, Nat.le_of_ble_eq_true rfl⟩ rfl [0, 1, 2, 3, 4, 5, 6] rfl (by decide) 0 4 rfl rfl rfl (by decide) ⟨Nat.zero_le _, Nat.zero_le _⟩ gz_pI_sh dX4_exchange_10 ?_
    refine gz_kI rfl (fun r10 h10 => ?_)
    subst h10
    refine gz_if_eqb (pc := 13) (tgt := 42) F dX4_exchange_13 (by decide) (fun c13 => ?_) (fun c13 => ?_)
    · refine Z _ _ 42 dX4_exchange_42 ?_
      refine ⟨rfl, ?_⟩
      first | (rw [Mt_exch, if_pos (⟨c5, c13⟩)] <;> rfl) | (rw [Mt_exch, if_neg (fun h => c5 h.1)] <;> rfl) | (rw [Mt_exch, if_neg (fun h => c13 h.2)] <;> rfl)
    · refine gz_aload_n (pc := 16) F dX4_exchange_16 rfl 0 rfl ?_
      refine gz_get (pc := 17) (v := .ref (a 2)) F hn_X4_exchange_X4 0 4 rfl rfl 1 (by decide) fl_X4_exchange_15 rfl dX4_exchange_17 ?_
      refine gz_iload_n (pc := 20) F dX4_exchange_20 rfl 1 rfl ?_
      refine gz_iald (pc := 21) (f := Mt_sl u) F 2 rfl (by omega) (by decide) dX4_exchange_21 ?_
      have b21 := (hu.2 p0).2.1
      refine gz_istore_n (pc := 22) (lv2 := [(3, vI (Mt_sl u p0)), (0, .ref (a 0)), (1, vI p0), (2, vI p1)]) F dX4_exchange_22 rfl (by decide) rfl ?_
      refine gz_aload_n (pc := 23) F dX4_exchange_23 rfl 1 rfl ?_
      refine gz_get (pc := 24) (v := .ref (a 2)) F hn_X4_exchange_X4 0 4 rfl rfl 1 (by decide) fl_X4_exchange_15 rfl dX4_exchange_24 ?_
      refine gz_iload_n (pc := 27) F dX4_exchange_27 rfl 2 rfl ?_
      refine gz_aload_n (pc := 28) F dX4_exchange_28 rfl 1 rfl ?_
      refine gz_get (pc := 29) (v := .ref (a 2)) F hn_X4_exchange_X4 0 4 rfl rfl 1 (by decide) fl_X4_exchange_15 rfl dX4_exchange_29 ?_
      refine gz_iload_n (pc := 32) F dX4_exchange_32 rfl 3 rfl ?_
      refine gz_iald (pc := 33) (f := Mt_sl u) F 2 rfl (by omega) (by decide) dX4_exchange_33 ?_
      have b33 := (hu.2 p1).2.1
      refine gz_iast (pc := 34) (f := Mt_sl u) (ws2 := MtW cI a ((Mt_n u, Mt_pe u, zU (Mt_sl u) p0 (Mt_sl u p1), Mt_ln u, Mt_ma u, Mt_st u, Mt_mv u))) F 2 rfl (by omega) (by decide) rfl dX4_exchange_34 ?_
      refine gz_aload_n (pc := 35) F dX4_exchange_35 rfl 1 rfl ?_
      refine gz_get (pc := 36) (v := .ref (a 2)) F hn_X4_exchange_X4 0 4 rfl rfl 1 (by decide) fl_X4_exchange_15 rfl dX4_exchange_36 ?_
      refine gz_iload_n (pc := 39) F dX4_exchange_39 rfl 3 rfl ?_
      refine gz_iload_n (pc := 40) F dX4_exchange_40 rfl 0 rfl ?_
      refine gz_iast (pc := 41) (f := zU (Mt_sl u) p0 (Mt_sl u p1)) (ws2 := MtW cI a ((Mt_n u, Mt_pe u, zU (zU (Mt_sl u) p0 (Mt_sl u p1)) p1 (Mt_sl u p0), Mt_ln u, Mt_ma u, Mt_st u, Mt_mv u))) F 2 rfl (by omega) (by decide) rfl dX4_exchange_41 ?_
      refine Z _ _ 42 dX4_exchange_42 ?_
      refine ⟨rfl, ?_⟩
      first | (rw [Mt_exch, if_pos (⟨c5, c13⟩)] <;> rfl) | (rw [Mt_exch, if_neg (fun h => c5 h.1)] <;> rfl) | (rw [Mt_exch, if_neg (fun h => c13 h.2)] <;> rfl)

theorem hn_X4_placeSwapped_X4 : ∀ w ∈ u_ws RX4 TX4 7, w ∈ wsX4_placeSwapped := by decide +kernel
theorem fl_X4_placeSwapped_27 : Cond.fieldLink RX4 27 (TX4 5).1 (TX4 5).2.1 (TX4 5).2.2.1 ∈ wsX4_placeSwapped := by decide +kernel
set_option maxHeartbeats 4000000 in
set_option maxRecDepth 100000 in
theorem ct_X4_placeSwapped (l : Launch) (D : va_G) (cI cJ cZ : ClassId) (a : Nat → Nat) (u : MtS) (p0 p1 : Int) (hu : MtI u) (h0 : -2147483648 ≤ p0 ∧ p0 < 2147483648) (h1 : -2147483648 ≤ p1 ∧ p1 < 2147483648) : gz_M l yX4_placeSwapped wsX4_placeSwapped { frames := 2, cells := 0, slots := 0, locals := 44 } D cI cJ cZ [.ref (a 0), vI p0, vI p1] (MtW cI a u) (gz_pE (MtW cI a (Mt_plsw u p0 p1))) := by
  refine gz_ofV (cc := cX4_placeSwapped) (maxL := 3) (own := RX4) (by decide) rfl rfl (Nat.le_of_ble_eq_true rfl) (lv0 := [(0, .ref (a 0)), (1, vI p0), (2, vI p1)]) rfl ?_
  intro p e s m args below meth c A Q F Z
  have hn := hu.1
  refine gz_aload_n (pc := 0) F dX4_placeSwapped_0 rfl 0 rfl ?_
  refine gz_iload_n (pc := 1) F dX4_placeSwapped_1 rfl 1 rfl ?_
  refine gz_callV (pc := 2) (n := 1) (As := [vI p0]) (rest := []) (bytes := cX4_knows) (maxL := 2) (ret := some .boolean) F (ct_X4_knows l D cI cJ cZ a u p0 hu (by omega)) gX4_placeSwapped_X4_knows rfl ⟨rfl, rfl⟩ (by decide +kernel) ⟨Nat.le_of_ble_eq_true rfl, Nat.le_of_ble_eq_true rfl⟩ rfl [0, 1, 2, 3, 4, 5, 6] rfl (by decide) 0 4 rfl rfl rfl (by decide) ⟨Nat.zero_le _, Nat.zero_le _⟩ gz_pI_sh dX4_placeSwapped_2 ?_
  refine gz_kI rfl (fun r2 h2 => ?_)
  subst h2
  refine gz_if_eqb (pc := 5) (tgt := 42) F dX4_placeSwapped_5 (by decide) (fun c5 => ?_) (fun c5 => ?_)
  · refine Z _ _ 42 dX4_placeSwapped_42 ?_
    refine ⟨rfl, ?_⟩
    first | (rw [Mt_plsw, if_pos (⟨c5, c13⟩)] <;> rfl) | (rw [Mt_plsw, if_neg (fun h => c5 h.1)] <;> rfl) | (rw [Mt_plsw, if_neg (fun h => c13 h.2)] <;> rfl)
  · refine gz_aload_n (pc := 8) F dX4_placeSwapped_8 rfl 0 rfl ?_
    refine gz_iload_n (pc := 9) F dX4_placeSwapped_9 rfl 2 rfl ?_
    refine gz_callV (pc := 10) (n := 1) (As := [vI p1]) (rest := []) (bytes := cX4_knows) (maxL := 2) (ret := some .boolean) F (ct_X4_knows l D cI cJ cZ a u p1 hu (by omega)) gX4_placeSwapped_X4_knows rfl ⟨rfl, rfl⟩ (by decide +kernel) ⟨Nat.le_of_ble_eq_true rfl, Nat.le_of_ble_eq_true rfl⟩ rfl [0, 1, 2, 3, 4, 5, 6] rfl (by decide) 0 4 rfl rfl rfl (by decide) ⟨Nat.zero_le _, Nat.zero_le _⟩ gz_pI_sh dX4_placeSwapped_10 ?_
    refine gz_kI rfl (fun r10 h10 => ?_)
    subst h10
    refine gz_if_eqb (pc := 13) (tgt := 42) F dX4_placeSwapped_13 (by decide) (fun c13 => ?_) (fun c13 => ?_)
    · refine Z _ _ 42 dX4_placeSwapped_42 ?_
      refine ⟨rfl, ?_⟩
      first | (rw [Mt_plsw, if_pos (⟨c5, c13⟩)] <;> rfl) | (rw [Mt_plsw, if_neg (fun h => c5 h.1)] <;> rfl) | (rw [Mt_plsw, if_neg (fun h => c13 h.2)] <;> rfl)
    · refine gz_aload_n (pc := 16) F dX4_placeSwapped_16 rfl 0 rfl ?_
      refine gz_iload_n (pc := 17) F dX4_placeSwapped_17 rfl 1 rfl ?_
      refine gz_iload_n (pc := 18) F dX4_placeSwapped_18 rfl 2 rfl ?_
      refine gz_callV (pc := 19) (n := 2) (As := [vI p0, vI p1]) (rest := []) (bytes := cX4_exchange) (maxL := 4) (ret := none) F (ct_X4_exchange l D cI cJ cZ a u p0 p1 hu (by omega) (by omega)) gX4_placeSwapped_X4_exchange rfl ⟨rfl, rfl⟩ (by decide +kernel) ⟨Nat.le_of_ble_eq_true rfl, Nat.le_of_ble_eq_true rfl⟩ rfl [0, 1, 2, 3, 4, 5, 6] rfl (by decide) 0 4 rfl rfl rfl (by decide) ⟨Nat.zero_le _, Nat.zero_le _⟩ (gz_pE_sh rfl) dX4_placeSwapped_19 ?_
      refine gz_kE (ws2 := MtW cI a (Mt_exch u p0 p1)) rfl ?_
      refine gz_aload_n (pc := 22) F dX4_placeSwapped_22 rfl 0 rfl ?_
      refine gz_get (pc := 23) (v := .ref (a 6)) F hn_X4_placeSwapped_X4 0 4 rfl rfl 5 (by decide) fl_X4_placeSwapped_27 rfl dX4_placeSwapped_23 ?_
      refine gz_iload_n (pc := 26) F dX4_placeSwapped_26 rfl 1 rfl ?_
      refine gz_dup2 (pc := 27) F dX4_placeSwapped_27 rfl rfl ?_
      refine gz_iald (pc := 28) (f := Mt_mv (Mt_exch u p0 p1)) F 6 rfl (by omega) (by decide) dX4_placeSwapped_28 ?_
      refine gz_const (pc := 29) F dX4_placeSwapped_29 ?_
      refine gz_iadd (pc := 30) F dX4_placeSwapped_30 ?_
      refine gz_iast (pc := 31) (f := Mt_mv (Mt_exch u p0 p1)) (ws2 := MtW cI a ((Mt_n (Mt_exch u p0 p1), Mt_pe (Mt_exch u p0 p1), Mt_sl (Mt_exch u p0 p1), Mt_ln (Mt_exch u p0 p1), Mt_ma (Mt_exch u p0 p1), Mt_st (Mt_exch u p0 p1), zU (Mt_mv (Mt_exch u p0 p1)) p0 ((Mt_mv (Mt_exch u p0 p1) p0) + 1)))) F 6 rfl (by omega) (by decide) rfl dX4_placeSwapped_31 ?_
      refine gz_aload_n (pc := 32) F dX4_placeSwapped_32 rfl 0 rfl ?_
      refine gz_get (pc := 33) (v := .ref (a 6)) F hn_X4_placeSwapped_X4 0 4 rfl rfl 5 (by decide) fl_X4_placeSwapped_27 rfl dX4_placeSwapped_33 ?_
      refine gz_iload_n (pc := 36) F dX4_placeSwapped_36 rfl 2 rfl ?_
      refine gz_dup2 (pc := 37) F dX4_placeSwapped_37 rfl rfl ?_
      refine gz_iald (pc := 38) (f := zU (Mt_mv (Mt_exch u p0 p1)) p0 ((Mt_mv (Mt_exch u p0 p1) p0) + 1)) F 6 rfl (by omega) (by decide) dX4_placeSwapped_38 ?_
      refine gz_const (pc := 39) F dX4_placeSwapped_39 ?_
      refine gz_iadd (pc := 40) F dX4_placeSwapped_40 ?_
      refine gz_iast (pc := 41) (f := zU (Mt_mv (Mt_exch u p0 p1)) p0 ((Mt_mv (Mt_exch u p0 p1) p0) + 1)) (ws2 := MtW cI a ((Mt_n (Mt_exch u p0 p1), Mt_pe (Mt_exch u p0 p1), Mt_sl (Mt_exch u p0 p1), Mt_ln (Mt_exch u p0 p1), Mt_ma (Mt_exch u p0 p1), Mt_st (Mt_exch u p0 p1), zU (zU (Mt_mv (Mt_exch u p0 p1)) p0 ((Mt_mv (Mt_exch u p0 p1) p0) + 1)) p1 (((zU (Mt_mv (Mt_exch u p0 p1)) p0 ((Mt_mv (Mt_exch u p0 p1) p0) + 1)) p1) + 1)))) F 6 rfl (by omega) (by decide) rfl dX4_placeSwapped_41 ?_
      refine Z _ _ 42 dX4_placeSwapped_42 ?_
      refine ⟨rfl, ?_⟩
      first | (rw [Mt_plsw, if_pos (⟨c5, c13⟩)] <;> rfl) | (rw [Mt_plsw, if_neg (fun h => c5 h.1)] <;> rfl) | (rw [Mt_plsw, if_neg (fun h => c13 h.2)] <;> rfl)

theorem hn_X4_add_X4 : ∀ w ∈ u_ws RX4 TX4 7, w ∈ wsX4_add := by decide +kernel
theorem fl_X4_add_30 : Cond.fieldLink RX4 30 (TX4 6).1 (TX4 6).2.1 (TX4 6).2.2.1 ∈ wsX4_add := by decide +kernel
theorem fl_X4_add_9 : Cond.fieldLink RX4 9 (TX4 0).1 (TX4 0).2.1 (TX4 0).2.2.1 ∈ wsX4_add := by decide +kernel
theorem fl_X4_add_15 : Cond.fieldLink RX4 15 (TX4 1).1 (TX4 1).2.1 (TX4 1).2.2.1 ∈ wsX4_add := by decide +kernel
theorem fl_X4_add_18 : Cond.fieldLink RX4 18 (TX4 2).1 (TX4 2).2.1 (TX4 2).2.2.1 ∈ wsX4_add := by decide +kernel
theorem fl_X4_add_21 : Cond.fieldLink RX4 21 (TX4 3).1 (TX4 3).2.1 (TX4 3).2.2.1 ∈ wsX4_add := by decide +kernel
theorem fl_X4_add_24 : Cond.fieldLink RX4 24 (TX4 4).1 (TX4 4).2.1 (TX4 4).2.2.1 ∈ wsX4_add := by decide +kernel
theorem fl_X4_add_27 : Cond.fieldLink RX4 27 (TX4 5).1 (TX4 5).2.1 (TX4 5).2.2.1 ∈ wsX4_add := by decide +kernel
set_option maxHeartbeats 4000000 in
set_option maxRecDepth 100000 in
theorem ct_X4_add (l : Launch) (D : va_G) (cI cJ cZ : ClassId) (a : Nat → Nat) (u : MtS) (p0 p1 p2 p3 : Int) (hu : MtI u)  : gz_M l yX4_add wsX4_add { frames := 0, cells := 0, slots := 0, locals := 0 } D cI cJ cZ [.ref (a 0), vI p0, vI p1, vI p2, vI p3] (MtW cI a u) (gz_pE (MtW cI a (Mt_add u p0 p1 p2 p3))) := by
  refine gz_ofV (cc := cX4_add) (maxL := 5) (own := RX4) (by decide) rfl rfl (Nat.le_of_ble_eq_true rfl) (lv0 := [(0, .ref (a 0)), (1, vI p0), (2, vI p1), (3, vI p2), (4, vI p3)]) rfl ?_
  intro p e s m args below meth c A Q F Z
  have hn := hu.1
  refine gz_aload_n (pc := 0) F dX4_add_0 rfl 0 rfl ?_
  refine gz_get (pc := 1) (v := vI (Mt_n u)) F hn_X4_add_X4 0 4 rfl rfl 6 (by decide) fl_X4_add_30 rfl dX4_add_1 ?_
  have b1 := hu.1
  refine gz_bipush (pc := 4) F dX4_add_4 (by decide) ?_
  refine gz_icmp_ge (pc := 6) (tgt := 80) F dX4_add_6 (by decide) (by omega) (by omega) (fun c6 => ?_) (fun c6 => ?_)
  · refine Z _ _ 80 dX4_add_80 ?_
    refine ⟨rfl, ?_⟩
    first | (rw [Mt_add, if_pos ((show Mt_n u < 30 by omega))] <;> rfl) | (rw [Mt_add, if_neg ((show ¬ Mt_n u < 30 by omega))] <;> rfl)
  · refine gz_aload_n (pc := 9) F dX4_add_9 rfl 0 rfl ?_
    refine gz_get (pc := 10) (v := .ref (a 1)) F hn_X4_add_X4 0 4 rfl rfl 0 (by decide) fl_X4_add_9 rfl dX4_add_10 ?_
    refine gz_aload_n (pc := 13) F dX4_add_13 rfl 0 rfl ?_
    refine gz_get (pc := 14) (v := vI (Mt_n u)) F hn_X4_add_X4 0 4 rfl rfl 6 (by decide) fl_X4_add_30 rfl dX4_add_14 ?_
    have b14 := hu.1
    refine gz_iload_n (pc := 17) F dX4_add_17 rfl 1 rfl ?_
    refine gz_iast (pc := 18) (f := Mt_pe u) (ws2 := MtW cI a ((Mt_n u, zU (Mt_pe u) (Mt_n u) p0, Mt_sl u, Mt_ln u, Mt_ma u, Mt_st u, Mt_mv u))) F 1 rfl (by omega) (by decide) rfl dX4_add_18 ?_
    refine gz_aload_n (pc := 19) F dX4_add_19 rfl 0 rfl ?_
    refine gz_get (pc := 20) (v := .ref (a 2)) F hn_X4_add_X4 0 4 rfl rfl 1 (by decide) fl_X4_add_15 rfl dX4_add_20 ?_
    refine gz_aload_n (pc := 23) F dX4_add_23 rfl 0 rfl ?_
    refine gz_get (pc := 24) (v := vI (Mt_n u)) F hn_X4_add_X4 0 4 rfl rfl 6 (by decide) fl_X4_add_30 rfl dX4_add_24 ?_
    have b24 := hu.1
    refine gz_iload_n (pc := 27) F dX4_add_27 rfl 2 rfl ?_
    refine gz_iast (pc := 28) (f := Mt_sl u) (ws2 := MtW cI a ((Mt_n u, zU (Mt_pe u) (Mt_n u) p0, zU (Mt_sl u) (Mt_n u) p1, Mt_ln u, Mt_ma u, Mt_st u, Mt_mv u))) F 2 rfl (by omega) (by decide) rfl dX4_add_28 ?_
    refine gz_aload_n (pc := 29) F dX4_add_29 rfl 0 rfl ?_
    refine gz_get (pc := 30) (v := .ref (a 3)) F hn_X4_add_X4 0 4 rfl rfl 2 (by decide) fl_X4_add_18 rfl dX4_add_30 ?_
    refine gz_aload_n (pc := 33) F dX4_add_33 rfl 0 rfl ?_
    refine gz_get (pc := 34) (v := vI (Mt_n u)) F hn_X4_add_X4 0 4 rfl rfl 6 (by decide) fl_X4_add_30 rfl dX4_add_34 ?_
    have b34 := hu.1
    refine gz_iload_n (pc := 37) F dX4_add_37 rfl 3 rfl ?_
    refine gz_iast (pc := 38) (f := Mt_ln u) (ws2 := MtW cI a ((Mt_n u, zU (Mt_pe u) (Mt_n u) p0, zU (Mt_sl u) (Mt_n u) p1, zU (Mt_ln u) (Mt_n u) p2, Mt_ma u, Mt_st u, Mt_mv u))) F 3 rfl (by omega) (by decide) rfl dX4_add_38 ?_
    refine gz_aload_n (pc := 39) F dX4_add_39 rfl 0 rfl ?_
    refine gz_get (pc := 40) (v := .ref (a 4)) F hn_X4_add_X4 0 4 rfl rfl 3 (by decide) fl_X4_add_21 rfl dX4_add_40 ?_
    refine gz_aload_n (pc := 43) F dX4_add_43 rfl 0 rfl ?_
    refine gz_get (pc := 44) (v := vI (Mt_n u)) F hn_X4_add_X4 0 4 rfl rfl 6 (by decide) fl_X4_add_30 rfl dX4_add_44 ?_
    have b44 := hu.1
    refine gz_iload (pc := 47) F dX4_add_47 4 rfl ?_
    refine gz_iast (pc := 49) (f := Mt_ma u) (ws2 := MtW cI a ((Mt_n u, zU (Mt_pe u) (Mt_n u) p0, zU (Mt_sl u) (Mt_n u) p1, zU (Mt_ln u) (Mt_n u) p2, zU (Mt_ma u) (Mt_n u) p3, Mt_st u, Mt_mv u))) F 4 rfl (by omega) (by decide) rfl dX4_add_49 ?_
    refine gz_aload_n (pc := 50) F dX4_add_50 rfl 0 rfl ?_
    refine gz_get (pc := 51) (v := .ref (a 5)) F hn_X4_add_X4 0 4 rfl rfl 4 (by decide) fl_X4_add_24 rfl dX4_add_51 ?_
    refine gz_aload_n (pc := 54) F dX4_add_54 rfl 0 rfl ?_
    refine gz_get (pc := 55) (v := vI (Mt_n u)) F hn_X4_add_X4 0 4 rfl rfl 6 (by decide) fl_X4_add_30 rfl dX4_add_55 ?_
    have b55 := hu.1
    refine gz_const (pc := 58) F dX4_add_58 ?_
    refine gz_iast (pc := 59) (f := Mt_st u) (ws2 := MtW cI a ((Mt_n u, zU (Mt_pe u) (Mt_n u) p0, zU (Mt_sl u) (Mt_n u) p1, zU (Mt_ln u) (Mt_n u) p2, zU (Mt_ma u) (Mt_n u) p3, zU (Mt_st u) (Mt_n u) 0, Mt_mv u))) F 5 rfl (by omega) (by decide) rfl dX4_add_59 ?_
    refine gz_aload_n (pc := 60) F dX4_add_60 rfl 0 rfl ?_
    refine gz_get (pc := 61) (v := .ref (a 6)) F hn_X4_add_X4 0 4 rfl rfl 5 (by decide) fl_X4_add_27 rfl dX4_add_61 ?_
    refine gz_aload_n (pc := 64) F dX4_add_64 rfl 0 rfl ?_
    refine gz_get (pc := 65) (v := vI (Mt_n u)) F hn_X4_add_X4 0 4 rfl rfl 6 (by decide) fl_X4_add_30 rfl dX4_add_65 ?_
    have b65 := hu.1
    refine gz_const (pc := 68) F dX4_add_68 ?_
    refine gz_iast (pc := 69) (f := Mt_mv u) (ws2 := MtW cI a ((Mt_n u, zU (Mt_pe u) (Mt_n u) p0, zU (Mt_sl u) (Mt_n u) p1, zU (Mt_ln u) (Mt_n u) p2, zU (Mt_ma u) (Mt_n u) p3, zU (Mt_st u) (Mt_n u) 0, zU (Mt_mv u) (Mt_n u) 0))) F 6 rfl (by omega) (by decide) rfl dX4_add_69 ?_
    refine gz_aload_n (pc := 70) F dX4_add_70 rfl 0 rfl ?_
    refine gz_dup (pc := 71) F dX4_add_71 rfl ?_
    refine gz_get (pc := 72) (v := vI (Mt_n u)) F hn_X4_add_X4 0 4 rfl rfl 6 (by decide) fl_X4_add_30 rfl dX4_add_72 ?_
    have b72 := hu.1
    refine gz_const (pc := 75) F dX4_add_75 ?_
    refine gz_iadd (pc := 76) F dX4_add_76 ?_
    refine gz_put (pc := 77) (ws2 := MtW cI a (((Mt_n u) + 1, zU (Mt_pe u) (Mt_n u) p0, zU (Mt_sl u) (Mt_n u) p1, zU (Mt_ln u) (Mt_n u) p2, zU (Mt_ma u) (Mt_n u) p3, zU (Mt_st u) (Mt_n u) 0, zU (Mt_mv u) (Mt_n u) 0))) F hn_X4_add_X4 tyX4 tyX4_ok nmX4 0 4 rfl rfl 6 (by decide) fl_X4_add_30 rfl (ty := .int) rfl rfl rfl (Nat.le_of_ble_eq_true rfl) rfl dX4_add_77 ?_
    refine Z _ _ 80 dX4_add_80 ?_
    refine ⟨rfl, ?_⟩
    first | (rw [Mt_add, if_pos ((show Mt_n u < 30 by omega))] <;> rfl) | (rw [Mt_add, if_neg ((show ¬ Mt_n u < 30 by omega))] <;> rfl)

theorem hn_X3_add_X3 : ∀ w ∈ u_ws RX3 TX3 6, w ∈ wsX3_add := by decide +kernel
theorem fl_X3_add_27 : Cond.fieldLink RX3 27 (TX3 5).1 (TX3 5).2.1 (TX3 5).2.2.1 ∈ wsX3_add := by decide +kernel
theorem fl_X3_add_9 : Cond.fieldLink RX3 9 (TX3 0).1 (TX3 0).2.1 (TX3 0).2.2.1 ∈ wsX3_add := by decide +kernel
theorem fl_X3_add_15 : Cond.fieldLink RX3 15 (TX3 1).1 (TX3 1).2.1 (TX3 1).2.2.1 ∈ wsX3_add := by decide +kernel
theorem fl_X3_add_18 : Cond.fieldLink RX3 18 (TX3 2).1 (TX3 2).2.1 (TX3 2).2.2.1 ∈ wsX3_add := by decide +kernel
theorem fl_X3_add_21 : Cond.fieldLink RX3 21 (TX3 3).1 (TX3 3).2.1 (TX3 3).2.2.1 ∈ wsX3_add := by decide +kernel
theorem fl_X3_add_24 : Cond.fieldLink RX3 24 (TX3 4).1 (TX3 4).2.1 (TX3 4).2.2.1 ∈ wsX3_add := by decide +kernel
set_option maxHeartbeats 4000000 in
set_option maxRecDepth 100000 in
theorem ct_X3_add (l : Launch) (D : va_G) (cI cJ cZ : ClassId) (a : Nat → Nat) (u : McS) (p0 p1 : Int) (hu : McI u)  : gz_M l yX3_add wsX3_add { frames := 0, cells := 0, slots := 0, locals := 0 } D cI cJ cZ [.ref (a 0), vI p0, vI p1] (McW cI a u) (gz_pE (McW cI a (Mc_add u p0 p1))) := by
  refine gz_ofV (cc := cX3_add) (maxL := 3) (own := RX3) (by decide) rfl rfl (Nat.le_of_ble_eq_true rfl) (lv0 := [(0, .ref (a 0)), (1, vI p0), (2, vI p1)]) rfl ?_
  intro p e s m args below meth c A Q F Z
  have hn := hu.1
  refine gz_aload_n (pc := 0) F dX3_add_0 rfl 0 rfl ?_
  refine gz_get (pc := 1) (v := vI (Mc_n u)) F hn_X3_add_X3 0 3 rfl rfl 5 (by decide) fl_X3_add_27 rfl dX3_add_1 ?_
  have b1 := hu.1
  refine gz_bipush (pc := 4) F dX3_add_4 (by decide) ?_
  refine gz_icmp_ge (pc := 6) (tgt := 69) F dX3_add_6 (by decide) (by omega) (by omega) (fun c6 => ?_) (fun c6 => ?_)
  · refine Z _ _ 69 dX3_add_69 ?_
    refine ⟨rfl, ?_⟩
    first | (rw [Mc_add, if_pos ((show Mc_n u < 6 by omega))] <;> rfl) | (rw [Mc_add, if_neg ((show ¬ Mc_n u < 6 by omega))] <;> rfl)
  · refine gz_aload_n (pc := 9) F dX3_add_9 rfl 0 rfl ?_
    refine gz_get (pc := 10) (v := .ref (a 1)) F hn_X3_add_X3 0 3 rfl rfl 0 (by decide) fl_X3_add_9 rfl dX3_add_10 ?_
    refine gz_aload_n (pc := 13) F dX3_add_13 rfl 0 rfl ?_
    refine gz_get (pc := 14) (v := vI (Mc_n u)) F hn_X3_add_X3 0 3 rfl rfl 5 (by decide) fl_X3_add_27 rfl dX3_add_14 ?_
    have b14 := hu.1
    refine gz_iload_n (pc := 17) F dX3_add_17 rfl 1 rfl ?_
    refine gz_iast (pc := 18) (f := Mc_fe u) (ws2 := McW cI a ((Mc_n u, zU (Mc_fe u) (Mc_n u) p0, Mc_ow u, Mc_bf u, Mc_bu u, Mc_ru u))) F 1 rfl (by omega) (by decide) rfl dX3_add_18 ?_
    refine gz_aload_n (pc := 19) F dX3_add_19 rfl 0 rfl ?_
    refine gz_get (pc := 20) (v := .ref (a 2)) F hn_X3_add_X3 0 3 rfl rfl 1 (by decide) fl_X3_add_15 rfl dX3_add_20 ?_
    refine gz_aload_n (pc := 23) F dX3_add_23 rfl 0 rfl ?_
    refine gz_get (pc := 24) (v := vI (Mc_n u)) F hn_X3_add_X3 0 3 rfl rfl 5 (by decide) fl_X3_add_27 rfl dX3_add_24 ?_
    have b24 := hu.1
    refine gz_iload_n (pc := 27) F dX3_add_27 rfl 2 rfl ?_
    refine gz_iast (pc := 28) (f := Mc_ow u) (ws2 := McW cI a ((Mc_n u, zU (Mc_fe u) (Mc_n u) p0, zU (Mc_ow u) (Mc_n u) p1, Mc_bf u, Mc_bu u, Mc_ru u))) F 2 rfl (by omega) (by decide) rfl dX3_add_28 ?_
    refine gz_aload_n (pc := 29) F dX3_add_29 rfl 0 rfl ?_
    refine gz_get (pc := 30) (v := .ref (a 3)) F hn_X3_add_X3 0 3 rfl rfl 2 (by decide) fl_X3_add_18 rfl dX3_add_30 ?_
    refine gz_aload_n (pc := 33) F dX3_add_33 rfl 0 rfl ?_
    refine gz_get (pc := 34) (v := vI (Mc_n u)) F hn_X3_add_X3 0 3 rfl rfl 5 (by decide) fl_X3_add_27 rfl dX3_add_34 ?_
    have b34 := hu.1
    refine gz_const (pc := 37) F dX3_add_37 ?_
    refine gz_iast (pc := 38) (f := Mc_bf u) (ws2 := McW cI a ((Mc_n u, zU (Mc_fe u) (Mc_n u) p0, zU (Mc_ow u) (Mc_n u) p1, zU (Mc_bf u) (Mc_n u) 0, Mc_bu u, Mc_ru u))) F 3 rfl (by omega) (by decide) rfl dX3_add_38 ?_
    refine gz_aload_n (pc := 39) F dX3_add_39 rfl 0 rfl ?_
    refine gz_get (pc := 40) (v := .ref (a 4)) F hn_X3_add_X3 0 3 rfl rfl 3 (by decide) fl_X3_add_21 rfl dX3_add_40 ?_
    refine gz_aload_n (pc := 43) F dX3_add_43 rfl 0 rfl ?_
    refine gz_get (pc := 44) (v := vI (Mc_n u)) F hn_X3_add_X3 0 3 rfl rfl 5 (by decide) fl_X3_add_27 rfl dX3_add_44 ?_
    have b44 := hu.1
    refine gz_const (pc := 47) F dX3_add_47 ?_
    refine gz_iast (pc := 48) (f := Mc_bu u) (ws2 := McW cI a ((Mc_n u, zU (Mc_fe u) (Mc_n u) p0, zU (Mc_ow u) (Mc_n u) p1, zU (Mc_bf u) (Mc_n u) 0, zU (Mc_bu u) (Mc_n u) 0, Mc_ru u))) F 4 rfl (by omega) (by decide) rfl dX3_add_48 ?_
    refine gz_aload_n (pc := 49) F dX3_add_49 rfl 0 rfl ?_
    refine gz_get (pc := 50) (v := .ref (a 5)) F hn_X3_add_X3 0 3 rfl rfl 4 (by decide) fl_X3_add_24 rfl dX3_add_50 ?_
    refine gz_aload_n (pc := 53) F dX3_add_53 rfl 0 rfl ?_
    refine gz_get (pc := 54) (v := vI (Mc_n u)) F hn_X3_add_X3 0 3 rfl rfl 5 (by decide) fl_X3_add_27 rfl dX3_add_54 ?_
    have b54 := hu.1
    refine gz_const (pc := 57) F dX3_add_57 ?_
    refine gz_iast (pc := 58) (f := Mc_ru u) (ws2 := McW cI a ((Mc_n u, zU (Mc_fe u) (Mc_n u) p0, zU (Mc_ow u) (Mc_n u) p1, zU (Mc_bf u) (Mc_n u) 0, zU (Mc_bu u) (Mc_n u) 0, zU (Mc_ru u) (Mc_n u) (-1)))) F 5 rfl (by omega) (by decide) rfl dX3_add_58 ?_
    refine gz_aload_n (pc := 59) F dX3_add_59 rfl 0 rfl ?_
    refine gz_dup (pc := 60) F dX3_add_60 rfl ?_
    refine gz_get (pc := 61) (v := vI (Mc_n u)) F hn_X3_add_X3 0 3 rfl rfl 5 (by decide) fl_X3_add_27 rfl dX3_add_61 ?_
    have b61 := hu.1
    refine gz_const (pc := 64) F dX3_add_64 ?_
    refine gz_iadd (pc := 65) F dX3_add_65 ?_
    refine gz_put (pc := 66) (ws2 := McW cI a (((Mc_n u) + 1, zU (Mc_fe u) (Mc_n u) p0, zU (Mc_ow u) (Mc_n u) p1, zU (Mc_bf u) (Mc_n u) 0, zU (Mc_bu u) (Mc_n u) 0, zU (Mc_ru u) (Mc_n u) (-1)))) F hn_X3_add_X3 tyX3 tyX3_ok nmX3 0 3 rfl rfl 5 (by decide) fl_X3_add_27 rfl (ty := .int) rfl rfl rfl (Nat.le_of_ble_eq_true rfl) rfl dX3_add_66 ?_
    refine Z _ _ 69 dX3_add_69 ?_
    refine ⟨rfl, ?_⟩
    first | (rw [Mc_add, if_pos ((show Mc_n u < 6 by omega))] <;> rfl) | (rw [Mc_add, if_neg ((show ¬ Mc_n u < 6 by omega))] <;> rfl)

theorem hn_X2_add_X2 : ∀ w ∈ u_ws RX2 TX2 5, w ∈ wsX2_add := by decide +kernel
theorem fl_X2_add_24 : Cond.fieldLink RX2 24 (TX2 4).1 (TX2 4).2.1 (TX2 4).2.2.1 ∈ wsX2_add := by decide +kernel
theorem fl_X2_add_9 : Cond.fieldLink RX2 9 (TX2 0).1 (TX2 0).2.1 (TX2 0).2.2.1 ∈ wsX2_add := by decide +kernel
theorem fl_X2_add_15 : Cond.fieldLink RX2 15 (TX2 1).1 (TX2 1).2.1 (TX2 1).2.2.1 ∈ wsX2_add := by decide +kernel
theorem fl_X2_add_18 : Cond.fieldLink RX2 18 (TX2 2).1 (TX2 2).2.1 (TX2 2).2.2.1 ∈ wsX2_add := by decide +kernel
theorem fl_X2_add_21 : Cond.fieldLink RX2 21 (TX2 3).1 (TX2 3).2.1 (TX2 3).2.2.1 ∈ wsX2_add := by decide +kernel
set_option maxHeartbeats 4000000 in
set_option maxRecDepth 100000 in
theorem ct_X2_add (l : Launch) (D : va_G) (cI cJ cZ : ClassId) (a : Nat → Nat) (u : LoS) (p0 p1 p2 p3 : Int) (hu : LoI u)  : gz_M l yX2_add wsX2_add { frames := 0, cells := 0, slots := 0, locals := 0 } D cI cJ cZ [.ref (a 0), vI p0, vI p1, vI p2, vI p3] (LoW cI a u) (gz_pE (LoW cI a (Lo_add u p0 p1 p2 p3))) := by
  refine gz_ofV (cc := cX2_add) (maxL := 5) (own := RX2) (by decide) rfl rfl (Nat.le_of_ble_eq_true rfl) (lv0 := [(0, .ref (a 0)), (1, vI p0), (2, vI p1), (3, vI p2), (4, vI p3)]) rfl ?_
  intro p e s m args below meth c A Q F Z
  have hn := hu.1
  refine gz_aload_n (pc := 0) F dX2_add_0 rfl 0 rfl ?_
  refine gz_get (pc := 1) (v := vI (Lo_n u)) F hn_X2_add_X2 0 2 rfl rfl 4 (by decide) fl_X2_add_24 rfl dX2_add_1 ?_
  have b1 := hu.1
  refine gz_bipush (pc := 4) F dX2_add_4 (by decide) ?_
  refine gz_icmp_ge (pc := 6) (tgt := 60) F dX2_add_6 (by decide) (by omega) (by omega) (fun c6 => ?_) (fun c6 => ?_)
  · refine Z _ _ 60 dX2_add_60 ?_
    refine ⟨rfl, ?_⟩
    first | (rw [Lo_add, if_pos ((show Lo_n u < 20 by omega))] <;> rfl) | (rw [Lo_add, if_neg ((show ¬ Lo_n u < 20 by omega))] <;> rfl)
  · refine gz_aload_n (pc := 9) F dX2_add_9 rfl 0 rfl ?_
    refine gz_get (pc := 10) (v := .ref (a 1)) F hn_X2_add_X2 0 2 rfl rfl 0 (by decide) fl_X2_add_9 rfl dX2_add_10 ?_
    refine gz_aload_n (pc := 13) F dX2_add_13 rfl 0 rfl ?_
    refine gz_get (pc := 14) (v := vI (Lo_n u)) F hn_X2_add_X2 0 2 rfl rfl 4 (by decide) fl_X2_add_24 rfl dX2_add_14 ?_
    have b14 := hu.1
    refine gz_iload_n (pc := 17) F dX2_add_17 rfl 1 rfl ?_
    refine gz_iast (pc := 18) (f := Lo_ma u) (ws2 := LoW cI a ((Lo_n u, zU (Lo_ma u) (Lo_n u) p0, Lo_pe u, Lo_fr u, Lo_to u))) F 1 rfl (by omega) (by decide) rfl dX2_add_18 ?_
    refine gz_aload_n (pc := 19) F dX2_add_19 rfl 0 rfl ?_
    refine gz_get (pc := 20) (v := .ref (a 2)) F hn_X2_add_X2 0 2 rfl rfl 1 (by decide) fl_X2_add_15 rfl dX2_add_20 ?_
    refine gz_aload_n (pc := 23) F dX2_add_23 rfl 0 rfl ?_
    refine gz_get (pc := 24) (v := vI (Lo_n u)) F hn_X2_add_X2 0 2 rfl rfl 4 (by decide) fl_X2_add_24 rfl dX2_add_24 ?_
    have b24 := hu.1
    refine gz_iload_n (pc := 27) F dX2_add_27 rfl 2 rfl ?_
    refine gz_iast (pc := 28) (f := Lo_pe u) (ws2 := LoW cI a ((Lo_n u, zU (Lo_ma u) (Lo_n u) p0, zU (Lo_pe u) (Lo_n u) p1, Lo_fr u, Lo_to u))) F 2 rfl (by omega) (by decide) rfl dX2_add_28 ?_
    refine gz_aload_n (pc := 29) F dX2_add_29 rfl 0 rfl ?_
    refine gz_get (pc := 30) (v := .ref (a 3)) F hn_X2_add_X2 0 2 rfl rfl 2 (by decide) fl_X2_add_18 rfl dX2_add_30 ?_
    refine gz_aload_n (pc := 33) F dX2_add_33 rfl 0 rfl ?_
    refine gz_get (pc := 34) (v := vI (Lo_n u)) F hn_X2_add_X2 0 2 rfl rfl 4 (by decide) fl_X2_add_24 rfl dX2_add_34 ?_
    have b34 := hu.1
    refine gz_iload_n (pc := 37) F dX2_add_37 rfl 3 rfl ?_
    refine gz_iast (pc := 38) (f := Lo_fr u) (ws2 := LoW cI a ((Lo_n u, zU (Lo_ma u) (Lo_n u) p0, zU (Lo_pe u) (Lo_n u) p1, zU (Lo_fr u) (Lo_n u) p2, Lo_to u))) F 3 rfl (by omega) (by decide) rfl dX2_add_38 ?_
    refine gz_aload_n (pc := 39) F dX2_add_39 rfl 0 rfl ?_
    refine gz_get (pc := 40) (v := .ref (a 4)) F hn_X2_add_X2 0 2 rfl rfl 3 (by decide) fl_X2_add_21 rfl dX2_add_40 ?_
    refine gz_aload_n (pc := 43) F dX2_add_43 rfl 0 rfl ?_
    refine gz_get (pc := 44) (v := vI (Lo_n u)) F hn_X2_add_X2 0 2 rfl rfl 4 (by decide) fl_X2_add_24 rfl dX2_add_44 ?_
    have b44 := hu.1
    refine gz_iload (pc := 47) F dX2_add_47 4 rfl ?_
    refine gz_iast (pc := 49) (f := Lo_to u) (ws2 := LoW cI a ((Lo_n u, zU (Lo_ma u) (Lo_n u) p0, zU (Lo_pe u) (Lo_n u) p1, zU (Lo_fr u) (Lo_n u) p2, zU (Lo_to u) (Lo_n u) p3))) F 4 rfl (by omega) (by decide) rfl dX2_add_49 ?_
    refine gz_aload_n (pc := 50) F dX2_add_50 rfl 0 rfl ?_
    refine gz_dup (pc := 51) F dX2_add_51 rfl ?_
    refine gz_get (pc := 52) (v := vI (Lo_n u)) F hn_X2_add_X2 0 2 rfl rfl 4 (by decide) fl_X2_add_24 rfl dX2_add_52 ?_
    have b52 := hu.1
    refine gz_const (pc := 55) F dX2_add_55 ?_
    refine gz_iadd (pc := 56) F dX2_add_56 ?_
    refine gz_put (pc := 57) (ws2 := LoW cI a (((Lo_n u) + 1, zU (Lo_ma u) (Lo_n u) p0, zU (Lo_pe u) (Lo_n u) p1, zU (Lo_fr u) (Lo_n u) p2, zU (Lo_to u) (Lo_n u) p3))) F hn_X2_add_X2 tyX2 tyX2_ok nmX2 0 2 rfl rfl 4 (by decide) fl_X2_add_24 rfl (ty := .int) rfl rfl rfl (Nat.le_of_ble_eq_true rfl) rfl dX2_add_57 ?_
    refine Z _ _ 60 dX2_add_60 ?_
    refine ⟨rfl, ?_⟩
    first | (rw [Lo_add, if_pos ((show Lo_n u < 20 by omega))] <;> rfl) | (rw [Lo_add, if_neg ((show ¬ Lo_n u < 20 by omega))] <;> rfl)

theorem hn_X4_endBy_X4 : ∀ w ∈ u_ws RX4 TX4 7, w ∈ wsX4_endBy := by decide +kernel
theorem fl_X4_endBy_30 : Cond.fieldLink RX4 30 (TX4 6).1 (TX4 6).2.1 (TX4 6).2.2.1 ∈ wsX4_endBy := by decide +kernel
theorem fl_X4_endBy_24 : Cond.fieldLink RX4 24 (TX4 4).1 (TX4 4).2.1 (TX4 4).2.2.1 ∈ wsX4_endBy := by decide +kernel
theorem fl_X4_endBy_15 : Cond.fieldLink RX4 15 (TX4 1).1 (TX4 1).2.1 (TX4 1).2.2.1 ∈ wsX4_endBy := by decide +kernel
theorem fl_X4_endBy_18 : Cond.fieldLink RX4 18 (TX4 2).1 (TX4 2).2.1 (TX4 2).2.2.1 ∈ wsX4_endBy := by decide +kernel
set_option maxHeartbeats 4000000 in
set_option maxRecDepth 100000 in
theorem ct_X4_endBy (l : Launch) (D : va_G) (cI cJ cZ : ClassId) (a : Nat → Nat) (u : MtS) (p0 : Int) (hu : MtI u) (h0 : 0 ≤ p0 ∧ p0 ≤ 1023) : gz_M l yX4_endBy wsX4_endBy { frames := 0, cells := 0, slots := 0, locals := 0 } D cI cJ cZ [.ref (a 0), vI p0] (MtW cI a u) (gz_pE (MtW cI a (Mt_endBy u p0))) := by
  refine gz_ofV (cc := cX4_endBy) (maxL := 3) (own := RX4) (by decide) rfl rfl (Nat.le_of_ble_eq_true rfl) (lv0 := [(0, .ref (a 0)), (1, vI p0)]) rfl ?_
  intro p e s m args below meth c A Q F Z
  have hn := hu.1
  have L2 : ∀ (N : Nat) (i : Int), (Mt_n u - i).toNat < N → (0 ≤ i ∧ i ≤ Mt_n u) → gG p l e ({ frames := 0, cells := 0, slots := 0, locals := 0 } : Room) s m args below meth c D A 3 Q 0 0 (MtW cI a (Mt_n u, Mt_pe u, Mt_sl u, Mt_ln u, Mt_ma u, Mt_over u p0 i, Mt_mv u)) [(0, .ref (a 0)), (1, vI p0), (2, vI i)] [] 2 := by
    intro N
    induction N with
    | zero => intro i hN; exact absurd hN (Nat.not_lt_zero _)
    | succ N ih2 =>
      intro i hN hi
      refine gz_iload_n (pc := 2) F dX4_endBy_2 rfl 2 rfl ?_
      refine gz_aload_n (pc := 3) F dX4_endBy_3 rfl 0 rfl ?_
      refine gz_get (pc := 4) (v := vI (Mt_n u)) F hn_X4_endBy_X4 0 4 rfl rfl 6 (by decide) fl_X4_endBy_30 rfl dX4_endBy_4 ?_
      have b4 := hu.1
      refine gz_icmp_ge (pc := 7) (tgt := 49) F dX4_endBy_7 (by decide) (by omega) (by omega) (fun c7 => ?_) (fun c7 => ?_)
      · refine Z _ _ 49 dX4_endBy_49 ?_
        exact ⟨rfl, by rw [show i = Mt_n u by omega]; rfl⟩
      · refine gz_aload_n (pc := 10) F dX4_endBy_10 rfl 0 rfl ?_
        refine gz_get (pc := 11) (v := .ref (a 5)) F hn_X4_endBy_X4 0 4 rfl rfl 4 (by decide) fl_X4_endBy_24 rfl dX4_endBy_11 ?_
        refine gz_iload_n (pc := 14) F dX4_endBy_14 rfl 2 rfl ?_
        refine gz_iald (pc := 15) (f := Mt_over u p0 i) F 5 rfl (by omega) (by decide) dX4_endBy_15 ?_
        have e15 : Mt_over u p0 i i = Mt_st u i := Mt_over_at
        rw [e15]
        have b15 := (hu.2 i).2.2.2.2
        refine gz_if_ne (pc := 16) (tgt := 43) F dX4_endBy_16 (by decide) (by omega) (fun c16 => ?_) (fun c16 => ?_)
        · refine gz_iinc (pc := 43) (lv2 := [(2, vI (i + 1)), (0, .ref (a 0)), (1, vI p0)]) F dX4_endBy_43 2 rfl (by decide) rfl ?_
          refine gz_goto (pc := 46) (tgt := 2) F dX4_endBy_46 (by decide) ?_
          refine gz_eqw (ws2 := MtW cI a ((Mt_n u, Mt_pe u, Mt_sl u, Mt_ln u, Mt_ma u, Mt_over u p0 (i + 1), Mt_mv u))) (by first | (rw [Mt_over_0]) | (rw [← Mt_over_yes hi.1 ⟨by omega, by omega⟩]) | (rw [← Mt_over_no (by omega)])) ?_
          refine gz_lv [1, 2, 0] rfl ?_
          exact ih2 (i + 1) (by omega) (by omega)
        · refine gz_aload_n (pc := 19) F dX4_endBy_19 rfl 0 rfl ?_
          refine gz_get (pc := 20) (v := .ref (a 2)) F hn_X4_endBy_X4 0 4 rfl rfl 1 (by decide) fl_X4_endBy_15 rfl dX4_endBy_20 ?_
          refine gz_iload_n (pc := 23) F dX4_endBy_23 rfl 2 rfl ?_
          refine gz_iald (pc := 24) (f := Mt_sl u) F 2 rfl (by omega) (by decide) dX4_endBy_24 ?_
          have b24 := (hu.2 i).2.1
          refine gz_aload_n (pc := 25) F dX4_endBy_25 rfl 0 rfl ?_
          refine gz_get (pc := 26) (v := .ref (a 3)) F hn_X4_endBy_X4 0 4 rfl rfl 2 (by decide) fl_X4_endBy_18 rfl dX4_endBy_26 ?_
          refine gz_iload_n (pc := 29) F dX4_endBy_29 rfl 2 rfl ?_
          refine gz_iald (pc := 30) (f := Mt_ln u) F 3 rfl (by omega) (by decide) dX4_endBy_30 ?_
          have b30 := (hu.2 i).2.2.1
          refine gz_iadd (pc := 31) F dX4_endBy_31 ?_
          refine gz_iload_n (pc := 32) F dX4_endBy_32 rfl 1 rfl ?_
          refine gz_icmp_gt (pc := 33) (tgt := 43) F dX4_endBy_33 (by decide) (by omega) (by omega) (fun c33 => ?_) (fun c33 => ?_)
          · refine gz_iinc (pc := 43) (lv2 := [(2, vI (i + 1)), (0, .ref (a 0)), (1, vI p0)]) F dX4_endBy_43 2 rfl (by decide) rfl ?_
            refine gz_goto (pc := 46) (tgt := 2) F dX4_endBy_46 (by decide) ?_
            refine gz_eqw (ws2 := MtW cI a ((Mt_n u, Mt_pe u, Mt_sl u, Mt_ln u, Mt_ma u, Mt_over u p0 (i + 1), Mt_mv u))) (by first | (rw [Mt_over_0]) | (rw [← Mt_over_yes hi.1 ⟨by omega, by omega⟩]) | (rw [← Mt_over_no (by omega)])) ?_
            refine gz_lv [1, 2, 0] rfl ?_
            exact ih2 (i + 1) (by omega) (by omega)
          · refine gz_aload_n (pc := 36) F dX4_endBy_36 rfl 0 rfl ?_
            refine gz_get (pc := 37) (v := .ref (a 5)) F hn_X4_endBy_X4 0 4 rfl rfl 4 (by decide) fl_X4_endBy_24 rfl dX4_endBy_37 ?_
            refine gz_iload_n (pc := 40) F dX4_endBy_40 rfl 2 rfl ?_
            refine gz_const (pc := 41) F dX4_endBy_41 ?_
            refine gz_iast (pc := 42) (f := Mt_over u p0 i) (ws2 := MtW cI a ((Mt_n u, Mt_pe u, Mt_sl u, Mt_ln u, Mt_ma u, zU (Mt_over u p0 i) i 2, Mt_mv u))) F 5 rfl (by omega) (by decide) rfl dX4_endBy_42 ?_
            refine gz_iinc (pc := 43) (lv2 := [(2, vI (i + 1)), (0, .ref (a 0)), (1, vI p0)]) F dX4_endBy_43 2 rfl (by decide) rfl ?_
            refine gz_goto (pc := 46) (tgt := 2) F dX4_endBy_46 (by decide) ?_
            refine gz_eqw (ws2 := MtW cI a ((Mt_n u, Mt_pe u, Mt_sl u, Mt_ln u, Mt_ma u, Mt_over u p0 (i + 1), Mt_mv u))) (by first | (rw [Mt_over_0]) | (rw [← Mt_over_yes hi.1 ⟨by omega, by omega⟩]) | (rw [← Mt_over_no (by omega)])) ?_
            refine gz_lv [1, 2, 0] rfl ?_
            exact ih2 (i + 1) (by omega) (by omega)
  refine gz_const (pc := 0) F dX4_endBy_0 ?_
  refine gz_istore_n (pc := 1) (lv2 := [(2, vI 0), (0, .ref (a 0)), (1, vI p0)]) F dX4_endBy_1 rfl (by decide) rfl ?_
  refine gz_eqw (ws2 := MtW cI a (Mt_n u, Mt_pe u, Mt_sl u, Mt_ln u, Mt_ma u, Mt_over u p0 0, Mt_mv u)) (by first | (rw [Mt_over_0]) | (rw [← Mt_over_yes hi.1 ⟨by omega, by omega⟩]) | (rw [← Mt_over_no (by omega)])) ?_
  refine gz_lv [1, 2, 0] rfl ?_
  exact L2 _ 0 (Nat.lt_succ_self _) (by omega)

theorem hn_X0_enqueue_X0 : ∀ w ∈ u_ws RX0 TX0 8, w ∈ wsX0_enqueue := by decide +kernel
theorem fl_X0_enqueue_21 : Cond.fieldLink RX0 21 (TX0 3).1 (TX0 3).2.1 (TX0 3).2.2.1 ∈ wsX0_enqueue := by decide +kernel
theorem fl_X0_enqueue_24 : Cond.fieldLink RX0 24 (TX0 4).1 (TX0 4).2.1 (TX0 4).2.2.1 ∈ wsX0_enqueue := by decide +kernel
theorem fl_X0_enqueue_27 : Cond.fieldLink RX0 27 (TX0 5).1 (TX0 5).2.1 (TX0 5).2.2.1 ∈ wsX0_enqueue := by decide +kernel
set_option maxHeartbeats 4000000 in
set_option maxRecDepth 100000 in
theorem ct_X0_enqueue (l : Launch) (D : va_G) (cI cJ cZ : ClassId) (a : Nat → Nat) (u : BuS) (p0 : Int) (hu : BuI u) (h0 : -2147483648 ≤ p0 ∧ p0 < 2147483648) : gz_M l yX0_enqueue wsX0_enqueue { frames := 1, cells := 0, slots := 0, locals := 21 } D cI cJ cZ [.ref (a 0), vI p0] (BuW cI a u) (gz_pE (BuW cI a (Bu_enq u p0))) := by
  refine gz_ofV (cc := cX0_enqueue) (maxL := 2) (own := RX0) (by decide) rfl rfl (Nat.le_of_ble_eq_true rfl) (lv0 := [(0, .ref (a 0)), (1, vI p0)]) rfl ?_
  intro p e s m args below meth c A Q F Z
  have hn := hu.1
  refine gz_aload_n (pc := 0) F dX0_enqueue_0 rfl 0 rfl ?_
  refine gz_iload_n (pc := 1) F dX0_enqueue_1 rfl 1 rfl ?_
  refine gz_callV (pc := 2) (n := 1) (As := [vI p0]) (rest := []) (bytes := cX0_knows) (maxL := 2) (ret := some .boolean) F (ct_X0_knows l D cI cJ cZ a u p0 hu (by omega)) gX0_enqueue_X0_knows rfl ⟨rfl, rfl⟩ (by decide +kernel) ⟨Nat.le_of_ble_eq_true rfl, Nat.le_of_ble_eq_true rfl⟩ rfl [0, 1, 2, 3, 4, 5, 6, 7] rfl (by decide) 0 0 rfl rfl rfl (by decide) ⟨Nat.zero_le _, Nat.zero_le _⟩ gz_pI_sh dX0_enqueue_2 ?_
  refine gz_kI rfl (fun r2 h2 => ?_)
  subst h2
  refine gz_if_eqb (pc := 5) (tgt := 29) F dX0_enqueue_5 (by decide) (fun c5 => ?_) (fun c5 => ?_)
  · refine Z _ _ 29 dX0_enqueue_29 ?_
    first | exact ⟨rfl, by rw [Bu_enq, if_pos c5]⟩ | exact ⟨rfl, by rw [Bu_enq, if_neg c5]⟩
  · refine gz_aload_n (pc := 8) F dX0_enqueue_8 rfl 0 rfl ?_
    refine gz_get (pc := 9) (v := .ref (a 4)) F hn_X0_enqueue_X0 0 0 rfl rfl 3 (by decide) fl_X0_enqueue_21 rfl dX0_enqueue_9 ?_
    refine gz_iload_n (pc := 12) F dX0_enqueue_12 rfl 1 rfl ?_
    refine gz_const (pc := 13) F dX0_enqueue_13 ?_
    refine gz_iast (pc := 14) (f := Bu_st u) (ws2 := BuW cI a ((Bu_n u, Bu_ne u, Bu_ur u, Bu_ln u, zU (Bu_st u) p0 0, Bu_ma u, Bu_bg u, Bu_ti u))) F 4 rfl (by omega) (by decide) rfl dX0_enqueue_14 ?_
    refine gz_aload_n (pc := 15) F dX0_enqueue_15 rfl 0 rfl ?_
    refine gz_get (pc := 16) (v := .ref (a 5)) F hn_X0_enqueue_X0 0 0 rfl rfl 4 (by decide) fl_X0_enqueue_24 rfl dX0_enqueue_16 ?_
    refine gz_iload_n (pc := 19) F dX0_enqueue_19 rfl 1 rfl ?_
    refine gz_const (pc := 20) F dX0_enqueue_20 ?_
    refine gz_iast (pc := 21) (f := Bu_ma u) (ws2 := BuW cI a ((Bu_n u, Bu_ne u, Bu_ur u, Bu_ln u, zU (Bu_st u) p0 0, zU (Bu_ma u) p0 (-1), Bu_bg u, Bu_ti u))) F 5 rfl (by omega) (by decide) rfl dX0_enqueue_21 ?_
    refine gz_aload_n (pc := 22) F dX0_enqueue_22 rfl 0 rfl ?_
    refine gz_get (pc := 23) (v := .ref (a 6)) F hn_X0_enqueue_X0 0 0 rfl rfl 5 (by decide) fl_X0_enqueue_27 rfl dX0_enqueue_23 ?_
    refine gz_iload_n (pc := 26) F dX0_enqueue_26 rfl 1 rfl ?_
    refine gz_const (pc := 27) F dX0_enqueue_27 ?_
    refine gz_iast (pc := 28) (f := Bu_bg u) (ws2 := BuW cI a ((Bu_n u, Bu_ne u, Bu_ur u, Bu_ln u, zU (Bu_st u) p0 0, zU (Bu_ma u) p0 (-1), zU (Bu_bg u) p0 (-1), Bu_ti u))) F 6 rfl (by omega) (by decide) rfl dX0_enqueue_28 ?_
    refine Z _ _ 29 dX0_enqueue_29 ?_
    first | exact ⟨rfl, by rw [Bu_enq, if_pos c5]⟩ | exact ⟨rfl, by rw [Bu_enq, if_neg c5]⟩

theorem hn_X0_add_X0 : ∀ w ∈ u_ws RX0 TX0 8, w ∈ wsX0_add := by decide +kernel
theorem fl_X0_add_33 : Cond.fieldLink RX0 33 (TX0 7).1 (TX0 7).2.1 (TX0 7).2.2.1 ∈ wsX0_add := by decide +kernel
theorem fl_X0_add_9 : Cond.fieldLink RX0 9 (TX0 0).1 (TX0 0).2.1 (TX0 0).2.2.1 ∈ wsX0_add := by decide +kernel
theorem fl_X0_add_15 : Cond.fieldLink RX0 15 (TX0 1).1 (TX0 1).2.1 (TX0 1).2.2.1 ∈ wsX0_add := by decide +kernel
theorem fl_X0_add_18 : Cond.fieldLink RX0 18 (TX0 2).1 (TX0 2).2.1 (TX0 2).2.2.1 ∈ wsX0_add := by decide +kernel
theorem fl_X0_add_30 : Cond.fieldLink RX0 30 (TX0 6).1 (TX0 6).2.1 (TX0 6).2.2.1 ∈ wsX0_add := by decide +kernel
set_option maxHeartbeats 4000000 in
set_option maxRecDepth 100000 in
theorem ct_X0_add (l : Launch) (D : va_G) (cI cJ cZ : ClassId) (a : Nat → Nat) (u : BuS) (p0 p1 p2 : Int) (hu : BuI u) (h0 : zR2 p0) (h1 : zR p1) (h2 : zR0 p2) : gz_M l yX0_add wsX0_add { frames := 2, cells := 0, slots := 0, locals := 42 } D cI cJ cZ [.ref (a 0), vI p0, vI p1, vI p2] (BuW cI a u) (gz_pE (BuW cI a (Bu_add u p0 p1 p2))) := by
  refine gz_ofV (cc := cX0_add) (maxL := 4) (own := RX0) (by decide) rfl rfl (Nat.le_of_ble_eq_true rfl) (lv0 := [(0, .ref (a 0)), (1, vI p0), (2, vI p1), (3, vI p2)]) rfl ?_
  intro p e s m args below meth c A Q F Z
  have hn := hu.1
  refine gz_aload_n (pc := 0) F dX0_add_0 rfl 0 rfl ?_
  refine gz_get (pc := 1) (v := vI (Bu_n u)) F hn_X0_add_X0 0 0 rfl rfl 7 (by decide) fl_X0_add_33 rfl dX0_add_1 ?_
  have b1 := hu.1
  refine gz_bipush (pc := 4) F dX0_add_4 (by decide) ?_
  refine gz_icmp_ge (pc := 6) (tgt := 69) F dX0_add_6 (by decide) (by omega) (by omega) (fun c6 => ?_) (fun c6 => ?_)
  · refine Z _ _ 69 dX0_add_69 ?_
    first | exact ⟨rfl, by rw [Bu_add, if_pos (show Bu_n u < 40 by omega)]⟩ | exact ⟨rfl, by rw [Bu_add, if_neg (show ¬ Bu_n u < 40 by omega)]⟩
  · refine gz_aload_n (pc := 9) F dX0_add_9 rfl 0 rfl ?_
    refine gz_get (pc := 10) (v := .ref (a 1)) F hn_X0_add_X0 0 0 rfl rfl 0 (by decide) fl_X0_add_9 rfl dX0_add_10 ?_
    refine gz_aload_n (pc := 13) F dX0_add_13 rfl 0 rfl ?_
    refine gz_get (pc := 14) (v := vI (Bu_n u)) F hn_X0_add_X0 0 0 rfl rfl 7 (by decide) fl_X0_add_33 rfl dX0_add_14 ?_
    have b14 := hu.1
    refine gz_iload_n (pc := 17) F dX0_add_17 rfl 1 rfl ?_
    refine gz_iast (pc := 18) (f := Bu_ne u) (ws2 := BuW cI a ((Bu_n u, zU (Bu_ne u) (Bu_n u) p0, Bu_ur u, Bu_ln u, Bu_st u, Bu_ma u, Bu_bg u, Bu_ti u))) F 1 rfl (by omega) (by decide) rfl dX0_add_18 ?_
    refine gz_aload_n (pc := 19) F dX0_add_19 rfl 0 rfl ?_
    refine gz_get (pc := 20) (v := .ref (a 2)) F hn_X0_add_X0 0 0 rfl rfl 1 (by decide) fl_X0_add_15 rfl dX0_add_20 ?_
    refine gz_aload_n (pc := 23) F dX0_add_23 rfl 0 rfl ?_
    refine gz_get (pc := 24) (v := vI (Bu_n u)) F hn_X0_add_X0 0 0 rfl rfl 7 (by decide) fl_X0_add_33 rfl dX0_add_24 ?_
    have b24 := hu.1
    refine gz_iload_n (pc := 27) F dX0_add_27 rfl 2 rfl ?_
    refine gz_iast (pc := 28) (f := Bu_ur u) (ws2 := BuW cI a ((Bu_n u, zU (Bu_ne u) (Bu_n u) p0, zU (Bu_ur u) (Bu_n u) p1, Bu_ln u, Bu_st u, Bu_ma u, Bu_bg u, Bu_ti u))) F 2 rfl (by omega) (by decide) rfl dX0_add_28 ?_
    refine gz_aload_n (pc := 29) F dX0_add_29 rfl 0 rfl ?_
    refine gz_get (pc := 30) (v := .ref (a 3)) F hn_X0_add_X0 0 0 rfl rfl 2 (by decide) fl_X0_add_18 rfl dX0_add_30 ?_
    refine gz_aload_n (pc := 33) F dX0_add_33 rfl 0 rfl ?_
    refine gz_get (pc := 34) (v := vI (Bu_n u)) F hn_X0_add_X0 0 0 rfl rfl 7 (by decide) fl_X0_add_33 rfl dX0_add_34 ?_
    have b34 := hu.1
    refine gz_iload_n (pc := 37) F dX0_add_37 rfl 3 rfl ?_
    refine gz_iast (pc := 38) (f := Bu_ln u) (ws2 := BuW cI a ((Bu_n u, zU (Bu_ne u) (Bu_n u) p0, zU (Bu_ur u) (Bu_n u) p1, zU (Bu_ln u) (Bu_n u) p2, Bu_st u, Bu_ma u, Bu_bg u, Bu_ti u))) F 3 rfl (by omega) (by decide) rfl dX0_add_38 ?_
    refine gz_aload_n (pc := 39) F dX0_add_39 rfl 0 rfl ?_
    refine gz_get (pc := 40) (v := .ref (a 7)) F hn_X0_add_X0 0 0 rfl rfl 6 (by decide) fl_X0_add_30 rfl dX0_add_40 ?_
    refine gz_aload_n (pc := 43) F dX0_add_43 rfl 0 rfl ?_
    refine gz_get (pc := 44) (v := vI (Bu_n u)) F hn_X0_add_X0 0 0 rfl rfl 7 (by decide) fl_X0_add_33 rfl dX0_add_44 ?_
    have b44 := hu.1
    refine gz_const (pc := 47) F dX0_add_47 ?_
    refine gz_iast (pc := 48) (f := Bu_ti u) (ws2 := BuW cI a ((Bu_n u, zU (Bu_ne u) (Bu_n u) p0, zU (Bu_ur u) (Bu_n u) p1, zU (Bu_ln u) (Bu_n u) p2, Bu_st u, Bu_ma u, Bu_bg u, zU (Bu_ti u) (Bu_n u) 0))) F 7 rfl (by omega) (by decide) rfl dX0_add_48 ?_
    refine gz_aload_n (pc := 49) F dX0_add_49 rfl 0 rfl ?_
    refine gz_dup (pc := 50) F dX0_add_50 rfl ?_
    refine gz_get (pc := 51) (v := vI (Bu_n u)) F hn_X0_add_X0 0 0 rfl rfl 7 (by decide) fl_X0_add_33 rfl dX0_add_51 ?_
    have b51 := hu.1
    refine gz_const (pc := 54) F dX0_add_54 ?_
    refine gz_iadd (pc := 55) F dX0_add_55 ?_
    refine gz_put (pc := 56) (ws2 := BuW cI a (((Bu_n u) + 1, zU (Bu_ne u) (Bu_n u) p0, zU (Bu_ur u) (Bu_n u) p1, zU (Bu_ln u) (Bu_n u) p2, Bu_st u, Bu_ma u, Bu_bg u, zU (Bu_ti u) (Bu_n u) 0))) F hn_X0_add_X0 tyX0 tyX0_ok nmX0 0 0 rfl rfl 7 (by decide) fl_X0_add_33 rfl (ty := .int) rfl rfl rfl (Nat.le_of_ble_eq_true rfl) rfl dX0_add_56 ?_
    refine gz_aload_n (pc := 59) F dX0_add_59 rfl 0 rfl ?_
    refine gz_aload_n (pc := 60) F dX0_add_60 rfl 0 rfl ?_
    refine gz_get (pc := 61) (v := vI ((Bu_n u) + 1)) F hn_X0_add_X0 0 0 rfl rfl 7 (by decide) fl_X0_add_33 rfl dX0_add_61 ?_
    refine gz_const (pc := 64) F dX0_add_64 ?_
    refine gz_isub (pc := 65) F dX0_add_65 ?_
    refine gz_callV (pc := 66) (n := 1) (As := [vI (((Bu_n u) + 1) - 1)]) (rest := []) (bytes := cX0_enqueue) (maxL := 2) (ret := none) F (ct_X0_enqueue l D cI cJ cZ a (((Bu_n u) + 1, zU (Bu_ne u) (Bu_n u) p0, zU (Bu_ur u) (Bu_n u) p1, zU (Bu_ln u) (Bu_n u) p2, Bu_st u, Bu_ma u, Bu_bg u, zU (Bu_ti u) (Bu_n u) 0)) (((Bu_n u) + 1) - 1) (Bu_addI0 hu (by omega) h0 h1 h2) (by omega)) gX0_add_X0_enqueue rfl ⟨rfl, rfl⟩ (by decide +kernel) ⟨Nat.le_of_ble_eq_true rfl, Nat.le_of_ble_eq_true rfl⟩ rfl [0, 1, 2, 3, 4, 5, 6, 7] rfl (by decide) 0 0 rfl rfl rfl (by decide) ⟨Nat.zero_le _, Nat.zero_le _⟩ (gz_pE_sh rfl) dX0_add_66 ?_
    refine gz_kE (ws2 := BuW cI a (Bu_enq (((Bu_n u) + 1, zU (Bu_ne u) (Bu_n u) p0, zU (Bu_ur u) (Bu_n u) p1, zU (Bu_ln u) (Bu_n u) p2, Bu_st u, Bu_ma u, Bu_bg u, zU (Bu_ti u) (Bu_n u) 0)) (((Bu_n u) + 1) - 1))) rfl ?_
    refine Z _ _ 69 dX0_add_69 ?_
    first | exact ⟨rfl, by rw [Bu_add, if_pos (show Bu_n u < 40 by omega)]⟩ | exact ⟨rfl, by rw [Bu_add, if_neg (show ¬ Bu_n u < 40 by omega)]⟩

theorem hn_X0_setUrgency_X0 : ∀ w ∈ u_ws RX0 TX0 8, w ∈ wsX0_setUrgency := by decide +kernel
theorem fl_X0_setUrgency_15 : Cond.fieldLink RX0 15 (TX0 1).1 (TX0 1).2.1 (TX0 1).2.2.1 ∈ wsX0_setUrgency := by decide +kernel
set_option maxHeartbeats 4000000 in
set_option maxRecDepth 100000 in
theorem ct_X0_setUrgency (l : Launch) (D : va_G) (cI cJ cZ : ClassId) (a : Nat → Nat) (u : BuS) (p0 p1 : Int) (hu : BuI u) (h0 : -2147483648 ≤ p0 ∧ p0 < 2147483648) : gz_M l yX0_setUrgency wsX0_setUrgency { frames := 1, cells := 0, slots := 0, locals := 21 } D cI cJ cZ [.ref (a 0), vI p0, vI p1] (BuW cI a u) (gz_pE (BuW cI a (Bu_setU u p0 p1))) := by
  refine gz_ofV (cc := cX0_setUrgency) (maxL := 3) (own := RX0) (by decide) rfl rfl (Nat.le_of_ble_eq_true rfl) (lv0 := [(0, .ref (a 0)), (1, vI p0), (2, vI p1)]) rfl ?_
  intro p e s m args below meth c A Q F Z
  have hn := hu.1
  refine gz_aload_n (pc := 0) F dX0_setUrgency_0 rfl 0 rfl ?_
  refine gz_iload_n (pc := 1) F dX0_setUrgency_1 rfl 1 rfl ?_
  refine gz_callV (pc := 2) (n := 1) (As := [vI p0]) (rest := []) (bytes := cX0_knows) (maxL := 2) (ret := some .boolean) F (ct_X0_knows l D cI cJ cZ a u p0 hu (by omega)) gX0_setUrgency_X0_knows rfl ⟨rfl, rfl⟩ (by decide +kernel) ⟨Nat.le_of_ble_eq_true rfl, Nat.le_of_ble_eq_true rfl⟩ rfl [0, 1, 2, 3, 4, 5, 6, 7] rfl (by decide) 0 0 rfl rfl rfl (by decide) ⟨Nat.zero_le _, Nat.zero_le _⟩ gz_pI_sh dX0_setUrgency_2 ?_
  refine gz_kI rfl (fun r2 h2 => ?_)
  subst h2
  refine gz_if_eqb (pc := 5) (tgt := 15) F dX0_setUrgency_5 (by decide) (fun c5 => ?_) (fun c5 => ?_)
  · refine Z _ _ 15 dX0_setUrgency_15 ?_
    first | exact ⟨rfl, by rw [Bu_setU, if_pos c5]⟩ | exact ⟨rfl, by rw [Bu_setU, if_neg c5]⟩
  · refine gz_aload_n (pc := 8) F dX0_setUrgency_8 rfl 0 rfl ?_
    refine gz_get (pc := 9) (v := .ref (a 2)) F hn_X0_setUrgency_X0 0 0 rfl rfl 1 (by decide) fl_X0_setUrgency_15 rfl dX0_setUrgency_9 ?_
    refine gz_iload_n (pc := 12) F dX0_setUrgency_12 rfl 1 rfl ?_
    refine gz_iload_n (pc := 13) F dX0_setUrgency_13 rfl 2 rfl ?_
    refine gz_iast (pc := 14) (f := Bu_ur u) (ws2 := BuW cI a ((Bu_n u, Bu_ne u, zU (Bu_ur u) p0 p1, Bu_ln u, Bu_st u, Bu_ma u, Bu_bg u, Bu_ti u))) F 2 rfl (by omega) (by decide) rfl dX0_setUrgency_14 ?_
    refine Z _ _ 15 dX0_setUrgency_15 ?_
    first | exact ⟨rfl, by rw [Bu_setU, if_pos c5]⟩ | exact ⟨rfl, by rw [Bu_setU, if_neg c5]⟩

theorem hn_X0_begin_X0 : ∀ w ∈ u_ws RX0 TX0 8, w ∈ wsX0_begin := by decide +kernel
theorem fl_X0_begin_21 : Cond.fieldLink RX0 21 (TX0 3).1 (TX0 3).2.1 (TX0 3).2.2.1 ∈ wsX0_begin := by decide +kernel
theorem fl_X0_begin_24 : Cond.fieldLink RX0 24 (TX0 4).1 (TX0 4).2.1 (TX0 4).2.2.1 ∈ wsX0_begin := by decide +kernel
theorem fl_X0_begin_27 : Cond.fieldLink RX0 27 (TX0 5).1 (TX0 5).2.1 (TX0 5).2.2.1 ∈ wsX0_begin := by decide +kernel
theorem fl_X0_begin_30 : Cond.fieldLink RX0 30 (TX0 6).1 (TX0 6).2.1 (TX0 6).2.2.1 ∈ wsX0_begin := by decide +kernel
set_option maxHeartbeats 4000000 in
set_option maxRecDepth 100000 in
theorem ct_X0_begin (l : Launch) (D : va_G) (cI cJ cZ : ClassId) (a : Nat → Nat) (u : BuS) (p0 p1 p2 : Int) (hu : BuI u) (h0 : -2147483648 ≤ p0 ∧ p0 < 2147483648) : gz_M l yX0_begin wsX0_begin { frames := 1, cells := 0, slots := 0, locals := 21 } D cI cJ cZ [.ref (a 0), vI p0, vI p1, vI p2] (BuW cI a u) (gz_pE (BuW cI a (Bu_beg u p0 p1 p2))) := by
  refine gz_ofV (cc := cX0_begin) (maxL := 4) (own := RX0) (by decide) rfl rfl (Nat.le_of_ble_eq_true rfl) (lv0 := [(0, .ref (a 0)), (1, vI p0), (2, vI p1), (3, vI p2)]) rfl ?_
  intro p e s m args below meth c A Q F Z
  have hn := hu.1
  refine gz_aload_n (pc := 0) F dX0_begin_0 rfl 0 rfl ?_
  refine gz_iload_n (pc := 1) F dX0_begin_1 rfl 1 rfl ?_
  refine gz_callV (pc := 2) (n := 1) (As := [vI p0]) (rest := []) (bytes := cX0_knows) (maxL := 2) (ret := some .boolean) F (ct_X0_knows l D cI cJ cZ a u p0 hu (by omega)) gX0_begin_X0_knows rfl ⟨rfl, rfl⟩ (by decide +kernel) ⟨Nat.le_of_ble_eq_true rfl, Nat.le_of_ble_eq_true rfl⟩ rfl [0, 1, 2, 3, 4, 5, 6, 7] rfl (by decide) 0 0 rfl rfl rfl (by decide) ⟨Nat.zero_le _, Nat.zero_le _⟩ gz_pI_sh dX0_begin_2 ?_
  refine gz_kI rfl (fun r2 h2 => ?_)
  subst h2
  refine gz_if_eqb (pc := 5) (tgt := 39) F dX0_begin_5 (by decide) (fun c5 => ?_) (fun c5 => ?_)
  · refine Z _ _ 39 dX0_begin_39 ?_
    first | exact ⟨rfl, by rw [Bu_beg, if_pos c5]⟩ | exact ⟨rfl, by rw [Bu_beg, if_neg c5]⟩
  · refine gz_aload_n (pc := 8) F dX0_begin_8 rfl 0 rfl ?_
    refine gz_get (pc := 9) (v := .ref (a 4)) F hn_X0_begin_X0 0 0 rfl rfl 3 (by decide) fl_X0_begin_21 rfl dX0_begin_9 ?_
    refine gz_iload_n (pc := 12) F dX0_begin_12 rfl 1 rfl ?_
    refine gz_const (pc := 13) F dX0_begin_13 ?_
    refine gz_iast (pc := 14) (f := Bu_st u) (ws2 := BuW cI a ((Bu_n u, Bu_ne u, Bu_ur u, Bu_ln u, zU (Bu_st u) p0 1, Bu_ma u, Bu_bg u, Bu_ti u))) F 4 rfl (by omega) (by decide) rfl dX0_begin_14 ?_
    refine gz_aload_n (pc := 15) F dX0_begin_15 rfl 0 rfl ?_
    refine gz_get (pc := 16) (v := .ref (a 5)) F hn_X0_begin_X0 0 0 rfl rfl 4 (by decide) fl_X0_begin_24 rfl dX0_begin_16 ?_
    refine gz_iload_n (pc := 19) F dX0_begin_19 rfl 1 rfl ?_
    refine gz_iload_n (pc := 20) F dX0_begin_20 rfl 2 rfl ?_
    refine gz_iast (pc := 21) (f := Bu_ma u) (ws2 := BuW cI a ((Bu_n u, Bu_ne u, Bu_ur u, Bu_ln u, zU (Bu_st u) p0 1, zU (Bu_ma u) p0 p1, Bu_bg u, Bu_ti u))) F 5 rfl (by omega) (by decide) rfl dX0_begin_21 ?_
    refine gz_aload_n (pc := 22) F dX0_begin_22 rfl 0 rfl ?_
    refine gz_get (pc := 23) (v := .ref (a 6)) F hn_X0_begin_X0 0 0 rfl rfl 5 (by decide) fl_X0_begin_27 rfl dX0_begin_23 ?_
    refine gz_iload_n (pc := 26) F dX0_begin_26 rfl 1 rfl ?_
    refine gz_iload_n (pc := 27) F dX0_begin_27 rfl 3 rfl ?_
    refine gz_iast (pc := 28) (f := Bu_bg u) (ws2 := BuW cI a ((Bu_n u, Bu_ne u, Bu_ur u, Bu_ln u, zU (Bu_st u) p0 1, zU (Bu_ma u) p0 p1, zU (Bu_bg u) p0 p2, Bu_ti u))) F 6 rfl (by omega) (by decide) rfl dX0_begin_28 ?_
    refine gz_aload_n (pc := 29) F dX0_begin_29 rfl 0 rfl ?_
    refine gz_get (pc := 30) (v := .ref (a 7)) F hn_X0_begin_X0 0 0 rfl rfl 6 (by decide) fl_X0_begin_30 rfl dX0_begin_30 ?_
    refine gz_iload_n (pc := 33) F dX0_begin_33 rfl 1 rfl ?_
    refine gz_dup2 (pc := 34) F dX0_begin_34 rfl rfl ?_
    refine gz_iald (pc := 35) (f := Bu_ti u) F 7 rfl (by omega) (by decide) dX0_begin_35 ?_
    refine gz_const (pc := 36) F dX0_begin_36 ?_
    refine gz_iadd (pc := 37) F dX0_begin_37 ?_
    refine gz_iast (pc := 38) (f := Bu_ti u) (ws2 := BuW cI a ((Bu_n u, Bu_ne u, Bu_ur u, Bu_ln u, zU (Bu_st u) p0 1, zU (Bu_ma u) p0 p1, zU (Bu_bg u) p0 p2, zU (Bu_ti u) p0 ((Bu_ti u p0) + 1)))) F 7 rfl (by omega) (by decide) rfl dX0_begin_38 ?_
    refine Z _ _ 39 dX0_begin_39 ?_
    first | exact ⟨rfl, by rw [Bu_beg, if_pos c5]⟩ | exact ⟨rfl, by rw [Bu_beg, if_neg c5]⟩

theorem hn_X0_mostUrgent_X0 : ∀ w ∈ u_ws RX0 TX0 8, w ∈ wsX0_mostUrgent := by decide +kernel
theorem fl_X0_mostUrgent_33 : Cond.fieldLink RX0 33 (TX0 7).1 (TX0 7).2.1 (TX0 7).2.2.1 ∈ wsX0_mostUrgent := by decide +kernel
theorem fl_X0_mostUrgent_21 : Cond.fieldLink RX0 21 (TX0 3).1 (TX0 3).2.1 (TX0 3).2.2.1 ∈ wsX0_mostUrgent := by decide +kernel
theorem fl_X0_mostUrgent_9 : Cond.fieldLink RX0 9 (TX0 0).1 (TX0 0).2.1 (TX0 0).2.2.1 ∈ wsX0_mostUrgent := by decide +kernel
theorem fl_X0_mostUrgent_18 : Cond.fieldLink RX0 18 (TX0 2).1 (TX0 2).2.1 (TX0 2).2.2.1 ∈ wsX0_mostUrgent := by decide +kernel
theorem fl_X0_mostUrgent_15 : Cond.fieldLink RX0 15 (TX0 1).1 (TX0 1).2.1 (TX0 1).2.2.1 ∈ wsX0_mostUrgent := by decide +kernel
set_option maxHeartbeats 4000000 in
set_option maxRecDepth 100000 in
theorem ct_X0_mostUrgent (l : Launch) (D : va_G) (cI cJ cZ : ClassId) (a : Nat → Nat) (u : BuS) (p0 p1 : Int) (hu : BuI u) (h0 : zR2 p0) (h1 : -1 ≤ p1 ∧ p1 ≤ 1023) : gz_M l yX0_mostUrgent wsX0_mostUrgent { frames := 0, cells := 0, slots := 0, locals := 0 } D cI cJ cZ [.ref (a 0), vI p0, vI p1] (BuW cI a u) (gz_pI (BuW cI a u) (fun r => r = Bu_best u p0 p1)) := by
  refine gz_ofZ (cc := cX0_mostUrgent) (maxL := 5) (ty := .int) (own := RX0) (by decide) rfl rfl (Nat.le_of_ble_eq_true rfl) (lv0 := [(0, .ref (a 0)), (1, vI p0), (2, vI p1)]) rfl ?_
  intro p e s m args below meth c A Q F Z
  have hn := hu.1
  have L5 : ∀ (N : Nat) (i : Int) (b : Int), (Bu_n u - i).toNat < N → (0 ≤ i ∧ i ≤ Bu_n u) → (-1 ≤ b ∧ b < i) → (b = Bu_bestN u p0 p1 i.toNat) → gG p l e ({ frames := 0, cells := 0, slots := 0, locals := 0 } : Room) s m args below meth c D A 5 Q 0 0 (BuW cI a u) [(0, .ref (a 0)), (1, vI p0), (2, vI p1), (3, vI b), (4, vI i)] [] 5 := by
    intro N
    induction N with
    | zero => intro i b hN; exact absurd hN (Nat.not_lt_zero _)
    | succ N ih5 =>
      intro i b hN hi hr hb
      refine gz_iload (pc := 5) F dX0_mostUrgent_5 4 rfl ?_
      refine gz_aload_n (pc := 7) F dX0_mostUrgent_7 rfl 0 rfl ?_
      refine gz_get (pc := 8) (v := vI (Bu_n u)) F hn_X0_mostUrgent_X0 0 0 rfl rfl 7 (by decide) fl_X0_mostUrgent_33 rfl dX0_mostUrgent_8 ?_
      have b8 := hu.1
      refine gz_icmp_ge (pc := 11) (tgt := 79) F dX0_mostUrgent_11 (by decide) (by omega) (by omega) (fun c11 => ?_) (fun c11 => ?_)
      · refine gz_iload_n (pc := 79) F dX0_mostUrgent_79 rfl 3 rfl ?_
        refine Z _ _ 80 _ dX0_mostUrgent_80 rfl ?_
        exact ⟨rfl, _, rfl, by rw [hb, show i = Bu_n u by omega]; rfl⟩
      · refine gz_aload_n (pc := 14) F dX0_mostUrgent_14 rfl 0 rfl ?_
        refine gz_get (pc := 15) (v := .ref (a 4)) F hn_X0_mostUrgent_X0 0 0 rfl rfl 3 (by decide) fl_X0_mostUrgent_21 rfl dX0_mostUrgent_15 ?_
        refine gz_iload (pc := 18) F dX0_mostUrgent_18 4 rfl ?_
        refine gz_iald (pc := 20) (f := Bu_st u) F 4 rfl (by omega) (by decide) dX0_mostUrgent_20 ?_
        have b20 := (hu.2 i).2.2.2.1
        refine gz_if_ne (pc := 21) (tgt := 73) F dX0_mostUrgent_21 (by decide) (by omega) (fun c21 => ?_) (fun c21 => ?_)
        · refine gz_iinc (pc := 73) (lv2 := [(4, vI (i + 1)), (0, .ref (a 0)), (1, vI p0), (2, vI p1), (3, vI b)]) F dX0_mostUrgent_73 4 rfl (by decide) rfl ?_
          refine gz_goto (pc := 76) (tgt := 5) F dX0_mostUrgent_76 (by decide) ?_
          refine gz_lv [1, 2, 3, 4, 0] rfl ?_
          exact ih5 (i + 1) b (by omega) (by omega) (by omega) (by first | rfl | exact Bu_bestN_no hi.1 hb (by omega) | exact Bu_bestN_yes hi.1 hb (by omega))
        · refine gz_aload_n (pc := 24) F dX0_mostUrgent_24 rfl 0 rfl ?_
          refine gz_get (pc := 25) (v := .ref (a 1)) F hn_X0_mostUrgent_X0 0 0 rfl rfl 0 (by decide) fl_X0_mostUrgent_9 rfl dX0_mostUrgent_25 ?_
          refine gz_iload (pc := 28) F dX0_mostUrgent_28 4 rfl ?_
          refine gz_iald (pc := 30) (f := Bu_ne u) F 1 rfl (by omega) (by decide) dX0_mostUrgent_30 ?_
          have b30 := (hu.2 i).1
          refine gz_iload_n (pc := 31) F dX0_mostUrgent_31 rfl 1 rfl ?_
          refine gz_const (pc := 32) F dX0_mostUrgent_32 ?_
          refine gz_ixor (pc := 33) (v := (zI p0 ^^^ zI (-1)).toInt) F dX0_mostUrgent_33 (zxor_I p0) ?_
          refine gz_iand (pc := 34) (v := zdf (Bu_ne u i) p0) F dX0_mostUrgent_34 (by rw [← zxor_I]; exact zdf_I (Bu_ne u i) p0) ?_
          have b35 := zdf_r (Bu_ne u i) p0
          refine gz_if_ne (pc := 35) (tgt := 73) F dX0_mostUrgent_35 (by decide) (by omega) (fun c35 => ?_) (fun c35 => ?_)
          · refine gz_iinc (pc := 73) (lv2 := [(4, vI (i + 1)), (0, .ref (a 0)), (1, vI p0), (2, vI p1), (3, vI b)]) F dX0_mostUrgent_73 4 rfl (by decide) rfl ?_
            refine gz_goto (pc := 76) (tgt := 5) F dX0_mostUrgent_76 (by decide) ?_
            refine gz_lv [1, 2, 3, 4, 0] rfl ?_
            exact ih5 (i + 1) b (by omega) (by omega) (by omega) (by first | rfl | exact Bu_bestN_no hi.1 hb (by omega) | exact Bu_bestN_yes hi.1 hb (by omega))
          · refine gz_aload_n (pc := 38) F dX0_mostUrgent_38 rfl 0 rfl ?_
            refine gz_get (pc := 39) (v := .ref (a 3)) F hn_X0_mostUrgent_X0 0 0 rfl rfl 2 (by decide) fl_X0_mostUrgent_18 rfl dX0_mostUrgent_39 ?_
            refine gz_iload (pc := 42) F dX0_mostUrgent_42 4 rfl ?_
            refine gz_iald (pc := 44) (f := Bu_ln u) F 3 rfl (by omega) (by decide) dX0_mostUrgent_44 ?_
            have b44 := (hu.2 i).2.2.1
            refine gz_iload_n (pc := 45) F dX0_mostUrgent_45 rfl 2 rfl ?_
            refine gz_icmp_gt (pc := 46) (tgt := 73) F dX0_mostUrgent_46 (by decide) (by omega) (by omega) (fun c46 => ?_) (fun c46 => ?_)
            · refine gz_iinc (pc := 73) (lv2 := [(4, vI (i + 1)), (0, .ref (a 0)), (1, vI p0), (2, vI p1), (3, vI b)]) F dX0_mostUrgent_73 4 rfl (by decide) rfl ?_
              refine gz_goto (pc := 76) (tgt := 5) F dX0_mostUrgent_76 (by decide) ?_
              refine gz_lv [1, 2, 3, 4, 0] rfl ?_
              exact ih5 (i + 1) b (by omega) (by omega) (by omega) (by first | rfl | exact Bu_bestN_no hi.1 hb (by omega) | exact Bu_bestN_yes hi.1 hb (by omega))
            · refine gz_iload_n (pc := 49) F dX0_mostUrgent_49 rfl 3 rfl ?_
              refine gz_const (pc := 50) F dX0_mostUrgent_50 ?_
              refine gz_icmp_eq (pc := 51) (tgt := 70) F dX0_mostUrgent_51 (by decide) (by omega) (by omega) (fun c51 => ?_) (fun c51 => ?_)
              · refine gz_iload (pc := 70) F dX0_mostUrgent_70 4 rfl ?_
                refine gz_istore_n (pc := 72) (lv2 := [(3, vI i), (0, .ref (a 0)), (1, vI p0), (2, vI p1), (4, vI i)]) F dX0_mostUrgent_72 rfl (by decide) rfl ?_
                refine gz_iinc (pc := 73) (lv2 := [(4, vI (i + 1)), (3, vI i), (0, .ref (a 0)), (1, vI p0), (2, vI p1)]) F dX0_mostUrgent_73 4 rfl (by decide) rfl ?_
                refine gz_goto (pc := 76) (tgt := 5) F dX0_mostUrgent_76 (by decide) ?_
                refine gz_lv [2, 3, 4, 1, 0] rfl ?_
                exact ih5 (i + 1) i (by omega) (by omega) (by omega) (by first | rfl | exact Bu_bestN_no hi.1 hb (by omega) | exact Bu_bestN_yes hi.1 hb (by omega))
              · refine gz_aload_n (pc := 54) F dX0_mostUrgent_54 rfl 0 rfl ?_
                refine gz_get (pc := 55) (v := .ref (a 2)) F hn_X0_mostUrgent_X0 0 0 rfl rfl 1 (by decide) fl_X0_mostUrgent_15 rfl dX0_mostUrgent_55 ?_
                refine gz_iload (pc := 58) F dX0_mostUrgent_58 4 rfl ?_
                refine gz_iald (pc := 60) (f := Bu_ur u) F 2 rfl (by omega) (by decide) dX0_mostUrgent_60 ?_
                have b60 := (hu.2 i).2.1
                refine gz_aload_n (pc := 61) F dX0_mostUrgent_61 rfl 0 rfl ?_
                refine gz_get (pc := 62) (v := .ref (a 2)) F hn_X0_mostUrgent_X0 0 0 rfl rfl 1 (by decide) fl_X0_mostUrgent_15 rfl dX0_mostUrgent_62 ?_
                refine gz_iload_n (pc := 65) F dX0_mostUrgent_65 rfl 3 rfl ?_
                refine gz_iald (pc := 66) (f := Bu_ur u) F 2 rfl (by omega) (by decide) dX0_mostUrgent_66 ?_
                have b66 := (hu.2 b).2.1
                refine gz_icmp_le (pc := 67) (tgt := 73) F dX0_mostUrgent_67 (by decide) (by omega) (by omega) (fun c67 => ?_) (fun c67 => ?_)
                · refine gz_iinc (pc := 73) (lv2 := [(4, vI (i + 1)), (0, .ref (a 0)), (1, vI p0), (2, vI p1), (3, vI b)]) F dX0_mostUrgent_73 4 rfl (by decide) rfl ?_
                  refine gz_goto (pc := 76) (tgt := 5) F dX0_mostUrgent_76 (by decide) ?_
                  refine gz_lv [1, 2, 3, 4, 0] rfl ?_
                  exact ih5 (i + 1) b (by omega) (by omega) (by omega) (by first | rfl | exact Bu_bestN_no hi.1 hb (by omega) | exact Bu_bestN_yes hi.1 hb (by omega))
                · refine gz_iload (pc := 70) F dX0_mostUrgent_70 4 rfl ?_
                  refine gz_istore_n (pc := 72) (lv2 := [(3, vI i), (0, .ref (a 0)), (1, vI p0), (2, vI p1), (4, vI i)]) F dX0_mostUrgent_72 rfl (by decide) rfl ?_
                  refine gz_iinc (pc := 73) (lv2 := [(4, vI (i + 1)), (3, vI i), (0, .ref (a 0)), (1, vI p0), (2, vI p1)]) F dX0_mostUrgent_73 4 rfl (by decide) rfl ?_
                  refine gz_goto (pc := 76) (tgt := 5) F dX0_mostUrgent_76 (by decide) ?_
                  refine gz_lv [2, 3, 4, 1, 0] rfl ?_
                  exact ih5 (i + 1) i (by omega) (by omega) (by omega) (by first | rfl | exact Bu_bestN_no hi.1 hb (by omega) | exact Bu_bestN_yes hi.1 hb (by omega))
  refine gz_const (pc := 0) F dX0_mostUrgent_0 ?_
  refine gz_istore_n (pc := 1) (lv2 := [(3, vI (-1)), (0, .ref (a 0)), (1, vI p0), (2, vI p1)]) F dX0_mostUrgent_1 rfl (by decide) rfl ?_
  refine gz_const (pc := 2) F dX0_mostUrgent_2 ?_
  refine gz_istore (pc := 3) (lv2 := [(4, vI 0), (3, vI (-1)), (0, .ref (a 0)), (1, vI p0), (2, vI p1)]) F dX0_mostUrgent_3 (by decide) rfl ?_
  refine gz_lv [2, 3, 4, 1, 0] rfl ?_
  exact L5 _ 0 (-1) (Nat.lt_succ_self _) (by omega) (by omega) (by first | rfl | exact Bu_bestN_no hi.1 hb (by omega) | exact Bu_bestN_yes hi.1 hb (by omega))

theorem hn_X3_isBroken_X3 : ∀ w ∈ u_ws RX3 TX3 6, w ∈ wsX3_isBroken := by decide +kernel
theorem fl_X3_isBroken_18 : Cond.fieldLink RX3 18 (TX3 2).1 (TX3 2).2.1 (TX3 2).2.2.1 ∈ wsX3_isBroken := by decide +kernel
theorem fl_X3_isBroken_21 : Cond.fieldLink RX3 21 (TX3 3).1 (TX3 3).2.1 (TX3 3).2.2.1 ∈ wsX3_isBroken := by decide +kernel
theorem iw_X3_isBroken_ini_X8 : Cond.initialized RX8 ∈ wsX3_isBroken := by decide +kernel
theorem iw_X3_isBroken_sta_X8_overlap : Cond.static yX8_overlap ∈ wsX3_isBroken := by decide +kernel
set_option maxHeartbeats 4000000 in
set_option maxRecDepth 100000 in
theorem ct_X3_isBroken (l : Launch) (D : va_G) (cI cJ cZ : ClassId) (a : Nat → Nat) (u : McS) (p0 p1 p2 : Int) (hu : McI u) (h0 : -2147483648 ≤ p0 ∧ p0 < 2147483648) (h1 : -1 ≤ p1 ∧ p1 ≤ 1023) (h2 : -1 ≤ p2 ∧ p2 ≤ 1023) : gz_M l yX3_isBroken wsX3_isBroken { frames := 1, cells := 0, slots := 0, locals := 23 } D cI cJ cZ [.ref (a 0), vI p0, vI p1, vI p2] (McW cI a u) (gz_pI (McW cI a u) (fun r => r = bz (Mc_brk u p0 p1 p2))) := by
  refine gz_ofZ (cc := cX3_isBroken) (maxL := 4) (ty := .boolean) (own := RX3) (by decide) rfl rfl (Nat.le_of_ble_eq_true rfl) (lv0 := [(0, .ref (a 0)), (1, vI p0), (2, vI p1), (3, vI p2)]) rfl ?_
  intro p e s m args below meth c A Q F Z
  have hn := hu.1
  refine gz_aload_n (pc := 0) F dX3_isBroken_0 rfl 0 rfl ?_
  refine gz_iload_n (pc := 1) F dX3_isBroken_1 rfl 1 rfl ?_
  refine gz_callV (pc := 2) (n := 1) (As := [vI p0]) (rest := []) (bytes := cX3_knows) (maxL := 2) (ret := some .boolean) F (ct_X3_knows l D cI cJ cZ a u p0 hu (by omega)) gX3_isBroken_X3_knows rfl ⟨rfl, rfl⟩ (by decide +kernel) ⟨Nat.le_of_ble_eq_true rfl, Nat.le_of_ble_eq_true rfl⟩ rfl [0, 1, 2, 3, 4, 5] rfl (by decide) 0 3 rfl rfl rfl (by decide) ⟨Nat.zero_le _, Nat.zero_le _⟩ gz_pI_sh dX3_isBroken_2 ?_
  refine gz_kI rfl (fun r2 h2 => ?_)
  subst h2
  refine gz_if_eqb (pc := 5) (tgt := 54) F dX3_isBroken_5 (by decide) (fun c5 => ?_) (fun c5 => ?_)
  · refine gz_const (pc := 54) F dX3_isBroken_54 ?_
    refine Z _ _ 55 _ dX3_isBroken_55 rfl ?_
    exact ⟨rfl, _, rfl, (bz_f (fun h => by first | exact c5 h.1 | exact absurd h.2.1 (by omega) | exact c47 h.2.2)).symm⟩
  · refine gz_aload_n (pc := 8) F dX3_isBroken_8 rfl 0 rfl ?_
    refine gz_get (pc := 9) (v := .ref (a 3)) F hn_X3_isBroken_X3 0 3 rfl rfl 2 (by decide) fl_X3_isBroken_18 rfl dX3_isBroken_9 ?_
    refine gz_iload_n (pc := 12) F dX3_isBroken_12 rfl 1 rfl ?_
    refine gz_iald (pc := 13) (f := Mc_bf u) F 3 rfl (by omega) (by decide) dX3_isBroken_13 ?_
    have b13 := (hu.2 p0).2.2.1
    refine gz_aload_n (pc := 14) F dX3_isBroken_14 rfl 0 rfl ?_
    refine gz_get (pc := 15) (v := .ref (a 4)) F hn_X3_isBroken_X3 0 3 rfl rfl 3 (by decide) fl_X3_isBroken_21 rfl dX3_isBroken_15 ?_
    refine gz_iload_n (pc := 18) F dX3_isBroken_18 rfl 1 rfl ?_
    refine gz_iald (pc := 19) (f := Mc_bu u) F 4 rfl (by omega) (by decide) dX3_isBroken_19 ?_
    have b19 := (hu.2 p0).2.2.2.1
    refine gz_icmp_ge (pc := 20) (tgt := 54) F dX3_isBroken_20 (by decide) (by omega) (by omega) (fun c20 => ?_) (fun c20 => ?_)
    · refine gz_const (pc := 54) F dX3_isBroken_54 ?_
      refine Z _ _ 55 _ dX3_isBroken_55 rfl ?_
      exact ⟨rfl, _, rfl, (bz_f (fun h => by first | exact c5 h.1 | exact absurd h.2.1 (by omega) | exact c47 h.2.2)).symm⟩
    · refine gz_iload_n (pc := 23) F dX3_isBroken_23 rfl 2 rfl ?_
      refine gz_iload_n (pc := 24) F dX3_isBroken_24 rfl 3 rfl ?_
      refine gz_aload_n (pc := 25) F dX3_isBroken_25 rfl 0 rfl ?_
      refine gz_get (pc := 26) (v := .ref (a 3)) F hn_X3_isBroken_X3 0 3 rfl rfl 2 (by decide) fl_X3_isBroken_18 rfl dX3_isBroken_26 ?_
      refine gz_iload_n (pc := 29) F dX3_isBroken_29 rfl 1 rfl ?_
      refine gz_iald (pc := 30) (f := Mc_bf u) F 3 rfl (by omega) (by decide) dX3_isBroken_30 ?_
      have b30 := (hu.2 p0).2.2.1
      refine gz_aload_n (pc := 31) F dX3_isBroken_31 rfl 0 rfl ?_
      refine gz_get (pc := 32) (v := .ref (a 4)) F hn_X3_isBroken_X3 0 3 rfl rfl 3 (by decide) fl_X3_isBroken_21 rfl dX3_isBroken_32 ?_
      refine gz_iload_n (pc := 35) F dX3_isBroken_35 rfl 1 rfl ?_
      refine gz_iald (pc := 36) (f := Mc_bu u) F 4 rfl (by omega) (by decide) dX3_isBroken_36 ?_
      have b36 := (hu.2 p0).2.2.2.1
      refine gz_aload_n (pc := 37) F dX3_isBroken_37 rfl 0 rfl ?_
      refine gz_get (pc := 38) (v := .ref (a 3)) F hn_X3_isBroken_X3 0 3 rfl rfl 2 (by decide) fl_X3_isBroken_18 rfl dX3_isBroken_38 ?_
      refine gz_iload_n (pc := 41) F dX3_isBroken_41 rfl 1 rfl ?_
      refine gz_iald (pc := 42) (f := Mc_bf u) F 3 rfl (by omega) (by decide) dX3_isBroken_42 ?_
      have b42 := (hu.2 p0).2.2.1
      refine gz_isub (pc := 43) F dX3_isBroken_43 ?_
      refine gz_callSN (pc := 44) (n := 4) (As := [vI p1, vI p2, vI (Mc_bf u p0), vI ((Mc_bu u p0) - (Mc_bf u p0))]) (rest := []) (bytes := cX8_overlap) (maxL := 4) (ret := some .boolean) F (ct_X8_overlap l D cI cJ cZ p1 p2 (Mc_bf u p0) ((Mc_bu u p0) - (Mc_bf u p0)) (by omega) (by omega) (by omega) (by omega)) gX3_isBroken_X8_overlap_n35 rfl ⟨rfl, rfl⟩ (by decide +kernel) iw_X3_isBroken_ini_X8 iw_X3_isBroken_sta_X8_overlap (by decide +kernel) ⟨Nat.le_of_ble_eq_true rfl, Nat.le_of_ble_eq_true rfl⟩ rfl [] rfl (by decide) rfl (by decide) ⟨Nat.zero_le _, Nat.zero_le _⟩ gz_pI_sh dX3_isBroken_44 ?_
      refine gz_kI rfl (fun r44 h44 => ?_)
      subst h44
      refine gz_if_eqb (pc := 47) (tgt := 54) F dX3_isBroken_47 (by decide) (fun c47 => ?_) (fun c47 => ?_)
      · refine gz_const (pc := 54) F dX3_isBroken_54 ?_
        refine Z _ _ 55 _ dX3_isBroken_55 rfl ?_
        exact ⟨rfl, _, rfl, (bz_f (fun h => by first | exact c5 h.1 | exact absurd h.2.1 (by omega) | exact c47 h.2.2)).symm⟩
      · refine gz_const (pc := 50) F dX3_isBroken_50 ?_
        refine gz_goto (pc := 51) (tgt := 55) F dX3_isBroken_51 (by decide) ?_
        refine Z _ _ 55 _ dX3_isBroken_55 rfl ?_
        exact ⟨rfl, _, rfl, (bz_t (⟨c5, by omega, by assumption⟩)).symm⟩

theorem hn_X2_borrower_X2 : ∀ w ∈ u_ws RX2 TX2 5, w ∈ wsX2_borrower := by decide +kernel
theorem fl_X2_borrower_9 : Cond.fieldLink RX2 9 (TX2 0).1 (TX2 0).2.1 (TX2 0).2.2.1 ∈ wsX2_borrower := by decide +kernel
theorem fl_X2_borrower_18 : Cond.fieldLink RX2 18 (TX2 2).1 (TX2 2).2.1 (TX2 2).2.2.1 ∈ wsX2_borrower := by decide +kernel
theorem fl_X2_borrower_21 : Cond.fieldLink RX2 21 (TX2 3).1 (TX2 3).2.1 (TX2 3).2.2.1 ∈ wsX2_borrower := by decide +kernel
theorem fl_X2_borrower_15 : Cond.fieldLink RX2 15 (TX2 1).1 (TX2 1).2.1 (TX2 1).2.2.1 ∈ wsX2_borrower := by decide +kernel
theorem fl_X2_borrower_24 : Cond.fieldLink RX2 24 (TX2 4).1 (TX2 4).2.1 (TX2 4).2.2.1 ∈ wsX2_borrower := by decide +kernel
set_option maxHeartbeats 4000000 in
set_option maxRecDepth 100000 in
theorem ct_X2_borrower (l : Launch) (D : va_G) (cI cJ cZ : ClassId) (a : Nat → Nat) (u : LoS) (p0 p1 : Int) (hu : LoI u) (h0 : -1 ≤ p0 ∧ p0 ≤ 1023) (h1 : -1 ≤ p1 ∧ p1 ≤ 1023) : gz_M l yX2_borrower wsX2_borrower { frames := 0, cells := 0, slots := 0, locals := 0 } D cI cJ cZ [.ref (a 0), vI p0, vI p1] (LoW cI a u) (gz_pI (LoW cI a u) (fun r => r = Lo_bor u p0 p1)) := by
  refine gz_ofZ (cc := cX2_borrower) (maxL := 4) (ty := .int) (own := RX2) (by decide) rfl rfl (Nat.le_of_ble_eq_true rfl) (lv0 := [(0, .ref (a 0)), (1, vI p0), (2, vI p1)]) rfl ?_
  intro p e s m args below meth c A Q F Z
  have hn := hu.1
  have L7 : ∀ (N : Nat) (i : Int), (i + 1).toNat < N → (-1 ≤ i ∧ i < Lo_n u) → (Lo_bor u p0 p1 = Lo_borN u p0 p1 (i + 1).toNat) → gG p l e ({ frames := 0, cells := 0, slots := 0, locals := 0 } : Room) s m args below meth c D A 4 Q 0 0 (LoW cI a u) [(0, .ref (a 0)), (1, vI p0), (2, vI p1), (3, vI i)] [] 7 := by
    intro N
    induction N with
    | zero => intro i hN; exact absurd hN (Nat.not_lt_zero _)
    | succ N ih7 =>
      intro i hN hi hb
      refine gz_iload_n (pc := 7) F dX2_borrower_7 rfl 3 rfl ?_
      refine gz_if_lt (pc := 8) (tgt := 54) F dX2_borrower_8 (by decide) (by omega) (fun c8 => ?_) (fun c8 => ?_)
      · refine gz_const (pc := 54) F dX2_borrower_54 ?_
        refine Z _ _ 55 _ dX2_borrower_55 rfl ?_
        exact ⟨rfl, _, rfl, by rw [hb, show (i + 1).toNat = 0 by omega]; rfl⟩
      · refine gz_aload_n (pc := 11) F dX2_borrower_11 rfl 0 rfl ?_
        refine gz_get (pc := 12) (v := .ref (a 1)) F hn_X2_borrower_X2 0 2 rfl rfl 0 (by decide) fl_X2_borrower_9 rfl dX2_borrower_12 ?_
        refine gz_iload_n (pc := 15) F dX2_borrower_15 rfl 3 rfl ?_
        refine gz_iald (pc := 16) (f := Lo_ma u) F 1 rfl (by omega) (by decide) dX2_borrower_16 ?_
        have b16 := (hu.2 i).1
        refine gz_iload_n (pc := 17) F dX2_borrower_17 rfl 1 rfl ?_
        refine gz_icmp_ne (pc := 18) (tgt := 48) F dX2_borrower_18 (by decide) (by omega) (by omega) (fun c18 => ?_) (fun c18 => ?_)
        · refine gz_iinc (pc := 48) (lv2 := [(3, vI (i + (-1))), (0, .ref (a 0)), (1, vI p0), (2, vI p1)]) F dX2_borrower_48 3 rfl (by decide) rfl ?_
          refine gz_goto (pc := 51) (tgt := 7) F dX2_borrower_51 (by decide) ?_
          refine gz_lv [1, 2, 3, 0] rfl ?_
          exact ih7 (i + (-1)) (by omega) (by omega) (by first | (rw [hb, Lo_borN_no (by omega) (by omega)]; congr 1; omega) | (unfold Lo_bor; congr 1; omega))
        · refine gz_aload_n (pc := 21) F dX2_borrower_21 rfl 0 rfl ?_
          refine gz_get (pc := 22) (v := .ref (a 3)) F hn_X2_borrower_X2 0 2 rfl rfl 2 (by decide) fl_X2_borrower_18 rfl dX2_borrower_22 ?_
          refine gz_iload_n (pc := 25) F dX2_borrower_25 rfl 3 rfl ?_
          refine gz_iald (pc := 26) (f := Lo_fr u) F 3 rfl (by omega) (by decide) dX2_borrower_26 ?_
          have b26 := (hu.2 i).2.2.1
          refine gz_iload_n (pc := 27) F dX2_borrower_27 rfl 2 rfl ?_
          refine gz_icmp_gt (pc := 28) (tgt := 48) F dX2_borrower_28 (by decide) (by omega) (by omega) (fun c28 => ?_) (fun c28 => ?_)
          · refine gz_iinc (pc := 48) (lv2 := [(3, vI (i + (-1))), (0, .ref (a 0)), (1, vI p0), (2, vI p1)]) F dX2_borrower_48 3 rfl (by decide) rfl ?_
            refine gz_goto (pc := 51) (tgt := 7) F dX2_borrower_51 (by decide) ?_
            refine gz_lv [1, 2, 3, 0] rfl ?_
            exact ih7 (i + (-1)) (by omega) (by omega) (by first | (rw [hb, Lo_borN_no (by omega) (by omega)]; congr 1; omega) | (unfold Lo_bor; congr 1; omega))
          · refine gz_iload_n (pc := 31) F dX2_borrower_31 rfl 2 rfl ?_
            refine gz_aload_n (pc := 32) F dX2_borrower_32 rfl 0 rfl ?_
            refine gz_get (pc := 33) (v := .ref (a 4)) F hn_X2_borrower_X2 0 2 rfl rfl 3 (by decide) fl_X2_borrower_21 rfl dX2_borrower_33 ?_
            refine gz_iload_n (pc := 36) F dX2_borrower_36 rfl 3 rfl ?_
            refine gz_iald (pc := 37) (f := Lo_to u) F 4 rfl (by omega) (by decide) dX2_borrower_37 ?_
            have b37 := (hu.2 i).2.2.2
            refine gz_icmp_gt (pc := 38) (tgt := 48) F dX2_borrower_38 (by decide) (by omega) (by omega) (fun c38 => ?_) (fun c38 => ?_)
            · refine gz_iinc (pc := 48) (lv2 := [(3, vI (i + (-1))), (0, .ref (a 0)), (1, vI p0), (2, vI p1)]) F dX2_borrower_48 3 rfl (by decide) rfl ?_
              refine gz_goto (pc := 51) (tgt := 7) F dX2_borrower_51 (by decide) ?_
              refine gz_lv [1, 2, 3, 0] rfl ?_
              exact ih7 (i + (-1)) (by omega) (by omega) (by first | (rw [hb, Lo_borN_no (by omega) (by omega)]; congr 1; omega) | (unfold Lo_bor; congr 1; omega))
            · refine gz_aload_n (pc := 41) F dX2_borrower_41 rfl 0 rfl ?_
              refine gz_get (pc := 42) (v := .ref (a 2)) F hn_X2_borrower_X2 0 2 rfl rfl 1 (by decide) fl_X2_borrower_15 rfl dX2_borrower_42 ?_
              refine gz_iload_n (pc := 45) F dX2_borrower_45 rfl 3 rfl ?_
              refine gz_iald (pc := 46) (f := Lo_pe u) F 2 rfl (by omega) (by decide) dX2_borrower_46 ?_
              have b46 := (hu.2 i).2.1
              refine Z _ _ 47 _ dX2_borrower_47 rfl ?_
              exact ⟨rfl, _, rfl, by rw [hb, Lo_borN_yes (by omega) (by omega)]⟩
  refine gz_aload_n (pc := 0) F dX2_borrower_0 rfl 0 rfl ?_
  refine gz_get (pc := 1) (v := vI (Lo_n u)) F hn_X2_borrower_X2 0 2 rfl rfl 4 (by decide) fl_X2_borrower_24 rfl dX2_borrower_1 ?_
  have b1 := hu.1
  refine gz_const (pc := 4) F dX2_borrower_4 ?_
  refine gz_isub (pc := 5) F dX2_borrower_5 ?_
  refine gz_istore_n (pc := 6) (lv2 := [(3, vI ((Lo_n u) - 1)), (0, .ref (a 0)), (1, vI p0), (2, vI p1)]) F dX2_borrower_6 rfl (by decide) rfl ?_
  refine gz_lv [1, 2, 3, 0] rfl ?_
  exact L7 _ ((Lo_n u) - 1) (Nat.lt_succ_self _) (by omega) (by first | (rw [hb, Lo_borN_no (by omega) (by omega)]; congr 1; omega) | (unfold Lo_bor; congr 1; omega))

theorem hn_X6_add_X6 : ∀ w ∈ u_ws RX6 TX6 7, w ∈ wsX6_add := by decide +kernel
theorem fl_X6_add_30 : Cond.fieldLink RX6 30 (TX6 6).1 (TX6 6).2.1 (TX6 6).2.2.1 ∈ wsX6_add := by decide +kernel
theorem fl_X6_add_9 : Cond.fieldLink RX6 9 (TX6 0).1 (TX6 0).2.1 (TX6 0).2.2.1 ∈ wsX6_add := by decide +kernel
theorem fl_X6_add_15 : Cond.fieldLink RX6 15 (TX6 1).1 (TX6 1).2.1 (TX6 1).2.2.1 ∈ wsX6_add := by decide +kernel
theorem fl_X6_add_18 : Cond.fieldLink RX6 18 (TX6 2).1 (TX6 2).2.1 (TX6 2).2.2.1 ∈ wsX6_add := by decide +kernel
theorem fl_X6_add_21 : Cond.fieldLink RX6 21 (TX6 3).1 (TX6 3).2.1 (TX6 3).2.2.1 ∈ wsX6_add := by decide +kernel
theorem fl_X6_add_24 : Cond.fieldLink RX6 24 (TX6 4).1 (TX6 4).2.1 (TX6 4).2.2.1 ∈ wsX6_add := by decide +kernel
theorem fl_X6_add_27 : Cond.fieldLink RX6 27 (TX6 5).1 (TX6 5).2.1 (TX6 5).2.2.1 ∈ wsX6_add := by decide +kernel
set_option maxHeartbeats 4000000 in
set_option maxRecDepth 100000 in
theorem ct_X6_add (l : Launch) (D : va_G) (cI cJ cZ : ClassId) (a : Nat → Nat) (u : SwS) (p0 p1 p2 p3 : Int) (hu : SwI u)  : gz_M l yX6_add wsX6_add { frames := 0, cells := 0, slots := 0, locals := 0 } D cI cJ cZ [.ref (a 0), vI p0, vI p1, vI p2, vI p3] (SwW cI a u) (gz_pE (SwW cI a (Sw_add u p0 p1 p2 p3))) := by
  refine gz_ofV (cc := cX6_add) (maxL := 5) (own := RX6) (by decide) rfl rfl (Nat.le_of_ble_eq_true rfl) (lv0 := [(0, .ref (a 0)), (1, vI p0), (2, vI p1), (3, vI p2), (4, vI p3)]) rfl ?_
  intro p e s m args below meth c A Q F Z
  have hn := hu.1
  refine gz_aload_n (pc := 0) F dX6_add_0 rfl 0 rfl ?_
  refine gz_get (pc := 1) (v := vI (Sw_n u)) F hn_X6_add_X6 0 6 rfl rfl 6 (by decide) fl_X6_add_30 rfl dX6_add_1 ?_
  have b1 := hu.1
  refine gz_bipush (pc := 4) F dX6_add_4 (by decide) ?_
  refine gz_icmp_ge (pc := 6) (tgt := 80) F dX6_add_6 (by decide) (by omega) (by omega) (fun c6 => ?_) (fun c6 => ?_)
  · refine Z _ _ 80 dX6_add_80 ?_
    refine ⟨rfl, ?_⟩
    first | (rw [Sw_add, if_pos ((show Sw_n u < 20 by omega))] <;> rfl) | (rw [Sw_add, if_neg ((show ¬ Sw_n u < 20 by omega))] <;> rfl)
  · refine gz_aload_n (pc := 9) F dX6_add_9 rfl 0 rfl ?_
    refine gz_get (pc := 10) (v := .ref (a 1)) F hn_X6_add_X6 0 6 rfl rfl 0 (by decide) fl_X6_add_9 rfl dX6_add_10 ?_
    refine gz_aload_n (pc := 13) F dX6_add_13 rfl 0 rfl ?_
    refine gz_get (pc := 14) (v := vI (Sw_n u)) F hn_X6_add_X6 0 6 rfl rfl 6 (by decide) fl_X6_add_30 rfl dX6_add_14 ?_
    have b14 := hu.1
    refine gz_iload_n (pc := 17) F dX6_add_17 rfl 1 rfl ?_
    refine gz_iast (pc := 18) (f := Sw_me u) (ws2 := SwW cI a ((Sw_n u, zU (Sw_me u) (Sw_n u) p0, Sw_mm u, Sw_ot u, Sw_om u, Sw_ag u, Sw_st u))) F 1 rfl (by omega) (by decide) rfl dX6_add_18 ?_
    refine gz_aload_n (pc := 19) F dX6_add_19 rfl 0 rfl ?_
    refine gz_get (pc := 20) (v := .ref (a 2)) F hn_X6_add_X6 0 6 rfl rfl 1 (by decide) fl_X6_add_15 rfl dX6_add_20 ?_
    refine gz_aload_n (pc := 23) F dX6_add_23 rfl 0 rfl ?_
    refine gz_get (pc := 24) (v := vI (Sw_n u)) F hn_X6_add_X6 0 6 rfl rfl 6 (by decide) fl_X6_add_30 rfl dX6_add_24 ?_
    have b24 := hu.1
    refine gz_iload_n (pc := 27) F dX6_add_27 rfl 2 rfl ?_
    refine gz_iast (pc := 28) (f := Sw_mm u) (ws2 := SwW cI a ((Sw_n u, zU (Sw_me u) (Sw_n u) p0, zU (Sw_mm u) (Sw_n u) p1, Sw_ot u, Sw_om u, Sw_ag u, Sw_st u))) F 2 rfl (by omega) (by decide) rfl dX6_add_28 ?_
    refine gz_aload_n (pc := 29) F dX6_add_29 rfl 0 rfl ?_
    refine gz_get (pc := 30) (v := .ref (a 3)) F hn_X6_add_X6 0 6 rfl rfl 2 (by decide) fl_X6_add_18 rfl dX6_add_30 ?_
    refine gz_aload_n (pc := 33) F dX6_add_33 rfl 0 rfl ?_
    refine gz_get (pc := 34) (v := vI (Sw_n u)) F hn_X6_add_X6 0 6 rfl rfl 6 (by decide) fl_X6_add_30 rfl dX6_add_34 ?_
    have b34 := hu.1
    refine gz_iload_n (pc := 37) F dX6_add_37 rfl 3 rfl ?_
    refine gz_iast (pc := 38) (f := Sw_ot u) (ws2 := SwW cI a ((Sw_n u, zU (Sw_me u) (Sw_n u) p0, zU (Sw_mm u) (Sw_n u) p1, zU (Sw_ot u) (Sw_n u) p2, Sw_om u, Sw_ag u, Sw_st u))) F 3 rfl (by omega) (by decide) rfl dX6_add_38 ?_
    refine gz_aload_n (pc := 39) F dX6_add_39 rfl 0 rfl ?_
    refine gz_get (pc := 40) (v := .ref (a 4)) F hn_X6_add_X6 0 6 rfl rfl 3 (by decide) fl_X6_add_21 rfl dX6_add_40 ?_
    refine gz_aload_n (pc := 43) F dX6_add_43 rfl 0 rfl ?_
    refine gz_get (pc := 44) (v := vI (Sw_n u)) F hn_X6_add_X6 0 6 rfl rfl 6 (by decide) fl_X6_add_30 rfl dX6_add_44 ?_
    have b44 := hu.1
    refine gz_iload (pc := 47) F dX6_add_47 4 rfl ?_
    refine gz_iast (pc := 49) (f := Sw_om u) (ws2 := SwW cI a ((Sw_n u, zU (Sw_me u) (Sw_n u) p0, zU (Sw_mm u) (Sw_n u) p1, zU (Sw_ot u) (Sw_n u) p2, zU (Sw_om u) (Sw_n u) p3, Sw_ag u, Sw_st u))) F 4 rfl (by omega) (by decide) rfl dX6_add_49 ?_
    refine gz_aload_n (pc := 50) F dX6_add_50 rfl 0 rfl ?_
    refine gz_get (pc := 51) (v := .ref (a 5)) F hn_X6_add_X6 0 6 rfl rfl 4 (by decide) fl_X6_add_24 rfl dX6_add_51 ?_
    refine gz_aload_n (pc := 54) F dX6_add_54 rfl 0 rfl ?_
    refine gz_get (pc := 55) (v := vI (Sw_n u)) F hn_X6_add_X6 0 6 rfl rfl 6 (by decide) fl_X6_add_30 rfl dX6_add_55 ?_
    have b55 := hu.1
    refine gz_const (pc := 58) F dX6_add_58 ?_
    refine gz_iast (pc := 59) (f := Sw_ag u) (ws2 := SwW cI a ((Sw_n u, zU (Sw_me u) (Sw_n u) p0, zU (Sw_mm u) (Sw_n u) p1, zU (Sw_ot u) (Sw_n u) p2, zU (Sw_om u) (Sw_n u) p3, zU (Sw_ag u) (Sw_n u) 0, Sw_st u))) F 5 rfl (by omega) (by decide) rfl dX6_add_59 ?_
    refine gz_aload_n (pc := 60) F dX6_add_60 rfl 0 rfl ?_
    refine gz_get (pc := 61) (v := .ref (a 6)) F hn_X6_add_X6 0 6 rfl rfl 5 (by decide) fl_X6_add_27 rfl dX6_add_61 ?_
    refine gz_aload_n (pc := 64) F dX6_add_64 rfl 0 rfl ?_
    refine gz_get (pc := 65) (v := vI (Sw_n u)) F hn_X6_add_X6 0 6 rfl rfl 6 (by decide) fl_X6_add_30 rfl dX6_add_65 ?_
    have b65 := hu.1
    refine gz_const (pc := 68) F dX6_add_68 ?_
    refine gz_iast (pc := 69) (f := Sw_st u) (ws2 := SwW cI a ((Sw_n u, zU (Sw_me u) (Sw_n u) p0, zU (Sw_mm u) (Sw_n u) p1, zU (Sw_ot u) (Sw_n u) p2, zU (Sw_om u) (Sw_n u) p3, zU (Sw_ag u) (Sw_n u) 0, zU (Sw_st u) (Sw_n u) 0))) F 6 rfl (by omega) (by decide) rfl dX6_add_69 ?_
    refine gz_aload_n (pc := 70) F dX6_add_70 rfl 0 rfl ?_
    refine gz_dup (pc := 71) F dX6_add_71 rfl ?_
    refine gz_get (pc := 72) (v := vI (Sw_n u)) F hn_X6_add_X6 0 6 rfl rfl 6 (by decide) fl_X6_add_30 rfl dX6_add_72 ?_
    have b72 := hu.1
    refine gz_const (pc := 75) F dX6_add_75 ?_
    refine gz_iadd (pc := 76) F dX6_add_76 ?_
    refine gz_put (pc := 77) (ws2 := SwW cI a (((Sw_n u) + 1, zU (Sw_me u) (Sw_n u) p0, zU (Sw_mm u) (Sw_n u) p1, zU (Sw_ot u) (Sw_n u) p2, zU (Sw_om u) (Sw_n u) p3, zU (Sw_ag u) (Sw_n u) 0, zU (Sw_st u) (Sw_n u) 0))) F hn_X6_add_X6 tyX6 tyX6_ok nmX6 0 6 rfl rfl 6 (by decide) fl_X6_add_30 rfl (ty := .int) rfl rfl rfl (Nat.le_of_ble_eq_true rfl) rfl dX6_add_77 ?_
    refine Z _ _ 80 dX6_add_80 ?_
    refine ⟨rfl, ?_⟩
    first | (rw [Sw_add, if_pos ((show Sw_n u < 20 by omega))] <;> rfl) | (rw [Sw_add, if_neg ((show ¬ Sw_n u < 20 by omega))] <;> rfl)

theorem hn_X7_note_X7 : ∀ w ∈ u_ws RX7 TX7 7, w ∈ wsX7_note := by decide +kernel
theorem fl_X7_note_30 : Cond.fieldLink RX7 30 (TX7 6).1 (TX7 6).2.1 (TX7 6).2.2.1 ∈ wsX7_note := by decide +kernel
theorem fl_X7_note_9 : Cond.fieldLink RX7 9 (TX7 0).1 (TX7 0).2.1 (TX7 0).2.2.1 ∈ wsX7_note := by decide +kernel
theorem fl_X7_note_15 : Cond.fieldLink RX7 15 (TX7 1).1 (TX7 1).2.1 (TX7 1).2.2.1 ∈ wsX7_note := by decide +kernel
theorem fl_X7_note_18 : Cond.fieldLink RX7 18 (TX7 2).1 (TX7 2).2.1 (TX7 2).2.2.1 ∈ wsX7_note := by decide +kernel
theorem fl_X7_note_21 : Cond.fieldLink RX7 21 (TX7 3).1 (TX7 3).2.1 (TX7 3).2.2.1 ∈ wsX7_note := by decide +kernel
theorem fl_X7_note_24 : Cond.fieldLink RX7 24 (TX7 4).1 (TX7 4).2.1 (TX7 4).2.2.1 ∈ wsX7_note := by decide +kernel
theorem fl_X7_note_27 : Cond.fieldLink RX7 27 (TX7 5).1 (TX7 5).2.1 (TX7 5).2.2.1 ∈ wsX7_note := by decide +kernel
set_option maxHeartbeats 4000000 in
set_option maxRecDepth 100000 in
theorem ct_X7_note (l : Launch) (D : va_G) (cI cJ cZ : ClassId) (a : Nat → Nat) (u : ToS) (p0 p1 p2 p3 p4 p5 : Int) (hu : ToI u)  : gz_M l yX7_note wsX7_note { frames := 0, cells := 0, slots := 0, locals := 0 } D cI cJ cZ [.ref (a 0), vI p0, vI p1, vI p2, vI p3, vI p4, vI p5] (ToW cI a u) (gz_pE (ToW cI a (To_note u p0 p1 p2 p3 p4 p5))) := by
  refine gz_ofV (cc := cX7_note) (maxL := 7) (own := RX7) (by decide) rfl rfl (Nat.le_of_ble_eq_true rfl) (lv0 := [(0, .ref (a 0)), (1, vI p0), (2, vI p1), (3, vI p2), (4, vI p3), (5, vI p4), (6, vI p5)]) rfl ?_
  intro p e s m args below meth c A Q F Z
  have hn := hu.1
  refine gz_aload_n (pc := 0) F dX7_note_0 rfl 0 rfl ?_
  refine gz_get (pc := 1) (v := vI (To_n u)) F hn_X7_note_X7 0 7 rfl rfl 6 (by decide) fl_X7_note_30 rfl dX7_note_1 ?_
  have b1 := hu.1
  refine gz_sipush (pc := 4) F dX7_note_4 (by decide) ?_
  refine gz_icmp_ge (pc := 7) (tgt := 83) F dX7_note_7 (by decide) (by omega) (by omega) (fun c7 => ?_) (fun c7 => ?_)
  · refine Z _ _ 83 dX7_note_83 ?_
    refine ⟨rfl, ?_⟩
    first | (rw [To_note, if_pos ((show To_n u < 512 by omega))] <;> rfl) | (rw [To_note, if_neg ((show ¬ To_n u < 512 by omega))] <;> rfl)
  · refine gz_aload_n (pc := 10) F dX7_note_10 rfl 0 rfl ?_
    refine gz_get (pc := 11) (v := .ref (a 1)) F hn_X7_note_X7 0 7 rfl rfl 0 (by decide) fl_X7_note_9 rfl dX7_note_11 ?_
    refine gz_aload_n (pc := 14) F dX7_note_14 rfl 0 rfl ?_
    refine gz_get (pc := 15) (v := vI (To_n u)) F hn_X7_note_X7 0 7 rfl rfl 6 (by decide) fl_X7_note_30 rfl dX7_note_15 ?_
    have b15 := hu.1
    refine gz_iload_n (pc := 18) F dX7_note_18 rfl 1 rfl ?_
    refine gz_iast (pc := 19) (f := To_ki u) (ws2 := ToW cI a ((To_n u, zU (To_ki u) (To_n u) p0, To_at u, To_a u, To_b u, To_c u, To_d u))) F 1 rfl (by omega) (by decide) rfl dX7_note_19 ?_
    refine gz_aload_n (pc := 20) F dX7_note_20 rfl 0 rfl ?_
    refine gz_get (pc := 21) (v := .ref (a 2)) F hn_X7_note_X7 0 7 rfl rfl 1 (by decide) fl_X7_note_15 rfl dX7_note_21 ?_
    refine gz_aload_n (pc := 24) F dX7_note_24 rfl 0 rfl ?_
    refine gz_get (pc := 25) (v := vI (To_n u)) F hn_X7_note_X7 0 7 rfl rfl 6 (by decide) fl_X7_note_30 rfl dX7_note_25 ?_
    have b25 := hu.1
    refine gz_iload_n (pc := 28) F dX7_note_28 rfl 2 rfl ?_
    refine gz_iast (pc := 29) (f := To_at u) (ws2 := ToW cI a ((To_n u, zU (To_ki u) (To_n u) p0, zU (To_at u) (To_n u) p1, To_a u, To_b u, To_c u, To_d u))) F 2 rfl (by omega) (by decide) rfl dX7_note_29 ?_
    refine gz_aload_n (pc := 30) F dX7_note_30 rfl 0 rfl ?_
    refine gz_get (pc := 31) (v := .ref (a 3)) F hn_X7_note_X7 0 7 rfl rfl 2 (by decide) fl_X7_note_18 rfl dX7_note_31 ?_
    refine gz_aload_n (pc := 34) F dX7_note_34 rfl 0 rfl ?_
    refine gz_get (pc := 35) (v := vI (To_n u)) F hn_X7_note_X7 0 7 rfl rfl 6 (by decide) fl_X7_note_30 rfl dX7_note_35 ?_
    have b35 := hu.1
    refine gz_iload_n (pc := 38) F dX7_note_38 rfl 3 rfl ?_
    refine gz_iast (pc := 39) (f := To_a u) (ws2 := ToW cI a ((To_n u, zU (To_ki u) (To_n u) p0, zU (To_at u) (To_n u) p1, zU (To_a u) (To_n u) p2, To_b u, To_c u, To_d u))) F 3 rfl (by omega) (by decide) rfl dX7_note_39 ?_
    refine gz_aload_n (pc := 40) F dX7_note_40 rfl 0 rfl ?_
    refine gz_get (pc := 41) (v := .ref (a 4)) F hn_X7_note_X7 0 7 rfl rfl 3 (by decide) fl_X7_note_21 rfl dX7_note_41 ?_
    refine gz_aload_n (pc := 44) F dX7_note_44 rfl 0 rfl ?_
    refine gz_get (pc := 45) (v := vI (To_n u)) F hn_X7_note_X7 0 7 rfl rfl 6 (by decide) fl_X7_note_30 rfl dX7_note_45 ?_
    have b45 := hu.1
    refine gz_iload (pc := 48) F dX7_note_48 4 rfl ?_
    refine gz_iast (pc := 50) (f := To_b u) (ws2 := ToW cI a ((To_n u, zU (To_ki u) (To_n u) p0, zU (To_at u) (To_n u) p1, zU (To_a u) (To_n u) p2, zU (To_b u) (To_n u) p3, To_c u, To_d u))) F 4 rfl (by omega) (by decide) rfl dX7_note_50 ?_
    refine gz_aload_n (pc := 51) F dX7_note_51 rfl 0 rfl ?_
    refine gz_get (pc := 52) (v := .ref (a 5)) F hn_X7_note_X7 0 7 rfl rfl 4 (by decide) fl_X7_note_24 rfl dX7_note_52 ?_
    refine gz_aload_n (pc := 55) F dX7_note_55 rfl 0 rfl ?_
    refine gz_get (pc := 56) (v := vI (To_n u)) F hn_X7_note_X7 0 7 rfl rfl 6 (by decide) fl_X7_note_30 rfl dX7_note_56 ?_
    have b56 := hu.1
    refine gz_iload (pc := 59) F dX7_note_59 5 rfl ?_
    refine gz_iast (pc := 61) (f := To_c u) (ws2 := ToW cI a ((To_n u, zU (To_ki u) (To_n u) p0, zU (To_at u) (To_n u) p1, zU (To_a u) (To_n u) p2, zU (To_b u) (To_n u) p3, zU (To_c u) (To_n u) p4, To_d u))) F 5 rfl (by omega) (by decide) rfl dX7_note_61 ?_
    refine gz_aload_n (pc := 62) F dX7_note_62 rfl 0 rfl ?_
    refine gz_get (pc := 63) (v := .ref (a 6)) F hn_X7_note_X7 0 7 rfl rfl 5 (by decide) fl_X7_note_27 rfl dX7_note_63 ?_
    refine gz_aload_n (pc := 66) F dX7_note_66 rfl 0 rfl ?_
    refine gz_get (pc := 67) (v := vI (To_n u)) F hn_X7_note_X7 0 7 rfl rfl 6 (by decide) fl_X7_note_30 rfl dX7_note_67 ?_
    have b67 := hu.1
    refine gz_iload (pc := 70) F dX7_note_70 6 rfl ?_
    refine gz_iast (pc := 72) (f := To_d u) (ws2 := ToW cI a ((To_n u, zU (To_ki u) (To_n u) p0, zU (To_at u) (To_n u) p1, zU (To_a u) (To_n u) p2, zU (To_b u) (To_n u) p3, zU (To_c u) (To_n u) p4, zU (To_d u) (To_n u) p5))) F 6 rfl (by omega) (by decide) rfl dX7_note_72 ?_
    refine gz_aload_n (pc := 73) F dX7_note_73 rfl 0 rfl ?_
    refine gz_dup (pc := 74) F dX7_note_74 rfl ?_
    refine gz_get (pc := 75) (v := vI (To_n u)) F hn_X7_note_X7 0 7 rfl rfl 6 (by decide) fl_X7_note_30 rfl dX7_note_75 ?_
    have b75 := hu.1
    refine gz_const (pc := 78) F dX7_note_78 ?_
    refine gz_iadd (pc := 79) F dX7_note_79 ?_
    refine gz_put (pc := 80) (ws2 := ToW cI a (((To_n u) + 1, zU (To_ki u) (To_n u) p0, zU (To_at u) (To_n u) p1, zU (To_a u) (To_n u) p2, zU (To_b u) (To_n u) p3, zU (To_c u) (To_n u) p4, zU (To_d u) (To_n u) p5))) F hn_X7_note_X7 tyX7 tyX7_ok nmX7 0 7 rfl rfl 6 (by decide) fl_X7_note_30 rfl (ty := .int) rfl rfl rfl (Nat.le_of_ble_eq_true rfl) rfl dX7_note_80 ?_
    refine Z _ _ 83 dX7_note_83 ?_
    refine ⟨rfl, ?_⟩
    first | (rw [To_note, if_pos ((show To_n u < 512 by omega))] <;> rfl) | (rw [To_note, if_neg ((show ¬ To_n u < 512 by omega))] <;> rfl)

theorem hn_X1_isAway_X1 : ∀ w ∈ u_ws RX1 TX1 1, w ∈ wsX1_isAway := by decide +kernel
theorem fl_X1_isAway_9 : Cond.fieldLink RX1 9 (TX1 0).1 (TX1 0).2.1 (TX1 0).2.2.1 ∈ wsX1_isAway := by decide +kernel
set_option maxHeartbeats 4000000 in
set_option maxRecDepth 100000 in
theorem ct_X1_isAway (l : Launch) (D : va_G) (cI cJ cZ : ClassId) (a : Nat → Nat) (u : LvS) (p0 p1 : Int) (hu : LvI u) (h0 : -2147483648 ≤ p0 ∧ p0 < 2147483648) (h1 : 0 ≤ p1 ∧ p1 ≤ 511) : gz_M l yX1_isAway wsX1_isAway { frames := 0, cells := 0, slots := 0, locals := 0 } D cI cJ cZ [.ref (a 0), vI p0, vI p1] (LvW cJ a u) (gz_pI (LvW cJ a u) (fun r => r = bz (Lv_off u p0 p1))) := by
  refine gz_ofZ (cc := cX1_isAway) (maxL := 3) (ty := .boolean) (own := RX1) (by decide) rfl rfl (Nat.le_of_ble_eq_true rfl) (lv0 := [(0, .ref (a 0)), (1, vI p0), (2, vI p1)]) rfl ?_
  intro p e s m args below meth c A Q F Z
  refine gz_iload_n (pc := 0) F dX1_isAway_0 rfl 1 rfl ?_
  refine gz_if_lt (pc := 1) (tgt := 32) F dX1_isAway_1 (by decide) (by omega) (fun c1 => ?_) (fun c1 => ?_)
  · refine gz_const (pc := 32) F dX1_isAway_32 ?_
    refine Z _ _ 33 _ dX1_isAway_33 rfl ?_
    exact ⟨rfl, _, rfl, (bz_f (fun h => by first | exact absurd h.1 (by omega) | exact absurd h.2.1 (by omega) | (have h9 := bz_t h.2.2; omega))).symm⟩
  · refine gz_iload_n (pc := 4) F dX1_isAway_4 rfl 1 rfl ?_
    refine gz_bipush (pc := 5) F dX1_isAway_5 (by decide) ?_
    refine gz_icmp_ge (pc := 7) (tgt := 32) F dX1_isAway_7 (by decide) (by omega) (by omega) (fun c7 => ?_) (fun c7 => ?_)
    · refine gz_const (pc := 32) F dX1_isAway_32 ?_
      refine Z _ _ 33 _ dX1_isAway_33 rfl ?_
      exact ⟨rfl, _, rfl, (bz_f (fun h => by first | exact absurd h.1 (by omega) | exact absurd h.2.1 (by omega) | (have h9 := bz_t h.2.2; omega))).symm⟩
    · refine gz_aload_n (pc := 10) F dX1_isAway_10 rfl 0 rfl ?_
      refine gz_get (pc := 11) (v := .ref (a 1)) F hn_X1_isAway_X1 0 1 rfl rfl 0 (by decide) fl_X1_isAway_9 rfl dX1_isAway_11 ?_
      refine gz_iload_n (pc := 14) F dX1_isAway_14 rfl 1 rfl ?_
      refine gz_lald (pc := 15) (f := zB (Lv_dy u)) F 1 rfl (by omega) (by decide) dX1_isAway_15 ?_
      refine gz_iload_n (pc := 16) F dX1_isAway_16 rfl 2 rfl ?_
      refine gz_bipush (pc := 17) F dX1_isAway_17 (by decide) ?_
      refine gz_idiv (pc := 19) F dX1_isAway_19 (by omega) (by omega) ?_
      refine gz_lshr (pc := 20) (v := (zB (Lv_dy u) (Int.toNat p0)) >>> ((zI (p1 / 8)).toInt64 &&& 63)) F dX1_isAway_20 (rfl) ?_
      refine gz_lconst (pc := 21) (v := 1) F dX1_isAway_21 rfl ?_
      refine gz_land (pc := 22) (v := if (u p0).testBit (p1 / 8).toNat then 1 else 0) F dX1_isAway_22 (Lv_offL hu (by omega) (by omega)) ?_
      refine gz_lconst (pc := 23) (v := 1) F dX1_isAway_23 rfl ?_
      refine gz_lcmp (pc := 24) (v := bz ((u p0).testBit (p1 / 8).toNat = true) - 1) F dX1_isAway_24 (Lv_offC _) ?_
      have b25 := bz_r ((u p0).testBit (p1 / 8).toNat = true)
      refine gz_if_ne (pc := 25) (tgt := 32) F dX1_isAway_25 (by decide) (by omega) (fun c25 => ?_) (fun c25 => ?_)
      · refine gz_const (pc := 32) F dX1_isAway_32 ?_
        refine Z _ _ 33 _ dX1_isAway_33 rfl ?_
        exact ⟨rfl, _, rfl, (bz_f (fun h => by first | exact absurd h.1 (by omega) | exact absurd h.2.1 (by omega) | (have h9 := bz_t h.2.2; omega))).symm⟩
      · refine gz_const (pc := 28) F dX1_isAway_28 ?_
        refine gz_goto (pc := 29) (tgt := 33) F dX1_isAway_29 (by decide) ?_
        refine Z _ _ 33 _ dX1_isAway_33 rfl ?_
        exact ⟨rfl, _, rfl, (bz_t (⟨by omega, by omega, bz_n (by omega)⟩)).symm⟩

set_option maxHeartbeats 4000000 in
set_option maxRecDepth 100000 in
theorem ct_X1_peopleAway (l : Launch) (D : va_G) (cI cJ cZ : ClassId) (a : Nat → Nat) (u : LvS) (p0 : Int) (hu : LvI u) (h0 : 0 ≤ p0 ∧ p0 ≤ 511) : gz_M l yX1_peopleAway wsX1_peopleAway { frames := 1, cells := 0, slots := 0, locals := 22 } D cI cJ cZ [.ref (a 0), vI p0] (LvW cJ a u) (gz_pI (LvW cJ a u) (fun r => (0 ≤ r ∧ r ≤ 1023) ∧ ∀ q : Nat, bit r q ↔ Lv_off u (q : Int) p0)) := by
  refine gz_ofZ (cc := cX1_peopleAway) (maxL := 4) (ty := .int) (own := RX1) (by decide) rfl rfl (Nat.le_of_ble_eq_true rfl) (lv0 := [(0, .ref (a 0)), (1, vI p0)]) rfl ?_
  intro p e s m args below meth c A Q F Z
  have L4 : ∀ (N : Nat) (i : Int) (b : Int), (10 - i).toNat < N → (0 ≤ i ∧ i ≤ 10) → (0 ≤ b ∧ b ≤ 1023) → (∀ q : Nat, bit b q ↔ (q : Int) < i ∧ Lv_off u (q : Int) p0) → gG p l e ({ frames := 1, cells := 0, slots := 0, locals := 22 } : Room) s m args below meth c D A 4 Q 0 0 (LvW cJ a u) [(0, .ref (a 0)), (1, vI p0), (2, vI b), (3, vI i)] [] 4 := by
    intro N
    induction N with
    | zero => intro i b hN; exact absurd hN (Nat.not_lt_zero _)
    | succ N ih4 =>
      intro i b hN hi hb hq
      refine gz_iload_n (pc := 4) F dX1_peopleAway_4 rfl 3 rfl ?_
      refine gz_bipush (pc := 5) F dX1_peopleAway_5 (by decide) ?_
      refine gz_icmp_ge (pc := 7) (tgt := 31) F dX1_peopleAway_7 (by decide) (by omega) (by omega) (fun c7 => ?_) (fun c7 => ?_)
      · refine gz_iload_n (pc := 31) F dX1_peopleAway_31 rfl 2 rfl ?_
        refine Z _ _ 32 _ dX1_peopleAway_32 rfl ?_
        exact ⟨rfl, _, rfl, hb, Lv_q_10 ((show i = 10 by omega) ▸ hq)⟩
      · refine gz_aload_n (pc := 10) F dX1_peopleAway_10 rfl 0 rfl ?_
        refine gz_iload_n (pc := 11) F dX1_peopleAway_11 rfl 3 rfl ?_
        refine gz_iload_n (pc := 12) F dX1_peopleAway_12 rfl 1 rfl ?_
        refine gz_callV (pc := 13) (n := 2) (As := [vI i, vI p0]) (rest := []) (bytes := cX1_isAway) (maxL := 3) (ret := some .boolean) F (ct_X1_isAway l D cI cJ cZ a u i p0 hu (by omega) (by omega)) gX1_peopleAway_X1_isAway rfl ⟨rfl, rfl⟩ (by decide +kernel) ⟨Nat.le_of_ble_eq_true rfl, Nat.le_of_ble_eq_true rfl⟩ rfl [0, 1] rfl (by decide) 0 1 rfl rfl rfl (by decide) ⟨Nat.zero_le _, Nat.zero_le _⟩ gz_pI_sh dX1_peopleAway_13 ?_
        refine gz_kI rfl (fun r13 h13 => ?_)
        subst h13
        refine gz_if_eqb (pc := 16) (tgt := 25) F dX1_peopleAway_16 (by decide) (fun c16 => ?_) (fun c16 => ?_)
        · refine gz_iinc (pc := 25) (lv2 := [(3, vI (i + 1)), (0, .ref (a 0)), (1, vI p0), (2, vI b)]) F dX1_peopleAway_25 3 rfl (by decide) rfl ?_
          refine gz_goto (pc := 28) (tgt := 4) F dX1_peopleAway_28 (by decide) ?_
          refine gz_lv [1, 2, 3, 0] rfl ?_
          exact ih4 (i + 1) b (by omega) (by omega) (by first | omega | exact zor_r hb (pow_r (by omega))) (by first | exact Lv_q_0 u p0 | exact Lv_q_no hi.1 hq c16 | exact Lv_q_yes hi.1 hq c16)
        · refine gz_iload_n (pc := 19) F dX1_peopleAway_19 rfl 2 rfl ?_
          refine gz_const (pc := 20) F dX1_peopleAway_20 ?_
          refine gz_iload_n (pc := 21) F dX1_peopleAway_21 rfl 3 rfl ?_
          refine gz_ishl (pc := 22) (v := ((2 ^ (Int.toNat i) : Nat) : Int)) F dX1_peopleAway_22 (zshl_1 (by omega)) ?_
          refine gz_ior (pc := 23) (v := zor b (((2 ^ (Int.toNat i) : Nat) : Int))) F dX1_peopleAway_23 (zor_I (by omega) (pow_r (by omega)).1) ?_
          refine gz_istore_n (pc := 24) (lv2 := [(2, vI (zor b (((2 ^ (Int.toNat i) : Nat) : Int)))), (0, .ref (a 0)), (1, vI p0), (3, vI i)]) F dX1_peopleAway_24 rfl (by decide) rfl ?_
          refine gz_iinc (pc := 25) (lv2 := [(3, vI (i + 1)), (2, vI (zor b (((2 ^ (Int.toNat i) : Nat) : Int)))), (0, .ref (a 0)), (1, vI p0)]) F dX1_peopleAway_25 3 rfl (by decide) rfl ?_
          refine gz_goto (pc := 28) (tgt := 4) F dX1_peopleAway_28 (by decide) ?_
          refine gz_lv [2, 3, 1, 0] rfl ?_
          exact ih4 (i + 1) (zor b (((2 ^ (Int.toNat i) : Nat) : Int))) (by omega) (by omega) (by first | omega | exact zor_r hb (pow_r (by omega))) (by first | exact Lv_q_0 u p0 | exact Lv_q_no hi.1 hq c16 | exact Lv_q_yes hi.1 hq c16)
  refine gz_const (pc := 0) F dX1_peopleAway_0 ?_
  refine gz_istore_n (pc := 1) (lv2 := [(2, vI 0), (0, .ref (a 0)), (1, vI p0)]) F dX1_peopleAway_1 rfl (by decide) rfl ?_
  refine gz_const (pc := 2) F dX1_peopleAway_2 ?_
  refine gz_istore_n (pc := 3) (lv2 := [(3, vI 0), (2, vI 0), (0, .ref (a 0)), (1, vI p0)]) F dX1_peopleAway_3 rfl (by decide) rfl ?_
  refine gz_lv [2, 3, 1, 0] rfl ?_
  exact L4 _ 0 0 (Nat.lt_succ_self _) (by omega) (by first | omega | exact zor_r hb (pow_r (by omega))) (by first | exact Lv_q_0 u p0 | exact Lv_q_no hi.1 hq c16 | exact Lv_q_yes hi.1 hq c16)

theorem hn_X1_clear_X1 : ∀ w ∈ u_ws RX1 TX1 1, w ∈ wsX1_clear := by decide +kernel
theorem fl_X1_clear_9 : Cond.fieldLink RX1 9 (TX1 0).1 (TX1 0).2.1 (TX1 0).2.2.1 ∈ wsX1_clear := by decide +kernel
set_option maxHeartbeats 4000000 in
set_option maxRecDepth 100000 in
theorem ct_X1_clear (l : Launch) (D : va_G) (cI cJ cZ : ClassId) (a : Nat → Nat) (u : LvS) (hu : LvI u)  : gz_M l yX1_clear wsX1_clear { frames := 0, cells := 0, slots := 0, locals := 0 } D cI cJ cZ [.ref (a 0)] (LvW cJ a u) (gz_pE (LvW cJ a (Lv_clear u 10))) := by
  refine gz_ofV (cc := cX1_clear) (maxL := 2) (own := RX1) (by decide) rfl rfl (Nat.le_of_ble_eq_true rfl) (lv0 := [(0, .ref (a 0))]) rfl ?_
  intro p e s m args below meth c A Q F Z
  have L2 : ∀ (N : Nat) (i : Int), (10 - i).toNat < N → (0 ≤ i ∧ i ≤ 10) → gG p l e ({ frames := 0, cells := 0, slots := 0, locals := 0 } : Room) s m args below meth c D A 2 Q 0 0 (LvW cJ a (Lv_clear u i)) [(0, .ref (a 0)), (1, vI i)] [] 2 := by
    intro N
    induction N with
    | zero => intro i hN; exact absurd hN (Nat.not_lt_zero _)
    | succ N ih2 =>
      intro i hN hi
      refine gz_iload_n (pc := 2) F dX1_clear_2 rfl 1 rfl ?_
      refine gz_bipush (pc := 3) F dX1_clear_3 (by decide) ?_
      refine gz_icmp_ge (pc := 5) (tgt := 21) F dX1_clear_5 (by decide) (by omega) (by omega) (fun c5 => ?_) (fun c5 => ?_)
      · refine Z _ _ 21 dX1_clear_21 ?_
        exact ⟨rfl, by rw [show i = 10 by omega]⟩
      · refine gz_aload_n (pc := 8) F dX1_clear_8 rfl 0 rfl ?_
        refine gz_get (pc := 9) (v := .ref (a 1)) F hn_X1_clear_X1 0 1 rfl rfl 0 (by decide) fl_X1_clear_9 rfl dX1_clear_9 ?_
        refine gz_iload_n (pc := 12) F dX1_clear_12 rfl 1 rfl ?_
        refine gz_lconst (pc := 13) (v := 0) F dX1_clear_13 rfl ?_
        refine gz_last (pc := 14) (f := zB (Lv_clear u i)) (ws2 := LvW cJ a (Lv_put (Lv_clear u i) i 0)) F 1 rfl (by omega) (by decide) (by rw [show (0 : Int64) = lN 0 from rfl, zB_upd _ _ (by omega)]; rfl) dX1_clear_14 ?_
        refine gz_iinc (pc := 15) (lv2 := [(1, vI (i + 1)), (0, .ref (a 0))]) F dX1_clear_15 1 rfl (by decide) rfl ?_
        refine gz_goto (pc := 18) (tgt := 2) F dX1_clear_18 (by decide) ?_
        refine gz_eqw (ws2 := LvW cJ a (Lv_clear u (i + 1))) (by first | rw [Lv_clear_0] | rw [Lv_clear_s hi.1]) ?_
        refine gz_lv [1, 0] rfl ?_
        exact ih2 (i + 1) (by omega) (by omega)
  refine gz_const (pc := 0) F dX1_clear_0 ?_
  refine gz_istore_n (pc := 1) (lv2 := [(1, vI 0), (0, .ref (a 0))]) F dX1_clear_1 rfl (by decide) rfl ?_
  refine gz_eqw (ws2 := LvW cJ a (Lv_clear u 0)) (by first | rw [Lv_clear_0] | rw [Lv_clear_s hi.1]) ?_
  refine gz_lv [1, 0] rfl ?_
  exact L2 _ 0 (Nat.lt_succ_self _) (by omega)

theorem hn_X1_add_X1 : ∀ w ∈ u_ws RX1 TX1 1, w ∈ wsX1_add := by decide +kernel
theorem fl_X1_add_9 : Cond.fieldLink RX1 9 (TX1 0).1 (TX1 0).2.1 (TX1 0).2.2.1 ∈ wsX1_add := by decide +kernel
set_option maxHeartbeats 4000000 in
set_option maxRecDepth 100000 in
theorem ct_X1_add (l : Launch) (D : va_G) (cI cJ cZ : ClassId) (a : Nat → Nat) (u : LvS) (p0 p1 p2 : Int) (hu : LvI u) (h0 : -2147483648 ≤ p0 ∧ p0 < 2147483648) (h1 : zR0 p1) (h2 : -2147483648 ≤ p2 ∧ p2 < 2147483648) : gz_M l yX1_add wsX1_add { frames := 0, cells := 0, slots := 0, locals := 0 } D cI cJ cZ [.ref (a 0), vI p0, vI p1, vI p2] (LvW cJ a u) (gz_pE (LvW cJ a (Lv_add u p0 p1 p2))) := by
  refine gz_ofV (cc := cX1_add) (maxL := 5) (own := RX1) (by decide) rfl rfl (Nat.le_of_ble_eq_true rfl) (lv0 := [(0, .ref (a 0)), (1, vI p0), (2, vI p1), (3, vI p2)]) rfl ?_
  intro p e s m args below meth c A Q F Z
  have L13 : ∀ (N : Nat) (d : Int), (50 - d).toNat < N → (0 ≤ p0 ∧ p0 < 10) → (p1 ≤ d ∧ (d = p1 ∨ d ≤ p2 + 1 ∧ d ≤ 50)) → (Lv_bits (u p0) p1 (d - p1).toNat < 2 ^ 50) → gG p l e ({ frames := 0, cells := 0, slots := 0, locals := 0 } : Room) s m args below meth c D A 5 Q 0 0 (LvW cJ a (Lv_put u p0 (Lv_bits (u p0) p1 (d - p1).toNat))) [(0, .ref (a 0)), (1, vI p0), (2, vI p1), (3, vI p2), (4, vI d)] [] 13 := by
    intro N
    induction N with
    | zero => intro d hN; exact absurd hN (Nat.not_lt_zero _)
    | succ N ih13 =>
      intro d hN hp hi hb
      refine gz_iload (pc := 13) F dX1_add_13 4 rfl ?_
      refine gz_iload_n (pc := 15) F dX1_add_15 rfl 3 rfl ?_
      refine gz_icmp_gt (pc := 16) (tgt := 45) F dX1_add_16 (by decide) (by omega) (by omega) (fun c16 => ?_) (fun c16 => ?_)
      · refine Z _ _ 45 dX1_add_45 ?_
        first | exact ⟨rfl, by rw [Lv_add, if_neg (by omega)]⟩ | exact ⟨rfl, by rw [Lv_add, if_pos hp, show (d - p1).toNat = (min (p2 + 1) 50 - p1).toNat by omega]⟩
      · refine gz_iload (pc := 19) F dX1_add_19 4 rfl ?_
        refine gz_bipush (pc := 21) F dX1_add_21 (by decide) ?_
        refine gz_icmp_ge (pc := 23) (tgt := 45) F dX1_add_23 (by decide) (by omega) (by omega) (fun c23 => ?_) (fun c23 => ?_)
        · refine Z _ _ 45 dX1_add_45 ?_
          first | exact ⟨rfl, by rw [Lv_add, if_neg (by omega)]⟩ | exact ⟨rfl, by rw [Lv_add, if_pos hp, show (d - p1).toNat = (min (p2 + 1) 50 - p1).toNat by omega]⟩
        · refine gz_aload_n (pc := 26) F dX1_add_26 rfl 0 rfl ?_
          refine gz_get (pc := 27) (v := .ref (a 1)) F hn_X1_add_X1 0 1 rfl rfl 0 (by decide) fl_X1_add_9 rfl dX1_add_27 ?_
          refine gz_iload_n (pc := 30) F dX1_add_30 rfl 1 rfl ?_
          refine gz_dup2 (pc := 31) F dX1_add_31 rfl rfl ?_
          refine gz_lald (pc := 32) (f := zB (Lv_put u p0 (Lv_bits (u p0) p1 (d - p1).toNat))) F 1 rfl (by omega) (by decide) dX1_add_32 ?_
          refine gz_lconst (pc := 33) (v := 1) F dX1_add_33 rfl ?_
          refine gz_iload (pc := 34) F dX1_add_34 4 rfl ?_
          refine gz_lshl (pc := 36) (v := lN (1 * 2 ^ (Int.toNat d))) F dX1_add_36 (by rw [zI_n (by omega)]; exact zl_shl 1 (by omega)) ?_
          refine gz_lor (pc := 37) (v := lN (Lv_bits (u p0) p1 (d - p1).toNat ||| 2 ^ (Int.toNat d))) F dX1_add_37 (Lv_orL (by omega) (by omega) hb) ?_
          refine gz_last (pc := 38) (f := zB (Lv_put u p0 (Lv_bits (u p0) p1 (d - p1).toNat))) (ws2 := LvW cJ a (Lv_put (Lv_put u p0 (Lv_bits (u p0) p1 (d - p1).toNat)) p0 (Lv_bits (u p0) p1 (d - p1).toNat ||| 2 ^ (Int.toNat d)))) F 1 rfl (by omega) (by decide) (by rw [zB_upd _ _ (by omega)]; rfl) dX1_add_38 ?_
          refine gz_iinc (pc := 39) (lv2 := [(4, vI (d + 1)), (0, .ref (a 0)), (1, vI p0), (2, vI p1), (3, vI p2)]) F dX1_add_39 4 rfl (by decide) rfl ?_
          refine gz_goto (pc := 42) (tgt := 13) F dX1_add_42 (by decide) ?_
          refine gz_eqw (ws2 := LvW cJ a (Lv_put u p0 (Lv_bits (u p0) p1 (d + 1 - p1).toNat))) (by first | (rw [Int.sub_self]; exact congrArg (LvW cJ a) (Lv_put_id u p0).symm) | exact congrArg (LvW cJ a) (Lv_put_s (by omega))) ?_
          refine gz_lv [1, 2, 3, 4, 0] rfl ?_
          exact ih13 (d + 1) (by omega) (by omega) (by omega) (by first | exact Lv_bits_s (by omega) (by omega) hb | (rw [Int.sub_self]; exact hu p0))
  refine gz_iload_n (pc := 0) F dX1_add_0 rfl 1 rfl ?_
  refine gz_if_lt (pc := 1) (tgt := 45) F dX1_add_1 (by decide) (by omega) (fun c1 => ?_) (fun c1 => ?_)
  · refine Z _ _ 45 dX1_add_45 ?_
    first | exact ⟨rfl, by rw [Lv_add, if_neg (by omega)]⟩ | exact ⟨rfl, by rw [Lv_add, if_pos hp, show (d - p1).toNat = (min (p2 + 1) 50 - p1).toNat by omega]⟩
  · refine gz_iload_n (pc := 4) F dX1_add_4 rfl 1 rfl ?_
    refine gz_bipush (pc := 5) F dX1_add_5 (by decide) ?_
    refine gz_icmp_ge (pc := 7) (tgt := 45) F dX1_add_7 (by decide) (by omega) (by omega) (fun c7 => ?_) (fun c7 => ?_)
    · refine Z _ _ 45 dX1_add_45 ?_
      first | exact ⟨rfl, by rw [Lv_add, if_neg (by omega)]⟩ | exact ⟨rfl, by rw [Lv_add, if_pos hp, show (d - p1).toNat = (min (p2 + 1) 50 - p1).toNat by omega]⟩
    · refine gz_iload_n (pc := 10) F dX1_add_10 rfl 2 rfl ?_
      refine gz_istore (pc := 11) (lv2 := [(4, vI p1), (0, .ref (a 0)), (1, vI p0), (2, vI p1), (3, vI p2)]) F dX1_add_11 (by decide) rfl ?_
      refine gz_eqw (ws2 := LvW cJ a (Lv_put u p0 (Lv_bits (u p0) p1 (p1 - p1).toNat))) (by first | (rw [Int.sub_self]; exact congrArg (LvW cJ a) (Lv_put_id u p0).symm) | exact congrArg (LvW cJ a) (Lv_put_s (by omega))) ?_
      refine gz_lv [1, 2, 3, 4, 0] rfl ?_
      exact L13 _ p1 (Nat.lt_succ_self _) (by omega) (by omega) (by first | exact Lv_bits_s (by omega) (by omega) hb | (rw [Int.sub_self]; exact hu p0))

