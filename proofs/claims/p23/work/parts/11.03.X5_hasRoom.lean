/-! ===== laid by wip/whole/gen/plan.py ===== -/
theorem hn_X5_hasRoom_X5 : ∀ w ∈ u_ws RX5 TX5 6, w ∈ wsX5_hasRoom := by decide +kernel
theorem fl_X5_hasRoom_35 : Cond.fieldLink RX5 35 (TX5 3).1 (TX5 3).2.1 (TX5 3).2.2.1 ∈ wsX5_hasRoom := by decide +kernel
theorem fl_X5_hasRoom_28 : Cond.fieldLink RX5 28 (TX5 2).1 (TX5 2).2.1 (TX5 2).2.2.1 ∈ wsX5_hasRoom := by decide +kernel
theorem fl_X5_hasRoom_12 : Cond.fieldLink RX5 12 (TX5 0).1 (TX5 0).2.1 (TX5 0).2.2.1 ∈ wsX5_hasRoom := by decide +kernel
set_option maxHeartbeats 4000000 in
set_option maxRecDepth 100000 in
theorem ct_X5_hasRoom (l : Launch) (D : va_G) (cI cJ cZ : ClassId) (a : Nat → Nat) (u : PlS) (p0 p1 p2 p3 p4 : Int) (hu : PlI u) (h0 : zR2 p0) (h1 : zR0 p1) (h2 : -1 ≤ p2 ∧ p2 ≤ 1023) (h3 : -1 ≤ p3 ∧ p3 ≤ 1023) (h4 : -1 ≤ p4 ∧ p4 ≤ 1023) : gz_M l yX5_hasRoom wsX5_hasRoom { frames := 2, cells := 0, slots := 0, locals := 48 } D cI cJ cZ [.ref (a 0), vI p0, vI p1, vI p2, vI p3, vI p4] (PlW cI cJ a u) (gz_pI (PlW cI cJ a u) (fun r => r = bz (Pl_room u p0 p1 p2 p3 p4))) := by
  refine gz_ofZ (cc := cX5_hasRoom) (maxL := 7) (ty := .boolean) (own := RX5) (by decide) rfl rfl (Nat.le_of_ble_eq_true rfl) (lv0 := [(0, .ref (a 0)), (1, vI p0), (2, vI p1), (3, vI p2), (4, vI p3), (5, vI p4)]) rfl ?_
  intro p e s m args below meth c A Q F Z
  obtain ⟨hMc, hLo, hLv, hMt, hBu, hnw⟩ := id hu
  have hMcn := hMc.1
  have hMtn := hMt.1
  have hBun := hBu.1
  refine gz_aload_n (pc := 0) F dX5_hasRoom_0 rfl 0 rfl ?_
  refine gz_get (pc := 1) (v := .ref (a 14)) F hn_X5_hasRoom_X5 0 5 rfl rfl 3 (by decide) fl_X5_hasRoom_35 rfl dX5_hasRoom_1 ?_
  refine gz_iload_n (pc := 4) F dX5_hasRoom_4 rfl 2 rfl ?_
  refine gz_iload_n (pc := 5) F dX5_hasRoom_5 rfl 3 rfl ?_
  refine gz_iload (pc := 6) F dX5_hasRoom_6 5 rfl ?_
  refine gz_callV (pc := 8) (n := 3) (As := [vI p1, vI p2, vI p4]) (rest := []) (bytes := cX4_busyPeople) (maxL := 6) (ret := some .int) F (ct_X4_busyPeople l D cI cJ cZ (fun i => a (i + 14)) (Pl_mt u) p1 p2 p4 hMt (by omega) (by omega) (by omega)) gX5_hasRoom_X4_busyPeople rfl ⟨rfl, rfl⟩ (by decide +kernel) ⟨Nat.le_of_ble_eq_true rfl, Nat.le_of_ble_eq_true rfl⟩ rfl [14, 15, 16, 17, 18, 19, 20] rfl (by decide) 14 4 rfl rfl rfl (Nat.le_of_ble_eq_true rfl) ⟨Nat.zero_le _, Nat.zero_le _⟩ gz_pI_sh dX5_hasRoom_8 ?_
  refine gz_kI rfl (fun r8 h8 => ?_)
  obtain ⟨b8, q8⟩ := h8
  refine gz_aload_n (pc := 11) F dX5_hasRoom_11 rfl 0 rfl ?_
  refine gz_get (pc := 12) (v := .ref (a 12)) F hn_X5_hasRoom_X5 0 5 rfl rfl 2 (by decide) fl_X5_hasRoom_28 rfl dX5_hasRoom_12 ?_
  refine gz_iload_n (pc := 15) F dX5_hasRoom_15 rfl 2 rfl ?_
  refine gz_callV (pc := 16) (n := 1) (As := [vI p1]) (rest := [vI r8]) (bytes := cX1_peopleAway) (maxL := 4) (ret := some .int) F (ct_X1_peopleAway l D cI cJ cZ (fun i => a (i + 12)) (Pl_lv u) p1 hLv (by omega)) gX5_hasRoom_X1_peopleAway rfl ⟨rfl, rfl⟩ (by decide +kernel) ⟨Nat.le_of_ble_eq_true rfl, Nat.le_of_ble_eq_true rfl⟩ rfl [12, 13] rfl (by decide) 12 1 rfl rfl rfl (Nat.le_of_ble_eq_true rfl) ⟨Nat.zero_le _, Nat.zero_le _⟩ gz_pI_sh dX5_hasRoom_16 ?_
  refine gz_kI rfl (fun r16 h16 => ?_)
  obtain ⟨b16, q16⟩ := h16
  refine gz_ior (pc := 19) (v := zor r8 r16) F dX5_hasRoom_19 (zor_I (by omega) (by omega)) ?_
  refine gz_istore (pc := 20) (lv2 := [(6, vI (zor r8 r16)), (0, .ref (a 0)), (1, vI p0), (2, vI p1), (3, vI p2), (4, vI p3), (5, vI p4)]) F dX5_hasRoom_20 (by decide) rfl ?_
  refine gz_iload_n (pc := 22) F dX5_hasRoom_22 rfl 2 rfl ?_
  refine gz_iload (pc := 23) F dX5_hasRoom_23 0 rfl ?_
  refine gz_iand (pc := 25) (v := zand p0 (zor r8 r16)) F dX5_hasRoom_25 (zand_I (by omega) (zor_r b8 b16).1) ?_
  have b26 := zand_r (y := zor r8 r16) h0
  have e26 := Pl_room_0 h0 q8 q16
  refine gz_if_ne (pc := 26) (tgt := 80) F dX5_hasRoom_26 (by decide) (by omega) (fun c26 => ?_) (fun c26 => ?_)
  · refine gz_const (pc := 80) F dX5_hasRoom_80 ?_
    refine Z _ _ 81 _ dX5_hasRoom_81 rfl ?_
    exact ⟨rfl, _, rfl, (bz_f (fun h => by first | exact c26 (e26.mpr h.1) | exact (h.2.resolve_left c32).1 c48 | exact (h.2.resolve_left c32).2.1 c59 | exact (h.2.resolve_left c32).2.2 c73)).symm⟩
  · refine gz_iload (pc := 29) F dX5_hasRoom_29 5 rfl ?_
    refine gz_const (pc := 31) F dX5_hasRoom_31 ?_
    refine gz_icmp_eq (pc := 32) (tgt := 76) F dX5_hasRoom_32 (by decide) (by omega) (by omega) (fun c32 => ?_) (fun c32 => ?_)
    · refine gz_const (pc := 76) F dX5_hasRoom_76 ?_
      refine gz_goto (pc := 77) (tgt := 81) F dX5_hasRoom_77 (by decide) ?_
      refine Z _ _ 81 _ dX5_hasRoom_81 rfl ?_
      exact ⟨rfl, _, rfl, (bz_t (⟨e26.mp c26, by first | exact Or.inl c32 | exact Or.inr ⟨c48, c59, c73⟩⟩)).symm⟩
    · refine gz_aload_n (pc := 35) F dX5_hasRoom_35 rfl 1 rfl ?_
      refine gz_get (pc := 36) (v := .ref (a 14)) F hn_X5_hasRoom_X5 0 5 rfl rfl 3 (by decide) fl_X5_hasRoom_35 rfl dX5_hasRoom_36 ?_
      refine gz_iload (pc := 39) F dX5_hasRoom_39 5 rfl ?_
      refine gz_iload_n (pc := 41) F dX5_hasRoom_41 rfl 3 rfl ?_
      refine gz_iload_n (pc := 42) F dX5_hasRoom_42 rfl 4 rfl ?_
      refine gz_iload (pc := 43) F dX5_hasRoom_43 6 rfl ?_
      refine gz_callV (pc := 45) (n := 4) (As := [vI p3, vI p1, vI p2, vI p4]) (rest := []) (bytes := cX4_isPromised) (maxL := 6) (ret := some .boolean) F (ct_X4_isPromised l D cI cJ cZ (fun i => a (i + 14)) (Pl_mt u) p3 p1 p2 p4 hMt (by omega) (by omega) (by omega) (by omega)) gX5_hasRoom_X4_isPromised rfl ⟨rfl, rfl⟩ (by decide +kernel) ⟨Nat.le_of_ble_eq_true rfl, Nat.le_of_ble_eq_true rfl⟩ rfl [14, 15, 16, 17, 18, 19, 20] rfl (by decide) 14 4 rfl rfl rfl (Nat.le_of_ble_eq_true rfl) ⟨Nat.zero_le _, Nat.zero_le _⟩ gz_pI_sh dX5_hasRoom_45 ?_
      refine gz_kI rfl (fun r45 h45 => ?_)
      subst h45
      refine gz_if_neb (pc := 48) (tgt := 80) F dX5_hasRoom_48 (by decide) (fun c48 => ?_) (fun c48 => ?_)
      · refine gz_const (pc := 80) F dX5_hasRoom_80 ?_
        refine Z _ _ 81 _ dX5_hasRoom_81 rfl ?_
        exact ⟨rfl, _, rfl, (bz_f (fun h => by first | exact c26 (e26.mpr h.1) | exact (h.2.resolve_left c32).1 c48 | exact (h.2.resolve_left c32).2.1 c59 | exact (h.2.resolve_left c32).2.2 c73)).symm⟩
      · refine gz_aload_n (pc := 51) F dX5_hasRoom_51 rfl 1 rfl ?_
        refine gz_iload (pc := 52) F dX5_hasRoom_52 5 rfl ?_
        refine gz_iload_n (pc := 54) F dX5_hasRoom_54 rfl 3 rfl ?_
        refine gz_iload_n (pc := 55) F dX5_hasRoom_55 rfl 4 rfl ?_
        refine gz_callVb (pc := 56) (n := 3) (As := [vI p3, vI p1, vI p2]) (rest := []) (bytes := cX5_runsIn) (maxL := 5) (ret := some .boolean) F (ct_X5_runsIn l D cI cJ cZ a u p3 p1 p2 hu (by omega) (by omega) (by omega)) gX5_hasRoom_X5_runsIn rfl ⟨rfl, rfl⟩ (by decide +kernel) ⟨Nat.le_of_ble_eq_true rfl, Nat.le_of_ble_eq_true rfl⟩ rfl [] [] (List.append_nil _).symm 5 rfl rfl rfl (Nat.le_of_ble_eq_true rfl) ⟨Nat.zero_le _, Nat.zero_le _⟩ gz_pI_sh dX5_hasRoom_56 ?_
        refine gz_kIb (List.append_nil _) (fun r56 h56 => ?_)
        subst h56
        refine gz_if_neb (pc := 59) (tgt := 80) F dX5_hasRoom_59 (by decide) (fun c59 => ?_) (fun c59 => ?_)
        · refine gz_const (pc := 80) F dX5_hasRoom_80 ?_
          refine Z _ _ 81 _ dX5_hasRoom_81 rfl ?_
          exact ⟨rfl, _, rfl, (bz_f (fun h => by first | exact c26 (e26.mpr h.1) | exact (h.2.resolve_left c32).1 c48 | exact (h.2.resolve_left c32).2.1 c59 | exact (h.2.resolve_left c32).2.2 c73)).symm⟩
        · refine gz_aload_n (pc := 62) F dX5_hasRoom_62 rfl 1 rfl ?_
          refine gz_get (pc := 63) (v := .ref (a 1)) F hn_X5_hasRoom_X5 0 5 rfl rfl 0 (by decide) fl_X5_hasRoom_12 rfl dX5_hasRoom_63 ?_
          refine gz_iload (pc := 66) F dX5_hasRoom_66 5 rfl ?_
          refine gz_iload_n (pc := 68) F dX5_hasRoom_68 rfl 3 rfl ?_
          refine gz_iload_n (pc := 69) F dX5_hasRoom_69 rfl 4 rfl ?_
          refine gz_callV (pc := 70) (n := 3) (As := [vI p3, vI p1, vI p2]) (rest := []) (bytes := cX3_isBroken) (maxL := 4) (ret := some .boolean) F (ct_X3_isBroken l D cI cJ cZ (fun i => a (i + 1)) (Pl_mc u) p3 p1 p2 hMc (by omega) (by omega) (by omega)) gX5_hasRoom_X3_isBroken rfl ⟨rfl, rfl⟩ (by decide +kernel) ⟨Nat.le_of_ble_eq_true rfl, Nat.le_of_ble_eq_true rfl⟩ rfl [1, 2, 3, 4, 5, 6] rfl (by decide) 1 3 rfl rfl rfl (Nat.le_of_ble_eq_true rfl) ⟨Nat.zero_le _, Nat.zero_le _⟩ gz_pI_sh dX5_hasRoom_70 ?_
          refine gz_kI rfl (fun r70 h70 => ?_)
          subst h70
          refine gz_if_neb (pc := 73) (tgt := 80) F dX5_hasRoom_73 (by decide) (fun c73 => ?_) (fun c73 => ?_)
          · refine gz_const (pc := 80) F dX5_hasRoom_80 ?_
            refine Z _ _ 81 _ dX5_hasRoom_81 rfl ?_
            exact ⟨rfl, _, rfl, (bz_f (fun h => by first | exact c26 (e26.mpr h.1) | exact (h.2.resolve_left c32).1 c48 | exact (h.2.resolve_left c32).2.1 c59 | exact (h.2.resolve_left c32).2.2 c73)).symm⟩
          · refine gz_const (pc := 76) F dX5_hasRoom_76 ?_
            refine gz_goto (pc := 77) (tgt := 81) F dX5_hasRoom_77 (by decide) ?_
            refine Z _ _ 81 _ dX5_hasRoom_81 rfl ?_
            exact ⟨rfl, _, rfl, (bz_t (⟨e26.mp c26, by first | exact Or.inl c32 | exact Or.inr ⟨c48, c59, c73⟩⟩)).symm⟩
