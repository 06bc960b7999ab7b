/-! ===== laid by wip/whole/gen/plan.py ===== -/
theorem hn_X5_freeSlots_X5 : ∀ w ∈ u_ws RX5 TX5 6, w ∈ wsX5_freeSlots := by decide +kernel
theorem fl_X5_freeSlots_46 : Cond.fieldLink RX5 46 (TX5 5).1 (TX5 5).2.1 (TX5 5).2.2.1 ∈ wsX5_freeSlots := by decide +kernel
theorem fl_X5_freeSlots_12 : Cond.fieldLink RX5 12 (TX5 0).1 (TX5 0).2.1 (TX5 0).2.2.1 ∈ wsX5_freeSlots := by decide +kernel
theorem fl_X5_freeSlots_28 : Cond.fieldLink RX5 28 (TX5 2).1 (TX5 2).2.1 (TX5 2).2.2.1 ∈ wsX5_freeSlots := by decide +kernel
theorem fl_X5_freeSlots_35 : Cond.fieldLink RX5 35 (TX5 3).1 (TX5 3).2.1 (TX5 3).2.2.1 ∈ wsX5_freeSlots := by decide +kernel
set_option maxHeartbeats 4000000 in
set_option maxRecDepth 100000 in
theorem ct_X5_freeSlots (l : Launch) (D : va_G) (cI cJ cZ : ClassId) (a : Nat → Nat) (u : PlS) (p0 : Int) (hu : PlI u) (h0 : -1 ≤ p0 ∧ p0 ≤ 1023) : gz_M l yX5_freeSlots wsX5_freeSlots { frames := 2, cells := 0, slots := 0, locals := 48 } D cI cJ cZ [.ref (a 0), vI p0] (PlW cI cJ a u) (gz_pI (PlW cI cJ a u) (fun r => r = Pl_free u p0)) := by
  refine gz_ofZ (cc := cX5_freeSlots) (maxL := 4) (ty := .int) (own := RX5) (by decide) rfl rfl (Nat.le_of_ble_eq_true rfl) (lv0 := [(0, .ref (a 0)), (1, vI p0)]) rfl ?_
  intro p e s m args below meth c A Q F Z
  obtain ⟨hMc, hLo, hLv, hMt, hBu, hnw⟩ := id hu
  have hMcn := hMc.1
  have hMtn := hMt.1
  have hBun := hBu.1
  have L2 : ∀ (N : Nat) (i : Int), (6 - i).toNat < N → (0 ≤ i ∧ i ≤ 6) → (Pl_free u p0 = Pl_freeN u p0 (6 - i).toNat) → gG p l e ({ frames := 2, cells := 0, slots := 0, locals := 48 } : Room) s m args below meth c D A 4 Q 0 0 (PlW cI cJ a u) [(0, .ref (a 0)), (1, vI p0), (2, vI i)] [] 2 := by
    intro N
    induction N with
    | zero => intro i hN; exact absurd hN (Nat.not_lt_zero _)
    | succ N ih2 =>
      intro i hN hi hf
      refine gz_iload_n (pc := 2) F dX5_freeSlots_2 rfl 2 rfl ?_
      refine gz_bipush (pc := 3) F dX5_freeSlots_3 (by decide) ?_
      refine gz_icmp_ge (pc := 5) (tgt := 79) F dX5_freeSlots_5 (by decide) (by omega) (by omega) (fun c5 => ?_) (fun c5 => ?_)
      · refine gz_bipush (pc := 79) F dX5_freeSlots_79 (by decide) ?_
        refine Z _ _ 81 _ dX5_freeSlots_81 rfl ?_
        refine ⟨rfl, _, rfl, ?_⟩
        rw [hf]
        first | exact (Pl_freeN_end (by omega) (by omega)).symm | (rw [show (6 - i).toNat = 0 by omega]; rfl)
      · refine gz_aload_n (pc := 8) F dX5_freeSlots_8 rfl 0 rfl ?_
        refine gz_get (pc := 9) (v := vI (Pl_now u)) F hn_X5_freeSlots_X5 0 5 rfl rfl 5 (by decide) fl_X5_freeSlots_46 rfl dX5_freeSlots_9 ?_
        have b9 := hnw
        refine gz_iload_n (pc := 12) F dX5_freeSlots_12 rfl 2 rfl ?_
        refine gz_iadd (pc := 13) F dX5_freeSlots_13 ?_
        refine gz_sipush (pc := 14) F dX5_freeSlots_14 (by decide) ?_
        refine gz_icmp_ge (pc := 17) (tgt := 79) F dX5_freeSlots_17 (by decide) (by omega) (by omega) (fun c17 => ?_) (fun c17 => ?_)
        · refine gz_bipush (pc := 79) F dX5_freeSlots_79 (by decide) ?_
          refine Z _ _ 81 _ dX5_freeSlots_81 rfl ?_
          refine ⟨rfl, _, rfl, ?_⟩
          rw [hf]
          first | exact (Pl_freeN_end (by omega) (by omega)).symm | (rw [show (6 - i).toNat = 0 by omega]; rfl)
        · refine gz_aload_n (pc := 20) F dX5_freeSlots_20 rfl 0 rfl ?_
          refine gz_get (pc := 21) (v := vI (Pl_now u)) F hn_X5_freeSlots_X5 0 5 rfl rfl 5 (by decide) fl_X5_freeSlots_46 rfl dX5_freeSlots_21 ?_
          have b21 := hnw
          refine gz_iload_n (pc := 24) F dX5_freeSlots_24 rfl 2 rfl ?_
          refine gz_iadd (pc := 25) F dX5_freeSlots_25 ?_
          refine gz_istore_n (pc := 26) (lv2 := [(3, vI ((Pl_now u) + i)), (0, .ref (a 0)), (1, vI p0), (2, vI i)]) F dX5_freeSlots_26 rfl (by decide) rfl ?_
          refine gz_aload_n (pc := 27) F dX5_freeSlots_27 rfl 1 rfl ?_
          refine gz_get (pc := 28) (v := .ref (a 1)) F hn_X5_freeSlots_X5 0 5 rfl rfl 0 (by decide) fl_X5_freeSlots_12 rfl dX5_freeSlots_28 ?_
          refine gz_iload_n (pc := 31) F dX5_freeSlots_31 rfl 2 rfl ?_
          refine gz_iload_n (pc := 32) F dX5_freeSlots_32 rfl 0 rfl ?_
          refine gz_const (pc := 33) F dX5_freeSlots_33 ?_
          refine gz_callV (pc := 34) (n := 3) (As := [vI p0, vI ((Pl_now u) + i), vI 1]) (rest := []) (bytes := cX3_isBroken) (maxL := 4) (ret := some .boolean) F (ct_X3_isBroken l D cI cJ cZ (fun i => a (i + 1)) (Pl_mc u) p0 ((Pl_now u) + i) 1 hMc (by omega) (by omega) (by omega)) gX5_freeSlots_X3_isBroken rfl ⟨rfl, rfl⟩ (by decide +kernel) ⟨Nat.le_of_ble_eq_true rfl, Nat.le_of_ble_eq_true rfl⟩ rfl [1, 2, 3, 4, 5, 6] rfl (by decide) 1 3 rfl rfl rfl (Nat.le_of_ble_eq_true rfl) ⟨Nat.zero_le _, Nat.zero_le _⟩ gz_pI_sh dX5_freeSlots_34 ?_
          refine gz_kI rfl (fun r34 h34 => ?_)
          subst h34
          refine gz_if_neb (pc := 37) (tgt := 71) F dX5_freeSlots_37 (by decide) (fun c37 => ?_) (fun c37 => ?_)
          · refine gz_iload_n (pc := 71) F dX5_freeSlots_71 rfl 3 rfl ?_
            refine Z _ _ 72 _ dX5_freeSlots_72 rfl ?_
            refine ⟨rfl, _, rfl, ?_⟩
            rw [hf]
            first | exact (Pl_freeN_hin (by omega) (by omega) (Or.inl c37)).symm | exact (Pl_freeN_hin (by omega) (by omega) (Or.inr (Or.inl c54))).symm | exact (Pl_freeN_hin (by omega) (by omega) (Or.inr (Or.inr c68))).symm
          · refine gz_aload_n (pc := 40) F dX5_freeSlots_40 rfl 1 rfl ?_
            refine gz_get (pc := 41) (v := .ref (a 12)) F hn_X5_freeSlots_X5 0 5 rfl rfl 2 (by decide) fl_X5_freeSlots_28 rfl dX5_freeSlots_41 ?_
            refine gz_aload_n (pc := 44) F dX5_freeSlots_44 rfl 1 rfl ?_
            refine gz_iload_n (pc := 45) F dX5_freeSlots_45 rfl 2 rfl ?_
            refine gz_iload_n (pc := 46) F dX5_freeSlots_46 rfl 0 rfl ?_
            refine gz_callVb (pc := 47) (n := 2) (As := [vI p0, vI ((Pl_now u) + i)]) (rest := [.ref (a 12)]) (bytes := cX5_holder) (maxL := 4) (ret := some .int) F (ct_X5_holder l D cI cJ cZ a u p0 ((Pl_now u) + i) hu (by omega) (by omega)) gX5_freeSlots_X5_holder rfl ⟨rfl, rfl⟩ (by decide +kernel) ⟨Nat.le_of_ble_eq_true rfl, Nat.le_of_ble_eq_true rfl⟩ rfl [] [] (List.append_nil _).symm 5 rfl rfl rfl (Nat.le_of_ble_eq_true rfl) ⟨Nat.zero_le _, Nat.zero_le _⟩ gz_pI_sh dX5_freeSlots_47 ?_
            refine gz_kIb (List.append_nil _) (fun r47 h47 => ?_)
            subst h47
            have b47 := Pl_hold_r hu p0 ((Pl_now u) + i)
            refine gz_iload_n (pc := 50) F dX5_freeSlots_50 rfl 0 rfl ?_
            refine gz_callV (pc := 51) (n := 2) (As := [vI (Pl_hold u p0 ((Pl_now u) + i)), vI ((Pl_now u) + i)]) (rest := []) (bytes := cX1_isAway) (maxL := 3) (ret := some .boolean) F (ct_X1_isAway l D cI cJ cZ (fun i => a (i + 12)) (Pl_lv u) (Pl_hold u p0 ((Pl_now u) + i)) ((Pl_now u) + i) hLv (by omega) (by omega)) gX5_freeSlots_X1_isAway rfl ⟨rfl, rfl⟩ (by decide +kernel) ⟨Nat.le_of_ble_eq_true rfl, Nat.le_of_ble_eq_true rfl⟩ rfl [12, 13] rfl (by decide) 12 1 rfl rfl rfl (Nat.le_of_ble_eq_true rfl) ⟨Nat.zero_le _, Nat.zero_le _⟩ gz_pI_sh dX5_freeSlots_51 ?_
            refine gz_kI rfl (fun r51 h51 => ?_)
            subst h51
            refine gz_if_neb (pc := 54) (tgt := 71) F dX5_freeSlots_54 (by decide) (fun c54 => ?_) (fun c54 => ?_)
            · refine gz_iload_n (pc := 71) F dX5_freeSlots_71 rfl 3 rfl ?_
              refine Z _ _ 72 _ dX5_freeSlots_72 rfl ?_
              refine ⟨rfl, _, rfl, ?_⟩
              rw [hf]
              first | exact (Pl_freeN_hin (by omega) (by omega) (Or.inl c37)).symm | exact (Pl_freeN_hin (by omega) (by omega) (Or.inr (Or.inl c54))).symm | exact (Pl_freeN_hin (by omega) (by omega) (Or.inr (Or.inr c68))).symm
            · refine gz_aload_n (pc := 57) F dX5_freeSlots_57 rfl 1 rfl ?_
              refine gz_get (pc := 58) (v := .ref (a 14)) F hn_X5_freeSlots_X5 0 5 rfl rfl 3 (by decide) fl_X5_freeSlots_35 rfl dX5_freeSlots_58 ?_
              refine gz_iload_n (pc := 61) F dX5_freeSlots_61 rfl 2 rfl ?_
              refine gz_iload_n (pc := 62) F dX5_freeSlots_62 rfl 0 rfl ?_
              refine gz_const (pc := 63) F dX5_freeSlots_63 ?_
              refine gz_const (pc := 64) F dX5_freeSlots_64 ?_
              refine gz_callV (pc := 65) (n := 4) (As := [vI p0, vI ((Pl_now u) + i), vI 1, vI (-1)]) (rest := []) (bytes := cX4_isPromised) (maxL := 6) (ret := some .boolean) F (ct_X4_isPromised l D cI cJ cZ (fun i => a (i + 14)) (Pl_mt u) p0 ((Pl_now u) + i) 1 (-1) hMt (by omega) (by omega) (by omega) (by omega)) gX5_freeSlots_X4_isPromised rfl ⟨rfl, rfl⟩ (by decide +kernel) ⟨Nat.le_of_ble_eq_true rfl, Nat.le_of_ble_eq_true rfl⟩ rfl [14, 15, 16, 17, 18, 19, 20] rfl (by decide) 14 4 rfl rfl rfl (Nat.le_of_ble_eq_true rfl) ⟨Nat.zero_le _, Nat.zero_le _⟩ gz_pI_sh dX5_freeSlots_65 ?_
              refine gz_kI rfl (fun r65 h65 => ?_)
              subst h65
              refine gz_if_eqb (pc := 68) (tgt := 73) F dX5_freeSlots_68 (by decide) (fun c68 => ?_) (fun c68 => ?_)
              · refine gz_iinc (pc := 73) (lv2 := [(2, vI (i + 1)), (3, vI ((Pl_now u) + i)), (0, .ref (a 0)), (1, vI p0)]) F dX5_freeSlots_73 3 rfl (by decide) rfl ?_
                refine gz_goto (pc := 76) (tgt := 2) F dX5_freeSlots_76 (by decide) ?_
                refine gz_lv [2, 3, 0] rfl ?_
                exact ih2 (i + 1) (by omega) (by omega) (by first | rfl | (rw [hf, Pl_freeN_no (by omega) (by omega) (fun h => h.elim c37 (fun h => h.elim c54 c68))]))
              · refine gz_iload_n (pc := 71) F dX5_freeSlots_71 rfl 3 rfl ?_
                refine Z _ _ 72 _ dX5_freeSlots_72 rfl ?_
                refine ⟨rfl, _, rfl, ?_⟩
                rw [hf]
                first | exact (Pl_freeN_hin (by omega) (by omega) (Or.inl c37)).symm | exact (Pl_freeN_hin (by omega) (by omega) (Or.inr (Or.inl c54))).symm | exact (Pl_freeN_hin (by omega) (by omega) (Or.inr (Or.inr c68))).symm
  refine gz_const (pc := 0) F dX5_freeSlots_0 ?_
  refine gz_istore_n (pc := 1) (lv2 := [(2, vI 0), (0, .ref (a 0)), (1, vI p0)]) F dX5_freeSlots_1 rfl (by decide) rfl ?_
  refine gz_lv [1, 2, 0] rfl ?_
  exact L2 _ 0 (Nat.lt_succ_self _) (by omega) (by first | rfl | (rw [hf, Pl_freeN_no (by omega) (by omega) (fun h => h.elim c37 (fun h => h.elim c54 c68))]))
