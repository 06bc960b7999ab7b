/-! ===== laid by wip/whole/gen/plan.py ===== -/
theorem hn_X5_passTo_X5 : ∀ w ∈ u_ws RX5 TX5 6, w ∈ wsX5_passTo := by decide +kernel
theorem fl_X5_passTo_12 : Cond.fieldLink RX5 12 (TX5 0).1 (TX5 0).2.1 (TX5 0).2.2.1 ∈ wsX5_passTo := by decide +kernel
theorem hn_X5_passTo_X3 : ∀ w ∈ u_ws RX3 TX3 6, w ∈ wsX5_passTo := by decide +kernel
theorem fl_X5_passTo_50 : Cond.fieldLink RX5 50 (TX3 5).1 (TX3 5).2.1 (TX3 5).2.2.1 ∈ wsX5_passTo := by decide +kernel
theorem fl_X5_passTo_46 : Cond.fieldLink RX5 46 (TX5 5).1 (TX5 5).2.1 (TX5 5).2.2.1 ∈ wsX5_passTo := by decide +kernel
set_option maxHeartbeats 4000000 in
set_option maxRecDepth 100000 in
theorem ct_X5_passTo (l : Launch) (D : va_G) (cI cJ cZ : ClassId) (a : Nat → Nat) (u : PlS) (p0 : Int) (hu : PlI u) (h0 : -1 ≤ p0 ∧ p0 ≤ 1023) : gz_M l yX5_passTo wsX5_passTo { frames := 4, cells := 0, slots := 0, locals := 94 } D cI cJ cZ [.ref (a 0), vI p0] (PlW cI cJ a u) (gz_pE (PlW cI cJ a (Pl_pass u p0))) := by
  refine gz_ofV (cc := cX5_passTo) (maxL := 4) (own := RX5) (by decide) rfl rfl (Nat.le_of_ble_eq_true rfl) (lv0 := [(0, .ref (a 0)), (1, vI p0)]) rfl ?_
  intro p e s m args below meth c A Q F Z
  obtain ⟨hMc, hLo, hLv, hMt, hBu, hnw⟩ := id hu
  have hMcn := hMc.1
  have hMtn := hMt.1
  have hBun := hBu.1
  have L5 : ∀ (N : Nat) (x : Int) (v : PlS), (400 - x).toNat < N → (PlI v) → (x = Pl_now v) → (Pl_pass u p0 = Pl_pass v p0) → gG p l e ({ frames := 4, cells := 0, slots := 0, locals := 94 } : Room) s m args below meth c D A 4 Q 0 0 (PlW cI cJ a v) [(0, .ref (a 0)), (1, vI p0), (2, vI x)] [] 5 := by
    intro N
    induction N with
    | zero => intro x v hN; exact absurd hN (Nat.not_lt_zero _)
    | succ N ih5 =>
      intro x v hN hI hx hv
      obtain ⟨hMc, hLo, hLv, hMt, hBu, hnw⟩ := id hI
      have hMcn := hMc.1
      have hMtn := hMt.1
      have hBun := hBu.1
      have L19 : ∀ (N : Nat) (k : Int) (w : PlS), (6 - k).toNat < N → (x < p0) → (x < 400) → (PlI w) → (w = Pl_begN v k.toNat) → (0 ≤ k ∧ k ≤ Mc_n (Pl_mc w)) → gG p l e ({ frames := 4, cells := 0, slots := 0, locals := 94 } : Room) s m args below meth c D A 4 Q 0 0 (PlW cI cJ a w) [(0, .ref (a 0)), (1, vI p0), (2, vI x), (3, vI k)] [] 19 := by
        intro N
        induction N with
        | zero => intro k w hN; exact absurd hN (Nat.not_lt_zero _)
        | succ N ih19 =>
          intro k w hN c7 c14 hI2 hw hk
          obtain ⟨hMc, hLo, hLv, hMt, hBu, hnw2⟩ := id hI2
          have hMcn := hMc.1
          have hMtn := hMt.1
          have hBun := hBu.1
          refine gz_iload_n (pc := 19) F dX5_passTo_19 rfl 3 rfl ?_
          refine gz_aload_n (pc := 20) F dX5_passTo_20 rfl 0 rfl ?_
          refine gz_get (pc := 21) (v := .ref (a 1)) F hn_X5_passTo_X5 0 5 rfl rfl 0 (by decide) fl_X5_passTo_12 rfl dX5_passTo_21 ?_
          refine gz_get (pc := 24) (v := vI (Mc_n (Pl_mc w))) F hn_X5_passTo_X3 1 3 rfl rfl 5 (by decide) fl_X5_passTo_50 rfl dX5_passTo_24 ?_
          have b24 := hMc.1
          refine gz_icmp_ge (pc := 27) (tgt := 41) F dX5_passTo_27 (by decide) (by omega) (by omega) (fun c27 => ?_) (fun c27 => ?_)
          · have e41 := (Pl_begN_n v k.toNat)
            rw [← hw] at e41
            have hz : Pl_end w = Pl_step v := by rw [Pl_step, ← e41.1, show (Mc_n (Pl_mc w)).toNat = k.toNat by omega, ← hw]
            refine gz_aload_n (pc := 41) F dX5_passTo_41 rfl 0 rfl ?_
            refine gz_callVb (pc := 42) (n := 0) (As := []) (rest := []) (bytes := cX5_endSlot) (maxL := 3) (ret := none) F (ct_X5_endSlot l D cI cJ cZ a w  hI2 (by omega)) gX5_passTo_X5_endSlot rfl ⟨rfl, rfl⟩ (by decide +kernel) ⟨Nat.le_of_ble_eq_true rfl, Nat.le_of_ble_eq_true rfl⟩ rfl [] [] (List.append_nil _).symm 5 rfl rfl rfl (Nat.le_of_ble_eq_true rfl) ⟨Nat.zero_le _, Nat.zero_le _⟩ (gz_pE_sh rfl) dX5_passTo_42 ?_
            refine gz_kEb (ws2 := PlW cI cJ a (Pl_end w)) (List.append_nil _) ?_
            refine gz_iinc (pc := 45) (lv2 := [(2, vI (x + 1)), (0, .ref (a 0)), (1, vI p0), (3, vI k)]) F dX5_passTo_45 2 rfl (by decide) rfl ?_
            refine gz_goto (pc := 48) (tgt := 5) F dX5_passTo_48 (by decide) ?_
            refine gz_lv [1, 2, 0] rfl ?_
            exact ih5 (x + 1) (Pl_end w) (by omega) (by first | exact hu | (rw [hz]; exact (Pl_step_I hI (by omega)).1)) (by first | rfl | (rw [hz, (Pl_step_I hI (by omega)).2]; omega)) (by first | rfl | (rw [hv, Pl_pass_s hI (by omega) (by omega), ← hz]))
          · refine gz_aload_n (pc := 30) F dX5_passTo_30 rfl 0 rfl ?_
            refine gz_iload_n (pc := 31) F dX5_passTo_31 rfl 3 rfl ?_
            refine gz_callVb (pc := 32) (n := 1) (As := [vI k]) (rest := []) (bytes := cX5_beginOn) (maxL := 4) (ret := none) F (ct_X5_beginOn l D cI cJ cZ a w k hI2 (by omega)) gX5_passTo_X5_beginOn rfl ⟨rfl, rfl⟩ (by decide +kernel) ⟨Nat.le_of_ble_eq_true rfl, Nat.le_of_ble_eq_true rfl⟩ rfl [] [] (List.append_nil _).symm 5 rfl rfl rfl (Nat.le_of_ble_eq_true rfl) ⟨Nat.zero_le _, Nat.zero_le _⟩ (gz_pE_sh rfl) dX5_passTo_32 ?_
            refine gz_kEb (ws2 := PlW cI cJ a (Pl_beg w k)) (List.append_nil _) ?_
            refine gz_iinc (pc := 35) (lv2 := [(3, vI (k + 1)), (0, .ref (a 0)), (1, vI p0), (2, vI x)]) F dX5_passTo_35 3 rfl (by decide) rfl ?_
            refine gz_goto (pc := 38) (tgt := 19) F dX5_passTo_38 (by decide) ?_
            refine gz_lv [1, 2, 3, 0] rfl ?_
            exact ih19 (k + 1) (Pl_beg w k) (by omega) (by exact c7) (by exact c14) (by first | exact hI | exact Pl_beg_I hI2 (by omega)) (by first | rfl | exact Pl_begN_s hk.1 hw) (by first | omega | (rw [(Pl_beg_n w k).1]; omega))
      refine gz_iload_n (pc := 5) F dX5_passTo_5 rfl 2 rfl ?_
      refine gz_iload_n (pc := 6) F dX5_passTo_6 rfl 1 rfl ?_
      refine gz_icmp_ge (pc := 7) (tgt := 51) F dX5_passTo_7 (by decide) (by omega) (by omega) (fun c7 => ?_) (fun c7 => ?_)
      · refine Z _ _ 51 dX5_passTo_51 ?_
        exact ⟨rfl, by rw [hv, Pl_pass_0 (by omega)]⟩
      · refine gz_iload_n (pc := 10) F dX5_passTo_10 rfl 2 rfl ?_
        refine gz_sipush (pc := 11) F dX5_passTo_11 (by decide) ?_
        refine gz_icmp_ge (pc := 14) (tgt := 51) F dX5_passTo_14 (by decide) (by omega) (by omega) (fun c14 => ?_) (fun c14 => ?_)
        · refine Z _ _ 51 dX5_passTo_51 ?_
          exact ⟨rfl, by rw [hv, Pl_pass_0 (by omega)]⟩
        · refine gz_const (pc := 17) F dX5_passTo_17 ?_
          refine gz_istore_n (pc := 18) (lv2 := [(3, vI 0), (0, .ref (a 0)), (1, vI p0), (2, vI x)]) F dX5_passTo_18 rfl (by decide) rfl ?_
          refine gz_lv [1, 2, 3, 0] rfl ?_
          exact L19 _ 0 v (Nat.lt_succ_self _) (by exact c7) (by exact c14) (by first | exact hI | exact Pl_beg_I hI2 (by omega)) (by first | rfl | exact Pl_begN_s hk.1 hw) (by first | omega | (rw [(Pl_beg_n w k).1]; omega))
  refine gz_aload_n (pc := 0) F dX5_passTo_0 rfl 0 rfl ?_
  refine gz_get (pc := 1) (v := vI (Pl_now u)) F hn_X5_passTo_X5 0 5 rfl rfl 5 (by decide) fl_X5_passTo_46 rfl dX5_passTo_1 ?_
  have b1 := hnw
  refine gz_istore_n (pc := 4) (lv2 := [(2, vI (Pl_now u)), (0, .ref (a 0)), (1, vI p0)]) F dX5_passTo_4 rfl (by decide) rfl ?_
  refine gz_lv [1, 2, 0] rfl ?_
  exact L5 _ (Pl_now u) u (Nat.lt_succ_self _) (by first | exact hu | (rw [hz]; exact (Pl_step_I hI (by omega)).1)) (by first | rfl | (rw [hz, (Pl_step_I hI (by omega)).2]; omega)) (by first | rfl | (rw [hv, Pl_pass_s hI (by omega) (by omega), ← hz]))
