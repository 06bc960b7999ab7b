/-! ===== laid by wip/whole/gen/md.py ===== -/
theorem hn_X9_canRun_X9 : ∀ w ∈ u_ws RX9 TX9 35, w ∈ wsX9_canRun := by decide +kernel
theorem fl_X9_canRun_144 : Cond.fieldLink RX9 144 (TX9 1).1 (TX9 1).2.1 (TX9 1).2.2.1 ∈ wsX9_canRun := by decide +kernel
theorem fl_X9_canRun_83 : Cond.fieldLink RX9 83 (TX9 31).1 (TX9 31).2.1 (TX9 31).2.2.1 ∈ wsX9_canRun := by decide +kernel
theorem fl_X9_canRun_77 : Cond.fieldLink RX9 77 (TX9 29).1 (TX9 29).2.1 (TX9 29).2.2.1 ∈ wsX9_canRun := by decide +kernel
theorem fl_X9_canRun_13 : Cond.fieldLink RX9 13 (TX9 4).1 (TX9 4).2.1 (TX9 4).2.2.1 ∈ wsX9_canRun := by decide +kernel
set_option maxHeartbeats 4000000 in
set_option maxRecDepth 100000 in
theorem ct_X9_canRun (l : Launch) (D : va_G) (cI cJ cZ : ClassId) (a : Nat → Nat) (u : MdS) (p0 p1 : Int) (hu : MdI u) (h0 : 0 ≤ p0 ∧ p0 < 6) (h1 : 0 ≤ p1 ∧ p1 < 40) : gz_M l yX9_canRun wsX9_canRun { frames := 3, cells := 0, slots := 0, locals := 69 } D cI cJ cZ [.ref (a 0), vI p0, vI p1] (MdW cI cZ a u) (gz_pI (MdW cI cZ a u) (fun r => r = bz (Md_run u p0 p1))) := by
  refine gz_ofZ (cc := cX9_canRun) (maxL := 5) (ty := .boolean) (own := RX9) (by decide) rfl rfl (Nat.le_of_ble_eq_true rfl) (lv0 := [(0, .ref (a 0)), (1, vI p0), (2, vI p1)]) rfl ?_
  intro p e s m args below meth c A Q F Z
  obtain ⟨hnw, hAw, hMm, hLo, ⟨hMt, hMa⟩, hSw, hBu⟩ := id hu
  have hMmn := hMm.1
  have hLon := hLo.1
  have hMtn := hMt.1
  have hSwn := hSw.1
  have hBun := hBu.1
  have L30 : ∀ (N : Nat) (x : Int) (b : Int), (Md_now u + Bu_ln (Md_bu u) p1 - x).toNat < N → (Md_now u ≤ x ∧ x ≤ Md_now u + Bu_ln (Md_bu u) p1) → (b = bz (Md_runN u p0 p1 x)) → gG p l e ({ frames := 3, cells := 0, slots := 0, locals := 69 } : Room) s m args below meth c D A 5 Q 0 0 (MdW cI cZ a u) [(0, .ref (a 0)), (1, vI p0), (2, vI p1), (3, vI b), (4, vI x)] [] 30 := by
    intro N
    induction N with
    | zero => intro x b hN; exact absurd hN (Nat.not_lt_zero _)
    | succ N ih30 =>
      intro x b hN hx hb
      have hbr := bz_rb hb
      refine gz_iload (pc := 30) F dX9_canRun_30 4 rfl ?_
      refine gz_aload_n (pc := 32) F dX9_canRun_32 rfl 0 rfl ?_
      refine gz_get (pc := 33) (v := vI (Md_now u)) F hn_X9_canRun_X9 0 9 rfl rfl 1 (by decide) fl_X9_canRun_144 rfl dX9_canRun_33 ?_
      have b33 := hnw
      refine gz_aload_n (pc := 36) F dX9_canRun_36 rfl 0 rfl ?_
      refine gz_get (pc := 37) (v := .ref (a 25)) F hn_X9_canRun_X9 0 9 rfl rfl 31 (by decide) fl_X9_canRun_83 rfl dX9_canRun_37 ?_
      refine gz_iload_n (pc := 40) F dX9_canRun_40 rfl 2 rfl ?_
      refine gz_iald (pc := 41) (f := Bu_ln (Md_bu u)) F 25 rfl (by omega) (by decide) dX9_canRun_41 ?_
      have b41 := (hBu.2 p1).2.2.1
      refine gz_iadd (pc := 42) F dX9_canRun_42 ?_
      refine gz_icmp_ge (pc := 43) (tgt := 99) F dX9_canRun_43 (by decide) (by omega) (by omega) (fun c43 => ?_) (fun c43 => ?_)
      · refine gz_iload_n (pc := 99) F dX9_canRun_99 rfl 3 rfl ?_
        refine Z _ _ 100 _ dX9_canRun_100 (by rw [hb]; exact bz_nar _) ?_
        exact ⟨rfl, _, rfl, by rw [hb, show x = Md_now u + Bu_ln (Md_bu u) p1 by omega]⟩
      · refine gz_iload_n (pc := 46) F dX9_canRun_46 rfl 3 rfl ?_
        refine gz_if_eq (pc := 47) (tgt := 91) F dX9_canRun_47 (by decide) (by omega) (fun c47 => ?_) (fun c47 => ?_)
        · refine gz_const (pc := 91) F dX9_canRun_91 ?_
          refine gz_istore_n (pc := 92) (lv2 := [(3, vI 0), (0, .ref (a 0)), (1, vI p0), (2, vI p1), (4, vI x)]) F dX9_canRun_92 rfl (by decide) rfl ?_
          refine gz_iinc (pc := 93) (lv2 := [(4, vI (x + 1)), (3, vI 0), (0, .ref (a 0)), (1, vI p0), (2, vI p1)]) F dX9_canRun_93 4 rfl (by decide) rfl ?_
          refine gz_goto (pc := 96) (tgt := 30) F dX9_canRun_96 (by decide) ?_
          refine gz_lv [2, 3, 4, 1, 0] rfl ?_
          exact ih30 (x + 1) 0 (by omega) (by first | omega | (have hl9 := (hBu.2 p1).2.2.1; omega)) (by first | exact bzF (Md_runN_x hx.1 (Or.inr (Or.inr c84))) | exact bzF (Md_runN_x hx.1 (Or.inr (Or.inl c68))) | exact bzF (Md_runN_x hx.1 (Or.inl c57)) | exact bzF (Md_runN_n (bz_of0 hb c47)))
        · refine gz_aload_n (pc := 50) F dX9_canRun_50 rfl 0 rfl ?_
          refine gz_iload_n (pc := 51) F dX9_canRun_51 rfl 1 rfl ?_
          refine gz_iload (pc := 52) F dX9_canRun_52 4 rfl ?_
          refine gz_callVb (pc := 54) (n := 2) (As := [vI p0, vI x]) (rest := []) (bytes := cX9_isBroken) (maxL := 3) (ret := some .boolean) F (ct_X9_isBroken l D cI cJ cZ a u p0 x hu (by omega) (by omega)) gX9_canRun_X9_isBroken rfl ⟨rfl, rfl⟩ (by decide +kernel) ⟨Nat.le_of_ble_eq_true rfl, Nat.le_of_ble_eq_true rfl⟩ rfl [] [] ((List.append_nil _).symm) 9 rfl rfl rfl (Nat.le_of_ble_eq_true rfl) ⟨Nat.zero_le _, Nat.zero_le _⟩ gz_pI_sh dX9_canRun_54 ?_
          refine gz_kIb ((List.append_nil _).symm).symm (fun r54 h54 => ?_)
          subst h54
          refine gz_if_neb (pc := 57) (tgt := 91) F dX9_canRun_57 (by decide) (fun c57 => ?_) (fun c57 => ?_)
          · refine gz_const (pc := 91) F dX9_canRun_91 ?_
            refine gz_istore_n (pc := 92) (lv2 := [(3, vI 0), (0, .ref (a 0)), (1, vI p0), (2, vI p1), (4, vI x)]) F dX9_canRun_92 rfl (by decide) rfl ?_
            refine gz_iinc (pc := 93) (lv2 := [(4, vI (x + 1)), (3, vI 0), (0, .ref (a 0)), (1, vI p0), (2, vI p1)]) F dX9_canRun_93 4 rfl (by decide) rfl ?_
            refine gz_goto (pc := 96) (tgt := 30) F dX9_canRun_96 (by decide) ?_
            refine gz_lv [2, 3, 4, 1, 0] rfl ?_
            exact ih30 (x + 1) 0 (by omega) (by first | omega | (have hl9 := (hBu.2 p1).2.2.1; omega)) (by first | exact bzF (Md_runN_x hx.1 (Or.inr (Or.inr c84))) | exact bzF (Md_runN_x hx.1 (Or.inr (Or.inl c68))) | exact bzF (Md_runN_x hx.1 (Or.inl c57)) | exact bzF (Md_runN_n (bz_of0 hb c47)))
          · refine gz_aload_n (pc := 60) F dX9_canRun_60 rfl 0 rfl ?_
            refine gz_iload_n (pc := 61) F dX9_canRun_61 rfl 1 rfl ?_
            refine gz_iload (pc := 62) F dX9_canRun_62 4 rfl ?_
            refine gz_const (pc := 64) F dX9_canRun_64 ?_
            refine gz_callVb (pc := 65) (n := 3) (As := [vI p0, vI x, vI (-1)]) (rest := []) (bytes := cX9_isPromised) (maxL := 6) (ret := some .boolean) F (ct_X9_isPromised l D cI cJ cZ a u p0 x (-1) hu (by omega) (by omega) (by omega)) gX9_canRun_X9_isPromised rfl ⟨rfl, rfl⟩ (by decide +kernel) ⟨Nat.le_of_ble_eq_true rfl, Nat.le_of_ble_eq_true rfl⟩ rfl [] [] ((List.append_nil _).symm) 9 rfl rfl rfl (Nat.le_of_ble_eq_true rfl) ⟨Nat.zero_le _, Nat.zero_le _⟩ gz_pI_sh dX9_canRun_65 ?_
            refine gz_kIb ((List.append_nil _).symm).symm (fun r65 h65 => ?_)
            subst h65
            refine gz_if_neb (pc := 68) (tgt := 91) F dX9_canRun_68 (by decide) (fun c68 => ?_) (fun c68 => ?_)
            · refine gz_const (pc := 91) F dX9_canRun_91 ?_
              refine gz_istore_n (pc := 92) (lv2 := [(3, vI 0), (0, .ref (a 0)), (1, vI p0), (2, vI p1), (4, vI x)]) F dX9_canRun_92 rfl (by decide) rfl ?_
              refine gz_iinc (pc := 93) (lv2 := [(4, vI (x + 1)), (3, vI 0), (0, .ref (a 0)), (1, vI p0), (2, vI p1)]) F dX9_canRun_93 4 rfl (by decide) rfl ?_
              refine gz_goto (pc := 96) (tgt := 30) F dX9_canRun_96 (by decide) ?_
              refine gz_lv [2, 3, 4, 1, 0] rfl ?_
              exact ih30 (x + 1) 0 (by omega) (by first | omega | (have hl9 := (hBu.2 p1).2.2.1; omega)) (by first | exact bzF (Md_runN_x hx.1 (Or.inr (Or.inr c84))) | exact bzF (Md_runN_x hx.1 (Or.inr (Or.inl c68))) | exact bzF (Md_runN_x hx.1 (Or.inl c57)) | exact bzF (Md_runN_n (bz_of0 hb c47)))
            · refine gz_aload_n (pc := 71) F dX9_canRun_71 rfl 0 rfl ?_
              refine gz_aload_n (pc := 72) F dX9_canRun_72 rfl 0 rfl ?_
              refine gz_iload_n (pc := 73) F dX9_canRun_73 rfl 1 rfl ?_
              refine gz_iload (pc := 74) F dX9_canRun_74 4 rfl ?_
              refine gz_callVb (pc := 76) (n := 2) (As := [vI p0, vI x]) (rest := [.ref (a 0)]) (bytes := cX9_hasIn) (maxL := 5) (ret := some .int) F (ct_X9_hasIn l D cI cJ cZ a u p0 x hu (by omega) (by omega)) gX9_canRun_X9_hasIn rfl ⟨rfl, rfl⟩ (by decide +kernel) ⟨Nat.le_of_ble_eq_true rfl, Nat.le_of_ble_eq_true rfl⟩ rfl [] [] ((List.append_nil _).symm) 9 rfl rfl rfl (Nat.le_of_ble_eq_true rfl) ⟨Nat.zero_le _, Nat.zero_le _⟩ gz_pI_sh dX9_canRun_76 ?_
              refine gz_kIb ((List.append_nil _).symm).symm (fun r76 h76 => ?_)
              subst h76
              have b76 := Md_has_r hu p0 x
              refine gz_iload (pc := 79) F dX9_canRun_79 4 rfl ?_
              refine gz_callVb (pc := 81) (n := 2) (As := [vI (Md_has u p0 x), vI x]) (rest := []) (bytes := cX9_isOnLeave) (maxL := 3) (ret := some .boolean) F (ct_X9_isOnLeave l D cI cJ cZ a u (Md_has u p0 x) x hu (by omega) (by omega)) gX9_canRun_X9_isOnLeave rfl ⟨rfl, rfl⟩ (by decide +kernel) ⟨Nat.le_of_ble_eq_true rfl, Nat.le_of_ble_eq_true rfl⟩ rfl [] [] ((List.append_nil _).symm) 9 rfl rfl rfl (Nat.le_of_ble_eq_true rfl) ⟨Nat.zero_le _, Nat.zero_le _⟩ gz_pI_sh dX9_canRun_81 ?_
              refine gz_kIb ((List.append_nil _).symm).symm (fun r81 h81 => ?_)
              subst h81
              refine gz_if_neb (pc := 84) (tgt := 91) F dX9_canRun_84 (by decide) (fun c84 => ?_) (fun c84 => ?_)
              · refine gz_const (pc := 91) F dX9_canRun_91 ?_
                refine gz_istore_n (pc := 92) (lv2 := [(3, vI 0), (0, .ref (a 0)), (1, vI p0), (2, vI p1), (4, vI x)]) F dX9_canRun_92 rfl (by decide) rfl ?_
                refine gz_iinc (pc := 93) (lv2 := [(4, vI (x + 1)), (3, vI 0), (0, .ref (a 0)), (1, vI p0), (2, vI p1)]) F dX9_canRun_93 4 rfl (by decide) rfl ?_
                refine gz_goto (pc := 96) (tgt := 30) F dX9_canRun_96 (by decide) ?_
                refine gz_lv [2, 3, 4, 1, 0] rfl ?_
                exact ih30 (x + 1) 0 (by omega) (by first | omega | (have hl9 := (hBu.2 p1).2.2.1; omega)) (by first | exact bzF (Md_runN_x hx.1 (Or.inr (Or.inr c84))) | exact bzF (Md_runN_x hx.1 (Or.inr (Or.inl c68))) | exact bzF (Md_runN_x hx.1 (Or.inl c57)) | exact bzF (Md_runN_n (bz_of0 hb c47)))
              · refine gz_const (pc := 87) F dX9_canRun_87 ?_
                refine gz_goto (pc := 88) (tgt := 92) F dX9_canRun_88 (by decide) ?_
                refine gz_istore_n (pc := 92) (lv2 := [(3, vI 1), (0, .ref (a 0)), (1, vI p0), (2, vI p1), (4, vI x)]) F dX9_canRun_92 rfl (by decide) rfl ?_
                refine gz_iinc (pc := 93) (lv2 := [(4, vI (x + 1)), (3, vI 1), (0, .ref (a 0)), (1, vI p0), (2, vI p1)]) F dX9_canRun_93 4 rfl (by decide) rfl ?_
                refine gz_goto (pc := 96) (tgt := 30) F dX9_canRun_96 (by decide) ?_
                refine gz_lv [2, 3, 4, 1, 0] rfl ?_
                exact ih30 (x + 1) 1 (by omega) (by first | omega | (have hl9 := (hBu.2 p1).2.2.1; omega)) (by exact bzT (Md_runN_y (bz_of1 hb c47) ⟨c57, c68, c84⟩))
  refine gz_aload_n (pc := 0) F dX9_canRun_0 rfl 0 rfl ?_
  refine gz_get (pc := 1) (v := .ref (a 23)) F hn_X9_canRun_X9 0 9 rfl rfl 29 (by decide) fl_X9_canRun_77 rfl dX9_canRun_1 ?_
  refine gz_iload_n (pc := 4) F dX9_canRun_4 rfl 2 rfl ?_
  refine gz_iald (pc := 5) (f := Bu_ne (Md_bu u)) F 23 rfl (by omega) (by decide) dX9_canRun_5 ?_
  have b5 := (hBu.2 p1).1
  refine gz_aload_n (pc := 6) F dX9_canRun_6 rfl 0 rfl ?_
  refine gz_get (pc := 7) (v := .ref (a 2)) F hn_X9_canRun_X9 0 9 rfl rfl 4 (by decide) fl_X9_canRun_13 rfl dX9_canRun_7 ?_
  refine gz_iload_n (pc := 10) F dX9_canRun_10 rfl 1 rfl ?_
  refine gz_iald (pc := 11) (f := Mm_fe (Md_mm u)) F 2 rfl (by omega) (by decide) dX9_canRun_11 ?_
  have b11 := (hMm.2 p0).1
  refine gz_const (pc := 12) F dX9_canRun_12 ?_
  refine gz_ixor (pc := 13) (v := (zI (Mm_fe (Md_mm u) p0) ^^^ zI (-1)).toInt) F dX9_canRun_13 (zxor_I (Mm_fe (Md_mm u) p0)) ?_
  refine gz_iand (pc := 14) (v := zdf (Bu_ne (Md_bu u) p1) (Mm_fe (Md_mm u) p0)) F dX9_canRun_14 (by rw [← zxor_I]; exact zdf_I (Bu_ne (Md_bu u) p1) (Mm_fe (Md_mm u) p0)) ?_
  have b15 := zdf_r (Bu_ne (Md_bu u) p1) (Mm_fe (Md_mm u) p0)
  refine gz_if_ne (pc := 15) (tgt := 22) F dX9_canRun_15 (by decide) (by omega) (fun c15 => ?_) (fun c15 => ?_)
  · refine gz_const (pc := 22) F dX9_canRun_22 ?_
    refine gz_istore_n (pc := 23) (lv2 := [(3, vI 0), (0, .ref (a 0)), (1, vI p0), (2, vI p1)]) F dX9_canRun_23 rfl (by decide) rfl ?_
    refine gz_aload_n (pc := 24) F dX9_canRun_24 rfl 1 rfl ?_
    refine gz_get (pc := 25) (v := vI (Md_now u)) F hn_X9_canRun_X9 0 9 rfl rfl 1 (by decide) fl_X9_canRun_144 rfl dX9_canRun_25 ?_
    have b25 := hnw
    refine gz_istore (pc := 28) (lv2 := [(4, vI (Md_now u)), (3, vI 0), (0, .ref (a 0)), (1, vI p0), (2, vI p1)]) F dX9_canRun_28 (by decide) rfl ?_
    refine gz_lv [2, 3, 4, 1, 0] rfl ?_
    exact L30 _ (Md_now u) 0 (Nat.lt_succ_self _) (by first | omega | (have hl9 := (hBu.2 p1).2.2.1; omega)) (by exact bzF (fun h => c15 h.1))
  · refine gz_const (pc := 18) F dX9_canRun_18 ?_
    refine gz_goto (pc := 19) (tgt := 23) F dX9_canRun_19 (by decide) ?_
    refine gz_istore_n (pc := 23) (lv2 := [(3, vI 1), (0, .ref (a 0)), (1, vI p0), (2, vI p1)]) F dX9_canRun_23 rfl (by decide) rfl ?_
    refine gz_aload_n (pc := 24) F dX9_canRun_24 rfl 1 rfl ?_
    refine gz_get (pc := 25) (v := vI (Md_now u)) F hn_X9_canRun_X9 0 9 rfl rfl 1 (by decide) fl_X9_canRun_144 rfl dX9_canRun_25 ?_
    have b25 := hnw
    refine gz_istore (pc := 28) (lv2 := [(4, vI (Md_now u)), (3, vI 1), (0, .ref (a 0)), (1, vI p0), (2, vI p1)]) F dX9_canRun_28 (by decide) rfl ?_
    refine gz_lv [2, 3, 4, 1, 0] rfl ?_
    exact L30 _ (Md_now u) 1 (Nat.lt_succ_self _) (by first | omega | (have hl9 := (hBu.2 p1).2.2.1; omega)) (by exact bzT ⟨c15, fun y h2 h3 => absurd h3 (Int.not_lt.mpr h2)⟩)
