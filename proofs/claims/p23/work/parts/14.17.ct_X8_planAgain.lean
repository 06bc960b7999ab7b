/-! ===== laid by wip/whole/gen/ri.py ===== -/
theorem hn_X8_planAgain_X8 : ∀ w ∈ u_ws RX8 TX8 4, w ∈ wsX8_planAgain := by decide +kernel
theorem fl_X8_planAgain_22 : Cond.fieldLink RX8 22 (TX8 2).1 (TX8 2).2.1 (TX8 2).2.2.1 ∈ wsX8_planAgain := by decide +kernel
theorem hn_X8_planAgain_X7 : ∀ w ∈ u_ws RX7 TX7 7, w ∈ wsX8_planAgain := by decide +kernel
theorem fl_X8_planAgain_253 : Cond.fieldLink RX8 253 (TX7 6).1 (TX7 6).2.1 (TX7 6).2.2.1 ∈ wsX8_planAgain := by decide +kernel
theorem fl_X8_planAgain_16 : Cond.fieldLink RX8 16 (TX8 1).1 (TX8 1).2.1 (TX8 1).2.2.1 ∈ wsX8_planAgain := by decide +kernel
theorem fl_X8_planAgain_10 : Cond.fieldLink RX8 10 (TX8 0).1 (TX8 0).2.1 (TX8 0).2.2.1 ∈ wsX8_planAgain := by decide +kernel
theorem hn_X8_planAgain_X5 : ∀ w ∈ u_ws RX5 TX5 6, w ∈ wsX8_planAgain := by decide +kernel
theorem fl_X8_planAgain_59 : Cond.fieldLink RX8 59 (TX5 5).1 (TX5 5).2.1 (TX5 5).2.2.1 ∈ wsX8_planAgain := by decide +kernel
theorem fl_X8_planAgain_254 : Cond.fieldLink RX8 254 (TX7 1).1 (TX7 1).2.1 (TX7 1).2.2.1 ∈ wsX8_planAgain := by decide +kernel
theorem fl_X8_planAgain_257 : Cond.fieldLink RX8 257 (TX7 0).1 (TX7 0).2.1 (TX7 0).2.2.1 ∈ wsX8_planAgain := by decide +kernel
theorem fl_X8_planAgain_260 : Cond.fieldLink RX8 260 (TX7 2).1 (TX7 2).2.1 (TX7 2).2.2.1 ∈ wsX8_planAgain := by decide +kernel
theorem fl_X8_planAgain_263 : Cond.fieldLink RX8 263 (TX7 3).1 (TX7 3).2.1 (TX7 3).2.2.1 ∈ wsX8_planAgain := by decide +kernel
theorem fl_X8_planAgain_266 : Cond.fieldLink RX8 266 (TX7 4).1 (TX7 4).2.1 (TX7 4).2.2.1 ∈ wsX8_planAgain := by decide +kernel
theorem fl_X8_planAgain_269 : Cond.fieldLink RX8 269 (TX7 5).1 (TX7 5).2.1 (TX7 5).2.2.1 ∈ wsX8_planAgain := by decide +kernel
set_option maxHeartbeats 4000000 in
set_option maxRecDepth 100000 in
theorem ct_X8_planAgain (l : Launch) (D : va_G) (cI cJ cZ : ClassId) (a : Nat → Nat) (r : RiS) (hr : RiI r)  : gz_M l yX8_planAgain wsX8_planAgain { frames := 5, cells := 0, slots := 0, locals := 117 } D cI cJ cZ [.ref (a 0)] (RiW cI cJ a r) (gz_pE (RiW cI cJ a (Ri_P r, Pl_anew (Ri_T r) (Ri_A r) (Pl_now (Ri_P r)), Ri_T r, Ri_S r))) := by
  refine gz_ofV (cc := cX8_planAgain) (maxL := 2) (own := RX8) (by decide) rfl rfl (Nat.le_of_ble_eq_true rfl) (lv0 := [(0, .ref (a 0))]) rfl ?_
  intro p e s m args below meth c A Q F Z
  obtain ⟨hP, hA, hTo, hSw⟩ := id hr
  obtain ⟨hMc, hLo, hLv, hMt, hBu, hnw⟩ := id hP
  have hMcn := hMc.1
  have hMtn := hMt.1
  have hBun := hBu.1
  have hTon := hTo.1
  have hSwn := hSw.1
  have L9 : ∀ (N : Nat) (i : Int) (v : PlS), (512 - i).toNat < N → (0 ≤ i ∧ i ≤ To_n (Ri_T r)) → (PlI v) → (v = Pl_rep (Ri_T r) (Pl_clear (Ri_A r)) i.toNat) → gG p l e ({ frames := 5, cells := 0, slots := 0, locals := 117 } : Room) s m args below meth c D A 2 Q 0 0 (RiW cI cJ a (Ri_P r, v, Ri_T r, Ri_S r)) [(0, .ref (a 0)), (1, vI i)] [] 9 := by
    intro N
    induction N with
    | zero => intro i v hN; exact absurd hN (Nat.not_lt_zero _)
    | succ N ih9 =>
      intro i v hN hi hI hv
      refine gz_iload_n (pc := 9) F dX8_planAgain_9 rfl 1 rfl ?_
      refine gz_aload_n (pc := 10) F dX8_planAgain_10 rfl 0 rfl ?_
      refine gz_get (pc := 11) (v := .ref (a 59)) F hn_X8_planAgain_X8 0 8 rfl rfl 2 (by decide) fl_X8_planAgain_22 rfl dX8_planAgain_11 ?_
      refine gz_get (pc := 14) (v := vI (To_n (Ri_T r))) F hn_X8_planAgain_X7 59 7 rfl rfl 6 (by decide) fl_X8_planAgain_253 rfl dX8_planAgain_14 ?_
      have b14 := hTo.1
      refine gz_icmp_ge (pc := 17) (tgt := 94) F dX8_planAgain_17 (by decide) (by omega) (by omega) (fun c17 => ?_) (fun c17 => ?_)
      · refine gz_aload_n (pc := 94) F dX8_planAgain_94 rfl 0 rfl ?_
        refine gz_get (pc := 95) (v := .ref (a 30)) F hn_X8_planAgain_X8 0 8 rfl rfl 1 (by decide) fl_X8_planAgain_16 rfl dX8_planAgain_95 ?_
        refine gz_aload_n (pc := 98) F dX8_planAgain_98 rfl 0 rfl ?_
        refine gz_get (pc := 99) (v := .ref (a 1)) F hn_X8_planAgain_X8 0 8 rfl rfl 0 (by decide) fl_X8_planAgain_10 rfl dX8_planAgain_99 ?_
        refine gz_get (pc := 102) (v := vI (Pl_now (Ri_P r))) F hn_X8_planAgain_X5 1 5 rfl rfl 5 (by decide) fl_X8_planAgain_59 rfl dX8_planAgain_102 ?_
        have b102 := hnw
        refine gz_callVb (pc := 105) (n := 1) (As := [vI (Pl_now (Ri_P r))]) (rest := []) (bytes := cX5_passTo) (maxL := 4) (ret := none) F (ct_X5_passTo l D cI cJ cZ (fun i => a (i + 30)) v (Pl_now (Ri_P r)) hI (by omega)) gX8_planAgain_X5_passTo rfl ⟨rfl, rfl⟩ (by decide +kernel) ⟨Nat.le_of_ble_eq_true rfl, Nat.le_of_ble_eq_true rfl⟩ rfl (RiO a :: PlW cI cJ (fun i => a (i + 1)) (Ri_P r)) (ToW cI (fun i => a (i + 59)) (Ri_T r) ++ SwW cI (fun i => a (i + 66)) (Ri_S r)) (RiW_A cI cJ a (Ri_P r) v (Ri_T r) (Ri_S r)) 5 rfl rfl rfl (Nat.le_of_ble_eq_true rfl) ⟨Nat.zero_le _, Nat.zero_le _⟩ (gz_pE_sh rfl) dX8_planAgain_105 ?_
        refine gz_kEb (ws2 := RiW cI cJ a (Ri_P r, Pl_pass v (Pl_now (Ri_P r)), Ri_T r, Ri_S r)) (RiW_A cI cJ a (Ri_P r) (Pl_pass v (Pl_now (Ri_P r))) (Ri_T r) (Ri_S r)).symm ?_
        refine Z _ _ 108 dX8_planAgain_108 ?_
        refine ⟨rfl, ?_⟩
        rw [hv, show i.toNat = (To_n (Ri_T r)).toNat by omega]
        rfl
      · have bt := hTo.2 i
        obtain ⟨bt1, bt2, b71, b72, b73, b74⟩ := bt
        refine gz_aload_n (pc := 20) F dX8_planAgain_20 rfl 0 rfl ?_
        refine gz_get (pc := 21) (v := .ref (a 30)) F hn_X8_planAgain_X8 0 8 rfl rfl 1 (by decide) fl_X8_planAgain_16 rfl dX8_planAgain_21 ?_
        refine gz_aload_n (pc := 24) F dX8_planAgain_24 rfl 0 rfl ?_
        refine gz_get (pc := 25) (v := .ref (a 59)) F hn_X8_planAgain_X8 0 8 rfl rfl 2 (by decide) fl_X8_planAgain_22 rfl dX8_planAgain_25 ?_
        refine gz_get (pc := 28) (v := .ref (a 61)) F hn_X8_planAgain_X7 59 7 rfl rfl 1 (by decide) fl_X8_planAgain_254 rfl dX8_planAgain_28 ?_
        refine gz_iload_n (pc := 31) F dX8_planAgain_31 rfl 1 rfl ?_
        refine gz_iald (pc := 32) (f := To_at (Ri_T r)) F 61 rfl (by omega) (by decide) dX8_planAgain_32 ?_
        have b32 := (hTo.2 i).2.1
        refine gz_callVb (pc := 33) (n := 1) (As := [vI (To_at (Ri_T r) i)]) (rest := []) (bytes := cX5_passTo) (maxL := 4) (ret := none) F (ct_X5_passTo l D cI cJ cZ (fun i => a (i + 30)) v (To_at (Ri_T r) i) hI (by omega)) gX8_planAgain_X5_passTo rfl ⟨rfl, rfl⟩ (by decide +kernel) ⟨Nat.le_of_ble_eq_true rfl, Nat.le_of_ble_eq_true rfl⟩ rfl (RiO a :: PlW cI cJ (fun i => a (i + 1)) (Ri_P r)) (ToW cI (fun i => a (i + 59)) (Ri_T r) ++ SwW cI (fun i => a (i + 66)) (Ri_S r)) (RiW_A cI cJ a (Ri_P r) v (Ri_T r) (Ri_S r)) 5 rfl rfl rfl (Nat.le_of_ble_eq_true rfl) ⟨Nat.zero_le _, Nat.zero_le _⟩ (gz_pE_sh rfl) dX8_planAgain_33 ?_
        refine gz_kEb (ws2 := RiW cI cJ a (Ri_P r, Pl_pass v (To_at (Ri_T r) i), Ri_T r, Ri_S r)) (RiW_A cI cJ a (Ri_P r) (Pl_pass v (To_at (Ri_T r) i)) (Ri_T r) (Ri_S r)).symm ?_
        refine gz_aload_n (pc := 36) F dX8_planAgain_36 rfl 0 rfl ?_
        refine gz_get (pc := 37) (v := .ref (a 30)) F hn_X8_planAgain_X8 0 8 rfl rfl 1 (by decide) fl_X8_planAgain_16 rfl dX8_planAgain_37 ?_
        refine gz_aload_n (pc := 40) F dX8_planAgain_40 rfl 0 rfl ?_
        refine gz_get (pc := 41) (v := .ref (a 59)) F hn_X8_planAgain_X8 0 8 rfl rfl 2 (by decide) fl_X8_planAgain_22 rfl dX8_planAgain_41 ?_
        refine gz_get (pc := 44) (v := .ref (a 60)) F hn_X8_planAgain_X7 59 7 rfl rfl 0 (by decide) fl_X8_planAgain_257 rfl dX8_planAgain_44 ?_
        refine gz_iload_n (pc := 47) F dX8_planAgain_47 rfl 1 rfl ?_
        refine gz_iald (pc := 48) (f := To_ki (Ri_T r)) F 60 rfl (by omega) (by decide) dX8_planAgain_48 ?_
        have b48 := (hTo.2 i).1
        refine gz_aload_n (pc := 49) F dX8_planAgain_49 rfl 0 rfl ?_
        refine gz_get (pc := 50) (v := .ref (a 59)) F hn_X8_planAgain_X8 0 8 rfl rfl 2 (by decide) fl_X8_planAgain_22 rfl dX8_planAgain_50 ?_
        refine gz_get (pc := 53) (v := .ref (a 62)) F hn_X8_planAgain_X7 59 7 rfl rfl 2 (by decide) fl_X8_planAgain_260 rfl dX8_planAgain_53 ?_
        refine gz_iload_n (pc := 56) F dX8_planAgain_56 rfl 1 rfl ?_
        refine gz_iald (pc := 57) (f := To_a (Ri_T r)) F 62 rfl (by omega) (by decide) dX8_planAgain_57 ?_
        have b57 := (hTo.2 i).2.2.1
        refine gz_aload_n (pc := 58) F dX8_planAgain_58 rfl 0 rfl ?_
        refine gz_get (pc := 59) (v := .ref (a 59)) F hn_X8_planAgain_X8 0 8 rfl rfl 2 (by decide) fl_X8_planAgain_22 rfl dX8_planAgain_59 ?_
        refine gz_get (pc := 62) (v := .ref (a 63)) F hn_X8_planAgain_X7 59 7 rfl rfl 3 (by decide) fl_X8_planAgain_263 rfl dX8_planAgain_62 ?_
        refine gz_iload_n (pc := 65) F dX8_planAgain_65 rfl 1 rfl ?_
        refine gz_iald (pc := 66) (f := To_b (Ri_T r)) F 63 rfl (by omega) (by decide) dX8_planAgain_66 ?_
        have b66 := (hTo.2 i).2.2.2.1
        refine gz_aload_n (pc := 67) F dX8_planAgain_67 rfl 0 rfl ?_
        refine gz_get (pc := 68) (v := .ref (a 59)) F hn_X8_planAgain_X8 0 8 rfl rfl 2 (by decide) fl_X8_planAgain_22 rfl dX8_planAgain_68 ?_
        refine gz_get (pc := 71) (v := .ref (a 64)) F hn_X8_planAgain_X7 59 7 rfl rfl 4 (by decide) fl_X8_planAgain_266 rfl dX8_planAgain_71 ?_
        refine gz_iload_n (pc := 74) F dX8_planAgain_74 rfl 1 rfl ?_
        refine gz_iald (pc := 75) (f := To_c (Ri_T r)) F 64 rfl (by omega) (by decide) dX8_planAgain_75 ?_
        have b75 := (hTo.2 i).2.2.2.2.1
        refine gz_aload_n (pc := 76) F dX8_planAgain_76 rfl 0 rfl ?_
        refine gz_get (pc := 77) (v := .ref (a 59)) F hn_X8_planAgain_X8 0 8 rfl rfl 2 (by decide) fl_X8_planAgain_22 rfl dX8_planAgain_77 ?_
        refine gz_get (pc := 80) (v := .ref (a 65)) F hn_X8_planAgain_X7 59 7 rfl rfl 5 (by decide) fl_X8_planAgain_269 rfl dX8_planAgain_80 ?_
        refine gz_iload_n (pc := 83) F dX8_planAgain_83 rfl 1 rfl ?_
        refine gz_iald (pc := 84) (f := To_d (Ri_T r)) F 65 rfl (by omega) (by decide) dX8_planAgain_84 ?_
        have b84 := (hTo.2 i).2.2.2.2.2
        refine gz_callVb (pc := 85) (n := 5) (As := [vI (To_ki (Ri_T r) i), vI (To_a (Ri_T r) i), vI (To_b (Ri_T r) i), vI (To_c (Ri_T r) i), vI (To_d (Ri_T r) i)]) (rest := []) (bytes := cX5_take) (maxL := 6) (ret := none) F (ct_X5_take l D cI cJ cZ (fun i => a (i + 30)) (Pl_pass v (To_at (Ri_T r) i)) (To_ki (Ri_T r) i) (To_a (Ri_T r) i) (To_b (Ri_T r) i) (To_c (Ri_T r) i) (To_d (Ri_T r) i) (Pl_pass_I hI _) (by omega) (by omega) (by omega) (by omega) (by omega)) gX8_planAgain_X5_take rfl ⟨rfl, rfl⟩ (by decide +kernel) ⟨Nat.le_of_ble_eq_true rfl, Nat.le_of_ble_eq_true rfl⟩ rfl (RiO a :: PlW cI cJ (fun i => a (i + 1)) (Ri_P r)) (ToW cI (fun i => a (i + 59)) (Ri_T r) ++ SwW cI (fun i => a (i + 66)) (Ri_S r)) (RiW_A cI cJ a (Ri_P r) (Pl_pass v (To_at (Ri_T r) i)) (Ri_T r) (Ri_S r)) 5 rfl rfl rfl (Nat.le_of_ble_eq_true rfl) ⟨Nat.zero_le _, Nat.zero_le _⟩ (gz_pE_sh rfl) dX8_planAgain_85 ?_
        refine gz_kEb (ws2 := RiW cI cJ a (Ri_P r, Pl_take (Pl_pass v (To_at (Ri_T r) i)) (To_ki (Ri_T r) i) (To_a (Ri_T r) i) (To_b (Ri_T r) i) (To_c (Ri_T r) i) (To_d (Ri_T r) i), Ri_T r, Ri_S r)) (RiW_A cI cJ a (Ri_P r) (Pl_take (Pl_pass v (To_at (Ri_T r) i)) (To_ki (Ri_T r) i) (To_a (Ri_T r) i) (To_b (Ri_T r) i) (To_c (Ri_T r) i) (To_d (Ri_T r) i)) (Ri_T r) (Ri_S r)).symm ?_
        refine gz_iinc (pc := 88) (lv2 := [(1, vI (i + 1)), (0, .ref (a 0))]) F dX8_planAgain_88 1 rfl (by decide) rfl ?_
        refine gz_goto (pc := 91) (tgt := 9) F dX8_planAgain_91 (by decide) ?_
        refine gz_lv [1, 0] rfl ?_
        exact ih9 (i + 1) (Pl_take (Pl_pass v (To_at (Ri_T r) i)) (To_ki (Ri_T r) i) (To_a (Ri_T r) i) (To_b (Ri_T r) i) (To_c (Ri_T r) i) (To_d (Ri_T r) i)) (by omega) (by omega) (by first | exact Pl_clear_I hA | exact Pl_take_I (Pl_pass_I hI _) b71 b72 b73 b74) (by first | rfl | exact Pl_rep_s hi.1 hv)
  refine gz_aload_n (pc := 0) F dX8_planAgain_0 rfl 0 rfl ?_
  refine gz_get (pc := 1) (v := .ref (a 30)) F hn_X8_planAgain_X8 0 8 rfl rfl 1 (by decide) fl_X8_planAgain_16 rfl dX8_planAgain_1 ?_
  refine gz_callVb (pc := 4) (n := 0) (As := []) (rest := []) (bytes := cX5_clear) (maxL := 1) (ret := none) F (ct_X5_clear l D cI cJ cZ (fun i => a (i + 30)) (Ri_A r)  hA ) gX8_planAgain_X5_clear rfl ⟨rfl, rfl⟩ (by decide +kernel) ⟨Nat.le_of_ble_eq_true rfl, Nat.le_of_ble_eq_true rfl⟩ rfl (RiO a :: PlW cI cJ (fun i => a (i + 1)) (Ri_P r)) (ToW cI (fun i => a (i + 59)) (Ri_T r) ++ SwW cI (fun i => a (i + 66)) (Ri_S r)) (RiW_A cI cJ a (Ri_P r) (Ri_A r) (Ri_T r) (Ri_S r)) 5 rfl rfl rfl (Nat.le_of_ble_eq_true rfl) ⟨Nat.zero_le _, Nat.zero_le _⟩ (gz_pE_sh rfl) dX8_planAgain_4 ?_
  refine gz_kEb (ws2 := RiW cI cJ a (Ri_P r, Pl_clear (Ri_A r), Ri_T r, Ri_S r)) (RiW_A cI cJ a (Ri_P r) (Pl_clear (Ri_A r)) (Ri_T r) (Ri_S r)).symm ?_
  refine gz_const (pc := 7) F dX8_planAgain_7 ?_
  refine gz_istore_n (pc := 8) (lv2 := [(1, vI 0), (0, .ref (a 0))]) F dX8_planAgain_8 rfl (by decide) rfl ?_
  refine gz_lv [1, 0] rfl ?_
  exact L9 _ 0 (Pl_clear (Ri_A r)) (Nat.lt_succ_self _) (by omega) (by first | exact Pl_clear_I hA | exact Pl_take_I (Pl_pass_I hI _) b71 b72 b73 b74) (by first | rfl | exact Pl_rep_s hi.1 hv)
