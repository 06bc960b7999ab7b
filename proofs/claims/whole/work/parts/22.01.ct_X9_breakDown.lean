/-! ===== laid by wip/whole/gen/md2.py ===== -/
abbrev md_breakDown (u : MdS) (p0 p1 : Int) : List (Prop × Int) := [(¬ (0 ≤ p0 ∧ p0 ≤ Mm_n (Md_mm u) - 1), 1), (¬ (0 ≤ p1 ∧ p1 ≤ 40), 2)]
theorem hn_X9_breakDown_X9 : ∀ w ∈ u_ws RX9 TX9 35, w ∈ wsX9_breakDown := by decide +kernel
theorem fl_X9_breakDown_74 : Cond.fieldLink RX9 74 (TX9 28).1 (TX9 28).2.1 (TX9 28).2.2.1 ∈ wsX9_breakDown := by decide +kernel
theorem fl_X9_breakDown_86 : Cond.fieldLink RX9 86 (TX9 32).1 (TX9 32).2.1 (TX9 32).2.2.1 ∈ wsX9_breakDown := by decide +kernel
theorem fl_X9_breakDown_89 : Cond.fieldLink RX9 89 (TX9 33).1 (TX9 33).2.1 (TX9 33).2.2.1 ∈ wsX9_breakDown := by decide +kernel
theorem fl_X9_breakDown_112 : Cond.fieldLink RX9 112 (TX9 27).1 (TX9 27).2.1 (TX9 27).2.2.1 ∈ wsX9_breakDown := by decide +kernel
theorem fl_X9_breakDown_20 : Cond.fieldLink RX9 20 (TX9 6).1 (TX9 6).2.1 (TX9 6).2.2.1 ∈ wsX9_breakDown := by decide +kernel
theorem fl_X9_breakDown_144 : Cond.fieldLink RX9 144 (TX9 1).1 (TX9 1).2.1 (TX9 1).2.2.1 ∈ wsX9_breakDown := by decide +kernel
theorem fl_X9_breakDown_23 : Cond.fieldLink RX9 23 (TX9 7).1 (TX9 7).2.1 (TX9 7).2.2.1 ∈ wsX9_breakDown := by decide +kernel
set_option maxHeartbeats 4000000 in
set_option maxRecDepth 100000 in
theorem ct_X9_breakDown (l : Launch) (D : va_G) (cI cJ cZ : ClassId) (a : Nat → Nat) (u : MdS) (p0 p1 : Int) (hu : MdI u) (h0 : -2147483648 ≤ p0 ∧ p0 < 2147483648) (h1 : -2147483648 ≤ p1 ∧ p1 < 2147483648)  : gz_M l yX9_breakDown wsX9_breakDown { frames := 2, cells := 0, slots := 0, locals := 43 } D cI cJ cZ [.ref (a 0), vI p0, vI p1] (MdW cI cZ a u) (gz_pK (md_breakDown u p0 p1) (some (vI (Md_fnd u p0 p1))) (some (vI 0)) (fun k => MdW cI cZ a (Md_setTh u k)) (MdW cI cZ a (Md_brk u p0 p1))) := by
  refine gz_ofZ (cc := cX9_breakDown) (maxL := 5) (ty := .int) (own := RX9) (by decide) rfl rfl (Nat.le_of_ble_eq_true rfl) (lv0 := [(0, .ref (a 0)), (1, vI p0), (2, vI p1)]) rfl ?_
  intro p e s m args below meth c A Q F Z
  obtain ⟨hnw, hAw, hMm, hLo, ⟨hMt, hMa⟩, hSw, hBu⟩ := id hu
  have hMmn := hMm.1
  have hLon := hLo.1
  have hMtn := hMt.1
  have hSwn := hSw.1
  have hBun := hBu.1
  have J113 : ∀ (f : Int), (gz_kx (md_breakDown u p0 p1) 0) → (f = Md_fnd u p0 p1) → (-1 ≤ f ∧ f < 40) → gG p l e ({ frames := 2, cells := 0, slots := 0, locals := 43 } : Room) s m args below meth c D A 5 Q 0 0 (MdW cI cZ a ((0, Md_now u, Md_aw u, (Mm_n (Md_mm u), Mm_fe (Md_mm u), Mm_ow (Md_mm u), zU (Mm_bf (Md_mm u)) p0 (Md_now u), zU (Mm_bt (Md_mm u)) p0 ((Md_now u + p1) - 1)), Md_lo u, Md_mt u, Md_sw u, Md_bu u))) [(0, .ref (a 0)), (1, vI p0), (2, vI p1), (3, vI f)] [] 113 := by
    intro f hk hF hr
    refine gz_iload_n (pc := 113) F dX9_breakDown_113 rfl 3 rfl ?_
    refine gz_const (pc := 114) F dX9_breakDown_114 ?_
    refine gz_icmp_eq (pc := 115) (tgt := 139) F dX9_breakDown_115 (by decide) (by omega) (by omega) (fun c115 => ?_) (fun c115 => ?_)
    · refine gz_iload_n (pc := 139) F dX9_breakDown_139 rfl 3 rfl ?_
      refine Z _ _ 140 _ dX9_breakDown_140 rfl ?_
      exact ⟨0, hk, fun h => absurd rfl h, fun _ => ⟨(by rw [hF]), (by unfold Md_brk; rw [← hF, Bu_unq_n c115])⟩⟩
    · refine gz_aload_n (pc := 118) F dX9_breakDown_118 rfl 0 rfl ?_
      refine gz_get (pc := 119) (v := .ref (a 22)) F hn_X9_breakDown_X9 0 9 rfl rfl 28 (by decide) fl_X9_breakDown_74 rfl dX9_breakDown_119 ?_
      refine gz_iload_n (pc := 122) F dX9_breakDown_122 rfl 3 rfl ?_
      refine gz_const (pc := 123) F dX9_breakDown_123 ?_
      refine gz_iast (pc := 124) (f := Bu_st (Md_bu u)) (ws2 := MdW cI cZ a ((0, Md_now u, Md_aw u, (Mm_n (Md_mm u), Mm_fe (Md_mm u), Mm_ow (Md_mm u), zU (Mm_bf (Md_mm u)) p0 (Md_now u), zU (Mm_bt (Md_mm u)) p0 ((Md_now u + p1) - 1)), Md_lo u, Md_mt u, Md_sw u, (Bu_n (Md_bu u), Bu_ne (Md_bu u), Bu_ur (Md_bu u), Bu_ln (Md_bu u), zU (Bu_st (Md_bu u)) f 0, Bu_ma (Md_bu u), Bu_bg (Md_bu u), Bu_ti (Md_bu u))))) F 22 rfl (by omega) (by decide) rfl dX9_breakDown_124 ?_
      refine gz_aload_n (pc := 125) F dX9_breakDown_125 rfl 0 rfl ?_
      refine gz_get (pc := 126) (v := .ref (a 26)) F hn_X9_breakDown_X9 0 9 rfl rfl 32 (by decide) fl_X9_breakDown_86 rfl dX9_breakDown_126 ?_
      refine gz_iload_n (pc := 129) F dX9_breakDown_129 rfl 3 rfl ?_
      refine gz_const (pc := 130) F dX9_breakDown_130 ?_
      refine gz_iast (pc := 131) (f := Bu_ma (Md_bu u)) (ws2 := MdW cI cZ a ((0, Md_now u, Md_aw u, (Mm_n (Md_mm u), Mm_fe (Md_mm u), Mm_ow (Md_mm u), zU (Mm_bf (Md_mm u)) p0 (Md_now u), zU (Mm_bt (Md_mm u)) p0 ((Md_now u + p1) - 1)), Md_lo u, Md_mt u, Md_sw u, (Bu_n (Md_bu u), Bu_ne (Md_bu u), Bu_ur (Md_bu u), Bu_ln (Md_bu u), zU (Bu_st (Md_bu u)) f 0, zU (Bu_ma (Md_bu u)) f (-1), Bu_bg (Md_bu u), Bu_ti (Md_bu u))))) F 26 rfl (by omega) (by decide) rfl dX9_breakDown_131 ?_
      refine gz_aload_n (pc := 132) F dX9_breakDown_132 rfl 0 rfl ?_
      refine gz_get (pc := 133) (v := .ref (a 27)) F hn_X9_breakDown_X9 0 9 rfl rfl 33 (by decide) fl_X9_breakDown_89 rfl dX9_breakDown_133 ?_
      refine gz_iload_n (pc := 136) F dX9_breakDown_136 rfl 3 rfl ?_
      refine gz_const (pc := 137) F dX9_breakDown_137 ?_
      refine gz_iast (pc := 138) (f := Bu_bg (Md_bu u)) (ws2 := MdW cI cZ a ((0, Md_now u, Md_aw u, (Mm_n (Md_mm u), Mm_fe (Md_mm u), Mm_ow (Md_mm u), zU (Mm_bf (Md_mm u)) p0 (Md_now u), zU (Mm_bt (Md_mm u)) p0 ((Md_now u + p1) - 1)), Md_lo u, Md_mt u, Md_sw u, (Bu_n (Md_bu u), Bu_ne (Md_bu u), Bu_ur (Md_bu u), Bu_ln (Md_bu u), zU (Bu_st (Md_bu u)) f 0, zU (Bu_ma (Md_bu u)) f (-1), zU (Bu_bg (Md_bu u)) f (-1), Bu_ti (Md_bu u))))) F 27 rfl (by omega) (by decide) rfl dX9_breakDown_138 ?_
      refine gz_iload_n (pc := 139) F dX9_breakDown_139 rfl 3 rfl ?_
      refine Z _ _ 140 _ dX9_breakDown_140 rfl ?_
      exact ⟨0, hk, fun h => absurd rfl h, fun _ => ⟨(by rw [hF]), (by unfold Md_brk; rw [← hF, Bu_unq_y c115])⟩⟩
  have L65 : ∀ (N : Nat) (i : Int) (f : Int), (Bu_n (Md_bu u) - i).toNat < N → (gz_kx (md_breakDown u p0 p1) 0) → (0 ≤ i ∧ i ≤ Bu_n (Md_bu u)) → (f = Bu_fndN (Md_bu u) p0 i.toNat) → (-1 ≤ f ∧ f < i) → (p1 ≤ 0 → f = -1) → gG p l e ({ frames := 2, cells := 0, slots := 0, locals := 43 } : Room) s m args below meth c D A 5 Q 0 0 (MdW cI cZ a ((0, Md_now u, Md_aw u, (Mm_n (Md_mm u), Mm_fe (Md_mm u), Mm_ow (Md_mm u), zU (Mm_bf (Md_mm u)) p0 (Md_now u), zU (Mm_bt (Md_mm u)) p0 ((Md_now u + p1) - 1)), Md_lo u, Md_mt u, Md_sw u, Md_bu u))) [(0, .ref (a 0)), (1, vI p0), (2, vI p1), (3, vI f), (4, vI i)] [] 65 := by
    intro N
    induction N with
    | zero => intro i f hN; exact absurd hN (Nat.not_lt_zero _)
    | succ N ih65 =>
      intro i f hN hk hi hf hr h0
      refine gz_iload (pc := 65) F dX9_breakDown_65 4 rfl ?_
      refine gz_aload_n (pc := 67) F dX9_breakDown_67 rfl 0 rfl ?_
      refine gz_get (pc := 68) (v := vI (Bu_n (Md_bu u))) F hn_X9_breakDown_X9 0 9 rfl rfl 27 (by decide) fl_X9_breakDown_112 rfl dX9_breakDown_68 ?_
      have b68 := hBu.1
      refine gz_icmp_ge (pc := 71) (tgt := 113) F dX9_breakDown_71 (by decide) (by omega) (by omega) (fun c71 => ?_) (fun c71 => ?_)
      · refine gz_lv [0, 1, 2, 3] rfl ?_
        exact J113 f (by exact hk) (by first | exact Md_fnd_e hf h0 (Or.inr c75) | exact Md_fnd_e hf h0 (Or.inl (by omega))) (by omega)
      · refine gz_iload_n (pc := 74) F dX9_breakDown_74 rfl 2 rfl ?_
        refine gz_if_le (pc := 75) (tgt := 113) F dX9_breakDown_75 (by decide) (by omega) (fun c75 => ?_) (fun c75 => ?_)
        · refine gz_lv [0, 1, 2, 3] rfl ?_
          exact J113 f (by exact hk) (by first | exact Md_fnd_e hf h0 (Or.inr c75) | exact Md_fnd_e hf h0 (Or.inl (by omega))) (by omega)
        · refine gz_aload_n (pc := 78) F dX9_breakDown_78 rfl 0 rfl ?_
          refine gz_get (pc := 79) (v := .ref (a 22)) F hn_X9_breakDown_X9 0 9 rfl rfl 28 (by decide) fl_X9_breakDown_74 rfl dX9_breakDown_79 ?_
          refine gz_iload (pc := 82) F dX9_breakDown_82 4 rfl ?_
          refine gz_iald (pc := 84) (f := Bu_st (Md_bu u)) F 22 rfl (by omega) (by decide) dX9_breakDown_84 ?_
          have b84 := (hBu.2 i).2.2.2.1
          refine gz_const (pc := 85) F dX9_breakDown_85 ?_
          refine gz_icmp_ne (pc := 86) (tgt := 105) F dX9_breakDown_86 (by decide) (by omega) (by omega) (fun c86 => ?_) (fun c86 => ?_)
          · refine gz_iload_n (pc := 105) F dX9_breakDown_105 rfl 3 rfl ?_
            refine gz_istore_n (pc := 106) (lv2 := [(3, vI f), (0, .ref (a 0)), (1, vI p0), (2, vI p1), (4, vI i)]) F dX9_breakDown_106 rfl (by decide) rfl ?_
            refine gz_iinc (pc := 107) (lv2 := [(4, vI (i + 1)), (3, vI f), (0, .ref (a 0)), (1, vI p0), (2, vI p1)]) F dX9_breakDown_107 4 rfl (by decide) rfl ?_
            refine gz_goto (pc := 110) (tgt := 65) F dX9_breakDown_110 (by decide) ?_
            refine gz_lv [2, 3, 4, 1, 0] rfl ?_
            exact ih65 (i + 1) f (by omega) (by exact hk) (by omega) (by first | exact Bu_fndN_n hi.1 hf (fun h => c97 h.2) | exact Bu_fndN_n hi.1 hf (fun h => c86 h.1)) (by omega) (by exact fun h => absurd c75 (Int.not_lt.mpr h))
          · refine gz_aload_n (pc := 89) F dX9_breakDown_89 rfl 0 rfl ?_
            refine gz_get (pc := 90) (v := .ref (a 26)) F hn_X9_breakDown_X9 0 9 rfl rfl 32 (by decide) fl_X9_breakDown_86 rfl dX9_breakDown_90 ?_
            refine gz_iload (pc := 93) F dX9_breakDown_93 4 rfl ?_
            refine gz_iald (pc := 95) (f := Bu_ma (Md_bu u)) F 26 rfl (by omega) (by decide) dX9_breakDown_95 ?_
            have b95 := (hBu.2 i).2.2.2.2.1
            refine gz_iload_n (pc := 96) F dX9_breakDown_96 rfl 1 rfl ?_
            refine gz_icmp_ne (pc := 97) (tgt := 105) F dX9_breakDown_97 (by decide) (by omega) (by omega) (fun c97 => ?_) (fun c97 => ?_)
            · refine gz_iload_n (pc := 105) F dX9_breakDown_105 rfl 3 rfl ?_
              refine gz_istore_n (pc := 106) (lv2 := [(3, vI f), (0, .ref (a 0)), (1, vI p0), (2, vI p1), (4, vI i)]) F dX9_breakDown_106 rfl (by decide) rfl ?_
              refine gz_iinc (pc := 107) (lv2 := [(4, vI (i + 1)), (3, vI f), (0, .ref (a 0)), (1, vI p0), (2, vI p1)]) F dX9_breakDown_107 4 rfl (by decide) rfl ?_
              refine gz_goto (pc := 110) (tgt := 65) F dX9_breakDown_110 (by decide) ?_
              refine gz_lv [2, 3, 4, 1, 0] rfl ?_
              exact ih65 (i + 1) f (by omega) (by exact hk) (by omega) (by first | exact Bu_fndN_n hi.1 hf (fun h => c97 h.2) | exact Bu_fndN_n hi.1 hf (fun h => c86 h.1)) (by omega) (by exact fun h => absurd c75 (Int.not_lt.mpr h))
            · refine gz_iload (pc := 100) F dX9_breakDown_100 4 rfl ?_
              refine gz_goto (pc := 102) (tgt := 106) F dX9_breakDown_102 (by decide) ?_
              refine gz_istore_n (pc := 106) (lv2 := [(3, vI i), (0, .ref (a 0)), (1, vI p0), (2, vI p1), (4, vI i)]) F dX9_breakDown_106 rfl (by decide) rfl ?_
              refine gz_iinc (pc := 107) (lv2 := [(4, vI (i + 1)), (3, vI i), (0, .ref (a 0)), (1, vI p0), (2, vI p1)]) F dX9_breakDown_107 4 rfl (by decide) rfl ?_
              refine gz_goto (pc := 110) (tgt := 65) F dX9_breakDown_110 (by decide) ?_
              refine gz_lv [2, 3, 4, 1, 0] rfl ?_
              exact ih65 (i + 1) i (by omega) (by exact hk) (by omega) (by exact Bu_fndN_y hi.1 ⟨c86, c97⟩) (by omega) (by exact fun h => absurd c75 (Int.not_lt.mpr h))
  refine gz_aload_n (pc := 0) F dX9_breakDown_0 rfl 0 rfl ?_
  refine gz_aload_n (pc := 1) F dX9_breakDown_1 rfl 0 rfl ?_
  refine gz_iload_n (pc := 2) F dX9_breakDown_2 rfl 1 rfl ?_
  refine gz_callVb (pc := 3) (n := 1) (As := [vI p0]) (rest := [.ref (a 0)]) (bytes := cX9_isMachine) (maxL := 2) (ret := some .boolean) F (ct_X9_isMachine l D cI cJ cZ a u p0 hu (by omega)) gX9_breakDown_X9_isMachine rfl ⟨rfl, rfl⟩ (by decide +kernel) ⟨Nat.le_of_ble_eq_true rfl, Nat.le_of_ble_eq_true rfl⟩ rfl [] [] ((List.append_nil _).symm) 9 rfl rfl rfl (Nat.le_of_ble_eq_true rfl) ⟨Nat.zero_le _, Nat.zero_le _⟩ gz_pI_sh dX9_breakDown_3 ?_
  refine gz_kIb ((List.append_nil _).symm).symm (fun r3 h3 => ?_)
  subst h3
  refine gz_if_neb (pc := 6) (tgt := 13) F dX9_breakDown_6 (by decide) (fun c6 => ?_) (fun c6 => ?_)
  · refine gz_iload_n (pc := 13) F dX9_breakDown_13 rfl 2 rfl ?_
    refine gz_const (pc := 14) F dX9_breakDown_14 ?_
    refine gz_bipush (pc := 15) F dX9_breakDown_15 (by decide) ?_
    refine gz_callS (pc := 17) (n := 3) (As := [vI p1, vI 0, vI 40]) (rest := [.ref (a 0)]) (bytes := cX9_in) (maxL := 3) (ret := some .boolean) F (ct_X9_in l D cI cJ cZ p1 0 40 (by omega) (by omega) (by omega)) gX9_breakDown_X9_in rfl ⟨rfl, rfl⟩ (by decide +kernel) ⟨Nat.le_of_ble_eq_true rfl, Nat.le_of_ble_eq_true rfl⟩ rfl [] rfl (by decide) rfl (Nat.le_of_ble_eq_true rfl) ⟨Nat.zero_le _, Nat.zero_le _⟩ gz_pI_sh dX9_breakDown_17 ?_
    refine gz_kI rfl (fun r17 h17 => ?_)
    subst h17
    refine gz_if_neb (pc := 20) (tgt := 27) F dX9_breakDown_20 (by decide) (fun c20 => ?_) (fun c20 => ?_)
    · refine gz_const (pc := 27) F dX9_breakDown_27 ?_
      refine gz_callVb (pc := 28) (n := 1) (As := [vI 0]) (rest := []) (bytes := cX9_refused) (maxL := 2) (ret := some .boolean) F (ct_X9_refused_0 l D cI cJ cZ a u hu) gX9_breakDown_X9_refused rfl ⟨rfl, rfl⟩ (by decide +kernel) ⟨Nat.le_of_ble_eq_true rfl, Nat.le_of_ble_eq_true rfl⟩ rfl [] [] ((List.append_nil _).symm) 9 rfl rfl rfl (Nat.le_of_ble_eq_true rfl) ⟨Nat.zero_le _, Nat.zero_le _⟩ (gz_pV_sh rfl) dX9_breakDown_28 ?_
      refine gz_kVb (r := 0) (ws2 := MdW cI cZ a (0, Md_now u, Md_aw u, Md_mm u, Md_lo u, Md_mt u, Md_sw u, Md_bu u)) ((List.append_nil _).symm).symm ?_
      refine gz_if_eq (pc := 31) (tgt := 36) F dX9_breakDown_31 (by decide) (by omega) (fun c31 => ?_) (fun c31 => ?_)
      · refine gz_aload_n (pc := 36) F dX9_breakDown_36 rfl 0 rfl ?_
        refine gz_get (pc := 37) (v := .ref (a 4)) F hn_X9_breakDown_X9 0 9 rfl rfl 6 (by decide) fl_X9_breakDown_20 rfl dX9_breakDown_37 ?_
        refine gz_iload_n (pc := 40) F dX9_breakDown_40 rfl 1 rfl ?_
        refine gz_aload_n (pc := 41) F dX9_breakDown_41 rfl 0 rfl ?_
        refine gz_get (pc := 42) (v := vI (Md_now u)) F hn_X9_breakDown_X9 0 9 rfl rfl 1 (by decide) fl_X9_breakDown_144 rfl dX9_breakDown_42 ?_
        have b42 := hnw
        refine gz_iast (pc := 45) (f := Mm_bf (Md_mm u)) (ws2 := MdW cI cZ a ((0, Md_now u, Md_aw u, (Mm_n (Md_mm u), Mm_fe (Md_mm u), Mm_ow (Md_mm u), zU (Mm_bf (Md_mm u)) p0 (Md_now u), Mm_bt (Md_mm u)), Md_lo u, Md_mt u, Md_sw u, Md_bu u))) F 4 rfl (by omega) (by decide) rfl dX9_breakDown_45 ?_
        refine gz_aload_n (pc := 46) F dX9_breakDown_46 rfl 0 rfl ?_
        refine gz_get (pc := 47) (v := .ref (a 5)) F hn_X9_breakDown_X9 0 9 rfl rfl 7 (by decide) fl_X9_breakDown_23 rfl dX9_breakDown_47 ?_
        refine gz_iload_n (pc := 50) F dX9_breakDown_50 rfl 1 rfl ?_
        refine gz_aload_n (pc := 51) F dX9_breakDown_51 rfl 0 rfl ?_
        refine gz_get (pc := 52) (v := vI (Md_now u)) F hn_X9_breakDown_X9 0 9 rfl rfl 1 (by decide) fl_X9_breakDown_144 rfl dX9_breakDown_52 ?_
        have b52 := hnw
        refine gz_iload_n (pc := 55) F dX9_breakDown_55 rfl 2 rfl ?_
        refine gz_iadd (pc := 56) F dX9_breakDown_56 ?_
        refine gz_const (pc := 57) F dX9_breakDown_57 ?_
        refine gz_isub (pc := 58) F dX9_breakDown_58 ?_
        refine gz_iast (pc := 59) (f := Mm_bt (Md_mm u)) (ws2 := MdW cI cZ a ((0, Md_now u, Md_aw u, (Mm_n (Md_mm u), Mm_fe (Md_mm u), Mm_ow (Md_mm u), zU (Mm_bf (Md_mm u)) p0 (Md_now u), zU (Mm_bt (Md_mm u)) p0 (((Md_now u) + p1) - 1)), Md_lo u, Md_mt u, Md_sw u, Md_bu u))) F 5 rfl (by omega) (by decide) rfl dX9_breakDown_59 ?_
        refine gz_const (pc := 60) F dX9_breakDown_60 ?_
        refine gz_istore_n (pc := 61) (lv2 := [(3, vI (-1)), (0, .ref (a 0)), (1, vI p0), (2, vI p1)]) F dX9_breakDown_61 rfl (by decide) rfl ?_
        refine gz_const (pc := 62) F dX9_breakDown_62 ?_
        refine gz_istore (pc := 63) (lv2 := [(4, vI 0), (3, vI (-1)), (0, .ref (a 0)), (1, vI p0), (2, vI p1)]) F dX9_breakDown_63 (by decide) rfl ?_
        refine gz_eqw (ws2 := MdW cI cZ a ((0, Md_now u, Md_aw u, (Mm_n (Md_mm u), Mm_fe (Md_mm u), Mm_ow (Md_mm u), zU (Mm_bf (Md_mm u)) p0 (Md_now u), zU (Mm_bt (Md_mm u)) p0 ((Md_now u + p1) - 1)), Md_lo u, Md_mt u, Md_sw u, Md_bu u))) (rfl) ?_
        refine gz_lv [2, 3, 4, 1, 0] rfl ?_
        exact L65 _ 0 (-1) (Nat.lt_succ_self _) (by exact Or.inr ⟨not_not_intro c6, Or.inr ⟨not_not_intro c20, rfl⟩⟩) (by omega) (by rfl) (by omega) (by exact fun _ => rfl)
      · exact absurd c31 (by decide)
    · refine gz_const (pc := 23) F dX9_breakDown_23 ?_
      refine gz_goto (pc := 24) (tgt := 28) F dX9_breakDown_24 (by decide) ?_
      refine gz_callVb (pc := 28) (n := 1) (As := [vI 2]) (rest := []) (bytes := cX9_refused) (maxL := 2) (ret := some .boolean) F (ct_X9_refused_2 l D cI cJ cZ a u hu) gX9_breakDown_X9_refused rfl ⟨rfl, rfl⟩ (by decide +kernel) ⟨Nat.le_of_ble_eq_true rfl, Nat.le_of_ble_eq_true rfl⟩ rfl [] [] ((List.append_nil _).symm) 9 rfl rfl rfl (Nat.le_of_ble_eq_true rfl) ⟨Nat.zero_le _, Nat.zero_le _⟩ (gz_pV_sh rfl) dX9_breakDown_28 ?_
      refine gz_kVb (r := 1) (ws2 := MdW cI cZ a (2, Md_now u, Md_aw u, Md_mm u, Md_lo u, Md_mt u, Md_sw u, Md_bu u)) ((List.append_nil _).symm).symm ?_
      refine gz_if_eq (pc := 31) (tgt := 36) F dX9_breakDown_31 (by decide) (by omega) (fun c31 => ?_) (fun c31 => ?_)
      · exact absurd c31 (by decide)
      · refine gz_const (pc := 34) F dX9_breakDown_34 ?_
        refine Z _ _ 35 _ dX9_breakDown_35 rfl ?_
        exact ⟨2, Or.inr ⟨not_not_intro c6, Or.inl ⟨c20, rfl⟩⟩, fun _ => ⟨rfl, rfl⟩, fun h => absurd h (by decide)⟩
  · refine gz_const (pc := 9) F dX9_breakDown_9 ?_
    refine gz_goto (pc := 10) (tgt := 28) F dX9_breakDown_10 (by decide) ?_
    refine gz_callVb (pc := 28) (n := 1) (As := [vI 1]) (rest := []) (bytes := cX9_refused) (maxL := 2) (ret := some .boolean) F (ct_X9_refused_1 l D cI cJ cZ a u hu) gX9_breakDown_X9_refused rfl ⟨rfl, rfl⟩ (by decide +kernel) ⟨Nat.le_of_ble_eq_true rfl, Nat.le_of_ble_eq_true rfl⟩ rfl [] [] ((List.append_nil _).symm) 9 rfl rfl rfl (Nat.le_of_ble_eq_true rfl) ⟨Nat.zero_le _, Nat.zero_le _⟩ (gz_pV_sh rfl) dX9_breakDown_28 ?_
    refine gz_kVb (r := 1) (ws2 := MdW cI cZ a (1, Md_now u, Md_aw u, Md_mm u, Md_lo u, Md_mt u, Md_sw u, Md_bu u)) ((List.append_nil _).symm).symm ?_
    refine gz_if_eq (pc := 31) (tgt := 36) F dX9_breakDown_31 (by decide) (by omega) (fun c31 => ?_) (fun c31 => ?_)
    · exact absurd c31 (by decide)
    · refine gz_const (pc := 34) F dX9_breakDown_34 ?_
      refine Z _ _ 35 _ dX9_breakDown_35 rfl ?_
      exact ⟨1, Or.inl ⟨c6, rfl⟩, fun _ => ⟨rfl, rfl⟩, fun h => absurd h (by decide)⟩
