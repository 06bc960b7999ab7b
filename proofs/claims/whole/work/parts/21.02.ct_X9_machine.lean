/-! ===== laid by wip/whole/gen/md.py ===== -/
abbrev md_machine (u : MdS) (p0 p1 : Int) : List (Prop × Int) := [(¬ (0 ≤ p1 ∧ p1 ≤ 9), 1), (¬ (0 ≤ p0 ∧ p0 ≤ 15), 2), (Mm_n (Md_mm u) = 6, 3)]
theorem hn_X9_machine_X9 : ∀ w ∈ u_ws RX9 TX9 35, w ∈ wsX9_machine := by decide +kernel
theorem fl_X9_machine_103 : Cond.fieldLink RX9 103 (TX9 3).1 (TX9 3).2.1 (TX9 3).2.2.1 ∈ wsX9_machine := by decide +kernel
theorem fl_X9_machine_13 : Cond.fieldLink RX9 13 (TX9 4).1 (TX9 4).2.1 (TX9 4).2.2.1 ∈ wsX9_machine := by decide +kernel
theorem fl_X9_machine_17 : Cond.fieldLink RX9 17 (TX9 5).1 (TX9 5).2.1 (TX9 5).2.2.1 ∈ wsX9_machine := by decide +kernel
theorem fl_X9_machine_20 : Cond.fieldLink RX9 20 (TX9 6).1 (TX9 6).2.1 (TX9 6).2.2.1 ∈ wsX9_machine := by decide +kernel
theorem fl_X9_machine_23 : Cond.fieldLink RX9 23 (TX9 7).1 (TX9 7).2.1 (TX9 7).2.2.1 ∈ wsX9_machine := by decide +kernel
set_option maxHeartbeats 4000000 in
set_option maxRecDepth 100000 in
theorem ct_X9_machine (l : Launch) (D : va_G) (cI cJ cZ : ClassId) (a : Nat → Nat) (u : MdS) (p0 p1 : Int) (hu : MdI u) (h0 : -2147483648 ≤ p0 ∧ p0 < 2147483648) (h1 : -2147483648 ≤ p1 ∧ p1 < 2147483648)  : gz_M l yX9_machine wsX9_machine { frames := 2, cells := 0, slots := 0, locals := 42 } D cI cJ cZ [.ref (a 0), vI p0, vI p1] (MdW cI cZ a u) (gz_pK (md_machine u p0 p1) (some (vI (Mm_n (Md_mm u) + 1 - 1))) (some (vI 0)) (fun k => MdW cI cZ a (Md_setTh u k)) (MdW cI cZ a ((0, Md_now u, Md_aw u, Mm_add (Md_mm u) p0 p1, Md_lo u, Md_mt u, Md_sw u, Md_bu u)))) := by
  refine gz_ofZ (cc := cX9_machine) (maxL := 3) (ty := .int) (own := RX9) (by decide) rfl rfl (Nat.le_of_ble_eq_true rfl) (lv0 := [(0, .ref (a 0)), (1, vI p0), (2, vI p1)]) rfl ?_
  intro p e s m args below meth c A Q F Z
  obtain ⟨hnw, hAw, hMm, hLo, ⟨hMt, hMa⟩, hSw, hBu⟩ := id hu
  have hMmn := hMm.1
  have hLon := hLo.1
  have hMtn := hMt.1
  have hSwn := hSw.1
  have hBun := hBu.1
  refine gz_aload_n (pc := 0) F dX9_machine_0 rfl 0 rfl ?_
  refine gz_iload_n (pc := 1) F dX9_machine_1 rfl 2 rfl ?_
  refine gz_callS (pc := 2) (n := 1) (As := [vI p1]) (rest := [.ref (a 0)]) (bytes := cX9_isPerson) (maxL := 1) (ret := some .boolean) F (ct_X9_isPerson l D cI cJ cZ p1 (by omega)) gX9_machine_X9_isPerson rfl ⟨rfl, rfl⟩ (by decide +kernel) ⟨Nat.le_of_ble_eq_true rfl, Nat.le_of_ble_eq_true rfl⟩ rfl [] rfl (by decide) rfl (Nat.le_of_ble_eq_true rfl) ⟨Nat.zero_le _, Nat.zero_le _⟩ gz_pI_sh dX9_machine_2 ?_
  refine gz_kI rfl (fun r2 h2 => ?_)
  subst h2
  refine gz_if_neb (pc := 5) (tgt := 12) F dX9_machine_5 (by decide) (fun c5 => ?_) (fun c5 => ?_)
  · refine gz_iload_n (pc := 12) F dX9_machine_12 rfl 1 rfl ?_
    refine gz_const (pc := 13) F dX9_machine_13 ?_
    refine gz_bipush (pc := 14) F dX9_machine_14 (by decide) ?_
    refine gz_callS (pc := 16) (n := 3) (As := [vI p0, vI 0, vI 15]) (rest := [.ref (a 0)]) (bytes := cX9_in) (maxL := 3) (ret := some .boolean) F (ct_X9_in l D cI cJ cZ p0 0 15 (by omega) (by omega) (by omega)) gX9_machine_X9_in rfl ⟨rfl, rfl⟩ (by decide +kernel) ⟨Nat.le_of_ble_eq_true rfl, Nat.le_of_ble_eq_true rfl⟩ rfl [] rfl (by decide) rfl (Nat.le_of_ble_eq_true rfl) ⟨Nat.zero_le _, Nat.zero_le _⟩ gz_pI_sh dX9_machine_16 ?_
    refine gz_kI rfl (fun r16 h16 => ?_)
    subst h16
    refine gz_if_neb (pc := 19) (tgt := 26) F dX9_machine_19 (by decide) (fun c19 => ?_) (fun c19 => ?_)
    · refine gz_aload_n (pc := 26) F dX9_machine_26 rfl 0 rfl ?_
      refine gz_get (pc := 27) (v := vI (Mm_n (Md_mm u))) F hn_X9_machine_X9 0 9 rfl rfl 3 (by decide) fl_X9_machine_103 rfl dX9_machine_27 ?_
      have b27 := hMm.1
      refine gz_bipush (pc := 30) F dX9_machine_30 (by decide) ?_
      refine gz_icmp_ne (pc := 32) (tgt := 39) F dX9_machine_32 (by decide) (by omega) (by omega) (fun c32 => ?_) (fun c32 => ?_)
      · refine gz_const (pc := 39) F dX9_machine_39 ?_
        refine gz_callVb (pc := 40) (n := 1) (As := [vI 0]) (rest := []) (bytes := cX9_refused) (maxL := 2) (ret := some .boolean) F (ct_X9_refused_0 l D cI cJ cZ a u hu) gX9_machine_X9_refused rfl ⟨rfl, rfl⟩ (by decide +kernel) ⟨Nat.le_of_ble_eq_true rfl, Nat.le_of_ble_eq_true rfl⟩ rfl [] [] ((List.append_nil _).symm) 9 rfl rfl rfl (Nat.le_of_ble_eq_true rfl) ⟨Nat.zero_le _, Nat.zero_le _⟩ (gz_pV_sh rfl) dX9_machine_40 ?_
        refine gz_kVb (r := 0) (ws2 := MdW cI cZ a (0, Md_now u, Md_aw u, Md_mm u, Md_lo u, Md_mt u, Md_sw u, Md_bu u)) ((List.append_nil _).symm).symm ?_
        refine gz_if_eq (pc := 43) (tgt := 48) F dX9_machine_43 (by decide) (by omega) (fun c43 => ?_) (fun c43 => ?_)
        · refine gz_aload_n (pc := 48) F dX9_machine_48 rfl 0 rfl ?_
          refine gz_get (pc := 49) (v := .ref (a 2)) F hn_X9_machine_X9 0 9 rfl rfl 4 (by decide) fl_X9_machine_13 rfl dX9_machine_49 ?_
          refine gz_aload_n (pc := 52) F dX9_machine_52 rfl 0 rfl ?_
          refine gz_get (pc := 53) (v := vI (Mm_n (Md_mm u))) F hn_X9_machine_X9 0 9 rfl rfl 3 (by decide) fl_X9_machine_103 rfl dX9_machine_53 ?_
          have b53 := hMm.1
          refine gz_iload_n (pc := 56) F dX9_machine_56 rfl 1 rfl ?_
          refine gz_iast (pc := 57) (f := Mm_fe (Md_mm u)) (ws2 := MdW cI cZ a ((0, Md_now u, Md_aw u, (Mm_n (Md_mm u), zU (Mm_fe (Md_mm u)) (Mm_n (Md_mm u)) p0, Mm_ow (Md_mm u), Mm_bf (Md_mm u), Mm_bt (Md_mm u)), Md_lo u, Md_mt u, Md_sw u, Md_bu u))) F 2 rfl (by omega) (by decide) rfl dX9_machine_57 ?_
          refine gz_aload_n (pc := 58) F dX9_machine_58 rfl 0 rfl ?_
          refine gz_get (pc := 59) (v := .ref (a 3)) F hn_X9_machine_X9 0 9 rfl rfl 5 (by decide) fl_X9_machine_17 rfl dX9_machine_59 ?_
          refine gz_aload_n (pc := 62) F dX9_machine_62 rfl 0 rfl ?_
          refine gz_get (pc := 63) (v := vI (Mm_n (Md_mm u))) F hn_X9_machine_X9 0 9 rfl rfl 3 (by decide) fl_X9_machine_103 rfl dX9_machine_63 ?_
          have b63 := hMm.1
          refine gz_iload_n (pc := 66) F dX9_machine_66 rfl 2 rfl ?_
          refine gz_iast (pc := 67) (f := Mm_ow (Md_mm u)) (ws2 := MdW cI cZ a ((0, Md_now u, Md_aw u, (Mm_n (Md_mm u), zU (Mm_fe (Md_mm u)) (Mm_n (Md_mm u)) p0, zU (Mm_ow (Md_mm u)) (Mm_n (Md_mm u)) p1, Mm_bf (Md_mm u), Mm_bt (Md_mm u)), Md_lo u, Md_mt u, Md_sw u, Md_bu u))) F 3 rfl (by omega) (by decide) rfl dX9_machine_67 ?_
          refine gz_aload_n (pc := 68) F dX9_machine_68 rfl 0 rfl ?_
          refine gz_get (pc := 69) (v := .ref (a 4)) F hn_X9_machine_X9 0 9 rfl rfl 6 (by decide) fl_X9_machine_20 rfl dX9_machine_69 ?_
          refine gz_aload_n (pc := 72) F dX9_machine_72 rfl 0 rfl ?_
          refine gz_get (pc := 73) (v := vI (Mm_n (Md_mm u))) F hn_X9_machine_X9 0 9 rfl rfl 3 (by decide) fl_X9_machine_103 rfl dX9_machine_73 ?_
          have b73 := hMm.1
          refine gz_const (pc := 76) F dX9_machine_76 ?_
          refine gz_iast (pc := 77) (f := Mm_bf (Md_mm u)) (ws2 := MdW cI cZ a ((0, Md_now u, Md_aw u, (Mm_n (Md_mm u), zU (Mm_fe (Md_mm u)) (Mm_n (Md_mm u)) p0, zU (Mm_ow (Md_mm u)) (Mm_n (Md_mm u)) p1, zU (Mm_bf (Md_mm u)) (Mm_n (Md_mm u)) 0, Mm_bt (Md_mm u)), Md_lo u, Md_mt u, Md_sw u, Md_bu u))) F 4 rfl (by omega) (by decide) rfl dX9_machine_77 ?_
          refine gz_aload_n (pc := 78) F dX9_machine_78 rfl 0 rfl ?_
          refine gz_get (pc := 79) (v := .ref (a 5)) F hn_X9_machine_X9 0 9 rfl rfl 7 (by decide) fl_X9_machine_23 rfl dX9_machine_79 ?_
          refine gz_aload_n (pc := 82) F dX9_machine_82 rfl 0 rfl ?_
          refine gz_get (pc := 83) (v := vI (Mm_n (Md_mm u))) F hn_X9_machine_X9 0 9 rfl rfl 3 (by decide) fl_X9_machine_103 rfl dX9_machine_83 ?_
          have b83 := hMm.1
          refine gz_const (pc := 86) F dX9_machine_86 ?_
          refine gz_iast (pc := 87) (f := Mm_bt (Md_mm u)) (ws2 := MdW cI cZ a ((0, Md_now u, Md_aw u, (Mm_n (Md_mm u), zU (Mm_fe (Md_mm u)) (Mm_n (Md_mm u)) p0, zU (Mm_ow (Md_mm u)) (Mm_n (Md_mm u)) p1, zU (Mm_bf (Md_mm u)) (Mm_n (Md_mm u)) 0, zU (Mm_bt (Md_mm u)) (Mm_n (Md_mm u)) (-1)), Md_lo u, Md_mt u, Md_sw u, Md_bu u))) F 5 rfl (by omega) (by decide) rfl dX9_machine_87 ?_
          refine gz_aload_n (pc := 88) F dX9_machine_88 rfl 0 rfl ?_
          refine gz_dup (pc := 89) F dX9_machine_89 rfl ?_
          refine gz_get (pc := 90) (v := vI (Mm_n (Md_mm u))) F hn_X9_machine_X9 0 9 rfl rfl 3 (by decide) fl_X9_machine_103 rfl dX9_machine_90 ?_
          have b90 := hMm.1
          refine gz_const (pc := 93) F dX9_machine_93 ?_
          refine gz_iadd (pc := 94) F dX9_machine_94 ?_
          refine gz_put (pc := 95) (ws2 := MdW cI cZ a ((0, Md_now u, Md_aw u, ((Mm_n (Md_mm u)) + 1, zU (Mm_fe (Md_mm u)) (Mm_n (Md_mm u)) p0, zU (Mm_ow (Md_mm u)) (Mm_n (Md_mm u)) p1, zU (Mm_bf (Md_mm u)) (Mm_n (Md_mm u)) 0, zU (Mm_bt (Md_mm u)) (Mm_n (Md_mm u)) (-1)), Md_lo u, Md_mt u, Md_sw u, Md_bu u))) F hn_X9_machine_X9 tyX9 tyX9_ok nmX9 0 9 rfl rfl 3 (by decide) fl_X9_machine_103 rfl (ty := .int) rfl rfl rfl (Nat.le_of_ble_eq_true rfl) rfl dX9_machine_95 ?_
          refine gz_aload_n (pc := 98) F dX9_machine_98 rfl 0 rfl ?_
          refine gz_get (pc := 99) (v := vI ((Mm_n (Md_mm u)) + 1)) F hn_X9_machine_X9 0 9 rfl rfl 3 (by decide) fl_X9_machine_103 rfl dX9_machine_99 ?_
          refine gz_const (pc := 102) F dX9_machine_102 ?_
          refine gz_isub (pc := 103) F dX9_machine_103 ?_
          refine Z _ _ 104 _ dX9_machine_104 rfl ?_
          exact ⟨0, Or.inr ⟨not_not_intro c5, Or.inr ⟨not_not_intro c19, Or.inr ⟨c32, rfl⟩⟩⟩, fun h => absurd rfl h, fun _ => ⟨rfl, rfl⟩⟩
        · exact absurd c43 (by decide)
      · refine gz_const (pc := 35) F dX9_machine_35 ?_
        refine gz_goto (pc := 36) (tgt := 40) F dX9_machine_36 (by decide) ?_
        refine gz_callVb (pc := 40) (n := 1) (As := [vI 3]) (rest := []) (bytes := cX9_refused) (maxL := 2) (ret := some .boolean) F (ct_X9_refused_3 l D cI cJ cZ a u hu) gX9_machine_X9_refused rfl ⟨rfl, rfl⟩ (by decide +kernel) ⟨Nat.le_of_ble_eq_true rfl, Nat.le_of_ble_eq_true rfl⟩ rfl [] [] ((List.append_nil _).symm) 9 rfl rfl rfl (Nat.le_of_ble_eq_true rfl) ⟨Nat.zero_le _, Nat.zero_le _⟩ (gz_pV_sh rfl) dX9_machine_40 ?_
        refine gz_kVb (r := 1) (ws2 := MdW cI cZ a (3, Md_now u, Md_aw u, Md_mm u, Md_lo u, Md_mt u, Md_sw u, Md_bu u)) ((List.append_nil _).symm).symm ?_
        refine gz_if_eq (pc := 43) (tgt := 48) F dX9_machine_43 (by decide) (by omega) (fun c43 => ?_) (fun c43 => ?_)
        · exact absurd c43 (by decide)
        · refine gz_const (pc := 46) F dX9_machine_46 ?_
          refine Z _ _ 47 _ dX9_machine_47 rfl ?_
          exact ⟨3, Or.inr ⟨not_not_intro c5, Or.inr ⟨not_not_intro c19, Or.inl ⟨c32, rfl⟩⟩⟩, fun _ => ⟨rfl, rfl⟩, fun h => absurd h (by decide)⟩
    · refine gz_const (pc := 22) F dX9_machine_22 ?_
      refine gz_goto (pc := 23) (tgt := 40) F dX9_machine_23 (by decide) ?_
      refine gz_callVb (pc := 40) (n := 1) (As := [vI 2]) (rest := []) (bytes := cX9_refused) (maxL := 2) (ret := some .boolean) F (ct_X9_refused_2 l D cI cJ cZ a u hu) gX9_machine_X9_refused rfl ⟨rfl, rfl⟩ (by decide +kernel) ⟨Nat.le_of_ble_eq_true rfl, Nat.le_of_ble_eq_true rfl⟩ rfl [] [] ((List.append_nil _).symm) 9 rfl rfl rfl (Nat.le_of_ble_eq_true rfl) ⟨Nat.zero_le _, Nat.zero_le _⟩ (gz_pV_sh rfl) dX9_machine_40 ?_
      refine gz_kVb (r := 1) (ws2 := MdW cI cZ a (2, Md_now u, Md_aw u, Md_mm u, Md_lo u, Md_mt u, Md_sw u, Md_bu u)) ((List.append_nil _).symm).symm ?_
      refine gz_if_eq (pc := 43) (tgt := 48) F dX9_machine_43 (by decide) (by omega) (fun c43 => ?_) (fun c43 => ?_)
      · exact absurd c43 (by decide)
      · refine gz_const (pc := 46) F dX9_machine_46 ?_
        refine Z _ _ 47 _ dX9_machine_47 rfl ?_
        exact ⟨2, Or.inr ⟨not_not_intro c5, Or.inl ⟨c19, rfl⟩⟩, fun _ => ⟨rfl, rfl⟩, fun h => absurd h (by decide)⟩
  · refine gz_const (pc := 8) F dX9_machine_8 ?_
    refine gz_goto (pc := 9) (tgt := 40) F dX9_machine_9 (by decide) ?_
    refine gz_callVb (pc := 40) (n := 1) (As := [vI 1]) (rest := []) (bytes := cX9_refused) (maxL := 2) (ret := some .boolean) F (ct_X9_refused_1 l D cI cJ cZ a u hu) gX9_machine_X9_refused rfl ⟨rfl, rfl⟩ (by decide +kernel) ⟨Nat.le_of_ble_eq_true rfl, Nat.le_of_ble_eq_true rfl⟩ rfl [] [] ((List.append_nil _).symm) 9 rfl rfl rfl (Nat.le_of_ble_eq_true rfl) ⟨Nat.zero_le _, Nat.zero_le _⟩ (gz_pV_sh rfl) dX9_machine_40 ?_
    refine gz_kVb (r := 1) (ws2 := MdW cI cZ a (1, Md_now u, Md_aw u, Md_mm u, Md_lo u, Md_mt u, Md_sw u, Md_bu u)) ((List.append_nil _).symm).symm ?_
    refine gz_if_eq (pc := 43) (tgt := 48) F dX9_machine_43 (by decide) (by omega) (fun c43 => ?_) (fun c43 => ?_)
    · exact absurd c43 (by decide)
    · refine gz_const (pc := 46) F dX9_machine_46 ?_
      refine Z _ _ 47 _ dX9_machine_47 rfl ?_
      exact ⟨1, Or.inl ⟨c5, rfl⟩, fun _ => ⟨rfl, rfl⟩, fun h => absurd h (by decide)⟩
