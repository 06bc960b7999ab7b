/-! ===== laid by wip/whole/gen/md.py ===== -/
abbrev md_urge (u : MdS) (p0 p1 : Int) : List (Prop × Int) := [(¬ (0 ≤ p0 ∧ p0 ≤ Bu_n (Md_bu u) - 1), 1), (¬ (0 ≤ p1 ∧ p1 ≤ 9), 2), (Bu_st (Md_bu u) p0 ≠ 0, 3)]
theorem hn_X9_urge_X9 : ∀ w ∈ u_ws RX9 TX9 35, w ∈ wsX9_urge := by decide +kernel
theorem fl_X9_urge_74 : Cond.fieldLink RX9 74 (TX9 28).1 (TX9 28).2.1 (TX9 28).2.2.1 ∈ wsX9_urge := by decide +kernel
theorem fl_X9_urge_80 : Cond.fieldLink RX9 80 (TX9 30).1 (TX9 30).2.1 (TX9 30).2.2.1 ∈ wsX9_urge := by decide +kernel
set_option maxHeartbeats 4000000 in
set_option maxRecDepth 100000 in
theorem ct_X9_urge (l : Launch) (D : va_G) (cI cJ cZ : ClassId) (a : Nat → Nat) (u : MdS) (p0 p1 : Int) (hu : MdI u) (h0 : -2147483648 ≤ p0 ∧ p0 < 2147483648) (h1 : -2147483648 ≤ p1 ∧ p1 < 2147483648)  : gz_M l yX9_urge wsX9_urge { frames := 2, cells := 0, slots := 0, locals := 43 } D cI cJ cZ [.ref (a 0), vI p0, vI p1] (MdW cI cZ a u) (gz_pK (md_urge u p0 p1) (some (vI (Bu_ur (Md_bu u) p0))) (some (vI 0)) (fun k => MdW cI cZ a (Md_setTh u k)) (MdW cI cZ a ((0, Md_now u, Md_aw u, Md_mm u, Md_lo u, Md_mt u, Md_sw u, Bu_urM (Md_bu u) p0 p1)))) := by
  refine gz_ofZ (cc := cX9_urge) (maxL := 5) (ty := .int) (own := RX9) (by decide) rfl rfl (Nat.le_of_ble_eq_true rfl) (lv0 := [(0, .ref (a 0)), (1, vI p0), (2, vI p1)]) rfl ?_
  intro p e s m args below meth c A Q F Z
  obtain ⟨hnw, hAw, hMm, hLo, ⟨hMt, hMa⟩, hSw, hBu⟩ := id hu
  have hMmn := hMm.1
  have hLon := hLo.1
  have hMtn := hMt.1
  have hSwn := hSw.1
  have hBun := hBu.1
  refine gz_aload_n (pc := 0) F dX9_urge_0 rfl 0 rfl ?_
  refine gz_iload_n (pc := 1) F dX9_urge_1 rfl 1 rfl ?_
  refine gz_callVb (pc := 2) (n := 1) (As := [vI p0]) (rest := []) (bytes := cX9_isBuild) (maxL := 2) (ret := some .boolean) F (ct_X9_isBuild l D cI cJ cZ a u p0 hu (by omega)) gX9_urge_X9_isBuild rfl ⟨rfl, rfl⟩ (by decide +kernel) ⟨Nat.le_of_ble_eq_true rfl, Nat.le_of_ble_eq_true rfl⟩ rfl [] [] ((List.append_nil _).symm) 9 rfl rfl rfl (Nat.le_of_ble_eq_true rfl) ⟨Nat.zero_le _, Nat.zero_le _⟩ gz_pI_sh dX9_urge_2 ?_
  refine gz_kIb ((List.append_nil _).symm).symm (fun r2 h2 => ?_)
  subst h2
  refine gz_istore_n (pc := 5) (lv2 := [(3, vI (bz (0 ≤ p0 ∧ p0 ≤ Bu_n (Md_bu u) - 1))), (0, .ref (a 0)), (1, vI p0), (2, vI p1)]) F dX9_urge_5 rfl (by decide) rfl ?_
  refine gz_aload_n (pc := 6) F dX9_urge_6 rfl 1 rfl ?_
  refine gz_iload_n (pc := 7) F dX9_urge_7 rfl 0 rfl ?_
  refine gz_if_neb (pc := 8) (tgt := 15) F dX9_urge_8 (by decide) (fun c8 => ?_) (fun c8 => ?_)
  · refine gz_iload_n (pc := 15) F dX9_urge_15 rfl 3 rfl ?_
    refine gz_const (pc := 16) F dX9_urge_16 ?_
    refine gz_bipush (pc := 17) F dX9_urge_17 (by decide) ?_
    refine gz_callS (pc := 19) (n := 3) (As := [vI p1, vI 0, vI 9]) (rest := [.ref (a 0)]) (bytes := cX9_in) (maxL := 3) (ret := some .boolean) F (ct_X9_in l D cI cJ cZ p1 0 9 (by omega) (by omega) (by omega)) gX9_urge_X9_in rfl ⟨rfl, rfl⟩ (by decide +kernel) ⟨Nat.le_of_ble_eq_true rfl, Nat.le_of_ble_eq_true rfl⟩ rfl [] rfl (by decide) rfl (Nat.le_of_ble_eq_true rfl) ⟨Nat.zero_le _, Nat.zero_le _⟩ gz_pI_sh dX9_urge_19 ?_
    refine gz_kI rfl (fun r19 h19 => ?_)
    subst h19
    refine gz_if_neb (pc := 22) (tgt := 29) F dX9_urge_22 (by decide) (fun c22 => ?_) (fun c22 => ?_)
    · refine gz_aload_n (pc := 29) F dX9_urge_29 rfl 1 rfl ?_
      refine gz_get (pc := 30) (v := .ref (a 22)) F hn_X9_urge_X9 0 9 rfl rfl 28 (by decide) fl_X9_urge_74 rfl dX9_urge_30 ?_
      refine gz_iload_n (pc := 33) F dX9_urge_33 rfl 2 rfl ?_
      refine gz_iald (pc := 34) (f := Bu_st (Md_bu u)) F 22 rfl (by omega) (by decide) dX9_urge_34 ?_
      have b34 := (hBu.2 p0).2.2.2.1
      refine gz_if_eq (pc := 35) (tgt := 42) F dX9_urge_35 (by decide) (by omega) (fun c35 => ?_) (fun c35 => ?_)
      · refine gz_const (pc := 42) F dX9_urge_42 ?_
        refine gz_callVb (pc := 43) (n := 1) (As := [vI 0]) (rest := []) (bytes := cX9_refused) (maxL := 2) (ret := some .boolean) F (ct_X9_refused_0 l D cI cJ cZ a u hu) gX9_urge_X9_refused rfl ⟨rfl, rfl⟩ (by decide +kernel) ⟨Nat.le_of_ble_eq_true rfl, Nat.le_of_ble_eq_true rfl⟩ rfl [] [] ((List.append_nil _).symm) 9 rfl rfl rfl (Nat.le_of_ble_eq_true rfl) ⟨Nat.zero_le _, Nat.zero_le _⟩ (gz_pV_sh rfl) dX9_urge_43 ?_
        refine gz_kVb (r := 0) (ws2 := MdW cI cZ a (0, Md_now u, Md_aw u, Md_mm u, Md_lo u, Md_mt u, Md_sw u, Md_bu u)) ((List.append_nil _).symm).symm ?_
        refine gz_if_eq (pc := 46) (tgt := 51) F dX9_urge_46 (by decide) (by omega) (fun c46 => ?_) (fun c46 => ?_)
        · refine gz_aload_n (pc := 51) F dX9_urge_51 rfl 1 rfl ?_
          refine gz_get (pc := 52) (v := .ref (a 24)) F hn_X9_urge_X9 0 9 rfl rfl 30 (by decide) fl_X9_urge_80 rfl dX9_urge_52 ?_
          refine gz_iload_n (pc := 55) F dX9_urge_55 rfl 2 rfl ?_
          refine gz_iald (pc := 56) (f := Bu_ur (Md_bu u)) F 24 rfl (by omega) (by decide) dX9_urge_56 ?_
          have b56 := (hBu.2 p0).2.1
          refine gz_istore (pc := 57) (lv2 := [(4, vI (Bu_ur (Md_bu u) p0)), (3, vI (bz (0 ≤ p0 ∧ p0 ≤ Bu_n (Md_bu u) - 1))), (0, .ref (a 0)), (1, vI p0), (2, vI p1)]) F dX9_urge_57 (by decide) rfl ?_
          refine gz_aload_n (pc := 59) F dX9_urge_59 rfl 2 rfl ?_
          refine gz_get (pc := 60) (v := .ref (a 24)) F hn_X9_urge_X9 0 9 rfl rfl 30 (by decide) fl_X9_urge_80 rfl dX9_urge_60 ?_
          refine gz_iload_n (pc := 63) F dX9_urge_63 rfl 3 rfl ?_
          refine gz_iload_n (pc := 64) F dX9_urge_64 rfl 4 rfl ?_
          refine gz_iast (pc := 65) (f := Bu_ur (Md_bu u)) (ws2 := MdW cI cZ a ((0, Md_now u, Md_aw u, Md_mm u, Md_lo u, Md_mt u, Md_sw u, (Bu_n (Md_bu u), Bu_ne (Md_bu u), zU (Bu_ur (Md_bu u)) p0 p1, Bu_ln (Md_bu u), Bu_st (Md_bu u), Bu_ma (Md_bu u), Bu_bg (Md_bu u), Bu_ti (Md_bu u))))) F 24 rfl (by omega) (by decide) rfl dX9_urge_65 ?_
          refine gz_iload (pc := 66) F dX9_urge_66 0 rfl ?_
          refine Z _ _ 68 _ dX9_urge_68 rfl ?_
          exact ⟨0, Or.inr ⟨not_not_intro c8, Or.inr ⟨not_not_intro c22, Or.inr ⟨(fun h => h c35), rfl⟩⟩⟩, fun h => absurd rfl h, fun _ => ⟨rfl, rfl⟩⟩
        · exact absurd c46 (by decide)
      · refine gz_const (pc := 38) F dX9_urge_38 ?_
        refine gz_goto (pc := 39) (tgt := 43) F dX9_urge_39 (by decide) ?_
        refine gz_callVb (pc := 43) (n := 1) (As := [vI 3]) (rest := []) (bytes := cX9_refused) (maxL := 2) (ret := some .boolean) F (ct_X9_refused_3 l D cI cJ cZ a u hu) gX9_urge_X9_refused rfl ⟨rfl, rfl⟩ (by decide +kernel) ⟨Nat.le_of_ble_eq_true rfl, Nat.le_of_ble_eq_true rfl⟩ rfl [] [] ((List.append_nil _).symm) 9 rfl rfl rfl (Nat.le_of_ble_eq_true rfl) ⟨Nat.zero_le _, Nat.zero_le _⟩ (gz_pV_sh rfl) dX9_urge_43 ?_
        refine gz_kVb (r := 1) (ws2 := MdW cI cZ a (3, Md_now u, Md_aw u, Md_mm u, Md_lo u, Md_mt u, Md_sw u, Md_bu u)) ((List.append_nil _).symm).symm ?_
        refine gz_if_eq (pc := 46) (tgt := 51) F dX9_urge_46 (by decide) (by omega) (fun c46 => ?_) (fun c46 => ?_)
        · exact absurd c46 (by decide)
        · refine gz_const (pc := 49) F dX9_urge_49 ?_
          refine Z _ _ 50 _ dX9_urge_50 rfl ?_
          exact ⟨3, Or.inr ⟨not_not_intro c8, Or.inr ⟨not_not_intro c22, Or.inl ⟨c35, rfl⟩⟩⟩, fun _ => ⟨rfl, rfl⟩, fun h => absurd h (by decide)⟩
    · refine gz_const (pc := 25) F dX9_urge_25 ?_
      refine gz_goto (pc := 26) (tgt := 43) F dX9_urge_26 (by decide) ?_
      refine gz_callVb (pc := 43) (n := 1) (As := [vI 2]) (rest := []) (bytes := cX9_refused) (maxL := 2) (ret := some .boolean) F (ct_X9_refused_2 l D cI cJ cZ a u hu) gX9_urge_X9_refused rfl ⟨rfl, rfl⟩ (by decide +kernel) ⟨Nat.le_of_ble_eq_true rfl, Nat.le_of_ble_eq_true rfl⟩ rfl [] [] ((List.append_nil _).symm) 9 rfl rfl rfl (Nat.le_of_ble_eq_true rfl) ⟨Nat.zero_le _, Nat.zero_le _⟩ (gz_pV_sh rfl) dX9_urge_43 ?_
      refine gz_kVb (r := 1) (ws2 := MdW cI cZ a (2, Md_now u, Md_aw u, Md_mm u, Md_lo u, Md_mt u, Md_sw u, Md_bu u)) ((List.append_nil _).symm).symm ?_
      refine gz_if_eq (pc := 46) (tgt := 51) F dX9_urge_46 (by decide) (by omega) (fun c46 => ?_) (fun c46 => ?_)
      · exact absurd c46 (by decide)
      · refine gz_const (pc := 49) F dX9_urge_49 ?_
        refine Z _ _ 50 _ dX9_urge_50 rfl ?_
        exact ⟨2, Or.inr ⟨not_not_intro c8, Or.inl ⟨c22, rfl⟩⟩, fun _ => ⟨rfl, rfl⟩, fun h => absurd h (by decide)⟩
  · refine gz_const (pc := 11) F dX9_urge_11 ?_
    refine gz_goto (pc := 12) (tgt := 43) F dX9_urge_12 (by decide) ?_
    refine gz_callVb (pc := 43) (n := 1) (As := [vI 1]) (rest := []) (bytes := cX9_refused) (maxL := 2) (ret := some .boolean) F (ct_X9_refused_1 l D cI cJ cZ a u hu) gX9_urge_X9_refused rfl ⟨rfl, rfl⟩ (by decide +kernel) ⟨Nat.le_of_ble_eq_true rfl, Nat.le_of_ble_eq_true rfl⟩ rfl [] [] ((List.append_nil _).symm) 9 rfl rfl rfl (Nat.le_of_ble_eq_true rfl) ⟨Nat.zero_le _, Nat.zero_le _⟩ (gz_pV_sh rfl) dX9_urge_43 ?_
    refine gz_kVb (r := 1) (ws2 := MdW cI cZ a (1, Md_now u, Md_aw u, Md_mm u, Md_lo u, Md_mt u, Md_sw u, Md_bu u)) ((List.append_nil _).symm).symm ?_
    refine gz_if_eq (pc := 46) (tgt := 51) F dX9_urge_46 (by decide) (by omega) (fun c46 => ?_) (fun c46 => ?_)
    · exact absurd c46 (by decide)
    · refine gz_const (pc := 49) F dX9_urge_49 ?_
      refine Z _ _ 50 _ dX9_urge_50 rfl ?_
      exact ⟨1, Or.inl ⟨c8, rfl⟩, fun _ => ⟨rfl, rfl⟩, fun h => absurd h (by decide)⟩
