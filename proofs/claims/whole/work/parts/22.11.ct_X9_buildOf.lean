/-! ===== laid by wip/whole/gen/md2.py ===== -/
abbrev md_buildOf (u : MdS) (p0 p1 : Int) : List (Prop × Int) := [(¬ (0 ≤ p0 ∧ p0 ≤ Bu_n (Md_bu u) - 1), 1), (¬ (0 ≤ p1 ∧ p1 ≤ 3), 2)]
theorem hn_X9_buildOf_X9 : ∀ w ∈ u_ws RX9 TX9 35, w ∈ wsX9_buildOf := by decide +kernel
theorem fl_X9_buildOf_92 : Cond.fieldLink RX9 92 (TX9 34).1 (TX9 34).2.1 (TX9 34).2.2.1 ∈ wsX9_buildOf := by decide +kernel
theorem fl_X9_buildOf_89 : Cond.fieldLink RX9 89 (TX9 33).1 (TX9 33).2.1 (TX9 33).2.2.1 ∈ wsX9_buildOf := by decide +kernel
theorem fl_X9_buildOf_86 : Cond.fieldLink RX9 86 (TX9 32).1 (TX9 32).2.1 (TX9 32).2.2.1 ∈ wsX9_buildOf := by decide +kernel
theorem fl_X9_buildOf_74 : Cond.fieldLink RX9 74 (TX9 28).1 (TX9 28).2.1 (TX9 28).2.2.1 ∈ wsX9_buildOf := by decide +kernel
set_option maxHeartbeats 4000000 in
set_option maxRecDepth 100000 in
theorem ct_X9_buildOf (l : Launch) (D : va_G) (cI cJ cZ : ClassId) (a : Nat → Nat) (u : MdS) (p0 p1 : Int) (hu : MdI u) (h0 : -2147483648 ≤ p0 ∧ p0 < 2147483648) (h1 : -2147483648 ≤ p1 ∧ p1 < 2147483648)  : gz_M l yX9_buildOf wsX9_buildOf { frames := 2, cells := 0, slots := 0, locals := 43 } D cI cJ cZ [.ref (a 0), vI p0, vI p1] (MdW cI cZ a u) (gz_pK (md_buildOf u p0 p1) (some (vI ((if p1 = 0 then Bu_st (Md_bu u) p0 else if p1 = 1 then Bu_ma (Md_bu u) p0 else if p1 = 2 then Bu_bg (Md_bu u) p0 else Bu_ti (Md_bu u) p0)))) (some (vI 0)) (fun k => MdW cI cZ a (Md_setTh u k)) (MdW cI cZ a (Md_setTh u 0))) := by
  refine gz_ofZ (cc := cX9_buildOf) (maxL := 3) (ty := .int) (own := RX9) (by decide) rfl rfl (Nat.le_of_ble_eq_true rfl) (lv0 := [(0, .ref (a 0)), (1, vI p0), (2, vI p1)]) rfl ?_
  intro p e s m args below meth c A Q F Z
  obtain ⟨hnw, hAw, hMm, hLo, ⟨hMt, hMa⟩, hSw, hBu⟩ := id hu
  have hMmn := hMm.1
  have hLon := hLo.1
  have hMtn := hMt.1
  have hSwn := hSw.1
  have hBun := hBu.1
  refine gz_aload_n (pc := 0) F dX9_buildOf_0 rfl 0 rfl ?_
  refine gz_aload_n (pc := 1) F dX9_buildOf_1 rfl 0 rfl ?_
  refine gz_iload_n (pc := 2) F dX9_buildOf_2 rfl 1 rfl ?_
  refine gz_callVb (pc := 3) (n := 1) (As := [vI p0]) (rest := [.ref (a 0)]) (bytes := cX9_isBuild) (maxL := 2) (ret := some .boolean) F (ct_X9_isBuild l D cI cJ cZ a u p0 hu (by omega)) gX9_buildOf_X9_isBuild rfl ⟨rfl, rfl⟩ (by decide +kernel) ⟨Nat.le_of_ble_eq_true rfl, Nat.le_of_ble_eq_true rfl⟩ rfl [] [] ((List.append_nil _).symm) 9 rfl rfl rfl (Nat.le_of_ble_eq_true rfl) ⟨Nat.zero_le _, Nat.zero_le _⟩ gz_pI_sh dX9_buildOf_3 ?_
  refine gz_kIb ((List.append_nil _).symm).symm (fun r3 h3 => ?_)
  subst h3
  refine gz_if_neb (pc := 6) (tgt := 13) F dX9_buildOf_6 (by decide) (fun c6 => ?_) (fun c6 => ?_)
  · refine gz_iload_n (pc := 13) F dX9_buildOf_13 rfl 2 rfl ?_
    refine gz_const (pc := 14) F dX9_buildOf_14 ?_
    refine gz_const (pc := 15) F dX9_buildOf_15 ?_
    refine gz_callS (pc := 16) (n := 3) (As := [vI p1, vI 0, vI 3]) (rest := [.ref (a 0)]) (bytes := cX9_in) (maxL := 3) (ret := some .boolean) F (ct_X9_in l D cI cJ cZ p1 0 3 (by omega) (by omega) (by omega)) gX9_buildOf_X9_in rfl ⟨rfl, rfl⟩ (by decide +kernel) ⟨Nat.le_of_ble_eq_true rfl, Nat.le_of_ble_eq_true rfl⟩ rfl [] rfl (by decide) rfl (Nat.le_of_ble_eq_true rfl) ⟨Nat.zero_le _, Nat.zero_le _⟩ gz_pI_sh dX9_buildOf_16 ?_
    refine gz_kI rfl (fun r16 h16 => ?_)
    subst h16
    refine gz_if_neb (pc := 19) (tgt := 26) F dX9_buildOf_19 (by decide) (fun c19 => ?_) (fun c19 => ?_)
    · refine gz_const (pc := 26) F dX9_buildOf_26 ?_
      refine gz_callVb (pc := 27) (n := 1) (As := [vI 0]) (rest := []) (bytes := cX9_refused) (maxL := 2) (ret := some .boolean) F (ct_X9_refused_0 l D cI cJ cZ a u hu) gX9_buildOf_X9_refused rfl ⟨rfl, rfl⟩ (by decide +kernel) ⟨Nat.le_of_ble_eq_true rfl, Nat.le_of_ble_eq_true rfl⟩ rfl [] [] ((List.append_nil _).symm) 9 rfl rfl rfl (Nat.le_of_ble_eq_true rfl) ⟨Nat.zero_le _, Nat.zero_le _⟩ (gz_pV_sh rfl) dX9_buildOf_27 ?_
      refine gz_kVb (r := 0) (ws2 := MdW cI cZ a (0, Md_now u, Md_aw u, Md_mm u, Md_lo u, Md_mt u, Md_sw u, Md_bu u)) ((List.append_nil _).symm).symm ?_
      refine gz_if_eq (pc := 30) (tgt := 35) F dX9_buildOf_30 (by decide) (by omega) (fun c30 => ?_) (fun c30 => ?_)
      · refine gz_iload_n (pc := 35) F dX9_buildOf_35 rfl 2 rfl ?_
        refine gz_if_ne (pc := 36) (tgt := 48) F dX9_buildOf_36 (by decide) (by omega) (fun c36 => ?_) (fun c36 => ?_)
        · refine gz_iload_n (pc := 48) F dX9_buildOf_48 rfl 2 rfl ?_
          refine gz_const (pc := 49) F dX9_buildOf_49 ?_
          refine gz_icmp_ne (pc := 50) (tgt := 62) F dX9_buildOf_50 (by decide) (by omega) (by omega) (fun c50 => ?_) (fun c50 => ?_)
          · refine gz_iload_n (pc := 62) F dX9_buildOf_62 rfl 2 rfl ?_
            refine gz_const (pc := 63) F dX9_buildOf_63 ?_
            refine gz_icmp_ne (pc := 64) (tgt := 76) F dX9_buildOf_64 (by decide) (by omega) (by omega) (fun c64 => ?_) (fun c64 => ?_)
            · refine gz_aload_n (pc := 76) F dX9_buildOf_76 rfl 0 rfl ?_
              refine gz_get (pc := 77) (v := .ref (a 28)) F hn_X9_buildOf_X9 0 9 rfl rfl 34 (by decide) fl_X9_buildOf_92 rfl dX9_buildOf_77 ?_
              refine gz_iload_n (pc := 80) F dX9_buildOf_80 rfl 1 rfl ?_
              refine gz_iald (pc := 81) (f := Bu_ti (Md_bu u)) F 28 rfl (by omega) (by decide) dX9_buildOf_81 ?_
              refine Z _ _ 82 _ dX9_buildOf_82 rfl ?_
              exact ⟨0, Or.inr ⟨not_not_intro c6, Or.inr ⟨not_not_intro c19, rfl⟩⟩, fun h => absurd rfl h, fun _ => ⟨(by rw [if_neg c36, if_neg c50, if_neg c64]), rfl⟩⟩
            · refine gz_aload_n (pc := 67) F dX9_buildOf_67 rfl 0 rfl ?_
              refine gz_get (pc := 68) (v := .ref (a 27)) F hn_X9_buildOf_X9 0 9 rfl rfl 33 (by decide) fl_X9_buildOf_89 rfl dX9_buildOf_68 ?_
              refine gz_iload_n (pc := 71) F dX9_buildOf_71 rfl 1 rfl ?_
              refine gz_iald (pc := 72) (f := Bu_bg (Md_bu u)) F 27 rfl (by omega) (by decide) dX9_buildOf_72 ?_
              have b72 := (hBu.2 p0).2.2.2.2.2
              refine gz_goto (pc := 73) (tgt := 82) F dX9_buildOf_73 (by decide) ?_
              refine Z _ _ 82 _ dX9_buildOf_82 rfl ?_
              exact ⟨0, Or.inr ⟨not_not_intro c6, Or.inr ⟨not_not_intro c19, rfl⟩⟩, fun h => absurd rfl h, fun _ => ⟨(by rw [if_neg c36, if_neg c50, if_pos c64]), rfl⟩⟩
          · refine gz_aload_n (pc := 53) F dX9_buildOf_53 rfl 0 rfl ?_
            refine gz_get (pc := 54) (v := .ref (a 26)) F hn_X9_buildOf_X9 0 9 rfl rfl 32 (by decide) fl_X9_buildOf_86 rfl dX9_buildOf_54 ?_
            refine gz_iload_n (pc := 57) F dX9_buildOf_57 rfl 1 rfl ?_
            refine gz_iald (pc := 58) (f := Bu_ma (Md_bu u)) F 26 rfl (by omega) (by decide) dX9_buildOf_58 ?_
            have b58 := (hBu.2 p0).2.2.2.2.1
            refine gz_goto (pc := 59) (tgt := 82) F dX9_buildOf_59 (by decide) ?_
            refine Z _ _ 82 _ dX9_buildOf_82 rfl ?_
            exact ⟨0, Or.inr ⟨not_not_intro c6, Or.inr ⟨not_not_intro c19, rfl⟩⟩, fun h => absurd rfl h, fun _ => ⟨(by rw [if_neg c36, if_pos c50]), rfl⟩⟩
        · refine gz_aload_n (pc := 39) F dX9_buildOf_39 rfl 0 rfl ?_
          refine gz_get (pc := 40) (v := .ref (a 22)) F hn_X9_buildOf_X9 0 9 rfl rfl 28 (by decide) fl_X9_buildOf_74 rfl dX9_buildOf_40 ?_
          refine gz_iload_n (pc := 43) F dX9_buildOf_43 rfl 1 rfl ?_
          refine gz_iald (pc := 44) (f := Bu_st (Md_bu u)) F 22 rfl (by omega) (by decide) dX9_buildOf_44 ?_
          have b44 := (hBu.2 p0).2.2.2.1
          refine gz_goto (pc := 45) (tgt := 82) F dX9_buildOf_45 (by decide) ?_
          refine Z _ _ 82 _ dX9_buildOf_82 rfl ?_
          exact ⟨0, Or.inr ⟨not_not_intro c6, Or.inr ⟨not_not_intro c19, rfl⟩⟩, fun h => absurd rfl h, fun _ => ⟨(by rw [if_pos c36]), rfl⟩⟩
      · exact absurd c30 (by decide)
    · refine gz_const (pc := 22) F dX9_buildOf_22 ?_
      refine gz_goto (pc := 23) (tgt := 27) F dX9_buildOf_23 (by decide) ?_
      refine gz_callVb (pc := 27) (n := 1) (As := [vI 2]) (rest := []) (bytes := cX9_refused) (maxL := 2) (ret := some .boolean) F (ct_X9_refused_2 l D cI cJ cZ a u hu) gX9_buildOf_X9_refused rfl ⟨rfl, rfl⟩ (by decide +kernel) ⟨Nat.le_of_ble_eq_true rfl, Nat.le_of_ble_eq_true rfl⟩ rfl [] [] ((List.append_nil _).symm) 9 rfl rfl rfl (Nat.le_of_ble_eq_true rfl) ⟨Nat.zero_le _, Nat.zero_le _⟩ (gz_pV_sh rfl) dX9_buildOf_27 ?_
      refine gz_kVb (r := 1) (ws2 := MdW cI cZ a (2, Md_now u, Md_aw u, Md_mm u, Md_lo u, Md_mt u, Md_sw u, Md_bu u)) ((List.append_nil _).symm).symm ?_
      refine gz_if_eq (pc := 30) (tgt := 35) F dX9_buildOf_30 (by decide) (by omega) (fun c30 => ?_) (fun c30 => ?_)
      · exact absurd c30 (by decide)
      · refine gz_const (pc := 33) F dX9_buildOf_33 ?_
        refine Z _ _ 34 _ dX9_buildOf_34 rfl ?_
        exact ⟨2, Or.inr ⟨not_not_intro c6, Or.inl ⟨c19, rfl⟩⟩, fun _ => ⟨rfl, rfl⟩, fun h => absurd h (by decide)⟩
  · refine gz_const (pc := 9) F dX9_buildOf_9 ?_
    refine gz_goto (pc := 10) (tgt := 27) F dX9_buildOf_10 (by decide) ?_
    refine gz_callVb (pc := 27) (n := 1) (As := [vI 1]) (rest := []) (bytes := cX9_refused) (maxL := 2) (ret := some .boolean) F (ct_X9_refused_1 l D cI cJ cZ a u hu) gX9_buildOf_X9_refused rfl ⟨rfl, rfl⟩ (by decide +kernel) ⟨Nat.le_of_ble_eq_true rfl, Nat.le_of_ble_eq_true rfl⟩ rfl [] [] ((List.append_nil _).symm) 9 rfl rfl rfl (Nat.le_of_ble_eq_true rfl) ⟨Nat.zero_le _, Nat.zero_le _⟩ (gz_pV_sh rfl) dX9_buildOf_27 ?_
    refine gz_kVb (r := 1) (ws2 := MdW cI cZ a (1, Md_now u, Md_aw u, Md_mm u, Md_lo u, Md_mt u, Md_sw u, Md_bu u)) ((List.append_nil _).symm).symm ?_
    refine gz_if_eq (pc := 30) (tgt := 35) F dX9_buildOf_30 (by decide) (by omega) (fun c30 => ?_) (fun c30 => ?_)
    · exact absurd c30 (by decide)
    · refine gz_const (pc := 33) F dX9_buildOf_33 ?_
      refine Z _ _ 34 _ dX9_buildOf_34 rfl ?_
      exact ⟨1, Or.inl ⟨c6, rfl⟩, fun _ => ⟨rfl, rfl⟩, fun h => absurd h (by decide)⟩
