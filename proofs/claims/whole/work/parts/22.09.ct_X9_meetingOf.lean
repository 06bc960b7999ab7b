/-! ===== laid by wip/whole/gen/md2.py ===== -/
abbrev md_meetingOf (u : MdS) (p0 p1 : Int) : List (Prop × Int) := [(¬ (0 ≤ p0 ∧ p0 ≤ Mt_n (Md_mt u) - 1), 1), (¬ (0 ≤ p1 ∧ p1 ≤ 4), 2)]
theorem hn_X9_meetingOf_X9 : ∀ w ∈ u_ws RX9 TX9 35, w ∈ wsX9_meetingOf := by decide +kernel
theorem fl_X9_meetingOf_41 : Cond.fieldLink RX9 41 (TX9 15).1 (TX9 15).2.1 (TX9 15).2.2.1 ∈ wsX9_meetingOf := by decide +kernel
theorem fl_X9_meetingOf_50 : Cond.fieldLink RX9 50 (TX9 18).1 (TX9 18).2.1 (TX9 18).2.2.1 ∈ wsX9_meetingOf := by decide +kernel
theorem fl_X9_meetingOf_47 : Cond.fieldLink RX9 47 (TX9 17).1 (TX9 17).2.1 (TX9 17).2.2.1 ∈ wsX9_meetingOf := by decide +kernel
theorem fl_X9_meetingOf_44 : Cond.fieldLink RX9 44 (TX9 16).1 (TX9 16).2.1 (TX9 16).2.2.1 ∈ wsX9_meetingOf := by decide +kernel
theorem fl_X9_meetingOf_38 : Cond.fieldLink RX9 38 (TX9 14).1 (TX9 14).2.1 (TX9 14).2.2.1 ∈ wsX9_meetingOf := by decide +kernel
set_option maxHeartbeats 4000000 in
set_option maxRecDepth 100000 in
theorem ct_X9_meetingOf (l : Launch) (D : va_G) (cI cJ cZ : ClassId) (a : Nat → Nat) (u : MdS) (p0 p1 : Int) (hu : MdI u) (h0 : -2147483648 ≤ p0 ∧ p0 < 2147483648) (h1 : -2147483648 ≤ p1 ∧ p1 < 2147483648)  : gz_M l yX9_meetingOf wsX9_meetingOf { frames := 2, cells := 0, slots := 0, locals := 43 } D cI cJ cZ [.ref (a 0), vI p0, vI p1] (MdW cI cZ a u) (gz_pK (md_meetingOf u p0 p1) (some (vI ((if p1 = 0 then Mt_st (Md_mt u) p0 else if p1 = 1 then Mt_sl (Md_mt u) p0 else if p1 = 2 then Mt_ln (Md_mt u) p0 else if p1 = 3 then Mt_ma (Md_mt u) p0 else Mt_pe (Md_mt u) p0)))) (some (vI 0)) (fun k => MdW cI cZ a (Md_setTh u k)) (MdW cI cZ a (Md_setTh u 0))) := by
  refine gz_ofZ (cc := cX9_meetingOf) (maxL := 3) (ty := .int) (own := RX9) (by decide) rfl rfl (Nat.le_of_ble_eq_true rfl) (lv0 := [(0, .ref (a 0)), (1, vI p0), (2, vI p1)]) rfl ?_
  intro p e s m args below meth c A Q F Z
  obtain ⟨hnw, hAw, hMm, hLo, ⟨hMt, hMa⟩, hSw, hBu⟩ := id hu
  have hMmn := hMm.1
  have hLon := hLo.1
  have hMtn := hMt.1
  have hSwn := hSw.1
  have hBun := hBu.1
  refine gz_aload_n (pc := 0) F dX9_meetingOf_0 rfl 0 rfl ?_
  refine gz_aload_n (pc := 1) F dX9_meetingOf_1 rfl 0 rfl ?_
  refine gz_iload_n (pc := 2) F dX9_meetingOf_2 rfl 1 rfl ?_
  refine gz_callVb (pc := 3) (n := 1) (As := [vI p0]) (rest := [.ref (a 0)]) (bytes := cX9_isMeeting) (maxL := 2) (ret := some .boolean) F (ct_X9_isMeeting l D cI cJ cZ a u p0 hu (by omega)) gX9_meetingOf_X9_isMeeting rfl ⟨rfl, rfl⟩ (by decide +kernel) ⟨Nat.le_of_ble_eq_true rfl, Nat.le_of_ble_eq_true rfl⟩ rfl [] [] ((List.append_nil _).symm) 9 rfl rfl rfl (Nat.le_of_ble_eq_true rfl) ⟨Nat.zero_le _, Nat.zero_le _⟩ gz_pI_sh dX9_meetingOf_3 ?_
  refine gz_kIb ((List.append_nil _).symm).symm (fun r3 h3 => ?_)
  subst h3
  refine gz_if_neb (pc := 6) (tgt := 13) F dX9_meetingOf_6 (by decide) (fun c6 => ?_) (fun c6 => ?_)
  · refine gz_iload_n (pc := 13) F dX9_meetingOf_13 rfl 2 rfl ?_
    refine gz_const (pc := 14) F dX9_meetingOf_14 ?_
    refine gz_const (pc := 15) F dX9_meetingOf_15 ?_
    refine gz_callS (pc := 16) (n := 3) (As := [vI p1, vI 0, vI 4]) (rest := [.ref (a 0)]) (bytes := cX9_in) (maxL := 3) (ret := some .boolean) F (ct_X9_in l D cI cJ cZ p1 0 4 (by omega) (by omega) (by omega)) gX9_meetingOf_X9_in rfl ⟨rfl, rfl⟩ (by decide +kernel) ⟨Nat.le_of_ble_eq_true rfl, Nat.le_of_ble_eq_true rfl⟩ rfl [] rfl (by decide) rfl (Nat.le_of_ble_eq_true rfl) ⟨Nat.zero_le _, Nat.zero_le _⟩ gz_pI_sh dX9_meetingOf_16 ?_
    refine gz_kI rfl (fun r16 h16 => ?_)
    subst h16
    refine gz_if_neb (pc := 19) (tgt := 26) F dX9_meetingOf_19 (by decide) (fun c19 => ?_) (fun c19 => ?_)
    · refine gz_const (pc := 26) F dX9_meetingOf_26 ?_
      refine gz_callVb (pc := 27) (n := 1) (As := [vI 0]) (rest := []) (bytes := cX9_refused) (maxL := 2) (ret := some .boolean) F (ct_X9_refused_0 l D cI cJ cZ a u hu) gX9_meetingOf_X9_refused rfl ⟨rfl, rfl⟩ (by decide +kernel) ⟨Nat.le_of_ble_eq_true rfl, Nat.le_of_ble_eq_true rfl⟩ rfl [] [] ((List.append_nil _).symm) 9 rfl rfl rfl (Nat.le_of_ble_eq_true rfl) ⟨Nat.zero_le _, Nat.zero_le _⟩ (gz_pV_sh rfl) dX9_meetingOf_27 ?_
      refine gz_kVb (r := 0) (ws2 := MdW cI cZ a (0, Md_now u, Md_aw u, Md_mm u, Md_lo u, Md_mt u, Md_sw u, Md_bu u)) ((List.append_nil _).symm).symm ?_
      refine gz_if_eq (pc := 30) (tgt := 35) F dX9_meetingOf_30 (by decide) (by omega) (fun c30 => ?_) (fun c30 => ?_)
      · refine gz_iload_n (pc := 35) F dX9_meetingOf_35 rfl 2 rfl ?_
        refine gz_if_ne (pc := 36) (tgt := 48) F dX9_meetingOf_36 (by decide) (by omega) (fun c36 => ?_) (fun c36 => ?_)
        · refine gz_iload_n (pc := 48) F dX9_meetingOf_48 rfl 2 rfl ?_
          refine gz_const (pc := 49) F dX9_meetingOf_49 ?_
          refine gz_icmp_ne (pc := 50) (tgt := 62) F dX9_meetingOf_50 (by decide) (by omega) (by omega) (fun c50 => ?_) (fun c50 => ?_)
          · refine gz_iload_n (pc := 62) F dX9_meetingOf_62 rfl 2 rfl ?_
            refine gz_const (pc := 63) F dX9_meetingOf_63 ?_
            refine gz_icmp_ne (pc := 64) (tgt := 76) F dX9_meetingOf_64 (by decide) (by omega) (by omega) (fun c64 => ?_) (fun c64 => ?_)
            · refine gz_iload_n (pc := 76) F dX9_meetingOf_76 rfl 2 rfl ?_
              refine gz_const (pc := 77) F dX9_meetingOf_77 ?_
              refine gz_icmp_ne (pc := 78) (tgt := 90) F dX9_meetingOf_78 (by decide) (by omega) (by omega) (fun c78 => ?_) (fun c78 => ?_)
              · refine gz_aload_n (pc := 90) F dX9_meetingOf_90 rfl 0 rfl ?_
                refine gz_get (pc := 91) (v := .ref (a 11)) F hn_X9_meetingOf_X9 0 9 rfl rfl 15 (by decide) fl_X9_meetingOf_41 rfl dX9_meetingOf_91 ?_
                refine gz_iload_n (pc := 94) F dX9_meetingOf_94 rfl 1 rfl ?_
                refine gz_iald (pc := 95) (f := Mt_pe (Md_mt u)) F 11 rfl (by omega) (by decide) dX9_meetingOf_95 ?_
                have b95 := (hMt.2 p0).1
                refine Z _ _ 96 _ dX9_meetingOf_96 rfl ?_
                exact ⟨0, Or.inr ⟨not_not_intro c6, Or.inr ⟨not_not_intro c19, rfl⟩⟩, fun h => absurd rfl h, fun _ => ⟨(by rw [if_neg c36, if_neg c50, if_neg c64, if_neg c78]), rfl⟩⟩
              · refine gz_aload_n (pc := 81) F dX9_meetingOf_81 rfl 0 rfl ?_
                refine gz_get (pc := 82) (v := .ref (a 14)) F hn_X9_meetingOf_X9 0 9 rfl rfl 18 (by decide) fl_X9_meetingOf_50 rfl dX9_meetingOf_82 ?_
                refine gz_iload_n (pc := 85) F dX9_meetingOf_85 rfl 1 rfl ?_
                refine gz_iald (pc := 86) (f := Mt_ma (Md_mt u)) F 14 rfl (by omega) (by decide) dX9_meetingOf_86 ?_
                have b86 := hMa p0
                refine gz_goto (pc := 87) (tgt := 96) F dX9_meetingOf_87 (by decide) ?_
                refine Z _ _ 96 _ dX9_meetingOf_96 rfl ?_
                exact ⟨0, Or.inr ⟨not_not_intro c6, Or.inr ⟨not_not_intro c19, rfl⟩⟩, fun h => absurd rfl h, fun _ => ⟨(by rw [if_neg c36, if_neg c50, if_neg c64, if_pos c78]), rfl⟩⟩
            · refine gz_aload_n (pc := 67) F dX9_meetingOf_67 rfl 0 rfl ?_
              refine gz_get (pc := 68) (v := .ref (a 13)) F hn_X9_meetingOf_X9 0 9 rfl rfl 17 (by decide) fl_X9_meetingOf_47 rfl dX9_meetingOf_68 ?_
              refine gz_iload_n (pc := 71) F dX9_meetingOf_71 rfl 1 rfl ?_
              refine gz_iald (pc := 72) (f := Mt_ln (Md_mt u)) F 13 rfl (by omega) (by decide) dX9_meetingOf_72 ?_
              have b72 := (hMt.2 p0).2.2.1
              refine gz_goto (pc := 73) (tgt := 96) F dX9_meetingOf_73 (by decide) ?_
              refine Z _ _ 96 _ dX9_meetingOf_96 rfl ?_
              exact ⟨0, Or.inr ⟨not_not_intro c6, Or.inr ⟨not_not_intro c19, rfl⟩⟩, fun h => absurd rfl h, fun _ => ⟨(by rw [if_neg c36, if_neg c50, if_pos c64]), rfl⟩⟩
          · refine gz_aload_n (pc := 53) F dX9_meetingOf_53 rfl 0 rfl ?_
            refine gz_get (pc := 54) (v := .ref (a 12)) F hn_X9_meetingOf_X9 0 9 rfl rfl 16 (by decide) fl_X9_meetingOf_44 rfl dX9_meetingOf_54 ?_
            refine gz_iload_n (pc := 57) F dX9_meetingOf_57 rfl 1 rfl ?_
            refine gz_iald (pc := 58) (f := Mt_sl (Md_mt u)) F 12 rfl (by omega) (by decide) dX9_meetingOf_58 ?_
            have b58 := (hMt.2 p0).2.1
            refine gz_goto (pc := 59) (tgt := 96) F dX9_meetingOf_59 (by decide) ?_
            refine Z _ _ 96 _ dX9_meetingOf_96 rfl ?_
            exact ⟨0, Or.inr ⟨not_not_intro c6, Or.inr ⟨not_not_intro c19, rfl⟩⟩, fun h => absurd rfl h, fun _ => ⟨(by rw [if_neg c36, if_pos c50]), rfl⟩⟩
        · refine gz_aload_n (pc := 39) F dX9_meetingOf_39 rfl 0 rfl ?_
          refine gz_get (pc := 40) (v := .ref (a 10)) F hn_X9_meetingOf_X9 0 9 rfl rfl 14 (by decide) fl_X9_meetingOf_38 rfl dX9_meetingOf_40 ?_
          refine gz_iload_n (pc := 43) F dX9_meetingOf_43 rfl 1 rfl ?_
          refine gz_iald (pc := 44) (f := Mt_st (Md_mt u)) F 10 rfl (by omega) (by decide) dX9_meetingOf_44 ?_
          have b44 := (hMt.2 p0).2.2.2.2
          refine gz_goto (pc := 45) (tgt := 96) F dX9_meetingOf_45 (by decide) ?_
          refine Z _ _ 96 _ dX9_meetingOf_96 rfl ?_
          exact ⟨0, Or.inr ⟨not_not_intro c6, Or.inr ⟨not_not_intro c19, rfl⟩⟩, fun h => absurd rfl h, fun _ => ⟨(by rw [if_pos c36]), rfl⟩⟩
      · exact absurd c30 (by decide)
    · refine gz_const (pc := 22) F dX9_meetingOf_22 ?_
      refine gz_goto (pc := 23) (tgt := 27) F dX9_meetingOf_23 (by decide) ?_
      refine gz_callVb (pc := 27) (n := 1) (As := [vI 2]) (rest := []) (bytes := cX9_refused) (maxL := 2) (ret := some .boolean) F (ct_X9_refused_2 l D cI cJ cZ a u hu) gX9_meetingOf_X9_refused rfl ⟨rfl, rfl⟩ (by decide +kernel) ⟨Nat.le_of_ble_eq_true rfl, Nat.le_of_ble_eq_true rfl⟩ rfl [] [] ((List.append_nil _).symm) 9 rfl rfl rfl (Nat.le_of_ble_eq_true rfl) ⟨Nat.zero_le _, Nat.zero_le _⟩ (gz_pV_sh rfl) dX9_meetingOf_27 ?_
      refine gz_kVb (r := 1) (ws2 := MdW cI cZ a (2, Md_now u, Md_aw u, Md_mm u, Md_lo u, Md_mt u, Md_sw u, Md_bu u)) ((List.append_nil _).symm).symm ?_
      refine gz_if_eq (pc := 30) (tgt := 35) F dX9_meetingOf_30 (by decide) (by omega) (fun c30 => ?_) (fun c30 => ?_)
      · exact absurd c30 (by decide)
      · refine gz_const (pc := 33) F dX9_meetingOf_33 ?_
        refine Z _ _ 34 _ dX9_meetingOf_34 rfl ?_
        exact ⟨2, Or.inr ⟨not_not_intro c6, Or.inl ⟨c19, rfl⟩⟩, fun _ => ⟨rfl, rfl⟩, fun h => absurd h (by decide)⟩
  · refine gz_const (pc := 9) F dX9_meetingOf_9 ?_
    refine gz_goto (pc := 10) (tgt := 27) F dX9_meetingOf_10 (by decide) ?_
    refine gz_callVb (pc := 27) (n := 1) (As := [vI 1]) (rest := []) (bytes := cX9_refused) (maxL := 2) (ret := some .boolean) F (ct_X9_refused_1 l D cI cJ cZ a u hu) gX9_meetingOf_X9_refused rfl ⟨rfl, rfl⟩ (by decide +kernel) ⟨Nat.le_of_ble_eq_true rfl, Nat.le_of_ble_eq_true rfl⟩ rfl [] [] ((List.append_nil _).symm) 9 rfl rfl rfl (Nat.le_of_ble_eq_true rfl) ⟨Nat.zero_le _, Nat.zero_le _⟩ (gz_pV_sh rfl) dX9_meetingOf_27 ?_
    refine gz_kVb (r := 1) (ws2 := MdW cI cZ a (1, Md_now u, Md_aw u, Md_mm u, Md_lo u, Md_mt u, Md_sw u, Md_bu u)) ((List.append_nil _).symm).symm ?_
    refine gz_if_eq (pc := 30) (tgt := 35) F dX9_meetingOf_30 (by decide) (by omega) (fun c30 => ?_) (fun c30 => ?_)
    · exact absurd c30 (by decide)
    · refine gz_const (pc := 33) F dX9_meetingOf_33 ?_
      refine Z _ _ 34 _ dX9_meetingOf_34 rfl ?_
      exact ⟨1, Or.inl ⟨c6, rfl⟩, fun _ => ⟨rfl, rfl⟩, fun h => absurd h (by decide)⟩
