/-! ===== laid by wip/whole/gen/ri.py ===== -/
abbrev cd_meetingOf (r : RiS) (p0 p1 : Int) : List (Prop × String) := [(¬ (0 ≤ p0 ∧ p0 < Mt_n (Pl_mt (Ri_P r))), xIO), (¬ (0 ≤ p1 ∧ p1 ≤ 4), xIA)]
theorem hn_X8_meetingOf_X8 : ∀ w ∈ u_ws RX8 TX8 4, w ∈ wsX8_meetingOf := by decide +kernel
theorem fl_X8_meetingOf_10 : Cond.fieldLink RX8 10 (TX8 0).1 (TX8 0).2.1 (TX8 0).2.2.1 ∈ wsX8_meetingOf := by decide +kernel
theorem hn_X8_meetingOf_X5 : ∀ w ∈ u_ws RX5 TX5 6, w ∈ wsX8_meetingOf := by decide +kernel
theorem fl_X8_meetingOf_62 : Cond.fieldLink RX8 62 (TX5 3).1 (TX5 3).2.1 (TX5 3).2.2.1 ∈ wsX8_meetingOf := by decide +kernel
theorem hn_X8_meetingOf_X4 : ∀ w ∈ u_ws RX4 TX4 7, w ∈ wsX8_meetingOf := by decide +kernel
theorem fl_X8_meetingOf_169 : Cond.fieldLink RX8 169 (TX4 4).1 (TX4 4).2.1 (TX4 4).2.2.1 ∈ wsX8_meetingOf := by decide +kernel
theorem fl_X8_meetingOf_170 : Cond.fieldLink RX8 170 (TX4 1).1 (TX4 1).2.1 (TX4 1).2.2.1 ∈ wsX8_meetingOf := by decide +kernel
theorem fl_X8_meetingOf_102 : Cond.fieldLink RX8 102 (TX4 2).1 (TX4 2).2.1 (TX4 2).2.2.1 ∈ wsX8_meetingOf := by decide +kernel
theorem fl_X8_meetingOf_172 : Cond.fieldLink RX8 172 (TX4 3).1 (TX4 3).2.1 (TX4 3).2.2.1 ∈ wsX8_meetingOf := by decide +kernel
theorem fl_X8_meetingOf_175 : Cond.fieldLink RX8 175 (TX4 0).1 (TX4 0).2.1 (TX4 0).2.2.1 ∈ wsX8_meetingOf := by decide +kernel
theorem iw_X8_meetingOf_cl_IA : Cond.classLink RX8 112 xIA ∈ wsX8_meetingOf := by decide +kernel
theorem iw_X8_meetingOf_in_IA : Cond.initialized xIA ∈ wsX8_meetingOf := by decide +kernel
theorem gd_X8_meetingOf_IA : ∀ w ∈ (vx_atS RX8 116 xIA gz_names).filter goodWord, w ∈ wsX8_meetingOf := by decide +kernel
set_option maxHeartbeats 4000000 in
set_option maxRecDepth 100000 in
theorem cx_X8_meetingOf (l : Launch) (hfl : l.stackTraces = false) (D : va_G) (cI cJ cZ : ClassId) (a : Nat → Nat) (r : RiS) (p0 p1 : Int) (hr : RiI r) (h0 : -2147483648 ≤ p0 ∧ p0 < 2147483648) (h1 : -2147483648 ≤ p1 ∧ p1 < 2147483648)  : gz_X l yX8_meetingOf wsX8_meetingOf { frames := 7, cells := 1, slots := 6, locals := 103 } D cI cJ cZ [.ref (a 0), vI p0, vI p1] (RiW cI cJ a r) (gz_pO (cd_meetingOf r p0 p1) (some (vI ((if p1 = 0 then Mt_st (Pl_mt (Ri_P r)) p0 else if p1 = 1 then Mt_sl (Pl_mt (Ri_P r)) p0 else if p1 = 2 then Mt_ln (Pl_mt (Ri_P r)) p0 else if p1 = 3 then Mt_ma (Pl_mt (Ri_P r)) p0 else Mt_pe (Pl_mt (Ri_P r)) p0)))) (RiW cI cJ a r)) (gz_px (cd_meetingOf r p0 p1)) := by
  refine gz_ofXZ (cc := cX8_meetingOf) (maxL := 3) (ty := .int) (own := RX8) hfl (by decide) rfl rfl (Nat.le_of_ble_eq_true rfl) (lv0 := [(0, .ref (a 0)), (1, vI p0), (2, vI p1)]) rfl ?_
  intro p e s m args below meth c A Q F FX Z ZT ZC
  obtain ⟨hP, hA, hTo, hSw⟩ := id hr
  obtain ⟨hMc, hLo, hLv, hMt, hBu, hnw⟩ := id hP
  have hMcn := hMc.1
  have hMtn := hMt.1
  have hBun := hBu.1
  have hTon := hTo.1
  have hSwn := hSw.1
  refine gz_aload_n (pc := 0) F dX8_meetingOf_0 rfl 0 rfl ?_
  refine gz_iload_n (pc := 1) F dX8_meetingOf_1 rfl 1 rfl ?_
  by_cases n2 : 0 ≤ p0 ∧ p0 < Mt_n (Pl_mt (Ri_P r))
  · refine gz_callVb (pc := 2) (n := 1) (As := [vI p0]) (rest := []) (bytes := cX8_needMeeting) (maxL := 2) (ret := none) F (ct_X8_needMeeting l D cI cJ cZ a r p0 hr (by omega) n2) gX8_meetingOf_X8_needMeeting rfl ⟨rfl, rfl⟩ (by decide +kernel) ⟨Nat.le_of_ble_eq_true rfl, Nat.le_of_ble_eq_true rfl⟩ rfl [] [] ((List.append_nil _).symm) 8 rfl rfl rfl (Nat.le_of_ble_eq_true rfl) ⟨Nat.zero_le _, Nat.zero_le _⟩ (gz_pE_sh rfl) dX8_meetingOf_2 ?_
    refine gz_kEb (ws2 := RiW cI cJ a r) ((List.append_nil _).symm).symm ?_
    refine gz_iload_n (pc := 5) F dX8_meetingOf_5 rfl 2 rfl ?_
    rcases (show p1 = 0 ∨ p1 = 1 ∨ p1 = 2 ∨ p1 = 3 ∨ p1 = 4 ∨ (p1 < 0 ∨ 4 < p1) by omega) with c6 | c6 | c6 | c6 | c6 | c6
    · refine gz_tabIn (pc := 6) (tgt := 40) F dX8_meetingOf_6 (k := 0) (by rw [c6]; rfl) (by decide) rfl (by decide) ?_
      refine gz_aload_n (pc := 40) F dX8_meetingOf_40 rfl 0 rfl ?_
      refine gz_get (pc := 41) (v := .ref (a 1)) F hn_X8_meetingOf_X8 0 8 rfl rfl 0 (by decide) fl_X8_meetingOf_10 rfl dX8_meetingOf_41 ?_
      refine gz_get (pc := 44) (v := .ref (a 15)) F hn_X8_meetingOf_X5 1 5 rfl rfl 3 (by decide) fl_X8_meetingOf_62 rfl dX8_meetingOf_44 ?_
      refine gz_get (pc := 47) (v := .ref (a 20)) F hn_X8_meetingOf_X4 15 4 rfl rfl 4 (by decide) fl_X8_meetingOf_169 rfl dX8_meetingOf_47 ?_
      refine gz_iload_n (pc := 50) F dX8_meetingOf_50 rfl 1 rfl ?_
      refine gz_iald (pc := 51) (f := Mt_st (Pl_mt (Ri_P r))) F 20 rfl (by omega) (by decide) dX8_meetingOf_51 ?_
      have b51 := (hMt.2 p0).2.2.2.2
      refine Z _ _ 52 _ dX8_meetingOf_52 rfl ?_
      exact ⟨⟨not_not_intro n2, (by omega), trivial⟩, (by rw [c6]; rfl), rfl⟩
    · refine gz_tabIn (pc := 6) (tgt := 53) F dX8_meetingOf_6 (k := 1) (by rw [c6]; rfl) (by decide) rfl (by decide) ?_
      refine gz_aload_n (pc := 53) F dX8_meetingOf_53 rfl 0 rfl ?_
      refine gz_get (pc := 54) (v := .ref (a 1)) F hn_X8_meetingOf_X8 0 8 rfl rfl 0 (by decide) fl_X8_meetingOf_10 rfl dX8_meetingOf_54 ?_
      refine gz_get (pc := 57) (v := .ref (a 15)) F hn_X8_meetingOf_X5 1 5 rfl rfl 3 (by decide) fl_X8_meetingOf_62 rfl dX8_meetingOf_57 ?_
      refine gz_get (pc := 60) (v := .ref (a 17)) F hn_X8_meetingOf_X4 15 4 rfl rfl 1 (by decide) fl_X8_meetingOf_170 rfl dX8_meetingOf_60 ?_
      refine gz_iload_n (pc := 63) F dX8_meetingOf_63 rfl 1 rfl ?_
      refine gz_iald (pc := 64) (f := Mt_sl (Pl_mt (Ri_P r))) F 17 rfl (by omega) (by decide) dX8_meetingOf_64 ?_
      have b64 := (hMt.2 p0).2.1
      refine Z _ _ 65 _ dX8_meetingOf_65 rfl ?_
      exact ⟨⟨not_not_intro n2, (by omega), trivial⟩, (by rw [c6]; rfl), rfl⟩
    · refine gz_tabIn (pc := 6) (tgt := 66) F dX8_meetingOf_6 (k := 2) (by rw [c6]; rfl) (by decide) rfl (by decide) ?_
      refine gz_aload_n (pc := 66) F dX8_meetingOf_66 rfl 0 rfl ?_
      refine gz_get (pc := 67) (v := .ref (a 1)) F hn_X8_meetingOf_X8 0 8 rfl rfl 0 (by decide) fl_X8_meetingOf_10 rfl dX8_meetingOf_67 ?_
      refine gz_get (pc := 70) (v := .ref (a 15)) F hn_X8_meetingOf_X5 1 5 rfl rfl 3 (by decide) fl_X8_meetingOf_62 rfl dX8_meetingOf_70 ?_
      refine gz_get (pc := 73) (v := .ref (a 18)) F hn_X8_meetingOf_X4 15 4 rfl rfl 2 (by decide) fl_X8_meetingOf_102 rfl dX8_meetingOf_73 ?_
      refine gz_iload_n (pc := 76) F dX8_meetingOf_76 rfl 1 rfl ?_
      refine gz_iald (pc := 77) (f := Mt_ln (Pl_mt (Ri_P r))) F 18 rfl (by omega) (by decide) dX8_meetingOf_77 ?_
      have b77 := (hMt.2 p0).2.2.1
      refine Z _ _ 78 _ dX8_meetingOf_78 rfl ?_
      exact ⟨⟨not_not_intro n2, (by omega), trivial⟩, (by rw [c6]; rfl), rfl⟩
    · refine gz_tabIn (pc := 6) (tgt := 79) F dX8_meetingOf_6 (k := 3) (by rw [c6]; rfl) (by decide) rfl (by decide) ?_
      refine gz_aload_n (pc := 79) F dX8_meetingOf_79 rfl 0 rfl ?_
      refine gz_get (pc := 80) (v := .ref (a 1)) F hn_X8_meetingOf_X8 0 8 rfl rfl 0 (by decide) fl_X8_meetingOf_10 rfl dX8_meetingOf_80 ?_
      refine gz_get (pc := 83) (v := .ref (a 15)) F hn_X8_meetingOf_X5 1 5 rfl rfl 3 (by decide) fl_X8_meetingOf_62 rfl dX8_meetingOf_83 ?_
      refine gz_get (pc := 86) (v := .ref (a 19)) F hn_X8_meetingOf_X4 15 4 rfl rfl 3 (by decide) fl_X8_meetingOf_172 rfl dX8_meetingOf_86 ?_
      refine gz_iload_n (pc := 89) F dX8_meetingOf_89 rfl 1 rfl ?_
      refine gz_iald (pc := 90) (f := Mt_ma (Pl_mt (Ri_P r))) F 19 rfl (by omega) (by decide) dX8_meetingOf_90 ?_
      have b90 := (hMt.2 p0).2.2.2.1
      refine Z _ _ 91 _ dX8_meetingOf_91 rfl ?_
      exact ⟨⟨not_not_intro n2, (by omega), trivial⟩, (by rw [c6]; rfl), rfl⟩
    · refine gz_tabIn (pc := 6) (tgt := 92) F dX8_meetingOf_6 (k := 4) (by rw [c6]; rfl) (by decide) rfl (by decide) ?_
      refine gz_aload_n (pc := 92) F dX8_meetingOf_92 rfl 0 rfl ?_
      refine gz_get (pc := 93) (v := .ref (a 1)) F hn_X8_meetingOf_X8 0 8 rfl rfl 0 (by decide) fl_X8_meetingOf_10 rfl dX8_meetingOf_93 ?_
      refine gz_get (pc := 96) (v := .ref (a 15)) F hn_X8_meetingOf_X5 1 5 rfl rfl 3 (by decide) fl_X8_meetingOf_62 rfl dX8_meetingOf_96 ?_
      refine gz_get (pc := 99) (v := .ref (a 16)) F hn_X8_meetingOf_X4 15 4 rfl rfl 0 (by decide) fl_X8_meetingOf_175 rfl dX8_meetingOf_99 ?_
      refine gz_iload_n (pc := 102) F dX8_meetingOf_102 rfl 1 rfl ?_
      refine gz_iald (pc := 103) (f := Mt_pe (Pl_mt (Ri_P r))) F 16 rfl (by omega) (by decide) dX8_meetingOf_103 ?_
      have b103 := (hMt.2 p0).1
      refine Z _ _ 104 _ dX8_meetingOf_104 rfl ?_
      exact ⟨⟨not_not_intro n2, (by omega), trivial⟩, (by rw [c6]; rfl), rfl⟩
    · refine gz_tabOut (pc := 6) (tgt := 105) F dX8_meetingOf_6 (by omega) c6 (by decide) ?_
      exact ZT _ _ 105 xIA "nothing of a meeting has this number" 112 178 116 (Or.inr ⟨not_not_intro n2, Or.inl ⟨(by omega), rfl⟩⟩) (by decide) (by decide) rfl iw_X8_meetingOf_cl_IA iw_X8_meetingOf_in_IA gd_X8_meetingOf_IA gx_bad_IA gx_ot_IA dX8_meetingOf_105 dX8_meetingOf_108 dX8_meetingOf_109 dX8_meetingOf_111 dX8_meetingOf_114 (by decide) (by decide) (by decide) (by decide)
  · refine gz_callVXb (pc := 2) (n := 1) (As := [vI p0]) (rest := []) (bytes := cX8_needMeeting) (maxL := 2) (ret := none) F FX (cx_X8_needMeeting l hfl D cI cJ cZ a r p0 hr (by omega) n2) gX8_meetingOf_X8_needMeeting rfl ⟨rfl, rfl⟩ (by decide +kernel) ⟨Nat.le_of_ble_eq_true rfl, Nat.le_of_ble_eq_true rfl⟩ rfl [] [] ((List.append_nil _).symm) 8 rfl rfl rfl (Nat.le_of_ble_eq_true rfl) (by decide) gz_pF_sh dX8_meetingOf_2 (fun _ _ h => h.elim) (fun E hE => ?_)
    subst hE
    exact ZC _ _ _ _ (Or.inl ⟨n2, rfl⟩)
