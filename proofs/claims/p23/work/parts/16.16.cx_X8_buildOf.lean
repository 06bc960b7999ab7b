/-! ===== laid by wip/whole/gen/ri.py ===== -/
abbrev cd_buildOf (r : RiS) (p0 p1 : Int) : List (Prop × String) := [(¬ (0 ≤ p0 ∧ p0 < Bu_n (Pl_bu (Ri_P r))), xIO), (¬ (0 ≤ p1 ∧ p1 ≤ 3), xIA)]
theorem hn_X8_buildOf_X8 : ∀ w ∈ u_ws RX8 TX8 4, w ∈ wsX8_buildOf := by decide +kernel
theorem fl_X8_buildOf_10 : Cond.fieldLink RX8 10 (TX8 0).1 (TX8 0).2.1 (TX8 0).2.2.1 ∈ wsX8_buildOf := by decide +kernel
theorem hn_X8_buildOf_X5 : ∀ w ∈ u_ws RX5 TX5 6, w ∈ wsX8_buildOf := by decide +kernel
theorem fl_X8_buildOf_152 : Cond.fieldLink RX8 152 (TX5 4).1 (TX5 4).2.1 (TX5 4).2.2.1 ∈ wsX8_buildOf := by decide +kernel
theorem hn_X8_buildOf_X0 : ∀ w ∈ u_ws RX0 TX0 8, w ∈ wsX8_buildOf := by decide +kernel
theorem fl_X8_buildOf_162 : Cond.fieldLink RX8 162 (TX0 3).1 (TX0 3).2.1 (TX0 3).2.2.1 ∈ wsX8_buildOf := by decide +kernel
theorem fl_X8_buildOf_180 : Cond.fieldLink RX8 180 (TX0 4).1 (TX0 4).2.1 (TX0 4).2.2.1 ∈ wsX8_buildOf := by decide +kernel
theorem fl_X8_buildOf_181 : Cond.fieldLink RX8 181 (TX0 5).1 (TX0 5).2.1 (TX0 5).2.2.1 ∈ wsX8_buildOf := by decide +kernel
theorem fl_X8_buildOf_184 : Cond.fieldLink RX8 184 (TX0 6).1 (TX0 6).2.1 (TX0 6).2.2.1 ∈ wsX8_buildOf := by decide +kernel
theorem iw_X8_buildOf_cl_IA : Cond.classLink RX8 112 xIA ∈ wsX8_buildOf := by decide +kernel
theorem iw_X8_buildOf_in_IA : Cond.initialized xIA ∈ wsX8_buildOf := by decide +kernel
theorem gd_X8_buildOf_IA : ∀ w ∈ (vx_atS RX8 116 xIA gz_names).filter goodWord, w ∈ wsX8_buildOf := by decide +kernel
set_option maxHeartbeats 4000000 in
set_option maxRecDepth 100000 in
theorem cx_X8_buildOf (l : Launch) (hfl : l.stackTraces = false) (D : va_G) (cI cJ cZ : ClassId) (a : Nat → Nat) (r : RiS) (p0 p1 : Int) (hr : RiI r) (h0 : -2147483648 ≤ p0 ∧ p0 < 2147483648) (h1 : -2147483648 ≤ p1 ∧ p1 < 2147483648)  : gz_X l yX8_buildOf wsX8_buildOf { frames := 7, cells := 1, slots := 6, locals := 103 } D cI cJ cZ [.ref (a 0), vI p0, vI p1] (RiW cI cJ a r) (gz_pO (cd_buildOf r p0 p1) (some (vI ((if p1 = 0 then Bu_st (Pl_bu (Ri_P r)) p0 else if p1 = 1 then Bu_ma (Pl_bu (Ri_P r)) p0 else if p1 = 2 then Bu_bg (Pl_bu (Ri_P r)) p0 else Bu_ti (Pl_bu (Ri_P r)) p0)))) (RiW cI cJ a r)) (gz_px (cd_buildOf r p0 p1)) := by
  refine gz_ofXZ (cc := cX8_buildOf) (maxL := 3) (ty := .int) (own := RX8) hfl (by decide) rfl rfl (Nat.le_of_ble_eq_true rfl) (lv0 := [(0, .ref (a 0)), (1, vI p0), (2, vI p1)]) rfl ?_
  intro p e s m args below meth c A Q F FX Z ZT ZC
  obtain ⟨hP, hA, hTo, hSw⟩ := id hr
  obtain ⟨hMc, hLo, hLv, hMt, hBu, hnw⟩ := id hP
  have hMcn := hMc.1
  have hMtn := hMt.1
  have hBun := hBu.1
  have hTon := hTo.1
  have hSwn := hSw.1
  refine gz_aload_n (pc := 0) F dX8_buildOf_0 rfl 0 rfl ?_
  refine gz_iload_n (pc := 1) F dX8_buildOf_1 rfl 1 rfl ?_
  by_cases n2 : 0 ≤ p0 ∧ p0 < Bu_n (Pl_bu (Ri_P r))
  · refine gz_callVb (pc := 2) (n := 1) (As := [vI p0]) (rest := []) (bytes := cX8_needBuild) (maxL := 2) (ret := none) F (ct_X8_needBuild l D cI cJ cZ a r p0 hr (by omega) n2) gX8_buildOf_X8_needBuild rfl ⟨rfl, rfl⟩ (by decide +kernel) ⟨Nat.le_of_ble_eq_true rfl, Nat.le_of_ble_eq_true rfl⟩ rfl [] [] ((List.append_nil _).symm) 8 rfl rfl rfl (Nat.le_of_ble_eq_true rfl) ⟨Nat.zero_le _, Nat.zero_le _⟩ (gz_pE_sh rfl) dX8_buildOf_2 ?_
    refine gz_kEb (ws2 := RiW cI cJ a r) ((List.append_nil _).symm).symm ?_
    refine gz_iload_n (pc := 5) F dX8_buildOf_5 rfl 2 rfl ?_
    rcases (show p1 = 0 ∨ p1 = 1 ∨ p1 = 2 ∨ p1 = 3 ∨ (p1 < 0 ∨ 3 < p1) by omega) with c6 | c6 | c6 | c6 | c6
    · refine gz_tabIn (pc := 6) (tgt := 36) F dX8_buildOf_6 (k := 0) (by rw [c6]; rfl) (by decide) rfl (by decide) ?_
      refine gz_aload_n (pc := 36) F dX8_buildOf_36 rfl 0 rfl ?_
      refine gz_get (pc := 37) (v := .ref (a 1)) F hn_X8_buildOf_X8 0 8 rfl rfl 0 (by decide) fl_X8_buildOf_10 rfl dX8_buildOf_37 ?_
      refine gz_get (pc := 40) (v := .ref (a 22)) F hn_X8_buildOf_X5 1 5 rfl rfl 4 (by decide) fl_X8_buildOf_152 rfl dX8_buildOf_40 ?_
      refine gz_get (pc := 43) (v := .ref (a 26)) F hn_X8_buildOf_X0 22 0 rfl rfl 3 (by decide) fl_X8_buildOf_162 rfl dX8_buildOf_43 ?_
      refine gz_iload_n (pc := 46) F dX8_buildOf_46 rfl 1 rfl ?_
      refine gz_iald (pc := 47) (f := Bu_st (Pl_bu (Ri_P r))) F 26 rfl (by omega) (by decide) dX8_buildOf_47 ?_
      have b47 := (hBu.2 p0).2.2.2.1
      refine Z _ _ 48 _ dX8_buildOf_48 rfl ?_
      exact ⟨⟨not_not_intro n2, (by omega), trivial⟩, (by rw [c6]; rfl), rfl⟩
    · refine gz_tabIn (pc := 6) (tgt := 49) F dX8_buildOf_6 (k := 1) (by rw [c6]; rfl) (by decide) rfl (by decide) ?_
      refine gz_aload_n (pc := 49) F dX8_buildOf_49 rfl 0 rfl ?_
      refine gz_get (pc := 50) (v := .ref (a 1)) F hn_X8_buildOf_X8 0 8 rfl rfl 0 (by decide) fl_X8_buildOf_10 rfl dX8_buildOf_50 ?_
      refine gz_get (pc := 53) (v := .ref (a 22)) F hn_X8_buildOf_X5 1 5 rfl rfl 4 (by decide) fl_X8_buildOf_152 rfl dX8_buildOf_53 ?_
      refine gz_get (pc := 56) (v := .ref (a 27)) F hn_X8_buildOf_X0 22 0 rfl rfl 4 (by decide) fl_X8_buildOf_180 rfl dX8_buildOf_56 ?_
      refine gz_iload_n (pc := 59) F dX8_buildOf_59 rfl 1 rfl ?_
      refine gz_iald (pc := 60) (f := Bu_ma (Pl_bu (Ri_P r))) F 27 rfl (by omega) (by decide) dX8_buildOf_60 ?_
      have b60 := (hBu.2 p0).2.2.2.2.1
      refine Z _ _ 61 _ dX8_buildOf_61 rfl ?_
      exact ⟨⟨not_not_intro n2, (by omega), trivial⟩, (by rw [c6]; rfl), rfl⟩
    · refine gz_tabIn (pc := 6) (tgt := 62) F dX8_buildOf_6 (k := 2) (by rw [c6]; rfl) (by decide) rfl (by decide) ?_
      refine gz_aload_n (pc := 62) F dX8_buildOf_62 rfl 0 rfl ?_
      refine gz_get (pc := 63) (v := .ref (a 1)) F hn_X8_buildOf_X8 0 8 rfl rfl 0 (by decide) fl_X8_buildOf_10 rfl dX8_buildOf_63 ?_
      refine gz_get (pc := 66) (v := .ref (a 22)) F hn_X8_buildOf_X5 1 5 rfl rfl 4 (by decide) fl_X8_buildOf_152 rfl dX8_buildOf_66 ?_
      refine gz_get (pc := 69) (v := .ref (a 28)) F hn_X8_buildOf_X0 22 0 rfl rfl 5 (by decide) fl_X8_buildOf_181 rfl dX8_buildOf_69 ?_
      refine gz_iload_n (pc := 72) F dX8_buildOf_72 rfl 1 rfl ?_
      refine gz_iald (pc := 73) (f := Bu_bg (Pl_bu (Ri_P r))) F 28 rfl (by omega) (by decide) dX8_buildOf_73 ?_
      have b73 := (hBu.2 p0).2.2.2.2.2
      refine Z _ _ 74 _ dX8_buildOf_74 rfl ?_
      exact ⟨⟨not_not_intro n2, (by omega), trivial⟩, (by rw [c6]; rfl), rfl⟩
    · refine gz_tabIn (pc := 6) (tgt := 75) F dX8_buildOf_6 (k := 3) (by rw [c6]; rfl) (by decide) rfl (by decide) ?_
      refine gz_aload_n (pc := 75) F dX8_buildOf_75 rfl 0 rfl ?_
      refine gz_get (pc := 76) (v := .ref (a 1)) F hn_X8_buildOf_X8 0 8 rfl rfl 0 (by decide) fl_X8_buildOf_10 rfl dX8_buildOf_76 ?_
      refine gz_get (pc := 79) (v := .ref (a 22)) F hn_X8_buildOf_X5 1 5 rfl rfl 4 (by decide) fl_X8_buildOf_152 rfl dX8_buildOf_79 ?_
      refine gz_get (pc := 82) (v := .ref (a 29)) F hn_X8_buildOf_X0 22 0 rfl rfl 6 (by decide) fl_X8_buildOf_184 rfl dX8_buildOf_82 ?_
      refine gz_iload_n (pc := 85) F dX8_buildOf_85 rfl 1 rfl ?_
      refine gz_iald (pc := 86) (f := Bu_ti (Pl_bu (Ri_P r))) F 29 rfl (by omega) (by decide) dX8_buildOf_86 ?_
      refine Z _ _ 87 _ dX8_buildOf_87 rfl ?_
      exact ⟨⟨not_not_intro n2, (by omega), trivial⟩, (by rw [c6]; rfl), rfl⟩
    · refine gz_tabOut (pc := 6) (tgt := 88) F dX8_buildOf_6 (by omega) c6 (by decide) ?_
      exact ZT _ _ 88 xIA "nothing of a build has this number" 112 187 116 (Or.inr ⟨not_not_intro n2, Or.inl ⟨(by omega), rfl⟩⟩) (by decide) (by decide) rfl iw_X8_buildOf_cl_IA iw_X8_buildOf_in_IA gd_X8_buildOf_IA gx_bad_IA gx_ot_IA dX8_buildOf_88 dX8_buildOf_91 dX8_buildOf_92 dX8_buildOf_94 dX8_buildOf_97 (by decide) (by decide) (by decide) (by decide)
  · refine gz_callVXb (pc := 2) (n := 1) (As := [vI p0]) (rest := []) (bytes := cX8_needBuild) (maxL := 2) (ret := none) F FX (cx_X8_needBuild l hfl D cI cJ cZ a r p0 hr (by omega) n2) gX8_buildOf_X8_needBuild rfl ⟨rfl, rfl⟩ (by decide +kernel) ⟨Nat.le_of_ble_eq_true rfl, Nat.le_of_ble_eq_true rfl⟩ rfl [] [] ((List.append_nil _).symm) 8 rfl rfl rfl (Nat.le_of_ble_eq_true rfl) (by decide) gz_pF_sh dX8_buildOf_2 (fun _ _ h => h.elim) (fun E hE => ?_)
    subst hE
    exact ZC _ _ _ _ (Or.inl ⟨n2, rfl⟩)
