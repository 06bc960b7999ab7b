/-! ===== laid by wip/whole/gen/plan.py ===== -/
theorem hn_X5_take_X5 : ∀ w ∈ u_ws RX5 TX5 6, w ∈ wsX5_take := by decide +kernel
theorem fl_X5_take_12 : Cond.fieldLink RX5 12 (TX5 0).1 (TX5 0).2.1 (TX5 0).2.2.1 ∈ wsX5_take := by decide +kernel
theorem fl_X5_take_28 : Cond.fieldLink RX5 28 (TX5 2).1 (TX5 2).2.1 (TX5 2).2.2.1 ∈ wsX5_take := by decide +kernel
theorem fl_X5_take_21 : Cond.fieldLink RX5 21 (TX5 1).1 (TX5 1).2.1 (TX5 1).2.2.1 ∈ wsX5_take := by decide +kernel
theorem fl_X5_take_35 : Cond.fieldLink RX5 35 (TX5 3).1 (TX5 3).2.1 (TX5 3).2.2.1 ∈ wsX5_take := by decide +kernel
theorem fl_X5_take_42 : Cond.fieldLink RX5 42 (TX5 4).1 (TX5 4).2.1 (TX5 4).2.2.1 ∈ wsX5_take := by decide +kernel
set_option maxHeartbeats 4000000 in
set_option maxRecDepth 100000 in
theorem ct_X5_take (l : Launch) (D : va_G) (cI cJ cZ : ClassId) (a : Nat → Nat) (u : PlS) (p0 p1 p2 p3 p4 : Int) (hu : PlI u) (h0 : 0 ≤ p0 ∧ p0 ≤ 9) (h1 : zR2 p1) (h2 : zR0 p2) (h3 : zR0 p3) (h4 : zR p4) : gz_M l yX5_take wsX5_take { frames := 3, cells := 0, slots := 0, locals := 66 } D cI cJ cZ [.ref (a 0), vI p0, vI p1, vI p2, vI p3, vI p4] (PlW cI cJ a u) (gz_pE (PlW cI cJ a (Pl_take u p0 p1 p2 p3 p4))) := by
  refine gz_ofV (cc := cX5_take) (maxL := 6) (own := RX5) (by decide) rfl rfl (Nat.le_of_ble_eq_true rfl) (lv0 := [(0, .ref (a 0)), (1, vI p0), (2, vI p1), (3, vI p2), (4, vI p3), (5, vI p4)]) rfl ?_
  intro p e s m args below meth c A Q F Z
  obtain ⟨hMc, hLo, hLv, hMt, hBu, hnw⟩ := id hu
  have hMcn := hMc.1
  have hMtn := hMt.1
  have hBun := hBu.1
  refine gz_iload_n (pc := 0) F dX5_take_0 rfl 1 rfl ?_
  rcases (show p0 = 0 ∨ p0 = 1 ∨ p0 = 2 ∨ p0 = 3 ∨ p0 = 4 ∨ p0 = 5 ∨ p0 = 6 ∨ p0 = 7 ∨ p0 = 8 ∨ p0 = 9 by omega) with c1 | c1 | c1 | c1 | c1 | c1 | c1 | c1 | c1 | c1
  · refine gz_tabIn (pc := 1) (tgt := 56) F dX5_take_1 (k := 0) (by rw [c1]; rfl) (by decide) rfl (by decide) ?_
    refine gz_aload_n (pc := 56) F dX5_take_56 rfl 0 rfl ?_
    refine gz_get (pc := 57) (v := .ref (a 1)) F hn_X5_take_X5 0 5 rfl rfl 0 (by decide) fl_X5_take_12 rfl dX5_take_57 ?_
    refine gz_iload_n (pc := 60) F dX5_take_60 rfl 2 rfl ?_
    refine gz_iload_n (pc := 61) F dX5_take_61 rfl 3 rfl ?_
    refine gz_callV (pc := 62) (n := 2) (As := [vI p1, vI p2]) (rest := []) (bytes := cX3_add) (maxL := 3) (ret := none) F (ct_X3_add l D cI cJ cZ (fun i => a (i + 1)) (Pl_mc u) p1 p2 hMc ) gX5_take_X3_add rfl ⟨rfl, rfl⟩ (by decide +kernel) ⟨Nat.le_of_ble_eq_true rfl, Nat.le_of_ble_eq_true rfl⟩ rfl [1, 2, 3, 4, 5, 6] rfl (by decide) 1 3 rfl rfl rfl (Nat.le_of_ble_eq_true rfl) ⟨Nat.zero_le _, Nat.zero_le _⟩ (gz_pE_sh rfl) dX5_take_62 ?_
    refine gz_kE (ws2 := PlW cI cJ a ((Mc_add (Pl_mc u) p1 p2, Pl_lo u, Pl_lv u, Pl_mt u, Pl_bu u, Pl_now u))) rfl ?_
    refine gz_goto (pc := 65) (tgt := 184) F dX5_take_65 (by decide) ?_
    refine Z _ _ 184 dX5_take_184 ?_
    refine ⟨rfl, ?_⟩
    rw [c1]
    first | rw [Pl_take_0] | rw [Pl_take_1] | rw [Pl_take_2] | rw [Pl_take_3] | rw [Pl_take_4] | rw [Pl_take_5] | rw [Pl_take_6] | rw [Pl_take_7] | rw [Pl_take_8] | rw [Pl_take_9]
  · refine gz_tabIn (pc := 1) (tgt := 68) F dX5_take_1 (k := 1) (by rw [c1]; rfl) (by decide) rfl (by decide) ?_
    refine gz_aload_n (pc := 68) F dX5_take_68 rfl 0 rfl ?_
    refine gz_get (pc := 69) (v := .ref (a 12)) F hn_X5_take_X5 0 5 rfl rfl 2 (by decide) fl_X5_take_28 rfl dX5_take_69 ?_
    refine gz_iload_n (pc := 72) F dX5_take_72 rfl 2 rfl ?_
    refine gz_iload_n (pc := 73) F dX5_take_73 rfl 3 rfl ?_
    refine gz_iload (pc := 74) F dX5_take_74 4 rfl ?_
    refine gz_callV (pc := 76) (n := 3) (As := [vI p1, vI p2, vI p3]) (rest := []) (bytes := cX1_add) (maxL := 5) (ret := none) F (ct_X1_add l D cI cJ cZ (fun i => a (i + 12)) (Pl_lv u) p1 p2 p3 hLv (by omega) (by omega) (by omega)) gX5_take_X1_add rfl ⟨rfl, rfl⟩ (by decide +kernel) ⟨Nat.le_of_ble_eq_true rfl, Nat.le_of_ble_eq_true rfl⟩ rfl [12, 13] rfl (by decide) 12 1 rfl rfl rfl (Nat.le_of_ble_eq_true rfl) ⟨Nat.zero_le _, Nat.zero_le _⟩ (gz_pE_sh rfl) dX5_take_76 ?_
    refine gz_kE (ws2 := PlW cI cJ a ((Pl_mc u, Pl_lo u, Lv_add (Pl_lv u) p1 p2 p3, Pl_mt u, Pl_bu u, Pl_now u))) rfl ?_
    refine gz_goto (pc := 79) (tgt := 184) F dX5_take_79 (by decide) ?_
    refine Z _ _ 184 dX5_take_184 ?_
    refine ⟨rfl, ?_⟩
    rw [c1]
    first | rw [Pl_take_0] | rw [Pl_take_1] | rw [Pl_take_2] | rw [Pl_take_3] | rw [Pl_take_4] | rw [Pl_take_5] | rw [Pl_take_6] | rw [Pl_take_7] | rw [Pl_take_8] | rw [Pl_take_9]
  · refine gz_tabIn (pc := 1) (tgt := 82) F dX5_take_1 (k := 2) (by rw [c1]; rfl) (by decide) rfl (by decide) ?_
    refine gz_aload_n (pc := 82) F dX5_take_82 rfl 0 rfl ?_
    refine gz_get (pc := 83) (v := .ref (a 7)) F hn_X5_take_X5 0 5 rfl rfl 1 (by decide) fl_X5_take_21 rfl dX5_take_83 ?_
    refine gz_iload_n (pc := 86) F dX5_take_86 rfl 2 rfl ?_
    refine gz_iload_n (pc := 87) F dX5_take_87 rfl 3 rfl ?_
    refine gz_iload (pc := 88) F dX5_take_88 4 rfl ?_
    refine gz_iload (pc := 90) F dX5_take_90 5 rfl ?_
    refine gz_callV (pc := 92) (n := 4) (As := [vI p1, vI p2, vI p3, vI p4]) (rest := []) (bytes := cX2_add) (maxL := 5) (ret := none) F (ct_X2_add l D cI cJ cZ (fun i => a (i + 7)) (Pl_lo u) p1 p2 p3 p4 hLo ) gX5_take_X2_add rfl ⟨rfl, rfl⟩ (by decide +kernel) ⟨Nat.le_of_ble_eq_true rfl, Nat.le_of_ble_eq_true rfl⟩ rfl [7, 8, 9, 10, 11] rfl (by decide) 7 2 rfl rfl rfl (Nat.le_of_ble_eq_true rfl) ⟨Nat.zero_le _, Nat.zero_le _⟩ (gz_pE_sh rfl) dX5_take_92 ?_
    refine gz_kE (ws2 := PlW cI cJ a ((Pl_mc u, Lo_add (Pl_lo u) p1 p2 p3 p4, Pl_lv u, Pl_mt u, Pl_bu u, Pl_now u))) rfl ?_
    refine gz_goto (pc := 95) (tgt := 184) F dX5_take_95 (by decide) ?_
    refine Z _ _ 184 dX5_take_184 ?_
    refine ⟨rfl, ?_⟩
    rw [c1]
    first | rw [Pl_take_0] | rw [Pl_take_1] | rw [Pl_take_2] | rw [Pl_take_3] | rw [Pl_take_4] | rw [Pl_take_5] | rw [Pl_take_6] | rw [Pl_take_7] | rw [Pl_take_8] | rw [Pl_take_9]
  · refine gz_tabIn (pc := 1) (tgt := 98) F dX5_take_1 (k := 3) (by rw [c1]; rfl) (by decide) rfl (by decide) ?_
    refine gz_aload_n (pc := 98) F dX5_take_98 rfl 0 rfl ?_
    refine gz_iload_n (pc := 99) F dX5_take_99 rfl 2 rfl ?_
    refine gz_iload_n (pc := 100) F dX5_take_100 rfl 3 rfl ?_
    refine gz_callVb (pc := 101) (n := 2) (As := [vI p1, vI p2]) (rest := []) (bytes := cX5_setBroken) (maxL := 3) (ret := none) F (ct_X5_setBroken l D cI cJ cZ a u p1 p2 hu (by omega) (by omega)) gX5_take_X5_setBroken rfl ⟨rfl, rfl⟩ (by decide +kernel) ⟨Nat.le_of_ble_eq_true rfl, Nat.le_of_ble_eq_true rfl⟩ rfl [] [] (List.append_nil _).symm 5 rfl rfl rfl (Nat.le_of_ble_eq_true rfl) ⟨Nat.zero_le _, Nat.zero_le _⟩ (gz_pE_sh rfl) dX5_take_101 ?_
    refine gz_kEb (ws2 := PlW cI cJ a (Pl_brkn u p1 p2)) (List.append_nil _) ?_
    refine gz_goto (pc := 104) (tgt := 184) F dX5_take_104 (by decide) ?_
    refine Z _ _ 184 dX5_take_184 ?_
    refine ⟨rfl, ?_⟩
    rw [c1]
    first | rw [Pl_take_0] | rw [Pl_take_1] | rw [Pl_take_2] | rw [Pl_take_3] | rw [Pl_take_4] | rw [Pl_take_5] | rw [Pl_take_6] | rw [Pl_take_7] | rw [Pl_take_8] | rw [Pl_take_9]
  · refine gz_tabIn (pc := 1) (tgt := 107) F dX5_take_1 (k := 4) (by rw [c1]; rfl) (by decide) rfl (by decide) ?_
    refine gz_aload_n (pc := 107) F dX5_take_107 rfl 0 rfl ?_
    refine gz_get (pc := 108) (v := .ref (a 14)) F hn_X5_take_X5 0 5 rfl rfl 3 (by decide) fl_X5_take_35 rfl dX5_take_108 ?_
    refine gz_iload_n (pc := 111) F dX5_take_111 rfl 2 rfl ?_
    refine gz_iload_n (pc := 112) F dX5_take_112 rfl 3 rfl ?_
    refine gz_iload (pc := 113) F dX5_take_113 4 rfl ?_
    refine gz_iload (pc := 115) F dX5_take_115 5 rfl ?_
    refine gz_callV (pc := 117) (n := 4) (As := [vI p1, vI p2, vI p3, vI p4]) (rest := []) (bytes := cX4_add) (maxL := 5) (ret := none) F (ct_X4_add l D cI cJ cZ (fun i => a (i + 14)) (Pl_mt u) p1 p2 p3 p4 hMt ) gX5_take_X4_add rfl ⟨rfl, rfl⟩ (by decide +kernel) ⟨Nat.le_of_ble_eq_true rfl, Nat.le_of_ble_eq_true rfl⟩ rfl [14, 15, 16, 17, 18, 19, 20] rfl (by decide) 14 4 rfl rfl rfl (Nat.le_of_ble_eq_true rfl) ⟨Nat.zero_le _, Nat.zero_le _⟩ (gz_pE_sh rfl) dX5_take_117 ?_
    refine gz_kE (ws2 := PlW cI cJ a ((Pl_mc u, Pl_lo u, Pl_lv u, Mt_add (Pl_mt u) p1 p2 p3 p4, Pl_bu u, Pl_now u))) rfl ?_
    refine gz_goto (pc := 120) (tgt := 184) F dX5_take_120 (by decide) ?_
    refine Z _ _ 184 dX5_take_184 ?_
    refine ⟨rfl, ?_⟩
    rw [c1]
    first | rw [Pl_take_0] | rw [Pl_take_1] | rw [Pl_take_2] | rw [Pl_take_3] | rw [Pl_take_4] | rw [Pl_take_5] | rw [Pl_take_6] | rw [Pl_take_7] | rw [Pl_take_8] | rw [Pl_take_9]
  · refine gz_tabIn (pc := 1) (tgt := 123) F dX5_take_1 (k := 5) (by rw [c1]; rfl) (by decide) rfl (by decide) ?_
    refine gz_aload_n (pc := 123) F dX5_take_123 rfl 0 rfl ?_
    refine gz_get (pc := 124) (v := .ref (a 14)) F hn_X5_take_X5 0 5 rfl rfl 3 (by decide) fl_X5_take_35 rfl dX5_take_124 ?_
    refine gz_iload_n (pc := 127) F dX5_take_127 rfl 2 rfl ?_
    refine gz_iload_n (pc := 128) F dX5_take_128 rfl 3 rfl ?_
    refine gz_callV (pc := 129) (n := 2) (As := [vI p1, vI p2]) (rest := []) (bytes := cX4_place) (maxL := 3) (ret := none) F (ct_X4_place l D cI cJ cZ (fun i => a (i + 14)) (Pl_mt u) p1 p2 hMt (by omega)) gX5_take_X4_place rfl ⟨rfl, rfl⟩ (by decide +kernel) ⟨Nat.le_of_ble_eq_true rfl, Nat.le_of_ble_eq_true rfl⟩ rfl [14, 15, 16, 17, 18, 19, 20] rfl (by decide) 14 4 rfl rfl rfl (Nat.le_of_ble_eq_true rfl) ⟨Nat.zero_le _, Nat.zero_le _⟩ (gz_pE_sh rfl) dX5_take_129 ?_
    refine gz_kE (ws2 := PlW cI cJ a ((Pl_mc u, Pl_lo u, Pl_lv u, Mt_place (Pl_mt u) p1 p2, Pl_bu u, Pl_now u))) rfl ?_
    refine gz_goto (pc := 132) (tgt := 184) F dX5_take_132 (by decide) ?_
    refine Z _ _ 184 dX5_take_184 ?_
    refine ⟨rfl, ?_⟩
    rw [c1]
    first | rw [Pl_take_0] | rw [Pl_take_1] | rw [Pl_take_2] | rw [Pl_take_3] | rw [Pl_take_4] | rw [Pl_take_5] | rw [Pl_take_6] | rw [Pl_take_7] | rw [Pl_take_8] | rw [Pl_take_9]
  · refine gz_tabIn (pc := 1) (tgt := 135) F dX5_take_1 (k := 6) (by rw [c1]; rfl) (by decide) rfl (by decide) ?_
    refine gz_aload_n (pc := 135) F dX5_take_135 rfl 0 rfl ?_
    refine gz_get (pc := 136) (v := .ref (a 14)) F hn_X5_take_X5 0 5 rfl rfl 3 (by decide) fl_X5_take_35 rfl dX5_take_136 ?_
    refine gz_iload_n (pc := 139) F dX5_take_139 rfl 2 rfl ?_
    refine gz_callV (pc := 140) (n := 1) (As := [vI p1]) (rest := []) (bytes := cX4_callOff) (maxL := 2) (ret := none) F (ct_X4_callOff l D cI cJ cZ (fun i => a (i + 14)) (Pl_mt u) p1 hMt (by omega)) gX5_take_X4_callOff rfl ⟨rfl, rfl⟩ (by decide +kernel) ⟨Nat.le_of_ble_eq_true rfl, Nat.le_of_ble_eq_true rfl⟩ rfl [14, 15, 16, 17, 18, 19, 20] rfl (by decide) 14 4 rfl rfl rfl (Nat.le_of_ble_eq_true rfl) ⟨Nat.zero_le _, Nat.zero_le _⟩ (gz_pE_sh rfl) dX5_take_140 ?_
    refine gz_kE (ws2 := PlW cI cJ a ((Pl_mc u, Pl_lo u, Pl_lv u, Mt_callOff (Pl_mt u) p1, Pl_bu u, Pl_now u))) rfl ?_
    refine gz_goto (pc := 143) (tgt := 184) F dX5_take_143 (by decide) ?_
    refine Z _ _ 184 dX5_take_184 ?_
    refine ⟨rfl, ?_⟩
    rw [c1]
    first | rw [Pl_take_0] | rw [Pl_take_1] | rw [Pl_take_2] | rw [Pl_take_3] | rw [Pl_take_4] | rw [Pl_take_5] | rw [Pl_take_6] | rw [Pl_take_7] | rw [Pl_take_8] | rw [Pl_take_9]
  · refine gz_tabIn (pc := 1) (tgt := 146) F dX5_take_1 (k := 7) (by rw [c1]; rfl) (by decide) rfl (by decide) ?_
    refine gz_aload_n (pc := 146) F dX5_take_146 rfl 0 rfl ?_
    refine gz_get (pc := 147) (v := .ref (a 14)) F hn_X5_take_X5 0 5 rfl rfl 3 (by decide) fl_X5_take_35 rfl dX5_take_147 ?_
    refine gz_iload_n (pc := 150) F dX5_take_150 rfl 2 rfl ?_
    refine gz_iload_n (pc := 151) F dX5_take_151 rfl 3 rfl ?_
    refine gz_callV (pc := 152) (n := 2) (As := [vI p1, vI p2]) (rest := []) (bytes := cX4_placeSwapped) (maxL := 3) (ret := none) F (ct_X4_placeSwapped l D cI cJ cZ (fun i => a (i + 14)) (Pl_mt u) p1 p2 hMt (by omega) (by omega)) gX5_take_X4_placeSwapped rfl ⟨rfl, rfl⟩ (by decide +kernel) ⟨Nat.le_of_ble_eq_true rfl, Nat.le_of_ble_eq_true rfl⟩ rfl [14, 15, 16, 17, 18, 19, 20] rfl (by decide) 14 4 rfl rfl rfl (Nat.le_of_ble_eq_true rfl) ⟨Nat.zero_le _, Nat.zero_le _⟩ (gz_pE_sh rfl) dX5_take_152 ?_
    refine gz_kE (ws2 := PlW cI cJ a ((Pl_mc u, Pl_lo u, Pl_lv u, Mt_plsw (Pl_mt u) p1 p2, Pl_bu u, Pl_now u))) rfl ?_
    refine gz_goto (pc := 155) (tgt := 184) F dX5_take_155 (by decide) ?_
    refine Z _ _ 184 dX5_take_184 ?_
    refine ⟨rfl, ?_⟩
    rw [c1]
    first | rw [Pl_take_0] | rw [Pl_take_1] | rw [Pl_take_2] | rw [Pl_take_3] | rw [Pl_take_4] | rw [Pl_take_5] | rw [Pl_take_6] | rw [Pl_take_7] | rw [Pl_take_8] | rw [Pl_take_9]
  · refine gz_tabIn (pc := 1) (tgt := 158) F dX5_take_1 (k := 8) (by rw [c1]; rfl) (by decide) rfl (by decide) ?_
    refine gz_aload_n (pc := 158) F dX5_take_158 rfl 0 rfl ?_
    refine gz_get (pc := 159) (v := .ref (a 21)) F hn_X5_take_X5 0 5 rfl rfl 4 (by decide) fl_X5_take_42 rfl dX5_take_159 ?_
    refine gz_iload_n (pc := 162) F dX5_take_162 rfl 2 rfl ?_
    refine gz_iload_n (pc := 163) F dX5_take_163 rfl 3 rfl ?_
    refine gz_iload (pc := 164) F dX5_take_164 4 rfl ?_
    refine gz_callV (pc := 166) (n := 3) (As := [vI p1, vI p2, vI p3]) (rest := []) (bytes := cX0_add) (maxL := 4) (ret := none) F (ct_X0_add l D cI cJ cZ (fun i => a (i + 21)) (Pl_bu u) p1 p2 p3 hBu (by omega) (by omega) (by omega)) gX5_take_X0_add rfl ⟨rfl, rfl⟩ (by decide +kernel) ⟨Nat.le_of_ble_eq_true rfl, Nat.le_of_ble_eq_true rfl⟩ rfl [21, 22, 23, 24, 25, 26, 27, 28] rfl (by decide) 21 0 rfl rfl rfl (Nat.le_of_ble_eq_true rfl) ⟨Nat.zero_le _, Nat.zero_le _⟩ (gz_pE_sh rfl) dX5_take_166 ?_
    refine gz_kE (ws2 := PlW cI cJ a ((Pl_mc u, Pl_lo u, Pl_lv u, Pl_mt u, Bu_add (Pl_bu u) p1 p2 p3, Pl_now u))) rfl ?_
    refine gz_goto (pc := 169) (tgt := 184) F dX5_take_169 (by decide) ?_
    refine Z _ _ 184 dX5_take_184 ?_
    refine ⟨rfl, ?_⟩
    rw [c1]
    first | rw [Pl_take_0] | rw [Pl_take_1] | rw [Pl_take_2] | rw [Pl_take_3] | rw [Pl_take_4] | rw [Pl_take_5] | rw [Pl_take_6] | rw [Pl_take_7] | rw [Pl_take_8] | rw [Pl_take_9]
  · refine gz_tabIn (pc := 1) (tgt := 172) F dX5_take_1 (k := 9) (by rw [c1]; rfl) (by decide) rfl (by decide) ?_
    refine gz_aload_n (pc := 172) F dX5_take_172 rfl 0 rfl ?_
    refine gz_get (pc := 173) (v := .ref (a 21)) F hn_X5_take_X5 0 5 rfl rfl 4 (by decide) fl_X5_take_42 rfl dX5_take_173 ?_
    refine gz_iload_n (pc := 176) F dX5_take_176 rfl 2 rfl ?_
    refine gz_iload_n (pc := 177) F dX5_take_177 rfl 3 rfl ?_
    refine gz_callV (pc := 178) (n := 2) (As := [vI p1, vI p2]) (rest := []) (bytes := cX0_setUrgency) (maxL := 3) (ret := none) F (ct_X0_setUrgency l D cI cJ cZ (fun i => a (i + 21)) (Pl_bu u) p1 p2 hBu (by omega)) gX5_take_X0_setUrgency rfl ⟨rfl, rfl⟩ (by decide +kernel) ⟨Nat.le_of_ble_eq_true rfl, Nat.le_of_ble_eq_true rfl⟩ rfl [21, 22, 23, 24, 25, 26, 27, 28] rfl (by decide) 21 0 rfl rfl rfl (Nat.le_of_ble_eq_true rfl) ⟨Nat.zero_le _, Nat.zero_le _⟩ (gz_pE_sh rfl) dX5_take_178 ?_
    refine gz_kE (ws2 := PlW cI cJ a ((Pl_mc u, Pl_lo u, Pl_lv u, Pl_mt u, Bu_setU (Pl_bu u) p1 p2, Pl_now u))) rfl ?_
    refine gz_goto (pc := 181) (tgt := 184) F dX5_take_181 (by decide) ?_
    refine Z _ _ 184 dX5_take_184 ?_
    refine ⟨rfl, ?_⟩
    rw [c1]
    first | rw [Pl_take_0] | rw [Pl_take_1] | rw [Pl_take_2] | rw [Pl_take_3] | rw [Pl_take_4] | rw [Pl_take_5] | rw [Pl_take_6] | rw [Pl_take_7] | rw [Pl_take_8] | rw [Pl_take_9]
