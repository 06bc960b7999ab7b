/-! ===== laid by wip/whole/gen/ri.py ===== -/
theorem hn_X8_needMeeting_X8 : ∀ w ∈ u_ws RX8 TX8 4, w ∈ wsX8_needMeeting := by decide +kernel
theorem fl_X8_needMeeting_10 : Cond.fieldLink RX8 10 (TX8 0).1 (TX8 0).2.1 (TX8 0).2.2.1 ∈ wsX8_needMeeting := by decide +kernel
theorem hn_X8_needMeeting_X5 : ∀ w ∈ u_ws RX5 TX5 6, w ∈ wsX8_needMeeting := by decide +kernel
theorem fl_X8_needMeeting_62 : Cond.fieldLink RX8 62 (TX5 3).1 (TX5 3).2.1 (TX5 3).2.2.1 ∈ wsX8_needMeeting := by decide +kernel
set_option maxHeartbeats 4000000 in
set_option maxRecDepth 100000 in
theorem ct_X8_needMeeting (l : Launch) (D : va_G) (cI cJ cZ : ClassId) (a : Nat → Nat) (r : RiS) (p0 : Int) (hr : RiI r) (h0 : -2147483648 ≤ p0 ∧ p0 < 2147483648) (h : 0 ≤ p0 ∧ p0 < Mt_n (Pl_mt (Ri_P r))) : gz_M l yX8_needMeeting wsX8_needMeeting { frames := 1, cells := 0, slots := 0, locals := 21 } D cI cJ cZ [.ref (a 0), vI p0] (RiW cI cJ a r) (gz_pE (RiW cI cJ a r)) := by
  refine gz_ofV (cc := cX8_needMeeting) (maxL := 2) (own := RX8) (by decide) rfl rfl (Nat.le_of_ble_eq_true rfl) (lv0 := [(0, .ref (a 0)), (1, vI p0)]) rfl ?_
  intro p e s m args below meth c A Q F Z
  obtain ⟨hP, hA, hTo, hSw⟩ := id hr
  obtain ⟨hMc, hLo, hLv, hMt, hBu, hnw⟩ := id hP
  have hMcn := hMc.1
  have hMtn := hMt.1
  have hBun := hBu.1
  have hTon := hTo.1
  have hSwn := hSw.1
  refine gz_aload_n (pc := 0) F dX8_needMeeting_0 rfl 0 rfl ?_
  refine gz_get (pc := 1) (v := .ref (a 1)) F hn_X8_needMeeting_X8 0 8 rfl rfl 0 (by decide) fl_X8_needMeeting_10 rfl dX8_needMeeting_1 ?_
  refine gz_get (pc := 4) (v := .ref (a 15)) F hn_X8_needMeeting_X5 1 5 rfl rfl 3 (by decide) fl_X8_needMeeting_62 rfl dX8_needMeeting_4 ?_
  refine gz_iload_n (pc := 7) F dX8_needMeeting_7 rfl 1 rfl ?_
  refine gz_callV (pc := 8) (n := 1) (As := [vI p0]) (rest := []) (bytes := cX4_knows) (maxL := 2) (ret := some .boolean) F (ct_X4_knows l D cI cJ cZ (fun i => a (i + 14 + 1)) (Pl_mt (Ri_P r)) p0 hMt (by omega)) gX8_needMeeting_X4_knows rfl ⟨rfl, rfl⟩ (by decide +kernel) ⟨Nat.le_of_ble_eq_true rfl, Nat.le_of_ble_eq_true rfl⟩ rfl [15, 16, 17, 18, 19, 20, 21] rfl (by decide) 15 4 rfl rfl rfl (Nat.le_of_ble_eq_true rfl) ⟨Nat.zero_le _, Nat.zero_le _⟩ gz_pI_sh dX8_needMeeting_8 ?_
  refine gz_kI rfl (fun r8 h8 => ?_)
  subst h8
  refine gz_if_neb (pc := 11) (tgt := 24) F dX8_needMeeting_11 (by decide) (fun c11 => ?_) (fun c11 => ?_)
  · refine Z _ _ 24 dX8_needMeeting_24 ?_
    exact ⟨rfl, rfl⟩
  · exact absurd h c11
