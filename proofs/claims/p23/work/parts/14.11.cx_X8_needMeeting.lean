/-! ===== laid by wip/whole/gen/ri.py ===== -/
theorem iw_X8_needMeeting_cl_IO : Cond.classLink RX8 208 xIO ∈ wsX8_needMeeting := by decide +kernel
theorem iw_X8_needMeeting_in_IO : Cond.initialized xIO ∈ wsX8_needMeeting := by decide +kernel
theorem gd_X8_needMeeting_IO : ∀ w ∈ (vx_atS RX8 212 xIO gz_names).filter goodWord, w ∈ wsX8_needMeeting := by decide +kernel
set_option maxHeartbeats 4000000 in
set_option maxRecDepth 100000 in
theorem cx_X8_needMeeting (l : Launch) (hfl : l.stackTraces = false) (D : va_G) (cI cJ cZ : ClassId) (a : Nat → Nat) (r : RiS) (p0 : Int) (hr : RiI r) (h0 : -2147483648 ≤ p0 ∧ p0 < 2147483648) (h : ¬ (0 ≤ p0 ∧ p0 < Mt_n (Pl_mt (Ri_P r)))) : gz_X l yX8_needMeeting wsX8_needMeeting { frames := 6, cells := 1, slots := 6, locals := 82 } D cI cJ cZ [.ref (a 0), vI p0] (RiW cI cJ a r) (fun _ _ => False) (fun E => E = xIO) := by
  refine gz_ofXV (cc := cX8_needMeeting) (maxL := 2) (own := RX8) hfl (by decide) rfl rfl (Nat.le_of_ble_eq_true rfl) (lv0 := [(0, .ref (a 0)), (1, vI p0)]) rfl ?_
  intro p e s m args below meth c A Q F FX Z ZT ZC
  obtain ⟨hP, hA, hTo, hSw⟩ := id hr
  obtain ⟨hMc, hLo, hLv, hMt, hBu, hnw⟩ := id hP
  have hMcn := hMc.1
  have hMtn := hMt.1
  have hBun := hBu.1
  have hTon := hTo.1
  have hSwn := hSw.1
  refine gz_aload_n (pc := 0) F dX8_needMeeting_0 rfl 0 rfl ?_
  refine gz_get (pc := 1) (v := .ref (a 1)) F hn_X8_needMeeting_X8 0 8 rfl rfl 0 (by decide) fl_X8_needMeeting_10 rfl dX8_needMeeting_1 ?_
  refine gz_get (pc := 4) (v := .ref (a 15)) F hn_X8_needMeeting_X5 1 5 rfl rfl 3 (by decide) fl_X8_needMeeting_62 rfl dX8_needMeeting_4 ?_
  refine gz_iload_n (pc := 7) F dX8_needMeeting_7 rfl 1 rfl ?_
  refine gz_callV (pc := 8) (n := 1) (As := [vI p0]) (rest := []) (bytes := cX4_knows) (maxL := 2) (ret := some .boolean) F (ct_X4_knows l D cI cJ cZ (fun i => a (i + 14 + 1)) (Pl_mt (Ri_P r)) p0 hMt (by omega)) gX8_needMeeting_X4_knows rfl ⟨rfl, rfl⟩ (by decide +kernel) ⟨Nat.le_of_ble_eq_true rfl, Nat.le_of_ble_eq_true rfl⟩ rfl [15, 16, 17, 18, 19, 20, 21] rfl (by decide) 15 4 rfl rfl rfl (Nat.le_of_ble_eq_true rfl) ⟨Nat.zero_le _, Nat.zero_le _⟩ gz_pI_sh dX8_needMeeting_8 ?_
  refine gz_kI rfl (fun r8 h8 => ?_)
  subst h8
  refine gz_if_neb (pc := 11) (tgt := 24) F dX8_needMeeting_11 (by decide) (fun c11 => ?_) (fun c11 => ?_)
  · exact absurd c11 h
  · exact ZT _ _ 14 xIO "no such meeting" 208 237 212 (rfl) (by decide) (by decide) rfl iw_X8_needMeeting_cl_IO iw_X8_needMeeting_in_IO gd_X8_needMeeting_IO gx_bad_IO gx_ot_IO dX8_needMeeting_14 dX8_needMeeting_17 dX8_needMeeting_18 dX8_needMeeting_20 dX8_needMeeting_23 (by decide) (by decide) (by decide) (by decide)
