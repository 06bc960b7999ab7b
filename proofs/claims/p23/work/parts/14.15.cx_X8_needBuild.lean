/-! ===== laid by wip/whole/gen/ri.py ===== -/
theorem iw_X8_needBuild_cl_IO : Cond.classLink RX8 208 xIO ∈ wsX8_needBuild := by decide +kernel
theorem iw_X8_needBuild_in_IO : Cond.initialized xIO ∈ wsX8_needBuild := by decide +kernel
theorem gd_X8_needBuild_IO : ∀ w ∈ (vx_atS RX8 212 xIO gz_names).filter goodWord, w ∈ wsX8_needBuild := by decide +kernel
set_option maxHeartbeats 4000000 in
set_option maxRecDepth 100000 in
theorem cx_X8_needBuild (l : Launch) (hfl : l.stackTraces = false) (D : va_G) (cI cJ cZ : ClassId) (a : Nat → Nat) (r : RiS) (p0 : Int) (hr : RiI r) (h0 : -2147483648 ≤ p0 ∧ p0 < 2147483648) (h : ¬ (0 ≤ p0 ∧ p0 < Bu_n (Pl_bu (Ri_P r)))) : gz_X l yX8_needBuild wsX8_needBuild { frames := 6, cells := 1, slots := 6, locals := 82 } D cI cJ cZ [.ref (a 0), vI p0] (RiW cI cJ a r) (fun _ _ => False) (fun E => E = xIO) := by
  refine gz_ofXV (cc := cX8_needBuild) (maxL := 2) (own := RX8) hfl (by decide) rfl rfl (Nat.le_of_ble_eq_true rfl) (lv0 := [(0, .ref (a 0)), (1, vI p0)]) rfl ?_
  intro p e s m args below meth c A Q F FX Z ZT ZC
  obtain ⟨hP, hA, hTo, hSw⟩ := id hr
  obtain ⟨hMc, hLo, hLv, hMt, hBu, hnw⟩ := id hP
  have hMcn := hMc.1
  have hMtn := hMt.1
  have hBun := hBu.1
  have hTon := hTo.1
  have hSwn := hSw.1
  refine gz_aload_n (pc := 0) F dX8_needBuild_0 rfl 0 rfl ?_
  refine gz_get (pc := 1) (v := .ref (a 1)) F hn_X8_needBuild_X8 0 8 rfl rfl 0 (by decide) fl_X8_needBuild_10 rfl dX8_needBuild_1 ?_
  refine gz_get (pc := 4) (v := .ref (a 22)) F hn_X8_needBuild_X5 1 5 rfl rfl 4 (by decide) fl_X8_needBuild_152 rfl dX8_needBuild_4 ?_
  refine gz_iload_n (pc := 7) F dX8_needBuild_7 rfl 1 rfl ?_
  refine gz_callV (pc := 8) (n := 1) (As := [vI p0]) (rest := []) (bytes := cX0_knows) (maxL := 2) (ret := some .boolean) F (ct_X0_knows l D cI cJ cZ (fun i => a (i + 21 + 1)) (Pl_bu (Ri_P r)) p0 hBu (by omega)) gX8_needBuild_X0_knows rfl ⟨rfl, rfl⟩ (by decide +kernel) ⟨Nat.le_of_ble_eq_true rfl, Nat.le_of_ble_eq_true rfl⟩ rfl [22, 23, 24, 25, 26, 27, 28, 29] rfl (by decide) 22 0 rfl rfl rfl (Nat.le_of_ble_eq_true rfl) ⟨Nat.zero_le _, Nat.zero_le _⟩ gz_pI_sh dX8_needBuild_8 ?_
  refine gz_kI rfl (fun r8 h8 => ?_)
  subst h8
  refine gz_if_neb (pc := 11) (tgt := 24) F dX8_needBuild_11 (by decide) (fun c11 => ?_) (fun c11 => ?_)
  · exact absurd c11 h
  · exact ZT _ _ 14 xIO "no such build" 208 241 212 (rfl) (by decide) (by decide) rfl iw_X8_needBuild_cl_IO iw_X8_needBuild_in_IO gd_X8_needBuild_IO gx_bad_IO gx_ot_IO dX8_needBuild_14 dX8_needBuild_17 dX8_needBuild_18 dX8_needBuild_20 dX8_needBuild_23 (by decide) (by decide) (by decide) (by decide)
