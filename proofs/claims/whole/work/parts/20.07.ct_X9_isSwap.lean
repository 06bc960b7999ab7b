/-! ===== laid by wip/whole/gen/md.py ===== -/
theorem hn_X9_isSwap_X9 : ∀ w ∈ u_ws RX9 TX9 35, w ∈ wsX9_isSwap := by decide +kernel
theorem fl_X9_isSwap_109 : Cond.fieldLink RX9 109 (TX9 20).1 (TX9 20).2.1 (TX9 20).2.2.1 ∈ wsX9_isSwap := by decide +kernel
set_option maxHeartbeats 4000000 in
set_option maxRecDepth 100000 in
theorem ct_X9_isSwap (l : Launch) (D : va_G) (cI cJ cZ : ClassId) (a : Nat → Nat) (u : MdS) (p0 : Int) (hu : MdI u) (h0 : -2147483648 ≤ p0 ∧ p0 < 2147483648) : gz_M l yX9_isSwap wsX9_isSwap { frames := 1, cells := 0, slots := 0, locals := 22 } D cI cJ cZ [.ref (a 0), vI p0] (MdW cI cZ a u) (gz_pI (MdW cI cZ a u) (fun r => r = bz (0 ≤ p0 ∧ p0 ≤ Sw_n (Md_sw u) - 1))) := by
  refine gz_ofZ (cc := cX9_isSwap) (maxL := 2) (ty := .boolean) (own := RX9) (by decide) rfl rfl (Nat.le_of_ble_eq_true rfl) (lv0 := [(0, .ref (a 0)), (1, vI p0)]) rfl ?_
  intro p e s m args below meth c A Q F Z
  obtain ⟨hnw, hAw, hMm, hLo, ⟨hMt, hMa⟩, hSw, hBu⟩ := id hu
  have hMmn := hMm.1
  have hLon := hLo.1
  have hMtn := hMt.1
  have hSwn := hSw.1
  have hBun := hBu.1
  refine gz_iload_n (pc := 0) F dX9_isSwap_0 rfl 1 rfl ?_
  refine gz_const (pc := 1) F dX9_isSwap_1 ?_
  refine gz_aload_n (pc := 2) F dX9_isSwap_2 rfl 0 rfl ?_
  refine gz_get (pc := 3) (v := vI (Sw_n (Md_sw u))) F hn_X9_isSwap_X9 0 9 rfl rfl 20 (by decide) fl_X9_isSwap_109 rfl dX9_isSwap_3 ?_
  have b3 := hSw.1
  refine gz_const (pc := 6) F dX9_isSwap_6 ?_
  refine gz_isub (pc := 7) F dX9_isSwap_7 ?_
  refine gz_callS (pc := 8) (n := 3) (As := [vI p0, vI 0, vI ((Sw_n (Md_sw u)) - 1)]) (rest := []) (bytes := cX9_in) (maxL := 3) (ret := some .boolean) F (ct_X9_in l D cI cJ cZ p0 0 ((Sw_n (Md_sw u)) - 1) (by omega) (by omega) (by omega)) gX9_isSwap_X9_in rfl ⟨rfl, rfl⟩ (by decide +kernel) ⟨Nat.le_of_ble_eq_true rfl, Nat.le_of_ble_eq_true rfl⟩ rfl [] rfl (by decide) rfl (Nat.le_of_ble_eq_true rfl) ⟨Nat.zero_le _, Nat.zero_le _⟩ gz_pI_sh dX9_isSwap_8 ?_
  refine gz_kI rfl (fun r8 h8 => ?_)
  subst h8
  refine Z _ _ 11 _ dX9_isSwap_11 (bz_nar _) ?_
  exact ⟨rfl, _, rfl, rfl⟩
