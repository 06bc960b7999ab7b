/-! ===== laid by wip/whole/gen/md.py ===== -/
set_option maxHeartbeats 4000000 in
set_option maxRecDepth 100000 in
theorem ct_X9_isPerson (l : Launch) (D : va_G) (cI cJ cZ : ClassId) (p0 : Int) (h0 : -2147483648 ≤ p0 ∧ p0 < 2147483648) : gz_M l yX9_isPerson wsX9_isPerson { frames := 1, cells := 0, slots := 0, locals := 22 } D cI cJ cZ [vI p0] ([]) (gz_pI [] (fun r => r = bz (0 ≤ p0 ∧ p0 ≤ 9))) := by
  refine gz_ofZ (cc := cX9_isPerson) (maxL := 1) (ty := .boolean) (own := RX9) (by decide) rfl rfl (Nat.le_of_ble_eq_true rfl) (lv0 := [(0, vI p0)]) rfl ?_
  intro p e s m args below meth c A Q F Z
  refine gz_iload_n (pc := 0) F dX9_isPerson_0 rfl 0 rfl ?_
  refine gz_const (pc := 1) F dX9_isPerson_1 ?_
  refine gz_bipush (pc := 2) F dX9_isPerson_2 (by decide) ?_
  refine gz_callS (pc := 4) (n := 3) (As := [vI p0, vI 0, vI 9]) (rest := []) (bytes := cX9_in) (maxL := 3) (ret := some .boolean) F (ct_X9_in l D cI cJ cZ p0 0 9 (by omega) (by omega) (by omega)) gX9_isPerson_X9_in rfl ⟨rfl, rfl⟩ (by decide +kernel) ⟨Nat.le_of_ble_eq_true rfl, Nat.le_of_ble_eq_true rfl⟩ rfl [] rfl (by decide) rfl (Nat.le_of_ble_eq_true rfl) ⟨Nat.zero_le _, Nat.zero_le _⟩ gz_pI_sh dX9_isPerson_4 ?_
  refine gz_kI rfl (fun r4 h4 => ?_)
  subst h4
  refine Z _ _ 7 _ dX9_isPerson_7 (bz_nar _) ?_
  exact ⟨rfl, _, rfl, rfl⟩
