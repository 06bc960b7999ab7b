/-! ===== laid by wip/whole/gen/ri.py ===== -/
set_option maxHeartbeats 4000000 in
set_option maxRecDepth 100000 in
theorem ct_X8_needOneDay (l : Launch) (D : va_G) (cI cJ cZ : ClassId) (p0 p1 : Int) (h0 : 0 ≤ p0 ∧ p0 ≤ 1023) (h1 : 1 ≤ p1 ∧ p1 ≤ 1023) (h : p0 / 8 = (p0 + p1 - 1) / 8) : gz_M l yX8_needOneDay wsX8_needOneDay { frames := 1, cells := 0, slots := 0, locals := 21 } D cI cJ cZ [vI p0, vI p1] ([]) (gz_pE ([])) := by
  refine gz_ofV (cc := cX8_needOneDay) (maxL := 2) (own := RX8) (by decide) rfl rfl (Nat.le_of_ble_eq_true rfl) (lv0 := [(0, vI p0), (1, vI p1)]) rfl ?_
  intro p e s m args below meth c A Q F Z
  refine gz_iload_n (pc := 0) F dX8_needOneDay_0 rfl 0 rfl ?_
  refine gz_iload_n (pc := 1) F dX8_needOneDay_1 rfl 1 rfl ?_
  refine gz_callS (pc := 2) (n := 2) (As := [vI p0, vI p1]) (rest := []) (bytes := cX8_isOneDay) (maxL := 2) (ret := some .boolean) F (ct_X8_isOneDay l D cI cJ cZ p0 p1 (by omega) (by omega)) gX8_needOneDay_X8_isOneDay rfl ⟨rfl, rfl⟩ (by decide +kernel) ⟨Nat.le_of_ble_eq_true rfl, Nat.le_of_ble_eq_true rfl⟩ rfl [] rfl (by decide) rfl (Nat.le_of_ble_eq_true rfl) ⟨Nat.zero_le _, Nat.zero_le _⟩ gz_pI_sh dX8_needOneDay_2 ?_
  refine gz_kI rfl (fun r2 h2 => ?_)
  subst h2
  refine gz_if_neb (pc := 5) (tgt := 18) F dX8_needOneDay_5 (by decide) (fun c5 => ?_) (fun c5 => ?_)
  · refine Z _ _ 18 dX8_needOneDay_18 ?_
    exact ⟨rfl, rfl⟩
  · exact absurd h c5
