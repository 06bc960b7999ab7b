/-! ===== laid by wip/whole/gen/md.py ===== -/
set_option maxHeartbeats 4000000 in
set_option maxRecDepth 100000 in
theorem ct_X9_isOnOneDay (l : Launch) (D : va_G) (cI cJ cZ : ClassId) (p0 p1 : Int) (h0 : 0 ≤ p0 ∧ p0 ≤ 1023) (h1 : -2147483648 ≤ p1 ∧ p1 < 2147483648) (h2 : p1 ≤ 1023) : gz_M l yX9_isOnOneDay wsX9_isOnOneDay { frames := 0, cells := 0, slots := 0, locals := 0 } D cI cJ cZ [vI p0, vI p1] ([]) (gz_pI [] (fun r => r = bz (p0 % 8 + p1 ≤ 8))) := by
  refine gz_ofZ (cc := cX9_isOnOneDay) (maxL := 2) (ty := .boolean) (own := RX9) (by decide) rfl rfl (Nat.le_of_ble_eq_true rfl) (lv0 := [(0, vI p0), (1, vI p1)]) rfl ?_
  intro p e s m args below meth c A Q F Z
  refine gz_iload_n (pc := 0) F dX9_isOnOneDay_0 rfl 0 rfl ?_
  refine gz_bipush (pc := 1) F dX9_isOnOneDay_1 (by decide) ?_
  refine gz_irem (pc := 3) F dX9_isOnOneDay_3 (by omega) (by omega) ?_
  refine gz_iload_n (pc := 4) F dX9_isOnOneDay_4 rfl 1 rfl ?_
  refine gz_iadd (pc := 5) F dX9_isOnOneDay_5 ?_
  refine gz_bipush (pc := 6) F dX9_isOnOneDay_6 (by decide) ?_
  refine gz_icmp_gt (pc := 8) (tgt := 15) F dX9_isOnOneDay_8 (by decide) (by omega) (by omega) (fun c8 => ?_) (fun c8 => ?_)
  · refine gz_const (pc := 15) F dX9_isOnOneDay_15 ?_
    refine Z _ _ 16 _ dX9_isOnOneDay_16 rfl ?_
    exact ⟨rfl, _, rfl, (bz_f (by omega)).symm⟩
  · refine gz_const (pc := 11) F dX9_isOnOneDay_11 ?_
    refine gz_goto (pc := 12) (tgt := 16) F dX9_isOnOneDay_12 (by decide) ?_
    refine Z _ _ 16 _ dX9_isOnOneDay_16 rfl ?_
    exact ⟨rfl, _, rfl, (bz_t (by omega)).symm⟩
