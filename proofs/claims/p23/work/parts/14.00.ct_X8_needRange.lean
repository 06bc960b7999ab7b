/-! ===== laid by wip/whole/gen/ri.py ===== -/
set_option maxHeartbeats 4000000 in
set_option maxRecDepth 100000 in
theorem ct_X8_needRange (l : Launch) (D : va_G) (cI cJ cZ : ClassId) (p0 p1 p2 : Int) (h0 : -2147483648 ≤ p0 ∧ p0 < 2147483648) (h1 : -2147483648 ≤ p1 ∧ p1 < 2147483648) (h2 : -2147483648 ≤ p2 ∧ p2 < 2147483648) (h : p1 ≤ p0 ∧ p0 ≤ p2) : gz_M l yX8_needRange wsX8_needRange { frames := 0, cells := 0, slots := 0, locals := 0 } D cI cJ cZ [vI p0, vI p1, vI p2] ([]) (gz_pE ([])) := by
  refine gz_ofV (cc := cX8_needRange) (maxL := 3) (own := RX8) (by decide) rfl rfl (Nat.le_of_ble_eq_true rfl) (lv0 := [(0, vI p0), (1, vI p1), (2, vI p2)]) rfl ?_
  intro p e s m args below meth c A Q F Z
  refine gz_iload_n (pc := 0) F dX8_needRange_0 rfl 0 rfl ?_
  refine gz_iload_n (pc := 1) F dX8_needRange_1 rfl 1 rfl ?_
  refine gz_icmp_lt (pc := 2) (tgt := 10) F dX8_needRange_2 (by decide) (by omega) (by omega) (fun c2 => ?_) (fun c2 => ?_)
  · exact absurd h (by omega)
  · refine gz_iload_n (pc := 5) F dX8_needRange_5 rfl 0 rfl ?_
    refine gz_iload_n (pc := 6) F dX8_needRange_6 rfl 2 rfl ?_
    refine gz_icmp_le (pc := 7) (tgt := 20) F dX8_needRange_7 (by decide) (by omega) (by omega) (fun c7 => ?_) (fun c7 => ?_)
    · refine Z _ _ 20 dX8_needRange_20 ?_
      exact ⟨rfl, rfl⟩
    · exact absurd h (by omega)
