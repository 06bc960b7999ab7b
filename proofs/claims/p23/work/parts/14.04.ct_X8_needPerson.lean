/-! ===== laid by wip/whole/gen/ri.py ===== -/
set_option maxHeartbeats 4000000 in
set_option maxRecDepth 100000 in
theorem ct_X8_needPerson (l : Launch) (D : va_G) (cI cJ cZ : ClassId) (p0 : Int) (h0 : -2147483648 ≤ p0 ∧ p0 < 2147483648) (h : 0 ≤ p0 ∧ p0 < 10) : gz_M l yX8_needPerson wsX8_needPerson { frames := 0, cells := 0, slots := 0, locals := 0 } D cI cJ cZ [vI p0] ([]) (gz_pE ([])) := by
  refine gz_ofV (cc := cX8_needPerson) (maxL := 1) (own := RX8) (by decide) rfl rfl (Nat.le_of_ble_eq_true rfl) (lv0 := [(0, vI p0)]) rfl ?_
  intro p e s m args below meth c A Q F Z
  refine gz_iload_n (pc := 0) F dX8_needPerson_0 rfl 0 rfl ?_
  refine gz_if_lt (pc := 1) (tgt := 10) F dX8_needPerson_1 (by decide) (by omega) (fun c1 => ?_) (fun c1 => ?_)
  · exact absurd h (by omega)
  · refine gz_iload_n (pc := 4) F dX8_needPerson_4 rfl 0 rfl ?_
    refine gz_bipush (pc := 5) F dX8_needPerson_5 (by decide) ?_
    refine gz_icmp_lt (pc := 7) (tgt := 20) F dX8_needPerson_7 (by decide) (by omega) (by omega) (fun c7 => ?_) (fun c7 => ?_)
    · refine Z _ _ 20 dX8_needPerson_20 ?_
      exact ⟨rfl, rfl⟩
    · exact absurd h (by omega)
