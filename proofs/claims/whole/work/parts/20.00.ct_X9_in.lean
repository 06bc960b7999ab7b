/-! ===== laid by wip/whole/gen/md.py ===== -/
set_option maxHeartbeats 4000000 in
set_option maxRecDepth 100000 in
theorem ct_X9_in (l : Launch) (D : va_G) (cI cJ cZ : ClassId) (p0 p1 p2 : Int) (h0 : -2147483648 ≤ p0 ∧ p0 < 2147483648) (h1 : -2147483648 ≤ p1 ∧ p1 < 2147483648) (h2 : -2147483648 ≤ p2 ∧ p2 < 2147483648) : gz_M l yX9_in wsX9_in { frames := 0, cells := 0, slots := 0, locals := 0 } D cI cJ cZ [vI p0, vI p1, vI p2] ([]) (gz_pI [] (fun r => r = bz (p1 ≤ p0 ∧ p0 ≤ p2))) := by
  refine gz_ofZ (cc := cX9_in) (maxL := 3) (ty := .boolean) (own := RX9) (by decide) rfl rfl (Nat.le_of_ble_eq_true rfl) (lv0 := [(0, vI p0), (1, vI p1), (2, vI p2)]) rfl ?_
  intro p e s m args below meth c A Q F Z
  refine gz_iload_n (pc := 0) F dX9_in_0 rfl 0 rfl ?_
  refine gz_iload_n (pc := 1) F dX9_in_1 rfl 1 rfl ?_
  refine gz_icmp_lt (pc := 2) (tgt := 14) F dX9_in_2 (by decide) (by omega) (by omega) (fun c2 => ?_) (fun c2 => ?_)
  · refine gz_const (pc := 14) F dX9_in_14 ?_
    refine Z _ _ 15 _ dX9_in_15 rfl ?_
    exact ⟨rfl, _, rfl, (bz_f (fun h => by have h1 := h.1; have h2 := h.2; omega)).symm⟩
  · refine gz_iload_n (pc := 5) F dX9_in_5 rfl 0 rfl ?_
    refine gz_iload_n (pc := 6) F dX9_in_6 rfl 2 rfl ?_
    refine gz_icmp_gt (pc := 7) (tgt := 14) F dX9_in_7 (by decide) (by omega) (by omega) (fun c7 => ?_) (fun c7 => ?_)
    · refine gz_const (pc := 14) F dX9_in_14 ?_
      refine Z _ _ 15 _ dX9_in_15 rfl ?_
      exact ⟨rfl, _, rfl, (bz_f (fun h => by have h1 := h.1; have h2 := h.2; omega)).symm⟩
    · refine gz_const (pc := 10) F dX9_in_10 ?_
      refine gz_goto (pc := 11) (tgt := 15) F dX9_in_11 (by decide) ?_
      refine Z _ _ 15 _ dX9_in_15 rfl ?_
      exact ⟨rfl, _, rfl, (bz_t (⟨by omega, by omega⟩)).symm⟩
