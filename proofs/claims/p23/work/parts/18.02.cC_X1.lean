/-! ===== laid by wip/whole/gen/ctor.py ===== -/
theorem hn_X1_init : ∀ w ∈ u_ws RX1 TX1 1, w ∈ wsX1_init := by decide +kernel
theorem iw_X1_init_ob1 : Cond.methodLink RX1 3 objectInit ∈ wsX1_init := by decide +kernel
theorem iw_X1_init_ob2 : Cond.instanceMethod objectInit ∈ wsX1_init := by decide +kernel
theorem iw_X1_init_ob3 : Cond.code objectInit ⟨#[0xb1]⟩ 1 none ∈ wsX1_init := by decide +kernel
theorem iw_X1_init_arJ : Cond.arrayClass .long ∈ wsX1_init := by decide +kernel
theorem iw_X1_init_fl9 : Cond.fieldLink RX1 9 (TX1 0).1 (TX1 0).2.1 (TX1 0).2.2.1 ∈ wsX1_init := by decide +kernel
set_option maxHeartbeats 4000000 in
set_option maxRecDepth 100000 in
theorem cC_X1 (l : Launch) (D : va_G) (cI cJ cZ : ClassId) (b : Nat) : gz_C l yX1_init wsX1_init ({ frames := 1, cells := 1, slots := 10, locals := 12 } : Room) D cI cJ cZ b [(b, .inr (1, [.null]))] (fun a => LvW cJ a Lv0) 1 10 := by
  refine gz_ofC (cc := cX1_init) (maxL := 1) (own := RX1) (by decide) rfl rfl rfl (Nat.le_of_ble_eq_true rfl) ?_
  intro p e s m args below meth c A Q F hi Z
  refine gz_aload_n (pc := 0) F dX1_init_0 rfl 0 rfl ?_
  refine gz_objInit (pc := 1) F iw_X1_init_ob1 iw_X1_init_ob2 iw_X1_init_ob3 dX1_init_1 (Nat.le_of_ble_eq_true rfl) (Nat.le_of_ble_eq_true rfl) ?_
  refine gz_aload_n (pc := 4) F dX1_init_4 rfl 0 rfl ?_
  refine gz_bipush (pc := 5) F dX1_init_5 (by decide) ?_
  refine gz_newJ (pc := 7) F 10 iw_X1_init_arJ (by decide) ⟨Nat.le_of_ble_eq_true rfl, Nat.le_of_ble_eq_true rfl⟩ dX1_init_7 (fun q7 => ?_)
  refine gz_eqw (ws2 := [(b, .inr (1, [.null])), (q7, .inl (cJ, 10, .inr (.inl (zB (fun _ => 0)))))]) rfl ?_
  refine gz_putF (pc := 9) F hi hn_X1_init tyX1 tyX1_ok nmX1 0 1 rfl rfl 0 (by decide) iw_X1_init_fl9 rfl rfl (ty := tyX1 0) rfl rfl rfl (Nat.le_of_ble_eq_true rfl) (ws2 := [(b, .inr (1, [.ref q7])), (q7, .inl (cJ, 10, .inr (.inl (zB (fun _ => 0)))))]) rfl dX1_init_9 ?_
  refine gz_eqw (ws2 := LvW cJ (fun i => [b, q7].getD i 0) Lv0) rfl ?_
  exact Z _ 12 _ dX1_init_12 rfl
