/-! ===== laid by wip/whole/gen/ctor.py ===== -/
theorem hn_X2_init : ∀ w ∈ u_ws RX2 TX2 5, w ∈ wsX2_init := by decide +kernel
theorem iw_X2_init_ob1 : Cond.methodLink RX2 3 objectInit ∈ wsX2_init := by decide +kernel
theorem iw_X2_init_ob2 : Cond.instanceMethod objectInit ∈ wsX2_init := by decide +kernel
theorem iw_X2_init_ob3 : Cond.code objectInit ⟨#[0xb1]⟩ 1 none ∈ wsX2_init := by decide +kernel
theorem iw_X2_init_arI : Cond.arrayClass .int ∈ wsX2_init := by decide +kernel
theorem iw_X2_init_fl9 : Cond.fieldLink RX2 9 (TX2 0).1 (TX2 0).2.1 (TX2 0).2.2.1 ∈ wsX2_init := by decide +kernel
theorem iw_X2_init_fl17 : Cond.fieldLink RX2 15 (TX2 1).1 (TX2 1).2.1 (TX2 1).2.2.1 ∈ wsX2_init := by decide +kernel
theorem iw_X2_init_fl25 : Cond.fieldLink RX2 18 (TX2 2).1 (TX2 2).2.1 (TX2 2).2.2.1 ∈ wsX2_init := by decide +kernel
theorem iw_X2_init_fl33 : Cond.fieldLink RX2 21 (TX2 3).1 (TX2 3).2.1 (TX2 3).2.2.1 ∈ wsX2_init := by decide +kernel
theorem iw_X2_init_fl38 : Cond.fieldLink RX2 24 (TX2 4).1 (TX2 4).2.1 (TX2 4).2.2.1 ∈ wsX2_init := by decide +kernel
set_option maxHeartbeats 4000000 in
set_option maxRecDepth 100000 in
theorem cC_X2 (l : Launch) (D : va_G) (cI cJ cZ : ClassId) (b : Nat) : gz_C l yX2_init wsX2_init ({ frames := 1, cells := 4, slots := 80, locals := 12 } : Room) D cI cJ cZ b [(b, .inr (2, [.null, .null, .null, .null, vI 0]))] (fun a => LoW cI a Lo0) 4 80 := by
  refine gz_ofC (cc := cX2_init) (maxL := 1) (own := RX2) (by decide) rfl rfl rfl (Nat.le_of_ble_eq_true rfl) ?_
  intro p e s m args below meth c A Q F hi Z
  refine gz_aload_n (pc := 0) F dX2_init_0 rfl 0 rfl ?_
  refine gz_objInit (pc := 1) F iw_X2_init_ob1 iw_X2_init_ob2 iw_X2_init_ob3 dX2_init_1 (Nat.le_of_ble_eq_true rfl) (Nat.le_of_ble_eq_true rfl) ?_
  refine gz_aload_n (pc := 4) F dX2_init_4 rfl 0 rfl ?_
  refine gz_bipush (pc := 5) F dX2_init_5 (by decide) ?_
  refine gz_newI (pc := 7) F 20 iw_X2_init_arI (by decide) ⟨Nat.le_of_ble_eq_true rfl, Nat.le_of_ble_eq_true rfl⟩ dX2_init_7 (fun q7 => ?_)
  refine gz_eqw (ws2 := [(b, .inr (2, [.null, .null, .null, .null, vI 0])), (q7, aI cI 20 (fun _ => 0))]) rfl ?_
  refine gz_putF (pc := 9) F hi hn_X2_init tyX2 tyX2_ok nmX2 0 2 rfl rfl 0 (by decide) iw_X2_init_fl9 rfl rfl (ty := tyX2 0) rfl rfl rfl (Nat.le_of_ble_eq_true rfl) (ws2 := [(b, .inr (2, [.ref q7, .null, .null, .null, vI 0])), (q7, aI cI 20 (fun _ => 0))]) rfl dX2_init_9 ?_
  refine gz_aload_n (pc := 12) F dX2_init_12 rfl 0 rfl ?_
  refine gz_bipush (pc := 13) F dX2_init_13 (by decide) ?_
  refine gz_newI (pc := 15) F 20 iw_X2_init_arI (by decide) ⟨Nat.le_of_ble_eq_true rfl, Nat.le_of_ble_eq_true rfl⟩ dX2_init_15 (fun q15 => ?_)
  refine gz_eqw (ws2 := [(b, .inr (2, [.ref q7, .null, .null, .null, vI 0])), (q7, aI cI 20 (fun _ => 0)), (q15, aI cI 20 (fun _ => 0))]) rfl ?_
  refine gz_putF (pc := 17) F hi hn_X2_init tyX2 tyX2_ok nmX2 0 2 rfl rfl 1 (by decide) iw_X2_init_fl17 rfl rfl (ty := tyX2 1) rfl rfl rfl (Nat.le_of_ble_eq_true rfl) (ws2 := [(b, .inr (2, [.ref q7, .ref q15, .null, .null, vI 0])), (q7, aI cI 20 (fun _ => 0)), (q15, aI cI 20 (fun _ => 0))]) rfl dX2_init_17 ?_
  refine gz_aload_n (pc := 20) F dX2_init_20 rfl 0 rfl ?_
  refine gz_bipush (pc := 21) F dX2_init_21 (by decide) ?_
  refine gz_newI (pc := 23) F 20 iw_X2_init_arI (by decide) ⟨Nat.le_of_ble_eq_true rfl, Nat.le_of_ble_eq_true rfl⟩ dX2_init_23 (fun q23 => ?_)
  refine gz_eqw (ws2 := [(b, .inr (2, [.ref q7, .ref q15, .null, .null, vI 0])), (q7, aI cI 20 (fun _ => 0)), (q15, aI cI 20 (fun _ => 0)), (q23, aI cI 20 (fun _ => 0))]) rfl ?_
  refine gz_putF (pc := 25) F hi hn_X2_init tyX2 tyX2_ok nmX2 0 2 rfl rfl 2 (by decide) iw_X2_init_fl25 rfl rfl (ty := tyX2 2) rfl rfl rfl (Nat.le_of_ble_eq_true rfl) (ws2 := [(b, .inr (2, [.ref q7, .ref q15, .ref q23, .null, vI 0])), (q7, aI cI 20 (fun _ => 0)), (q15, aI cI 20 (fun _ => 0)), (q23, aI cI 20 (fun _ => 0))]) rfl dX2_init_25 ?_
  refine gz_aload_n (pc := 28) F dX2_init_28 rfl 0 rfl ?_
  refine gz_bipush (pc := 29) F dX2_init_29 (by decide) ?_
  refine gz_newI (pc := 31) F 20 iw_X2_init_arI (by decide) ⟨Nat.le_of_ble_eq_true rfl, Nat.le_of_ble_eq_true rfl⟩ dX2_init_31 (fun q31 => ?_)
  refine gz_eqw (ws2 := [(b, .inr (2, [.ref q7, .ref q15, .ref q23, .null, vI 0])), (q7, aI cI 20 (fun _ => 0)), (q15, aI cI 20 (fun _ => 0)), (q23, aI cI 20 (fun _ => 0)), (q31, aI cI 20 (fun _ => 0))]) rfl ?_
  refine gz_putF (pc := 33) F hi hn_X2_init tyX2 tyX2_ok nmX2 0 2 rfl rfl 3 (by decide) iw_X2_init_fl33 rfl rfl (ty := tyX2 3) rfl rfl rfl (Nat.le_of_ble_eq_true rfl) (ws2 := [(b, .inr (2, [.ref q7, .ref q15, .ref q23, .ref q31, vI 0])), (q7, aI cI 20 (fun _ => 0)), (q15, aI cI 20 (fun _ => 0)), (q23, aI cI 20 (fun _ => 0)), (q31, aI cI 20 (fun _ => 0))]) rfl dX2_init_33 ?_
  refine gz_aload_n (pc := 36) F dX2_init_36 rfl 0 rfl ?_
  refine gz_const (pc := 37) F dX2_init_37 ?_
  refine gz_put (pc := 38) F hn_X2_init tyX2 tyX2_ok nmX2 0 2 rfl rfl 4 (by decide) iw_X2_init_fl38 rfl (ty := tyX2 4) rfl rfl rfl (Nat.le_of_ble_eq_true rfl) (ws2 := [(b, .inr (2, [.ref q7, .ref q15, .ref q23, .ref q31, vI 0])), (q7, aI cI 20 (fun _ => 0)), (q15, aI cI 20 (fun _ => 0)), (q23, aI cI 20 (fun _ => 0)), (q31, aI cI 20 (fun _ => 0))]) rfl dX2_init_38 ?_
  refine gz_eqw (ws2 := LoW cI (fun i => [b, q7, q15, q23, q31].getD i 0) Lo0) rfl ?_
  exact Z _ 41 _ dX2_init_41 rfl
