/-! ===== laid by wip/whole/gen/ctor.py ===== -/
theorem hn_X3_init : ∀ w ∈ u_ws RX3 TX3 6, w ∈ wsX3_init := by decide +kernel
theorem iw_X3_init_ob1 : Cond.methodLink RX3 3 objectInit ∈ wsX3_init := by decide +kernel
theorem iw_X3_init_ob2 : Cond.instanceMethod objectInit ∈ wsX3_init := by decide +kernel
theorem iw_X3_init_ob3 : Cond.code objectInit ⟨#[0xb1]⟩ 1 none ∈ wsX3_init := by decide +kernel
theorem iw_X3_init_arI : Cond.arrayClass .int ∈ wsX3_init := by decide +kernel
theorem iw_X3_init_fl9 : Cond.fieldLink RX3 9 (TX3 0).1 (TX3 0).2.1 (TX3 0).2.2.1 ∈ wsX3_init := by decide +kernel
theorem iw_X3_init_fl17 : Cond.fieldLink RX3 15 (TX3 1).1 (TX3 1).2.1 (TX3 1).2.2.1 ∈ wsX3_init := by decide +kernel
theorem iw_X3_init_fl25 : Cond.fieldLink RX3 18 (TX3 2).1 (TX3 2).2.1 (TX3 2).2.2.1 ∈ wsX3_init := by decide +kernel
theorem iw_X3_init_fl33 : Cond.fieldLink RX3 21 (TX3 3).1 (TX3 3).2.1 (TX3 3).2.2.1 ∈ wsX3_init := by decide +kernel
theorem iw_X3_init_fl41 : Cond.fieldLink RX3 24 (TX3 4).1 (TX3 4).2.1 (TX3 4).2.2.1 ∈ wsX3_init := by decide +kernel
theorem iw_X3_init_fl46 : Cond.fieldLink RX3 27 (TX3 5).1 (TX3 5).2.1 (TX3 5).2.2.1 ∈ wsX3_init := by decide +kernel
set_option maxHeartbeats 4000000 in
set_option maxRecDepth 100000 in
theorem cC_X3 (l : Launch) (D : va_G) (cI cJ cZ : ClassId) (b : Nat) : gz_C l yX3_init wsX3_init ({ frames := 1, cells := 5, slots := 30, locals := 12 } : Room) D cI cJ cZ b [(b, .inr (3, [.null, .null, .null, .null, .null, vI 0]))] (fun a => McW cI a Mc0) 5 30 := by
  refine gz_ofC (cc := cX3_init) (maxL := 1) (own := RX3) (by decide) rfl rfl rfl (Nat.le_of_ble_eq_true rfl) ?_
  intro p e s m args below meth c A Q F hi Z
  refine gz_aload_n (pc := 0) F dX3_init_0 rfl 0 rfl ?_
  refine gz_objInit (pc := 1) F iw_X3_init_ob1 iw_X3_init_ob2 iw_X3_init_ob3 dX3_init_1 (Nat.le_of_ble_eq_true rfl) (Nat.le_of_ble_eq_true rfl) ?_
  refine gz_aload_n (pc := 4) F dX3_init_4 rfl 0 rfl ?_
  refine gz_bipush (pc := 5) F dX3_init_5 (by decide) ?_
  refine gz_newI (pc := 7) F 6 iw_X3_init_arI (by decide) ⟨Nat.le_of_ble_eq_true rfl, Nat.le_of_ble_eq_true rfl⟩ dX3_init_7 (fun q7 => ?_)
  refine gz_eqw (ws2 := [(b, .inr (3, [.null, .null, .null, .null, .null, vI 0])), (q7, aI cI 6 (fun _ => 0))]) rfl ?_
  refine gz_putF (pc := 9) F hi hn_X3_init tyX3 tyX3_ok nmX3 0 3 rfl rfl 0 (by decide) iw_X3_init_fl9 rfl rfl (ty := tyX3 0) rfl rfl rfl (Nat.le_of_ble_eq_true rfl) (ws2 := [(b, .inr (3, [.ref q7, .null, .null, .null, .null, vI 0])), (q7, aI cI 6 (fun _ => 0))]) rfl dX3_init_9 ?_
  refine gz_aload_n (pc := 12) F dX3_init_12 rfl 0 rfl ?_
  refine gz_bipush (pc := 13) F dX3_init_13 (by decide) ?_
  refine gz_newI (pc := 15) F 6 iw_X3_init_arI (by decide) ⟨Nat.le_of_ble_eq_true rfl, Nat.le_of_ble_eq_true rfl⟩ dX3_init_15 (fun q15 => ?_)
  refine gz_eqw (ws2 := [(b, .inr (3, [.ref q7, .null, .null, .null, .null, vI 0])), (q7, aI cI 6 (fun _ => 0)), (q15, aI cI 6 (fun _ => 0))]) rfl ?_
  refine gz_putF (pc := 17) F hi hn_X3_init tyX3 tyX3_ok nmX3 0 3 rfl rfl 1 (by decide) iw_X3_init_fl17 rfl rfl (ty := tyX3 1) rfl rfl rfl (Nat.le_of_ble_eq_true rfl) (ws2 := [(b, .inr (3, [.ref q7, .ref q15, .null, .null, .null, vI 0])), (q7, aI cI 6 (fun _ => 0)), (q15, aI cI 6 (fun _ => 0))]) rfl dX3_init_17 ?_
  refine gz_aload_n (pc := 20) F dX3_init_20 rfl 0 rfl ?_
  refine gz_bipush (pc := 21) F dX3_init_21 (by decide) ?_
  refine gz_newI (pc := 23) F 6 iw_X3_init_arI (by decide) ⟨Nat.le_of_ble_eq_true rfl, Nat.le_of_ble_eq_true rfl⟩ dX3_init_23 (fun q23 => ?_)
  refine gz_eqw (ws2 := [(b, .inr (3, [.ref q7, .ref q15, .null, .null, .null, vI 0])), (q7, aI cI 6 (fun _ => 0)), (q15, aI cI 6 (fun _ => 0)), (q23, aI cI 6 (fun _ => 0))]) rfl ?_
  refine gz_putF (pc := 25) F hi hn_X3_init tyX3 tyX3_ok nmX3 0 3 rfl rfl 2 (by decide) iw_X3_init_fl25 rfl rfl (ty := tyX3 2) rfl rfl rfl (Nat.le_of_ble_eq_true rfl) (ws2 := [(b, .inr (3, [.ref q7, .ref q15, .ref q23, .null, .null, vI 0])), (q7, aI cI 6 (fun _ => 0)), (q15, aI cI 6 (fun _ => 0)), (q23, aI cI 6 (fun _ => 0))]) rfl dX3_init_25 ?_
  refine gz_aload_n (pc := 28) F dX3_init_28 rfl 0 rfl ?_
  refine gz_bipush (pc := 29) F dX3_init_29 (by decide) ?_
  refine gz_newI (pc := 31) F 6 iw_X3_init_arI (by decide) ⟨Nat.le_of_ble_eq_true rfl, Nat.le_of_ble_eq_true rfl⟩ dX3_init_31 (fun q31 => ?_)
  refine gz_eqw (ws2 := [(b, .inr (3, [.ref q7, .ref q15, .ref q23, .null, .null, vI 0])), (q7, aI cI 6 (fun _ => 0)), (q15, aI cI 6 (fun _ => 0)), (q23, aI cI 6 (fun _ => 0)), (q31, aI cI 6 (fun _ => 0))]) rfl ?_
  refine gz_putF (pc := 33) F hi hn_X3_init tyX3 tyX3_ok nmX3 0 3 rfl rfl 3 (by decide) iw_X3_init_fl33 rfl rfl (ty := tyX3 3) rfl rfl rfl (Nat.le_of_ble_eq_true rfl) (ws2 := [(b, .inr (3, [.ref q7, .ref q15, .ref q23, .ref q31, .null, vI 0])), (q7, aI cI 6 (fun _ => 0)), (q15, aI cI 6 (fun _ => 0)), (q23, aI cI 6 (fun _ => 0)), (q31, aI cI 6 (fun _ => 0))]) rfl dX3_init_33 ?_
  refine gz_aload_n (pc := 36) F dX3_init_36 rfl 0 rfl ?_
  refine gz_bipush (pc := 37) F dX3_init_37 (by decide) ?_
  refine gz_newI (pc := 39) F 6 iw_X3_init_arI (by decide) ⟨Nat.le_of_ble_eq_true rfl, Nat.le_of_ble_eq_true rfl⟩ dX3_init_39 (fun q39 => ?_)
  refine gz_eqw (ws2 := [(b, .inr (3, [.ref q7, .ref q15, .ref q23, .ref q31, .null, vI 0])), (q7, aI cI 6 (fun _ => 0)), (q15, aI cI 6 (fun _ => 0)), (q23, aI cI 6 (fun _ => 0)), (q31, aI cI 6 (fun _ => 0)), (q39, aI cI 6 (fun _ => 0))]) rfl ?_
  refine gz_putF (pc := 41) F hi hn_X3_init tyX3 tyX3_ok nmX3 0 3 rfl rfl 4 (by decide) iw_X3_init_fl41 rfl rfl (ty := tyX3 4) rfl rfl rfl (Nat.le_of_ble_eq_true rfl) (ws2 := [(b, .inr (3, [.ref q7, .ref q15, .ref q23, .ref q31, .ref q39, vI 0])), (q7, aI cI 6 (fun _ => 0)), (q15, aI cI 6 (fun _ => 0)), (q23, aI cI 6 (fun _ => 0)), (q31, aI cI 6 (fun _ => 0)), (q39, aI cI 6 (fun _ => 0))]) rfl dX3_init_41 ?_
  refine gz_aload_n (pc := 44) F dX3_init_44 rfl 0 rfl ?_
  refine gz_const (pc := 45) F dX3_init_45 ?_
  refine gz_put (pc := 46) F hn_X3_init tyX3 tyX3_ok nmX3 0 3 rfl rfl 5 (by decide) iw_X3_init_fl46 rfl (ty := tyX3 5) rfl rfl rfl (Nat.le_of_ble_eq_true rfl) (ws2 := [(b, .inr (3, [.ref q7, .ref q15, .ref q23, .ref q31, .ref q39, vI 0])), (q7, aI cI 6 (fun _ => 0)), (q15, aI cI 6 (fun _ => 0)), (q23, aI cI 6 (fun _ => 0)), (q31, aI cI 6 (fun _ => 0)), (q39, aI cI 6 (fun _ => 0))]) rfl dX3_init_46 ?_
  refine gz_eqw (ws2 := McW cI (fun i => [b, q7, q15, q23, q31, q39].getD i 0) Mc0) rfl ?_
  exact Z _ 49 _ dX3_init_49 rfl
