/-! ===== laid by wip/whole/gen/ctor.py ===== -/
theorem hn_X0_init : ∀ w ∈ u_ws RX0 TX0 8, w ∈ wsX0_init := by decide +kernel
theorem iw_X0_init_ob1 : Cond.methodLink RX0 3 objectInit ∈ wsX0_init := by decide +kernel
theorem iw_X0_init_ob2 : Cond.instanceMethod objectInit ∈ wsX0_init := by decide +kernel
theorem iw_X0_init_ob3 : Cond.code objectInit ⟨#[0xb1]⟩ 1 none ∈ wsX0_init := by decide +kernel
theorem iw_X0_init_arI : Cond.arrayClass .int ∈ wsX0_init := by decide +kernel
theorem iw_X0_init_fl9 : Cond.fieldLink RX0 9 (TX0 0).1 (TX0 0).2.1 (TX0 0).2.2.1 ∈ wsX0_init := by decide +kernel
theorem iw_X0_init_fl17 : Cond.fieldLink RX0 15 (TX0 1).1 (TX0 1).2.1 (TX0 1).2.2.1 ∈ wsX0_init := by decide +kernel
theorem iw_X0_init_fl25 : Cond.fieldLink RX0 18 (TX0 2).1 (TX0 2).2.1 (TX0 2).2.2.1 ∈ wsX0_init := by decide +kernel
theorem iw_X0_init_fl33 : Cond.fieldLink RX0 21 (TX0 3).1 (TX0 3).2.1 (TX0 3).2.2.1 ∈ wsX0_init := by decide +kernel
theorem iw_X0_init_fl41 : Cond.fieldLink RX0 24 (TX0 4).1 (TX0 4).2.1 (TX0 4).2.2.1 ∈ wsX0_init := by decide +kernel
theorem iw_X0_init_fl49 : Cond.fieldLink RX0 27 (TX0 5).1 (TX0 5).2.1 (TX0 5).2.2.1 ∈ wsX0_init := by decide +kernel
theorem iw_X0_init_fl57 : Cond.fieldLink RX0 30 (TX0 6).1 (TX0 6).2.1 (TX0 6).2.2.1 ∈ wsX0_init := by decide +kernel
theorem iw_X0_init_fl62 : Cond.fieldLink RX0 33 (TX0 7).1 (TX0 7).2.1 (TX0 7).2.2.1 ∈ wsX0_init := by decide +kernel
set_option maxHeartbeats 4000000 in
set_option maxRecDepth 100000 in
theorem cC_X0 (l : Launch) (D : va_G) (cI cJ cZ : ClassId) (b : Nat) : gz_C l yX0_init wsX0_init ({ frames := 1, cells := 7, slots := 280, locals := 12 } : Room) D cI cJ cZ b [(b, .inr (0, [.null, .null, .null, .null, .null, .null, .null, vI 0]))] (fun a => BuW cI a Bu0) 7 280 := by
  refine gz_ofC (cc := cX0_init) (maxL := 1) (own := RX0) (by decide) rfl rfl rfl (Nat.le_of_ble_eq_true rfl) ?_
  intro p e s m args below meth c A Q F hi Z
  refine gz_aload_n (pc := 0) F dX0_init_0 rfl 0 rfl ?_
  refine gz_objInit (pc := 1) F iw_X0_init_ob1 iw_X0_init_ob2 iw_X0_init_ob3 dX0_init_1 (Nat.le_of_ble_eq_true rfl) (Nat.le_of_ble_eq_true rfl) ?_
  refine gz_aload_n (pc := 4) F dX0_init_4 rfl 0 rfl ?_
  refine gz_bipush (pc := 5) F dX0_init_5 (by decide) ?_
  refine gz_newI (pc := 7) F 40 iw_X0_init_arI (by decide) ⟨Nat.le_of_ble_eq_true rfl, Nat.le_of_ble_eq_true rfl⟩ dX0_init_7 (fun q7 => ?_)
  refine gz_eqw (ws2 := [(b, .inr (0, [.null, .null, .null, .null, .null, .null, .null, vI 0])), (q7, aI cI 40 (fun _ => 0))]) rfl ?_
  refine gz_putF (pc := 9) F hi hn_X0_init tyX0 tyX0_ok nmX0 0 0 rfl rfl 0 (by decide) iw_X0_init_fl9 rfl rfl (ty := tyX0 0) rfl rfl rfl (Nat.le_of_ble_eq_true rfl) (ws2 := [(b, .inr (0, [.ref q7, .null, .null, .null, .null, .null, .null, vI 0])), (q7, aI cI 40 (fun _ => 0))]) rfl dX0_init_9 ?_
  refine gz_aload_n (pc := 12) F dX0_init_12 rfl 0 rfl ?_
  refine gz_bipush (pc := 13) F dX0_init_13 (by decide) ?_
  refine gz_newI (pc := 15) F 40 iw_X0_init_arI (by decide) ⟨Nat.le_of_ble_eq_true rfl, Nat.le_of_ble_eq_true rfl⟩ dX0_init_15 (fun q15 => ?_)
  refine gz_eqw (ws2 := [(b, .inr (0, [.ref q7, .null, .null, .null, .null, .null, .null, vI 0])), (q7, aI cI 40 (fun _ => 0)), (q15, aI cI 40 (fun _ => 0))]) rfl ?_
  refine gz_putF (pc := 17) F hi hn_X0_init tyX0 tyX0_ok nmX0 0 0 rfl rfl 1 (by decide) iw_X0_init_fl17 rfl rfl (ty := tyX0 1) rfl rfl rfl (Nat.le_of_ble_eq_true rfl) (ws2 := [(b, .inr (0, [.ref q7, .ref q15, .null, .null, .null, .null, .null, vI 0])), (q7, aI cI 40 (fun _ => 0)), (q15, aI cI 40 (fun _ => 0))]) rfl dX0_init_17 ?_
  refine gz_aload_n (pc := 20) F dX0_init_20 rfl 0 rfl ?_
  refine gz_bipush (pc := 21) F dX0_init_21 (by decide) ?_
  refine gz_newI (pc := 23) F 40 iw_X0_init_arI (by decide) ⟨Nat.le_of_ble_eq_true rfl, Nat.le_of_ble_eq_true rfl⟩ dX0_init_23 (fun q23 => ?_)
  refine gz_eqw (ws2 := [(b, .inr (0, [.ref q7, .ref q15, .null, .null, .null, .null, .null, vI 0])), (q7, aI cI 40 (fun _ => 0)), (q15, aI cI 40 (fun _ => 0)), (q23, aI cI 40 (fun _ => 0))]) rfl ?_
  refine gz_putF (pc := 25) F hi hn_X0_init tyX0 tyX0_ok nmX0 0 0 rfl rfl 2 (by decide) iw_X0_init_fl25 rfl rfl (ty := tyX0 2) rfl rfl rfl (Nat.le_of_ble_eq_true rfl) (ws2 := [(b, .inr (0, [.ref q7, .ref q15, .ref q23, .null, .null, .null, .null, vI 0])), (q7, aI cI 40 (fun _ => 0)), (q15, aI cI 40 (fun _ => 0)), (q23, aI cI 40 (fun _ => 0))]) rfl dX0_init_25 ?_
  refine gz_aload_n (pc := 28) F dX0_init_28 rfl 0 rfl ?_
  refine gz_bipush (pc := 29) F dX0_init_29 (by decide) ?_
  refine gz_newI (pc := 31) F 40 iw_X0_init_arI (by decide) ⟨Nat.le_of_ble_eq_true rfl, Nat.le_of_ble_eq_true rfl⟩ dX0_init_31 (fun q31 => ?_)
  refine gz_eqw (ws2 := [(b, .inr (0, [.ref q7, .ref q15, .ref q23, .null, .null, .null, .null, vI 0])), (q7, aI cI 40 (fun _ => 0)), (q15, aI cI 40 (fun _ => 0)), (q23, aI cI 40 (fun _ => 0)), (q31, aI cI 40 (fun _ => 0))]) rfl ?_
  refine gz_putF (pc := 33) F hi hn_X0_init tyX0 tyX0_ok nmX0 0 0 rfl rfl 3 (by decide) iw_X0_init_fl33 rfl rfl (ty := tyX0 3) rfl rfl rfl (Nat.le_of_ble_eq_true rfl) (ws2 := [(b, .inr (0, [.ref q7, .ref q15, .ref q23, .ref q31, .null, .null, .null, vI 0])), (q7, aI cI 40 (fun _ => 0)), (q15, aI cI 40 (fun _ => 0)), (q23, aI cI 40 (fun _ => 0)), (q31, aI cI 40 (fun _ => 0))]) rfl dX0_init_33 ?_
  refine gz_aload_n (pc := 36) F dX0_init_36 rfl 0 rfl ?_
  refine gz_bipush (pc := 37) F dX0_init_37 (by decide) ?_
  refine gz_newI (pc := 39) F 40 iw_X0_init_arI (by decide) ⟨Nat.le_of_ble_eq_true rfl, Nat.le_of_ble_eq_true rfl⟩ dX0_init_39 (fun q39 => ?_)
  refine gz_eqw (ws2 := [(b, .inr (0, [.ref q7, .ref q15, .ref q23, .ref q31, .null, .null, .null, vI 0])), (q7, aI cI 40 (fun _ => 0)), (q15, aI cI 40 (fun _ => 0)), (q23, aI cI 40 (fun _ => 0)), (q31, aI cI 40 (fun _ => 0)), (q39, aI cI 40 (fun _ => 0))]) rfl ?_
  refine gz_putF (pc := 41) F hi hn_X0_init tyX0 tyX0_ok nmX0 0 0 rfl rfl 4 (by decide) iw_X0_init_fl41 rfl rfl (ty := tyX0 4) rfl rfl rfl (Nat.le_of_ble_eq_true rfl) (ws2 := [(b, .inr (0, [.ref q7, .ref q15, .ref q23, .ref q31, .ref q39, .null, .null, vI 0])), (q7, aI cI 40 (fun _ => 0)), (q15, aI cI 40 (fun _ => 0)), (q23, aI cI 40 (fun _ => 0)), (q31, aI cI 40 (fun _ => 0)), (q39, aI cI 40 (fun _ => 0))]) rfl dX0_init_41 ?_
  refine gz_aload_n (pc := 44) F dX0_init_44 rfl 0 rfl ?_
  refine gz_bipush (pc := 45) F dX0_init_45 (by decide) ?_
  refine gz_newI (pc := 47) F 40 iw_X0_init_arI (by decide) ⟨Nat.le_of_ble_eq_true rfl, Nat.le_of_ble_eq_true rfl⟩ dX0_init_47 (fun q47 => ?_)
  refine gz_eqw (ws2 := [(b, .inr (0, [.ref q7, .ref q15, .ref q23, .ref q31, .ref q39, .null, .null, vI 0])), (q7, aI cI 40 (fun _ => 0)), (q15, aI cI 40 (fun _ => 0)), (q23, aI cI 40 (fun _ => 0)), (q31, aI cI 40 (fun _ => 0)), (q39, aI cI 40 (fun _ => 0)), (q47, aI cI 40 (fun _ => 0))]) rfl ?_
  refine gz_putF (pc := 49) F hi hn_X0_init tyX0 tyX0_ok nmX0 0 0 rfl rfl 5 (by decide) iw_X0_init_fl49 rfl rfl (ty := tyX0 5) rfl rfl rfl (Nat.le_of_ble_eq_true rfl) (ws2 := [(b, .inr (0, [.ref q7, .ref q15, .ref q23, .ref q31, .ref q39, .ref q47, .null, vI 0])), (q7, aI cI 40 (fun _ => 0)), (q15, aI cI 40 (fun _ => 0)), (q23, aI cI 40 (fun _ => 0)), (q31, aI cI 40 (fun _ => 0)), (q39, aI cI 40 (fun _ => 0)), (q47, aI cI 40 (fun _ => 0))]) rfl dX0_init_49 ?_
  refine gz_aload_n (pc := 52) F dX0_init_52 rfl 0 rfl ?_
  refine gz_bipush (pc := 53) F dX0_init_53 (by decide) ?_
  refine gz_newI (pc := 55) F 40 iw_X0_init_arI (by decide) ⟨Nat.le_of_ble_eq_true rfl, Nat.le_of_ble_eq_true rfl⟩ dX0_init_55 (fun q55 => ?_)
  refine gz_eqw (ws2 := [(b, .inr (0, [.ref q7, .ref q15, .ref q23, .ref q31, .ref q39, .ref q47, .null, vI 0])), (q7, aI cI 40 (fun _ => 0)), (q15, aI cI 40 (fun _ => 0)), (q23, aI cI 40 (fun _ => 0)), (q31, aI cI 40 (fun _ => 0)), (q39, aI cI 40 (fun _ => 0)), (q47, aI cI 40 (fun _ => 0)), (q55, aI cI 40 (fun _ => 0))]) rfl ?_
  refine gz_putF (pc := 57) F hi hn_X0_init tyX0 tyX0_ok nmX0 0 0 rfl rfl 6 (by decide) iw_X0_init_fl57 rfl rfl (ty := tyX0 6) rfl rfl rfl (Nat.le_of_ble_eq_true rfl) (ws2 := [(b, .inr (0, [.ref q7, .ref q15, .ref q23, .ref q31, .ref q39, .ref q47, .ref q55, vI 0])), (q7, aI cI 40 (fun _ => 0)), (q15, aI cI 40 (fun _ => 0)), (q23, aI cI 40 (fun _ => 0)), (q31, aI cI 40 (fun _ => 0)), (q39, aI cI 40 (fun _ => 0)), (q47, aI cI 40 (fun _ => 0)), (q55, aI cI 40 (fun _ => 0))]) rfl dX0_init_57 ?_
  refine gz_aload_n (pc := 60) F dX0_init_60 rfl 0 rfl ?_
  refine gz_const (pc := 61) F dX0_init_61 ?_
  refine gz_put (pc := 62) F hn_X0_init tyX0 tyX0_ok nmX0 0 0 rfl rfl 7 (by decide) iw_X0_init_fl62 rfl (ty := tyX0 7) rfl rfl rfl (Nat.le_of_ble_eq_true rfl) (ws2 := [(b, .inr (0, [.ref q7, .ref q15, .ref q23, .ref q31, .ref q39, .ref q47, .ref q55, vI 0])), (q7, aI cI 40 (fun _ => 0)), (q15, aI cI 40 (fun _ => 0)), (q23, aI cI 40 (fun _ => 0)), (q31, aI cI 40 (fun _ => 0)), (q39, aI cI 40 (fun _ => 0)), (q47, aI cI 40 (fun _ => 0)), (q55, aI cI 40 (fun _ => 0))]) rfl dX0_init_62 ?_
  refine gz_eqw (ws2 := BuW cI (fun i => [b, q7, q15, q23, q31, q39, q47, q55].getD i 0) Bu0) rfl ?_
  exact Z _ 65 _ dX0_init_65 rfl
