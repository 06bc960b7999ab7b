/-! ===== laid by wip/whole/gen/ctor.py ===== -/
theorem hn_X6_init : ∀ w ∈ u_ws RX6 TX6 7, w ∈ wsX6_init := by decide +kernel
theorem iw_X6_init_ob1 : Cond.methodLink RX6 3 objectInit ∈ wsX6_init := by decide +kernel
theorem iw_X6_init_ob2 : Cond.instanceMethod objectInit ∈ wsX6_init := by decide +kernel
theorem iw_X6_init_ob3 : Cond.code objectInit ⟨#[0xb1]⟩ 1 none ∈ wsX6_init := by decide +kernel
theorem iw_X6_init_arI : Cond.arrayClass .int ∈ wsX6_init := by decide +kernel
theorem iw_X6_init_fl9 : Cond.fieldLink RX6 9 (TX6 0).1 (TX6 0).2.1 (TX6 0).2.2.1 ∈ wsX6_init := by decide +kernel
theorem iw_X6_init_fl17 : Cond.fieldLink RX6 15 (TX6 1).1 (TX6 1).2.1 (TX6 1).2.2.1 ∈ wsX6_init := by decide +kernel
theorem iw_X6_init_fl25 : Cond.fieldLink RX6 18 (TX6 2).1 (TX6 2).2.1 (TX6 2).2.2.1 ∈ wsX6_init := by decide +kernel
theorem iw_X6_init_fl33 : Cond.fieldLink RX6 21 (TX6 3).1 (TX6 3).2.1 (TX6 3).2.2.1 ∈ wsX6_init := by decide +kernel
theorem iw_X6_init_fl41 : Cond.fieldLink RX6 24 (TX6 4).1 (TX6 4).2.1 (TX6 4).2.2.1 ∈ wsX6_init := by decide +kernel
theorem iw_X6_init_fl49 : Cond.fieldLink RX6 27 (TX6 5).1 (TX6 5).2.1 (TX6 5).2.2.1 ∈ wsX6_init := by decide +kernel
theorem iw_X6_init_fl54 : Cond.fieldLink RX6 30 (TX6 6).1 (TX6 6).2.1 (TX6 6).2.2.1 ∈ wsX6_init := by decide +kernel
set_option maxHeartbeats 4000000 in
set_option maxRecDepth 100000 in
theorem cC_X6 (l : Launch) (D : va_G) (cI cJ cZ : ClassId) (b : Nat) : gz_C l yX6_init wsX6_init ({ frames := 1, cells := 6, slots := 120, locals := 12 } : Room) D cI cJ cZ b [(b, .inr (6, [.null, .null, .null, .null, .null, .null, vI 0]))] (fun a => SwW cI a Sw0) 6 120 := by
  refine gz_ofC (cc := cX6_init) (maxL := 1) (own := RX6) (by decide) rfl rfl rfl (Nat.le_of_ble_eq_true rfl) ?_
  intro p e s m args below meth c A Q F hi Z
  refine gz_aload_n (pc := 0) F dX6_init_0 rfl 0 rfl ?_
  refine gz_objInit (pc := 1) F iw_X6_init_ob1 iw_X6_init_ob2 iw_X6_init_ob3 dX6_init_1 (Nat.le_of_ble_eq_true rfl) (Nat.le_of_ble_eq_true rfl) ?_
  refine gz_aload_n (pc := 4) F dX6_init_4 rfl 0 rfl ?_
  refine gz_bipush (pc := 5) F dX6_init_5 (by decide) ?_
  refine gz_newI (pc := 7) F 20 iw_X6_init_arI (by decide) ⟨Nat.le_of_ble_eq_true rfl, Nat.le_of_ble_eq_true rfl⟩ dX6_init_7 (fun q7 => ?_)
  refine gz_eqw (ws2 := [(b, .inr (6, [.null, .null, .null, .null, .null, .null, vI 0])), (q7, aI cI 20 (fun _ => 0))]) rfl ?_
  refine gz_putF (pc := 9) F hi hn_X6_init tyX6 tyX6_ok nmX6 0 6 rfl rfl 0 (by decide) iw_X6_init_fl9 rfl rfl (ty := tyX6 0) rfl rfl rfl (Nat.le_of_ble_eq_true rfl) (ws2 := [(b, .inr (6, [.ref q7, .null, .null, .null, .null, .null, vI 0])), (q7, aI cI 20 (fun _ => 0))]) rfl dX6_init_9 ?_
  refine gz_aload_n (pc := 12) F dX6_init_12 rfl 0 rfl ?_
  refine gz_bipush (pc := 13) F dX6_init_13 (by decide) ?_
  refine gz_newI (pc := 15) F 20 iw_X6_init_arI (by decide) ⟨Nat.le_of_ble_eq_true rfl, Nat.le_of_ble_eq_true rfl⟩ dX6_init_15 (fun q15 => ?_)
  refine gz_eqw (ws2 := [(b, .inr (6, [.ref q7, .null, .null, .null, .null, .null, vI 0])), (q7, aI cI 20 (fun _ => 0)), (q15, aI cI 20 (fun _ => 0))]) rfl ?_
  refine gz_putF (pc := 17) F hi hn_X6_init tyX6 tyX6_ok nmX6 0 6 rfl rfl 1 (by decide) iw_X6_init_fl17 rfl rfl (ty := tyX6 1) rfl rfl rfl (Nat.le_of_ble_eq_true rfl) (ws2 := [(b, .inr (6, [.ref q7, .ref q15, .null, .null, .null, .null, vI 0])), (q7, aI cI 20 (fun _ => 0)), (q15, aI cI 20 (fun _ => 0))]) rfl dX6_init_17 ?_
  refine gz_aload_n (pc := 20) F dX6_init_20 rfl 0 rfl ?_
  refine gz_bipush (pc := 21) F dX6_init_21 (by decide) ?_
  refine gz_newI (pc := 23) F 20 iw_X6_init_arI (by decide) ⟨Nat.le_of_ble_eq_true rfl, Nat.le_of_ble_eq_true rfl⟩ dX6_init_23 (fun q23 => ?_)
  refine gz_eqw (ws2 := [(b, .inr (6, [.ref q7, .ref q15, .null, .null, .null, .null, vI 0])), (q7, aI cI 20 (fun _ => 0)), (q15, aI cI 20 (fun _ => 0)), (q23, aI cI 20 (fun _ => 0))]) rfl ?_
  refine gz_putF (pc := 25) F hi hn_X6_init tyX6 tyX6_ok nmX6 0 6 rfl rfl 2 (by decide) iw_X6_init_fl25 rfl rfl (ty := tyX6 2) rfl rfl rfl (Nat.le_of_ble_eq_true rfl) (ws2 := [(b, .inr (6, [.ref q7, .ref q15, .ref q23, .null, .null, .null, vI 0])), (q7, aI cI 20 (fun _ => 0)), (q15, aI cI 20 (fun _ => 0)), (q23, aI cI 20 (fun _ => 0))]) rfl dX6_init_25 ?_
  refine gz_aload_n (pc := 28) F dX6_init_28 rfl 0 rfl ?_
  refine gz_bipush (pc := 29) F dX6_init_29 (by decide) ?_
  refine gz_newI (pc := 31) F 20 iw_X6_init_arI (by decide) ⟨Nat.le_of_ble_eq_true rfl, Nat.le_of_ble_eq_true rfl⟩ dX6_init_31 (fun q31 => ?_)
  refine gz_eqw (ws2 := [(b, .inr (6, [.ref q7, .ref q15, .ref q23, .null, .null, .null, vI 0])), (q7, aI cI 20 (fun _ => 0)), (q15, aI cI 20 (fun _ => 0)), (q23, aI cI 20 (fun _ => 0)), (q31, aI cI 20 (fun _ => 0))]) rfl ?_
  refine gz_putF (pc := 33) F hi hn_X6_init tyX6 tyX6_ok nmX6 0 6 rfl rfl 3 (by decide) iw_X6_init_fl33 rfl rfl (ty := tyX6 3) rfl rfl rfl (Nat.le_of_ble_eq_true rfl) (ws2 := [(b, .inr (6, [.ref q7, .ref q15, .ref q23, .ref q31, .null, .null, vI 0])), (q7, aI cI 20 (fun _ => 0)), (q15, aI cI 20 (fun _ => 0)), (q23, aI cI 20 (fun _ => 0)), (q31, aI cI 20 (fun _ => 0))]) rfl dX6_init_33 ?_
  refine gz_aload_n (pc := 36) F dX6_init_36 rfl 0 rfl ?_
  refine gz_bipush (pc := 37) F dX6_init_37 (by decide) ?_
  refine gz_newI (pc := 39) F 20 iw_X6_init_arI (by decide) ⟨Nat.le_of_ble_eq_true rfl, Nat.le_of_ble_eq_true rfl⟩ dX6_init_39 (fun q39 => ?_)
  refine gz_eqw (ws2 := [(b, .inr (6, [.ref q7, .ref q15, .ref q23, .ref q31, .null, .null, vI 0])), (q7, aI cI 20 (fun _ => 0)), (q15, aI cI 20 (fun _ => 0)), (q23, aI cI 20 (fun _ => 0)), (q31, aI cI 20 (fun _ => 0)), (q39, aI cI 20 (fun _ => 0))]) rfl ?_
  refine gz_putF (pc := 41) F hi hn_X6_init tyX6 tyX6_ok nmX6 0 6 rfl rfl 4 (by decide) iw_X6_init_fl41 rfl rfl (ty := tyX6 4) rfl rfl rfl (Nat.le_of_ble_eq_true rfl) (ws2 := [(b, .inr (6, [.ref q7, .ref q15, .ref q23, .ref q31, .ref q39, .null, vI 0])), (q7, aI cI 20 (fun _ => 0)), (q15, aI cI 20 (fun _ => 0)), (q23, aI cI 20 (fun _ => 0)), (q31, aI cI 20 (fun _ => 0)), (q39, aI cI 20 (fun _ => 0))]) rfl dX6_init_41 ?_
  refine gz_aload_n (pc := 44) F dX6_init_44 rfl 0 rfl ?_
  refine gz_bipush (pc := 45) F dX6_init_45 (by decide) ?_
  refine gz_newI (pc := 47) F 20 iw_X6_init_arI (by decide) ⟨Nat.le_of_ble_eq_true rfl, Nat.le_of_ble_eq_true rfl⟩ dX6_init_47 (fun q47 => ?_)
  refine gz_eqw (ws2 := [(b, .inr (6, [.ref q7, .ref q15, .ref q23, .ref q31, .ref q39, .null, vI 0])), (q7, aI cI 20 (fun _ => 0)), (q15, aI cI 20 (fun _ => 0)), (q23, aI cI 20 (fun _ => 0)), (q31, aI cI 20 (fun _ => 0)), (q39, aI cI 20 (fun _ => 0)), (q47, aI cI 20 (fun _ => 0))]) rfl ?_
  refine gz_putF (pc := 49) F hi hn_X6_init tyX6 tyX6_ok nmX6 0 6 rfl rfl 5 (by decide) iw_X6_init_fl49 rfl rfl (ty := tyX6 5) rfl rfl rfl (Nat.le_of_ble_eq_true rfl) (ws2 := [(b, .inr (6, [.ref q7, .ref q15, .ref q23, .ref q31, .ref q39, .ref q47, vI 0])), (q7, aI cI 20 (fun _ => 0)), (q15, aI cI 20 (fun _ => 0)), (q23, aI cI 20 (fun _ => 0)), (q31, aI cI 20 (fun _ => 0)), (q39, aI cI 20 (fun _ => 0)), (q47, aI cI 20 (fun _ => 0))]) rfl dX6_init_49 ?_
  refine gz_aload_n (pc := 52) F dX6_init_52 rfl 0 rfl ?_
  refine gz_const (pc := 53) F dX6_init_53 ?_
  refine gz_put (pc := 54) F hn_X6_init tyX6 tyX6_ok nmX6 0 6 rfl rfl 6 (by decide) iw_X6_init_fl54 rfl (ty := tyX6 6) rfl rfl rfl (Nat.le_of_ble_eq_true rfl) (ws2 := [(b, .inr (6, [.ref q7, .ref q15, .ref q23, .ref q31, .ref q39, .ref q47, vI 0])), (q7, aI cI 20 (fun _ => 0)), (q15, aI cI 20 (fun _ => 0)), (q23, aI cI 20 (fun _ => 0)), (q31, aI cI 20 (fun _ => 0)), (q39, aI cI 20 (fun _ => 0)), (q47, aI cI 20 (fun _ => 0))]) rfl dX6_init_54 ?_
  refine gz_eqw (ws2 := SwW cI (fun i => [b, q7, q15, q23, q31, q39, q47].getD i 0) Sw0) rfl ?_
  exact Z _ 57 _ dX6_init_57 rfl
