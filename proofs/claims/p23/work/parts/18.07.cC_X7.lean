/-! ===== laid by wip/whole/gen/ctor.py ===== -/
theorem hn_X7_init : ∀ w ∈ u_ws RX7 TX7 7, w ∈ wsX7_init := by decide +kernel
theorem iw_X7_init_ob1 : Cond.methodLink RX7 3 objectInit ∈ wsX7_init := by decide +kernel
theorem iw_X7_init_ob2 : Cond.instanceMethod objectInit ∈ wsX7_init := by decide +kernel
theorem iw_X7_init_ob3 : Cond.code objectInit ⟨#[0xb1]⟩ 1 none ∈ wsX7_init := by decide +kernel
theorem iw_X7_init_arI : Cond.arrayClass .int ∈ wsX7_init := by decide +kernel
theorem iw_X7_init_fl10 : Cond.fieldLink RX7 9 (TX7 0).1 (TX7 0).2.1 (TX7 0).2.2.1 ∈ wsX7_init := by decide +kernel
theorem iw_X7_init_fl19 : Cond.fieldLink RX7 15 (TX7 1).1 (TX7 1).2.1 (TX7 1).2.2.1 ∈ wsX7_init := by decide +kernel
theorem iw_X7_init_fl28 : Cond.fieldLink RX7 18 (TX7 2).1 (TX7 2).2.1 (TX7 2).2.2.1 ∈ wsX7_init := by decide +kernel
theorem iw_X7_init_fl37 : Cond.fieldLink RX7 21 (TX7 3).1 (TX7 3).2.1 (TX7 3).2.2.1 ∈ wsX7_init := by decide +kernel
theorem iw_X7_init_fl46 : Cond.fieldLink RX7 24 (TX7 4).1 (TX7 4).2.1 (TX7 4).2.2.1 ∈ wsX7_init := by decide +kernel
theorem iw_X7_init_fl55 : Cond.fieldLink RX7 27 (TX7 5).1 (TX7 5).2.1 (TX7 5).2.2.1 ∈ wsX7_init := by decide +kernel
theorem iw_X7_init_fl60 : Cond.fieldLink RX7 30 (TX7 6).1 (TX7 6).2.1 (TX7 6).2.2.1 ∈ wsX7_init := by decide +kernel
set_option maxHeartbeats 4000000 in
set_option maxRecDepth 100000 in
theorem cC_X7 (l : Launch) (D : va_G) (cI cJ cZ : ClassId) (b : Nat) : gz_C l yX7_init wsX7_init ({ frames := 1, cells := 6, slots := 3072, locals := 12 } : Room) D cI cJ cZ b [(b, .inr (7, [.null, .null, .null, .null, .null, .null, vI 0]))] (fun a => ToW cI a To0) 6 3072 := by
  refine gz_ofC (cc := cX7_init) (maxL := 1) (own := RX7) (by decide) rfl rfl rfl (Nat.le_of_ble_eq_true rfl) ?_
  intro p e s m args below meth c A Q F hi Z
  refine gz_aload_n (pc := 0) F dX7_init_0 rfl 0 rfl ?_
  refine gz_objInit (pc := 1) F iw_X7_init_ob1 iw_X7_init_ob2 iw_X7_init_ob3 dX7_init_1 (Nat.le_of_ble_eq_true rfl) (Nat.le_of_ble_eq_true rfl) ?_
  refine gz_aload_n (pc := 4) F dX7_init_4 rfl 0 rfl ?_
  refine gz_sipush (pc := 5) F dX7_init_5 (by decide) ?_
  refine gz_newI (pc := 8) F 512 iw_X7_init_arI (by decide) ⟨Nat.le_of_ble_eq_true rfl, Nat.le_of_ble_eq_true rfl⟩ dX7_init_8 (fun q8 => ?_)
  refine gz_eqw (ws2 := [(b, .inr (7, [.null, .null, .null, .null, .null, .null, vI 0])), (q8, aI cI 512 (fun _ => 0))]) rfl ?_
  refine gz_putF (pc := 10) F hi hn_X7_init tyX7 tyX7_ok nmX7 0 7 rfl rfl 0 (by decide) iw_X7_init_fl10 rfl rfl (ty := tyX7 0) rfl rfl rfl (Nat.le_of_ble_eq_true rfl) (ws2 := [(b, .inr (7, [.ref q8, .null, .null, .null, .null, .null, vI 0])), (q8, aI cI 512 (fun _ => 0))]) rfl dX7_init_10 ?_
  refine gz_aload_n (pc := 13) F dX7_init_13 rfl 0 rfl ?_
  refine gz_sipush (pc := 14) F dX7_init_14 (by decide) ?_
  refine gz_newI (pc := 17) F 512 iw_X7_init_arI (by decide) ⟨Nat.le_of_ble_eq_true rfl, Nat.le_of_ble_eq_true rfl⟩ dX7_init_17 (fun q17 => ?_)
  refine gz_eqw (ws2 := [(b, .inr (7, [.ref q8, .null, .null, .null, .null, .null, vI 0])), (q8, aI cI 512 (fun _ => 0)), (q17, aI cI 512 (fun _ => 0))]) rfl ?_
  refine gz_putF (pc := 19) F hi hn_X7_init tyX7 tyX7_ok nmX7 0 7 rfl rfl 1 (by decide) iw_X7_init_fl19 rfl rfl (ty := tyX7 1) rfl rfl rfl (Nat.le_of_ble_eq_true rfl) (ws2 := [(b, .inr (7, [.ref q8, .ref q17, .null, .null, .null, .null, vI 0])), (q8, aI cI 512 (fun _ => 0)), (q17, aI cI 512 (fun _ => 0))]) rfl dX7_init_19 ?_
  refine gz_aload_n (pc := 22) F dX7_init_22 rfl 0 rfl ?_
  refine gz_sipush (pc := 23) F dX7_init_23 (by decide) ?_
  refine gz_newI (pc := 26) F 512 iw_X7_init_arI (by decide) ⟨Nat.le_of_ble_eq_true rfl, Nat.le_of_ble_eq_true rfl⟩ dX7_init_26 (fun q26 => ?_)
  refine gz_eqw (ws2 := [(b, .inr (7, [.ref q8, .ref q17, .null, .null, .null, .null, vI 0])), (q8, aI cI 512 (fun _ => 0)), (q17, aI cI 512 (fun _ => 0)), (q26, aI cI 512 (fun _ => 0))]) rfl ?_
  refine gz_putF (pc := 28) F hi hn_X7_init tyX7 tyX7_ok nmX7 0 7 rfl rfl 2 (by decide) iw_X7_init_fl28 rfl rfl (ty := tyX7 2) rfl rfl rfl (Nat.le_of_ble_eq_true rfl) (ws2 := [(b, .inr (7, [.ref q8, .ref q17, .ref q26, .null, .null, .null, vI 0])), (q8, aI cI 512 (fun _ => 0)), (q17, aI cI 512 (fun _ => 0)), (q26, aI cI 512 (fun _ => 0))]) rfl dX7_init_28 ?_
  refine gz_aload_n (pc := 31) F dX7_init_31 rfl 0 rfl ?_
  refine gz_sipush (pc := 32) F dX7_init_32 (by decide) ?_
  refine gz_newI (pc := 35) F 512 iw_X7_init_arI (by decide) ⟨Nat.le_of_ble_eq_true rfl, Nat.le_of_ble_eq_true rfl⟩ dX7_init_35 (fun q35 => ?_)
  refine gz_eqw (ws2 := [(b, .inr (7, [.ref q8, .ref q17, .ref q26, .null, .null, .null, vI 0])), (q8, aI cI 512 (fun _ => 0)), (q17, aI cI 512 (fun _ => 0)), (q26, aI cI 512 (fun _ => 0)), (q35, aI cI 512 (fun _ => 0))]) rfl ?_
  refine gz_putF (pc := 37) F hi hn_X7_init tyX7 tyX7_ok nmX7 0 7 rfl rfl 3 (by decide) iw_X7_init_fl37 rfl rfl (ty := tyX7 3) rfl rfl rfl (Nat.le_of_ble_eq_true rfl) (ws2 := [(b, .inr (7, [.ref q8, .ref q17, .ref q26, .ref q35, .null, .null, vI 0])), (q8, aI cI 512 (fun _ => 0)), (q17, aI cI 512 (fun _ => 0)), (q26, aI cI 512 (fun _ => 0)), (q35, aI cI 512 (fun _ => 0))]) rfl dX7_init_37 ?_
  refine gz_aload_n (pc := 40) F dX7_init_40 rfl 0 rfl ?_
  refine gz_sipush (pc := 41) F dX7_init_41 (by decide) ?_
  refine gz_newI (pc := 44) F 512 iw_X7_init_arI (by decide) ⟨Nat.le_of_ble_eq_true rfl, Nat.le_of_ble_eq_true rfl⟩ dX7_init_44 (fun q44 => ?_)
  refine gz_eqw (ws2 := [(b, .inr (7, [.ref q8, .ref q17, .ref q26, .ref q35, .null, .null, vI 0])), (q8, aI cI 512 (fun _ => 0)), (q17, aI cI 512 (fun _ => 0)), (q26, aI cI 512 (fun _ => 0)), (q35, aI cI 512 (fun _ => 0)), (q44, aI cI 512 (fun _ => 0))]) rfl ?_
  refine gz_putF (pc := 46) F hi hn_X7_init tyX7 tyX7_ok nmX7 0 7 rfl rfl 4 (by decide) iw_X7_init_fl46 rfl rfl (ty := tyX7 4) rfl rfl rfl (Nat.le_of_ble_eq_true rfl) (ws2 := [(b, .inr (7, [.ref q8, .ref q17, .ref q26, .ref q35, .ref q44, .null, vI 0])), (q8, aI cI 512 (fun _ => 0)), (q17, aI cI 512 (fun _ => 0)), (q26, aI cI 512 (fun _ => 0)), (q35, aI cI 512 (fun _ => 0)), (q44, aI cI 512 (fun _ => 0))]) rfl dX7_init_46 ?_
  refine gz_aload_n (pc := 49) F dX7_init_49 rfl 0 rfl ?_
  refine gz_sipush (pc := 50) F dX7_init_50 (by decide) ?_
  refine gz_newI (pc := 53) F 512 iw_X7_init_arI (by decide) ⟨Nat.le_of_ble_eq_true rfl, Nat.le_of_ble_eq_true rfl⟩ dX7_init_53 (fun q53 => ?_)
  refine gz_eqw (ws2 := [(b, .inr (7, [.ref q8, .ref q17, .ref q26, .ref q35, .ref q44, .null, vI 0])), (q8, aI cI 512 (fun _ => 0)), (q17, aI cI 512 (fun _ => 0)), (q26, aI cI 512 (fun _ => 0)), (q35, aI cI 512 (fun _ => 0)), (q44, aI cI 512 (fun _ => 0)), (q53, aI cI 512 (fun _ => 0))]) rfl ?_
  refine gz_putF (pc := 55) F hi hn_X7_init tyX7 tyX7_ok nmX7 0 7 rfl rfl 5 (by decide) iw_X7_init_fl55 rfl rfl (ty := tyX7 5) rfl rfl rfl (Nat.le_of_ble_eq_true rfl) (ws2 := [(b, .inr (7, [.ref q8, .ref q17, .ref q26, .ref q35, .ref q44, .ref q53, vI 0])), (q8, aI cI 512 (fun _ => 0)), (q17, aI cI 512 (fun _ => 0)), (q26, aI cI 512 (fun _ => 0)), (q35, aI cI 512 (fun _ => 0)), (q44, aI cI 512 (fun _ => 0)), (q53, aI cI 512 (fun _ => 0))]) rfl dX7_init_55 ?_
  refine gz_aload_n (pc := 58) F dX7_init_58 rfl 0 rfl ?_
  refine gz_const (pc := 59) F dX7_init_59 ?_
  refine gz_put (pc := 60) F hn_X7_init tyX7 tyX7_ok nmX7 0 7 rfl rfl 6 (by decide) iw_X7_init_fl60 rfl (ty := tyX7 6) rfl rfl rfl (Nat.le_of_ble_eq_true rfl) (ws2 := [(b, .inr (7, [.ref q8, .ref q17, .ref q26, .ref q35, .ref q44, .ref q53, vI 0])), (q8, aI cI 512 (fun _ => 0)), (q17, aI cI 512 (fun _ => 0)), (q26, aI cI 512 (fun _ => 0)), (q35, aI cI 512 (fun _ => 0)), (q44, aI cI 512 (fun _ => 0)), (q53, aI cI 512 (fun _ => 0))]) rfl dX7_init_60 ?_
  refine gz_eqw (ws2 := ToW cI (fun i => [b, q8, q17, q26, q35, q44, q53].getD i 0) To0) rfl ?_
  exact Z _ 63 _ dX7_init_63 rfl
