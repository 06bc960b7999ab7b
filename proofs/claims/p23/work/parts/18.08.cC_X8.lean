/-! ===== laid by wip/whole/gen/ctor.py ===== -/
theorem hn_X8_init : ∀ w ∈ u_ws RX8 TX8 4, w ∈ wsX8_init := by decide +kernel
theorem iw_X8_init_ob1 : Cond.methodLink RX8 1 objectInit ∈ wsX8_init := by decide +kernel
theorem iw_X8_init_ob2 : Cond.instanceMethod objectInit ∈ wsX8_init := by decide +kernel
theorem iw_X8_init_ob3 : Cond.code objectInit ⟨#[0xb1]⟩ 1 none ∈ wsX8_init := by decide +kernel
theorem iw_X8_init_clX5 : Cond.classLink RX8 7 RX5 ∈ wsX8_init := by decide +kernel
theorem iw_X8_init_insX5 : Cond.instantiable RX5 6 ∈ wsX8_init := by decide +kernel
theorem iw_X8_init_iniX5 : Cond.initialized RX5 ∈ wsX8_init := by decide +kernel
theorem hn_X8_init_X5 : ∀ w ∈ u_ws RX5 TX5 6, w ∈ wsX8_init := by decide +kernel
theorem iw_X8_init_imX5 : Cond.instanceMethod yX5_init ∈ wsX8_init := by decide +kernel
theorem iw_X8_init_fl12 : Cond.fieldLink RX8 10 (TX8 0).1 (TX8 0).2.1 (TX8 0).2.2.1 ∈ wsX8_init := by decide +kernel
theorem iw_X8_init_fl23 : Cond.fieldLink RX8 16 (TX8 1).1 (TX8 1).2.1 (TX8 1).2.2.1 ∈ wsX8_init := by decide +kernel
theorem iw_X8_init_clX7 : Cond.classLink RX8 19 RX7 ∈ wsX8_init := by decide +kernel
theorem iw_X8_init_insX7 : Cond.instantiable RX7 7 ∈ wsX8_init := by decide +kernel
theorem iw_X8_init_iniX7 : Cond.initialized RX7 ∈ wsX8_init := by decide +kernel
theorem hn_X8_init_X7 : ∀ w ∈ u_ws RX7 TX7 7, w ∈ wsX8_init := by decide +kernel
theorem iw_X8_init_imX7 : Cond.instanceMethod yX7_init ∈ wsX8_init := by decide +kernel
theorem iw_X8_init_fl34 : Cond.fieldLink RX8 22 (TX8 2).1 (TX8 2).2.1 (TX8 2).2.2.1 ∈ wsX8_init := by decide +kernel
theorem iw_X8_init_clX6 : Cond.classLink RX8 26 RX6 ∈ wsX8_init := by decide +kernel
theorem iw_X8_init_insX6 : Cond.instantiable RX6 7 ∈ wsX8_init := by decide +kernel
theorem iw_X8_init_iniX6 : Cond.initialized RX6 ∈ wsX8_init := by decide +kernel
theorem hn_X8_init_X6 : ∀ w ∈ u_ws RX6 TX6 7, w ∈ wsX8_init := by decide +kernel
theorem iw_X8_init_imX6 : Cond.instanceMethod yX6_init ∈ wsX8_init := by decide +kernel
theorem iw_X8_init_fl45 : Cond.fieldLink RX8 29 (TX8 3).1 (TX8 3).2.1 (TX8 3).2.2.1 ∈ wsX8_init := by decide +kernel
set_option maxHeartbeats 4000000 in
set_option maxRecDepth 100000 in
theorem cC_X8 (l : Launch) (D : va_G) (cI cJ cZ : ClassId) (b : Nat) : gz_C l yX8_init wsX8_init ({ frames := 3, cells := 72, slots := 4432, locals := 52 } : Room) D cI cJ cZ b [(b, .inr (8, [.null, .null, .null, .null]))] (fun a => RiW cI cJ a Ri0) 72 4432 := by
  refine gz_ofC (cc := cX8_init) (maxL := 1) (own := RX8) (by decide) rfl rfl rfl (Nat.le_of_ble_eq_true rfl) ?_
  intro p e s m args below meth c A Q F hi Z
  refine gz_aload_n (pc := 0) F dX8_init_0 rfl 0 rfl ?_
  refine gz_objInit (pc := 1) F iw_X8_init_ob1 iw_X8_init_ob2 iw_X8_init_ob3 dX8_init_1 (Nat.le_of_ble_eq_true rfl) (Nat.le_of_ble_eq_true rfl) ?_
  refine gz_aload_n (pc := 4) F dX8_init_4 rfl 0 rfl ?_
  refine gz_new (pc := 5) F hn_X8_init_X5 tyX5 tyX5_ok iw_X8_init_clX5 iw_X8_init_insX5 iw_X8_init_iniX5 5 rfl (fs := [.null, .null, .null, .null, .null, vI 0]) (fun j hj => by rcases (show j = 0 ∨ j = 1 ∨ j = 2 ∨ j = 3 ∨ j = 4 ∨ j = 5 by omega) with rfl | rfl | rfl | rfl | rfl | rfl <;> rfl) ⟨Nat.le_of_ble_eq_true rfl, Nat.le_of_ble_eq_true rfl⟩ dX8_init_5 (fun q5 => ?_)
  refine gz_dup (pc := 8) F dX8_init_8 rfl ?_
  refine gz_callC (pc := 9) (rest := [.ref q5, .ref b]) (bytes := cX5_init) (maxL := 1) F (cC_X5 l D cI cJ cZ q5) gX8_init_X5_init_n9 rfl ⟨rfl, rfl⟩ (by decide) iw_X8_init_iniX5 iw_X8_init_imX5 rfl (by decide +kernel) ⟨Nat.le_of_ble_eq_true rfl, Nat.le_of_ble_eq_true rfl⟩ [(b, .inr (8, [.null, .null, .null, .null]))] rfl (Nat.le_of_ble_eq_true rfl) ⟨Nat.le_of_ble_eq_true rfl, Nat.le_of_ble_eq_true rfl⟩ dX8_init_9 (fun a9 h9 => ?_)
  subst h9
  refine gz_putF (pc := 12) F hi hn_X8_init tyX8 tyX8_ok nmX8 0 8 rfl rfl 0 (by decide) iw_X8_init_fl12 rfl rfl (ty := tyX8 0) rfl rfl rfl (Nat.le_of_ble_eq_true rfl) (ws2 := ([(b, .inr (8, [.ref (a9 0), .null, .null, .null]))] ++ PlW cI cJ a9 Pl0)) rfl dX8_init_12 ?_
  refine gz_aload_n (pc := 15) F dX8_init_15 rfl 0 rfl ?_
  refine gz_new (pc := 16) F hn_X8_init_X5 tyX5 tyX5_ok iw_X8_init_clX5 iw_X8_init_insX5 iw_X8_init_iniX5 5 rfl (fs := [.null, .null, .null, .null, .null, vI 0]) (fun j hj => by rcases (show j = 0 ∨ j = 1 ∨ j = 2 ∨ j = 3 ∨ j = 4 ∨ j = 5 by omega) with rfl | rfl | rfl | rfl | rfl | rfl <;> rfl) ⟨Nat.le_of_ble_eq_true rfl, Nat.le_of_ble_eq_true rfl⟩ dX8_init_16 (fun q16 => ?_)
  refine gz_dup (pc := 19) F dX8_init_19 rfl ?_
  refine gz_callC (pc := 20) (rest := [.ref q16, .ref b]) (bytes := cX5_init) (maxL := 1) F (cC_X5 l D cI cJ cZ q16) gX8_init_X5_init_n9 rfl ⟨rfl, rfl⟩ (by decide) iw_X8_init_iniX5 iw_X8_init_imX5 rfl (by decide +kernel) ⟨Nat.le_of_ble_eq_true rfl, Nat.le_of_ble_eq_true rfl⟩ ([(b, .inr (8, [.ref (a9 0), .null, .null, .null]))] ++ PlW cI cJ a9 Pl0) rfl (Nat.le_of_ble_eq_true rfl) ⟨Nat.le_of_ble_eq_true rfl, Nat.le_of_ble_eq_true rfl⟩ dX8_init_20 (fun a20 h20 => ?_)
  subst h20
  refine gz_putF (pc := 23) F hi hn_X8_init tyX8 tyX8_ok nmX8 0 8 rfl rfl 1 (by decide) iw_X8_init_fl23 rfl rfl (ty := tyX8 1) rfl rfl rfl (Nat.le_of_ble_eq_true rfl) (ws2 := (([(b, .inr (8, [.ref (a9 0), .ref (a20 0), .null, .null]))] ++ PlW cI cJ a9 Pl0) ++ PlW cI cJ a20 Pl0)) rfl dX8_init_23 ?_
  refine gz_aload_n (pc := 26) F dX8_init_26 rfl 0 rfl ?_
  refine gz_new (pc := 27) F hn_X8_init_X7 tyX7 tyX7_ok iw_X8_init_clX7 iw_X8_init_insX7 iw_X8_init_iniX7 7 rfl (fs := [.null, .null, .null, .null, .null, .null, vI 0]) (fun j hj => by rcases (show j = 0 ∨ j = 1 ∨ j = 2 ∨ j = 3 ∨ j = 4 ∨ j = 5 ∨ j = 6 by omega) with rfl | rfl | rfl | rfl | rfl | rfl | rfl <;> rfl) ⟨Nat.le_of_ble_eq_true rfl, Nat.le_of_ble_eq_true rfl⟩ dX8_init_27 (fun q27 => ?_)
  refine gz_dup (pc := 30) F dX8_init_30 rfl ?_
  refine gz_callC (pc := 31) (rest := [.ref q27, .ref b]) (bytes := cX7_init) (maxL := 1) F (cC_X7 l D cI cJ cZ q27) gX8_init_X7_init_n21 rfl ⟨rfl, rfl⟩ (by decide) iw_X8_init_iniX7 iw_X8_init_imX7 rfl (by decide +kernel) ⟨Nat.le_of_ble_eq_true rfl, Nat.le_of_ble_eq_true rfl⟩ (([(b, .inr (8, [.ref (a9 0), .ref (a20 0), .null, .null]))] ++ PlW cI cJ a9 Pl0) ++ PlW cI cJ a20 Pl0) rfl (Nat.le_of_ble_eq_true rfl) ⟨Nat.le_of_ble_eq_true rfl, Nat.le_of_ble_eq_true rfl⟩ dX8_init_31 (fun a31 h31 => ?_)
  subst h31
  refine gz_putF (pc := 34) F hi hn_X8_init tyX8 tyX8_ok nmX8 0 8 rfl rfl 2 (by decide) iw_X8_init_fl34 rfl rfl (ty := tyX8 2) rfl rfl rfl (Nat.le_of_ble_eq_true rfl) (ws2 := ((([(b, .inr (8, [.ref (a9 0), .ref (a20 0), .ref (a31 0), .null]))] ++ PlW cI cJ a9 Pl0) ++ PlW cI cJ a20 Pl0) ++ ToW cI a31 To0)) rfl dX8_init_34 ?_
  refine gz_aload_n (pc := 37) F dX8_init_37 rfl 0 rfl ?_
  refine gz_new (pc := 38) F hn_X8_init_X6 tyX6 tyX6_ok iw_X8_init_clX6 iw_X8_init_insX6 iw_X8_init_iniX6 6 rfl (fs := [.null, .null, .null, .null, .null, .null, vI 0]) (fun j hj => by rcases (show j = 0 ∨ j = 1 ∨ j = 2 ∨ j = 3 ∨ j = 4 ∨ j = 5 ∨ j = 6 by omega) with rfl | rfl | rfl | rfl | rfl | rfl | rfl <;> rfl) ⟨Nat.le_of_ble_eq_true rfl, Nat.le_of_ble_eq_true rfl⟩ dX8_init_38 (fun q38 => ?_)
  refine gz_dup (pc := 41) F dX8_init_41 rfl ?_
  refine gz_callC (pc := 42) (rest := [.ref q38, .ref b]) (bytes := cX6_init) (maxL := 1) F (cC_X6 l D cI cJ cZ q38) gX8_init_X6_init_n28 rfl ⟨rfl, rfl⟩ (by decide) iw_X8_init_iniX6 iw_X8_init_imX6 rfl (by decide +kernel) ⟨Nat.le_of_ble_eq_true rfl, Nat.le_of_ble_eq_true rfl⟩ ((([(b, .inr (8, [.ref (a9 0), .ref (a20 0), .ref (a31 0), .null]))] ++ PlW cI cJ a9 Pl0) ++ PlW cI cJ a20 Pl0) ++ ToW cI a31 To0) rfl (Nat.le_of_ble_eq_true rfl) ⟨Nat.le_of_ble_eq_true rfl, Nat.le_of_ble_eq_true rfl⟩ dX8_init_42 (fun a42 h42 => ?_)
  subst h42
  refine gz_putF (pc := 45) F hi hn_X8_init tyX8 tyX8_ok nmX8 0 8 rfl rfl 3 (by decide) iw_X8_init_fl45 rfl rfl (ty := tyX8 3) rfl rfl rfl (Nat.le_of_ble_eq_true rfl) (ws2 := (((([(b, .inr (8, [.ref (a9 0), .ref (a20 0), .ref (a31 0), .ref (a42 0)]))] ++ PlW cI cJ a9 Pl0) ++ PlW cI cJ a20 Pl0) ++ ToW cI a31 To0) ++ SwW cI a42 Sw0)) rfl dX8_init_45 ?_
  refine gz_eqw (ws2 := RiW cI cJ (fun i => [b, a9 0, a9 1, a9 2, a9 3, a9 4, a9 5, a9 6, a9 7, a9 8, a9 9, a9 10, a9 11, a9 12, a9 13, a9 14, a9 15, a9 16, a9 17, a9 18, a9 19, a9 20, a9 21, a9 22, a9 23, a9 24, a9 25, a9 26, a9 27, a9 28, a20 0, a20 1, a20 2, a20 3, a20 4, a20 5, a20 6, a20 7, a20 8, a20 9, a20 10, a20 11, a20 12, a20 13, a20 14, a20 15, a20 16, a20 17, a20 18, a20 19, a20 20, a20 21, a20 22, a20 23, a20 24, a20 25, a20 26, a20 27, a20 28, a31 0, a31 1, a31 2, a31 3, a31 4, a31 5, a31 6, a42 0, a42 1, a42 2, a42 3, a42 4, a42 5, a42 6].getD i 0) Ri0) rfl ?_
  exact Z _ 48 _ dX8_init_48 rfl
