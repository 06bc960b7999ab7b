/-! ===== laid by wip/whole/gen/ctor.py ===== -/
theorem hn_X5_init : ∀ w ∈ u_ws RX5 TX5 6, w ∈ wsX5_init := by decide +kernel
theorem iw_X5_init_ob1 : Cond.methodLink RX5 3 objectInit ∈ wsX5_init := by decide +kernel
theorem iw_X5_init_ob2 : Cond.instanceMethod objectInit ∈ wsX5_init := by decide +kernel
theorem iw_X5_init_ob3 : Cond.code objectInit ⟨#[0xb1]⟩ 1 none ∈ wsX5_init := by decide +kernel
theorem iw_X5_init_clX3 : Cond.classLink RX5 9 RX3 ∈ wsX5_init := by decide +kernel
theorem iw_X5_init_insX3 : Cond.instantiable RX3 6 ∈ wsX5_init := by decide +kernel
theorem iw_X5_init_iniX3 : Cond.initialized RX3 ∈ wsX5_init := by decide +kernel
theorem hn_X5_init_X3 : ∀ w ∈ u_ws RX3 TX3 6, w ∈ wsX5_init := by decide +kernel
theorem iw_X5_init_imX3 : Cond.instanceMethod yX3_init ∈ wsX5_init := by decide +kernel
theorem iw_X5_init_fl12 : Cond.fieldLink RX5 12 (TX5 0).1 (TX5 0).2.1 (TX5 0).2.2.1 ∈ wsX5_init := by decide +kernel
theorem iw_X5_init_clX2 : Cond.classLink RX5 18 RX2 ∈ wsX5_init := by decide +kernel
theorem iw_X5_init_insX2 : Cond.instantiable RX2 5 ∈ wsX5_init := by decide +kernel
theorem iw_X5_init_iniX2 : Cond.initialized RX2 ∈ wsX5_init := by decide +kernel
theorem hn_X5_init_X2 : ∀ w ∈ u_ws RX2 TX2 5, w ∈ wsX5_init := by decide +kernel
theorem iw_X5_init_imX2 : Cond.instanceMethod yX2_init ∈ wsX5_init := by decide +kernel
theorem iw_X5_init_fl23 : Cond.fieldLink RX5 21 (TX5 1).1 (TX5 1).2.1 (TX5 1).2.2.1 ∈ wsX5_init := by decide +kernel
theorem iw_X5_init_clX1 : Cond.classLink RX5 25 RX1 ∈ wsX5_init := by decide +kernel
theorem iw_X5_init_insX1 : Cond.instantiable RX1 1 ∈ wsX5_init := by decide +kernel
theorem iw_X5_init_iniX1 : Cond.initialized RX1 ∈ wsX5_init := by decide +kernel
theorem hn_X5_init_X1 : ∀ w ∈ u_ws RX1 TX1 1, w ∈ wsX5_init := by decide +kernel
theorem iw_X5_init_imX1 : Cond.instanceMethod yX1_init ∈ wsX5_init := by decide +kernel
theorem iw_X5_init_fl34 : Cond.fieldLink RX5 28 (TX5 2).1 (TX5 2).2.1 (TX5 2).2.2.1 ∈ wsX5_init := by decide +kernel
theorem iw_X5_init_clX4 : Cond.classLink RX5 32 RX4 ∈ wsX5_init := by decide +kernel
theorem iw_X5_init_insX4 : Cond.instantiable RX4 7 ∈ wsX5_init := by decide +kernel
theorem iw_X5_init_iniX4 : Cond.initialized RX4 ∈ wsX5_init := by decide +kernel
theorem hn_X5_init_X4 : ∀ w ∈ u_ws RX4 TX4 7, w ∈ wsX5_init := by decide +kernel
theorem iw_X5_init_imX4 : Cond.instanceMethod yX4_init ∈ wsX5_init := by decide +kernel
theorem iw_X5_init_fl45 : Cond.fieldLink RX5 35 (TX5 3).1 (TX5 3).2.1 (TX5 3).2.2.1 ∈ wsX5_init := by decide +kernel
theorem iw_X5_init_clX0 : Cond.classLink RX5 39 RX0 ∈ wsX5_init := by decide +kernel
theorem iw_X5_init_insX0 : Cond.instantiable RX0 8 ∈ wsX5_init := by decide +kernel
theorem iw_X5_init_iniX0 : Cond.initialized RX0 ∈ wsX5_init := by decide +kernel
theorem hn_X5_init_X0 : ∀ w ∈ u_ws RX0 TX0 8, w ∈ wsX5_init := by decide +kernel
theorem iw_X5_init_imX0 : Cond.instanceMethod yX0_init ∈ wsX5_init := by decide +kernel
theorem iw_X5_init_fl56 : Cond.fieldLink RX5 42 (TX5 4).1 (TX5 4).2.1 (TX5 4).2.2.1 ∈ wsX5_init := by decide +kernel
theorem iw_X5_init_fl61 : Cond.fieldLink RX5 46 (TX5 5).1 (TX5 5).2.1 (TX5 5).2.2.1 ∈ wsX5_init := by decide +kernel
set_option maxHeartbeats 4000000 in
set_option maxRecDepth 100000 in
theorem cC_X5 (l : Launch) (D : va_G) (cI cJ cZ : ClassId) (b : Nat) : gz_C l yX5_init wsX5_init ({ frames := 2, cells := 28, slots := 607, locals := 32 } : Room) D cI cJ cZ b [(b, .inr (5, [.null, .null, .null, .null, .null, vI 0]))] (fun a => PlW cI cJ a Pl0) 28 607 := by
  refine gz_ofC (cc := cX5_init) (maxL := 1) (own := RX5) (by decide) rfl rfl rfl (Nat.le_of_ble_eq_true rfl) ?_
  intro p e s m args below meth c A Q F hi Z
  refine gz_aload_n (pc := 0) F dX5_init_0 rfl 0 rfl ?_
  refine gz_objInit (pc := 1) F iw_X5_init_ob1 iw_X5_init_ob2 iw_X5_init_ob3 dX5_init_1 (Nat.le_of_ble_eq_true rfl) (Nat.le_of_ble_eq_true rfl) ?_
  refine gz_aload_n (pc := 4) F dX5_init_4 rfl 0 rfl ?_
  refine gz_new (pc := 5) F hn_X5_init_X3 tyX3 tyX3_ok iw_X5_init_clX3 iw_X5_init_insX3 iw_X5_init_iniX3 3 rfl (fs := [.null, .null, .null, .null, .null, vI 0]) (fun j hj => by rcases (show j = 0 ∨ j = 1 ∨ j = 2 ∨ j = 3 ∨ j = 4 ∨ j = 5 by omega) with rfl | rfl | rfl | rfl | rfl | rfl <;> rfl) ⟨Nat.le_of_ble_eq_true rfl, Nat.le_of_ble_eq_true rfl⟩ dX5_init_5 (fun q5 => ?_)
  refine gz_dup (pc := 8) F dX5_init_8 rfl ?_
  refine gz_callC (pc := 9) (rest := [.ref q5, .ref b]) (bytes := cX3_init) (maxL := 1) F (cC_X3 l D cI cJ cZ q5) gX5_init_X3_init_n11 rfl ⟨rfl, rfl⟩ (by decide) iw_X5_init_iniX3 iw_X5_init_imX3 rfl (by decide +kernel) ⟨Nat.le_of_ble_eq_true rfl, Nat.le_of_ble_eq_true rfl⟩ [(b, .inr (5, [.null, .null, .null, .null, .null, vI 0]))] rfl (Nat.le_of_ble_eq_true rfl) ⟨Nat.le_of_ble_eq_true rfl, Nat.le_of_ble_eq_true rfl⟩ dX5_init_9 (fun a9 h9 => ?_)
  subst h9
  refine gz_putF (pc := 12) F hi hn_X5_init tyX5 tyX5_ok nmX5 0 5 rfl rfl 0 (by decide) iw_X5_init_fl12 rfl rfl (ty := tyX5 0) rfl rfl rfl (Nat.le_of_ble_eq_true rfl) (ws2 := ([(b, .inr (5, [.ref (a9 0), .null, .null, .null, .null, vI 0]))] ++ McW cI a9 Mc0)) rfl dX5_init_12 ?_
  refine gz_aload_n (pc := 15) F dX5_init_15 rfl 0 rfl ?_
  refine gz_new (pc := 16) F hn_X5_init_X2 tyX2 tyX2_ok iw_X5_init_clX2 iw_X5_init_insX2 iw_X5_init_iniX2 2 rfl (fs := [.null, .null, .null, .null, vI 0]) (fun j hj => by rcases (show j = 0 ∨ j = 1 ∨ j = 2 ∨ j = 3 ∨ j = 4 by omega) with rfl | rfl | rfl | rfl | rfl <;> rfl) ⟨Nat.le_of_ble_eq_true rfl, Nat.le_of_ble_eq_true rfl⟩ dX5_init_16 (fun q16 => ?_)
  refine gz_dup (pc := 19) F dX5_init_19 rfl ?_
  refine gz_callC (pc := 20) (rest := [.ref q16, .ref b]) (bytes := cX2_init) (maxL := 1) F (cC_X2 l D cI cJ cZ q16) gX5_init_X2_init_n20 rfl ⟨rfl, rfl⟩ (by decide) iw_X5_init_iniX2 iw_X5_init_imX2 rfl (by decide +kernel) ⟨Nat.le_of_ble_eq_true rfl, Nat.le_of_ble_eq_true rfl⟩ ([(b, .inr (5, [.ref (a9 0), .null, .null, .null, .null, vI 0]))] ++ McW cI a9 Mc0) rfl (Nat.le_of_ble_eq_true rfl) ⟨Nat.le_of_ble_eq_true rfl, Nat.le_of_ble_eq_true rfl⟩ dX5_init_20 (fun a20 h20 => ?_)
  subst h20
  refine gz_putF (pc := 23) F hi hn_X5_init tyX5 tyX5_ok nmX5 0 5 rfl rfl 1 (by decide) iw_X5_init_fl23 rfl rfl (ty := tyX5 1) rfl rfl rfl (Nat.le_of_ble_eq_true rfl) (ws2 := (([(b, .inr (5, [.ref (a9 0), .ref (a20 0), .null, .null, .null, vI 0]))] ++ McW cI a9 Mc0) ++ LoW cI a20 Lo0)) rfl dX5_init_23 ?_
  refine gz_aload_n (pc := 26) F dX5_init_26 rfl 0 rfl ?_
  refine gz_new (pc := 27) F hn_X5_init_X1 tyX1 tyX1_ok iw_X5_init_clX1 iw_X5_init_insX1 iw_X5_init_iniX1 1 rfl (fs := [.null]) (fun j hj => by rcases (show j = 0 by omega) with rfl <;> rfl) ⟨Nat.le_of_ble_eq_true rfl, Nat.le_of_ble_eq_true rfl⟩ dX5_init_27 (fun q27 => ?_)
  refine gz_dup (pc := 30) F dX5_init_30 rfl ?_
  refine gz_callC (pc := 31) (rest := [.ref q27, .ref b]) (bytes := cX1_init) (maxL := 1) F (cC_X1 l D cI cJ cZ q27) gX5_init_X1_init_n27 rfl ⟨rfl, rfl⟩ (by decide) iw_X5_init_iniX1 iw_X5_init_imX1 rfl (by decide +kernel) ⟨Nat.le_of_ble_eq_true rfl, Nat.le_of_ble_eq_true rfl⟩ (([(b, .inr (5, [.ref (a9 0), .ref (a20 0), .null, .null, .null, vI 0]))] ++ McW cI a9 Mc0) ++ LoW cI a20 Lo0) rfl (Nat.le_of_ble_eq_true rfl) ⟨Nat.le_of_ble_eq_true rfl, Nat.le_of_ble_eq_true rfl⟩ dX5_init_31 (fun a31 h31 => ?_)
  subst h31
  refine gz_putF (pc := 34) F hi hn_X5_init tyX5 tyX5_ok nmX5 0 5 rfl rfl 2 (by decide) iw_X5_init_fl34 rfl rfl (ty := tyX5 2) rfl rfl rfl (Nat.le_of_ble_eq_true rfl) (ws2 := ((([(b, .inr (5, [.ref (a9 0), .ref (a20 0), .ref (a31 0), .null, .null, vI 0]))] ++ McW cI a9 Mc0) ++ LoW cI a20 Lo0) ++ LvW cJ a31 Lv0)) rfl dX5_init_34 ?_
  refine gz_aload_n (pc := 37) F dX5_init_37 rfl 0 rfl ?_
  refine gz_new (pc := 38) F hn_X5_init_X4 tyX4 tyX4_ok iw_X5_init_clX4 iw_X5_init_insX4 iw_X5_init_iniX4 4 rfl (fs := [.null, .null, .null, .null, .null, .null, vI 0]) (fun j hj => by rcases (show j = 0 ∨ j = 1 ∨ j = 2 ∨ j = 3 ∨ j = 4 ∨ j = 5 ∨ j = 6 by omega) with rfl | rfl | rfl | rfl | rfl | rfl | rfl <;> rfl) ⟨Nat.le_of_ble_eq_true rfl, Nat.le_of_ble_eq_true rfl⟩ dX5_init_38 (fun q38 => ?_)
  refine gz_dup (pc := 41) F dX5_init_41 rfl ?_
  refine gz_callC (pc := 42) (rest := [.ref q38, .ref b]) (bytes := cX4_init) (maxL := 1) F (cC_X4 l D cI cJ cZ q38) gX5_init_X4_init_n34 rfl ⟨rfl, rfl⟩ (by decide) iw_X5_init_iniX4 iw_X5_init_imX4 rfl (by decide +kernel) ⟨Nat.le_of_ble_eq_true rfl, Nat.le_of_ble_eq_true rfl⟩ ((([(b, .inr (5, [.ref (a9 0), .ref (a20 0), .ref (a31 0), .null, .null, vI 0]))] ++ McW cI a9 Mc0) ++ LoW cI a20 Lo0) ++ LvW cJ a31 Lv0) rfl (Nat.le_of_ble_eq_true rfl) ⟨Nat.le_of_ble_eq_true rfl, Nat.le_of_ble_eq_true rfl⟩ dX5_init_42 (fun a42 h42 => ?_)
  subst h42
  refine gz_putF (pc := 45) F hi hn_X5_init tyX5 tyX5_ok nmX5 0 5 rfl rfl 3 (by decide) iw_X5_init_fl45 rfl rfl (ty := tyX5 3) rfl rfl rfl (Nat.le_of_ble_eq_true rfl) (ws2 := (((([(b, .inr (5, [.ref (a9 0), .ref (a20 0), .ref (a31 0), .ref (a42 0), .null, vI 0]))] ++ McW cI a9 Mc0) ++ LoW cI a20 Lo0) ++ LvW cJ a31 Lv0) ++ MtW cI a42 Mt0)) rfl dX5_init_45 ?_
  refine gz_aload_n (pc := 48) F dX5_init_48 rfl 0 rfl ?_
  refine gz_new (pc := 49) F hn_X5_init_X0 tyX0 tyX0_ok iw_X5_init_clX0 iw_X5_init_insX0 iw_X5_init_iniX0 0 rfl (fs := [.null, .null, .null, .null, .null, .null, .null, vI 0]) (fun j hj => by rcases (show j = 0 ∨ j = 1 ∨ j = 2 ∨ j = 3 ∨ j = 4 ∨ j = 5 ∨ j = 6 ∨ j = 7 by omega) with rfl | rfl | rfl | rfl | rfl | rfl | rfl | rfl <;> rfl) ⟨Nat.le_of_ble_eq_true rfl, Nat.le_of_ble_eq_true rfl⟩ dX5_init_49 (fun q49 => ?_)
  refine gz_dup (pc := 52) F dX5_init_52 rfl ?_
  refine gz_callC (pc := 53) (rest := [.ref q49, .ref b]) (bytes := cX0_init) (maxL := 1) F (cC_X0 l D cI cJ cZ q49) gX5_init_X0_init_n41 rfl ⟨rfl, rfl⟩ (by decide) iw_X5_init_iniX0 iw_X5_init_imX0 rfl (by decide +kernel) ⟨Nat.le_of_ble_eq_true rfl, Nat.le_of_ble_eq_true rfl⟩ (((([(b, .inr (5, [.ref (a9 0), .ref (a20 0), .ref (a31 0), .ref (a42 0), .null, vI 0]))] ++ McW cI a9 Mc0) ++ LoW cI a20 Lo0) ++ LvW cJ a31 Lv0) ++ MtW cI a42 Mt0) rfl (Nat.le_of_ble_eq_true rfl) ⟨Nat.le_of_ble_eq_true rfl, Nat.le_of_ble_eq_true rfl⟩ dX5_init_53 (fun a53 h53 => ?_)
  subst h53
  refine gz_putF (pc := 56) F hi hn_X5_init tyX5 tyX5_ok nmX5 0 5 rfl rfl 4 (by decide) iw_X5_init_fl56 rfl rfl (ty := tyX5 4) rfl rfl rfl (Nat.le_of_ble_eq_true rfl) (ws2 := ((((([(b, .inr (5, [.ref (a9 0), .ref (a20 0), .ref (a31 0), .ref (a42 0), .ref (a53 0), vI 0]))] ++ McW cI a9 Mc0) ++ LoW cI a20 Lo0) ++ LvW cJ a31 Lv0) ++ MtW cI a42 Mt0) ++ BuW cI a53 Bu0)) rfl dX5_init_56 ?_
  refine gz_aload_n (pc := 59) F dX5_init_59 rfl 0 rfl ?_
  refine gz_const (pc := 60) F dX5_init_60 ?_
  refine gz_put (pc := 61) F hn_X5_init tyX5 tyX5_ok nmX5 0 5 rfl rfl 5 (by decide) iw_X5_init_fl61 rfl (ty := tyX5 5) rfl rfl rfl (Nat.le_of_ble_eq_true rfl) (ws2 := ((((([(b, .inr (5, [.ref (a9 0), .ref (a20 0), .ref (a31 0), .ref (a42 0), .ref (a53 0), vI 0]))] ++ McW cI a9 Mc0) ++ LoW cI a20 Lo0) ++ LvW cJ a31 Lv0) ++ MtW cI a42 Mt0) ++ BuW cI a53 Bu0)) rfl dX5_init_61 ?_
  refine gz_eqw (ws2 := PlW cI cJ (fun i => [b, a9 0, a9 1, a9 2, a9 3, a9 4, a9 5, a20 0, a20 1, a20 2, a20 3, a20 4, a31 0, a31 1, a42 0, a42 1, a42 2, a42 3, a42 4, a42 5, a42 6, a53 0, a53 1, a53 2, a53 3, a53 4, a53 5, a53 6, a53 7].getD i 0) Pl0) rfl ?_
  exact Z _ 64 _ dX5_init_64 rfl
