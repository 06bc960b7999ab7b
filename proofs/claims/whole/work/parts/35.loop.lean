/-! ===== the loop; laid by wip/whole/gen/start.py ===== -/
theorem arr_K {s : State} {args : Array Value} {ty : FieldType} (h : (Cond.arrayClass ty).before args s = true) : ∃ cA : ClassId, ArrOfT s cA ty ∧ s.vm.findClass ("[" ++ ty.toString) = some cA := by
  obtain ⟨cA, kA, comp, h1, h2, h3⟩ := Cond.arrayClass_spec h
  exact ⟨cA, fun n z => ⟨fun k h => (by cases h), kA, h2, comp, h3⟩, h1⟩
theorem str_R {s : State} {args : Array Value} {k : Nat} {tx : String} {cur : ClassId} (hc : s.vm.findClass RX8 = some cur) (h : (Cond.stringRef RX8 k tx).before args s = true) : ∃ sa, vk_R RX8 k tx sa s := by
  obtain ⟨-, -, -, sa, -, -, -, -, -, hev⟩ := Cond.stringRef_spec hc h
  exact ⟨sa, vk_R.of h hev⟩
section GZR
variable {p : Program} {l : Launch} {e : Env} {s : State} {m : MethodId} {args : Array Value} {below : List Frame} {meth : Method} {c : Code} {D : va_G} {A : Nat → Prop} {Q : State → Prop} {cells slots : Nat}
variable {cI cJ cZ : ClassId}
variable {R : Room} {nL : Nat} {ws : va_W} {lv : List (Nat × Value)} {st : List Value} {pc : Nat}
theorem gz_rot {X Y Z : va_W} (k : gG p l e R s m args below meth c D A nL Q cells slots (Y ++ (X ++ Z)) lv st pc) : gG p l e R s m args below meth c D A nL Q cells slots ((X ++ Y) ++ Z) lv st pc := fun H locs ls hP hD hS hl =>
  k H locs ls (va_P.swap (a := []) (b := X ++ Z) (c := Y) (va_P.swap (a := X) (b := Y) (c := Z) hP)) (va_D.swap (a := []) (b := X ++ Z) (c := Y) (va_D.swap (a := X) (b := Y) (c := Z) hD)) hS hl
set_option maxHeartbeats 4000000 in
set_option maxRecDepth 100000 in
/-- the loop: with j calls read, the class and the model stand alike -/
theorem law_loop (hfl : l.stackTraces = false) (F : gF p s m args c cL_law 7 RL wsL_law D cI cJ cZ A) (FX : gFX l s A) (NC : gz_NC s) {bs L : Nat} {xs : Nat → Int32} (hX : va_X bs L xs s s.heap) (hbl : bs < s.heap.size) (hbA : ¬ A bs) (hL : L ≤ 2560) {a b : Nat → Nat} {o : Nat} {c0 s0 : Nat} (hc0 : c0 + 512 ≤ 1139) (hs0 : s0 + 3072 ≤ 13920)
    (kx : ∀ (cells slots : Nat) (ws : va_W) (lv : List (Nat × Value)), cells ≤ 1139 → slots ≤ 13920 → gG p l e room_1 s m args below meth c D A 7 Q cells slots ws lv [] 1433) :
    ∀ (n j : Nat) (i : Int) (r : RiS) (u : MdS) (f : Nat → Int64), 512 ≤ j + n → j ≤ 512 → i = 5 * (j : Int) → RR j r u → gG p l e room_1 s m args below meth c D A 7 Q (c0 + j) (s0 + 6 * j) (LwW cI cJ cZ a b o r u f) (lvS bs (a 0) (b 0) o i) [] 23 := by
  have hL2 : L < 2147483648 := by omega
  have head : ∀ (cells slots : Nat) (ws : va_W) (i : Int), 0 ≤ i ∧ i ≤ 2560 → cells ≤ 1139 → slots ≤ 13920 → (i + 5 ≤ (L : Int) → gG p l e room_1 s m args below meth c D A 7 Q cells slots ws (lvS bs (a 0) (b 0) o i) [] 32) → gG p l e room_1 s m args below meth c D A 7 Q cells slots ws (lvS bs (a 0) (b 0) o i) [] 23 := by
    intro cells slots ws i hi h1 h2 kc
    refine gz_iload (pc := 23) F dL_law_23 4 rfl ?_
    refine gz_aload_n (pc := 25) F dL_law_25 rfl 0 rfl ?_
    refine gz_slen (pc := 26) F hX hbl hbA dL_law_26 ?_
    refine gz_const (pc := 27) F dL_law_27 ?_
    refine gz_isub (pc := 28) F dL_law_28 ?_
    exact gz_icmp_gt (pc := 29) (tgt := 1433) F dL_law_29 (by decide) (by omega) (by omega) (fun _ => kx _ _ _ _ h1 h2) (fun q => kc (by omega))
  intro n
  induction n with
  | zero =>
    intro j i r u f hn hj hi h
    exact head _ _ _ i (by omega) (by omega) (by omega) (fun q => absurd q (by omega))
  | succ n ih =>
    intro j i r u f hn hj hi h
    refine head _ _ _ i (by omega) (by omega) (by omega) (fun hi5 => ?_)
    have hj2 : j < 512 := by omega
    refine gz_aload_n (pc := 32) F dL_law_32 rfl 0 rfl ?_
    refine gz_iload (pc := 33) F dL_law_33 4 rfl ?_
    refine gz_sld (pc := 35) F hX hbl hbA ⟨by omega, by omega⟩ hL2 dL_law_35 ?_
    refine gz_bipush (pc := 36) F dL_law_36 (by decide) ?_
    obtain ⟨w, hw⟩ : ∃ w : Int, w = (zI (sv xs i) &&& zI 31).toInt := ⟨_, rfl⟩
    have hwr := zI_rng (zI (sv xs i) &&& zI 31)
    rw [← hw] at hwr
    refine gz_iand (pc := 38) (v := w) F dL_law_38 (by rw [hw]; exact (zI_of _).symm) ?_
    have kk : ∀ (r2 : RiS) (u2 : MdS) (f2 : Nat → Int64), RR (j + 1) r2 u2 → gG p l e room_1 s m args below meth c D A 7 Q (c0 + j + 1) (s0 + 6 * j + 6) (LwW cI cJ cZ a b o r2 u2 f2) (lvS bs (a 0) (b 0) o i) [] 1427 := by
      intro r2 u2 f2 h2
      refine gz_iinc (pc := 1427) (n := 5) (lv2 := [(4, vI (i + 5)), (0, .ref bs), (1, .ref (a 0)), (2, .ref (b 0)), (3, .ref o)]) F dL_law_1427 4 rfl (by decide) rfl ?_
      refine gz_goto (pc := 1430) (tgt := 23) F dL_law_1430 (by decide) ?_
      refine gz_lv (lv2 := lvS bs (a 0) (b 0) o (i + 5)) [1, 2, 3, 4, 0] rfl ?_
      have h3 := ih (j + 1) (i + 5) r2 u2 f2 (by omega) (by omega) (by omega) h2
      rw [show s0 + 6 * (j + 1) = s0 + 6 * j + 6 by omega, show c0 + (j + 1) = c0 + j + 1 by omega] at h3
      exact h3
    by_cases hout : w < 0 ∨ 19 < w
    · exact gz_tabOut (pc := 39) (tgt := 1427) F dL_law_39 hwr hout (by decide) (gz_widen (Nat.le_add_right _ 1) (Nat.le_add_right _ 6) (kk r u f (RR_up h)))
    rcases (show w = 0 ∨ w = 1 ∨ w = 2 ∨ w = 3 ∨ w = 4 ∨ w = 5 ∨ w = 6 ∨ w = 7 ∨ w = 8 ∨ w = 9 ∨ w = 10 ∨ w = 11 ∨ w = 12 ∨ w = 13 ∨ w = 14 ∨ w = 15 ∨ w = 16 ∨ w = 17 ∨ w = 18 ∨ w = 19 by omega) with hk | hk | hk | hk | hk | hk | hk | hk | hk | hk | hk | hk | hk | hk | hk | hk | hk | hk | hk | hk
    · exact gz_tabIn (pc := 39) (tgt := 132) (k := 0) (off := 93) F dL_law_39 (by omega) (by decide) rfl (by decide) (law_k0 hfl F FX NC hX hbl hbA hL2 h hj2 ⟨by omega, hi5⟩ ⟨by omega, by omega⟩ kk)
    · exact gz_tabIn (pc := 39) (tgt := 200) (k := 1) (off := 161) F dL_law_39 (by omega) (by decide) rfl (by decide) (law_k1 hfl F FX NC hX hbl hbA hL2 h hj2 ⟨by omega, hi5⟩ ⟨by omega, by omega⟩ kk)
    · exact gz_tabIn (pc := 39) (tgt := 260) (k := 2) (off := 221) F dL_law_39 (by omega) (by decide) rfl (by decide) (law_k2 hfl F FX NC hX hbl hbA hL2 h hj2 ⟨by omega, hi5⟩ ⟨by omega, by omega⟩ kk)
    · exact gz_tabIn (pc := 39) (tgt := 332) (k := 3) (off := 293) F dL_law_39 (by omega) (by decide) rfl (by decide) (law_k3 hfl F FX NC hX hbl hbA hL2 h hj2 ⟨by omega, hi5⟩ ⟨by omega, by omega⟩ kk)
    · exact gz_tabIn (pc := 39) (tgt := 400) (k := 4) (off := 361) F dL_law_39 (by omega) (by decide) rfl (by decide) (law_k4 hfl F FX NC hX hbl hbA hL2 h hj2 ⟨by omega, hi5⟩ ⟨by omega, by omega⟩ kk)
    · exact gz_tabIn (pc := 39) (tgt := 492) (k := 5) (off := 453) F dL_law_39 (by omega) (by decide) rfl (by decide) (law_k5 hfl F FX NC hX hbl hbA hL2 h hj2 ⟨by omega, hi5⟩ ⟨by omega, by omega⟩ kk)
    · exact gz_tabIn (pc := 39) (tgt := 567) (k := 6) (off := 528) F dL_law_39 (by omega) (by decide) rfl (by decide) (law_k6 hfl F FX NC hX hbl hbA hL2 h hj2 ⟨by omega, hi5⟩ ⟨by omega, by omega⟩ kk)
    · exact gz_tabIn (pc := 39) (tgt := 603) (k := 7) (off := 564) F dL_law_39 (by omega) (by decide) rfl (by decide) (law_k7 hfl F FX NC hX hbl hbA hL2 h hj2 ⟨by omega, hi5⟩ ⟨by omega, by omega⟩ kk)
    · exact gz_tabIn (pc := 39) (tgt := 671) (k := 8) (off := 632) F dL_law_39 (by omega) (by decide) rfl (by decide) (law_k8 hfl F FX NC hX hbl hbA hL2 h hj2 ⟨by omega, hi5⟩ ⟨by omega, by omega⟩ kk)
    · exact gz_tabIn (pc := 39) (tgt := 739) (k := 9) (off := 700) F dL_law_39 (by omega) (by decide) rfl (by decide) (law_k9 hfl F FX NC hX hbl hbA hL2 h hj2 ⟨by omega, hi5⟩ ⟨by omega, by omega⟩ kk)
    · exact gz_tabIn (pc := 39) (tgt := 819) (k := 10) (off := 780) F dL_law_39 (by omega) (by decide) rfl (by decide) (law_k10 hfl F FX NC hX hbl hbA hL2 h hj2 ⟨by omega, hi5⟩ ⟨by omega, by omega⟩ kk)
    · exact gz_tabIn (pc := 39) (tgt := 887) (k := 11) (off := 848) F dL_law_39 (by omega) (by decide) rfl (by decide) (law_k11 hfl F FX NC hX hbl hbA hL2 h hj2 ⟨by omega, hi5⟩ ⟨by omega, by omega⟩ kk)
    · exact gz_tabIn (pc := 39) (tgt := 943) (k := 12) (off := 904) F dL_law_39 (by omega) (by decide) rfl (by decide) (law_k12 hfl F FX NC hX hbl hbA hL2 h hj2 ⟨by omega, hi5⟩ ⟨by omega, by omega⟩ kk)
    · exact gz_tabIn (pc := 39) (tgt := 956) (k := 13) (off := 917) F dL_law_39 (by omega) (by decide) rfl (by decide) (law_k13 hfl F FX NC hX hbl hbA hL2 h hj2 ⟨by omega, hi5⟩ ⟨by omega, by omega⟩ kk)
    · exact gz_tabIn (pc := 39) (tgt := 1024) (k := 14) (off := 985) F dL_law_39 (by omega) (by decide) rfl (by decide) (law_k14 hfl F FX NC hX hbl hbA hL2 h hj2 ⟨by omega, hi5⟩ ⟨by omega, by omega⟩ kk)
    · exact gz_tabIn (pc := 39) (tgt := 1080) (k := 15) (off := 1041) F dL_law_39 (by omega) (by decide) rfl (by decide) (law_k15 hfl F FX NC hX hbl hbA hL2 h hj2 ⟨by omega, hi5⟩ ⟨by omega, by omega⟩ kk)
    · exact gz_tabIn (pc := 39) (tgt := 1148) (k := 16) (off := 1109) F dL_law_39 (by omega) (by decide) rfl (by decide) (law_k16 hfl F FX NC hX hbl hbA hL2 h hj2 ⟨by omega, hi5⟩ ⟨by omega, by omega⟩ kk)
    · exact gz_tabIn (pc := 39) (tgt := 1204) (k := 17) (off := 1165) F dL_law_39 (by omega) (by decide) rfl (by decide) (law_k17 hfl F FX NC hX hbl hbA hL2 h hj2 ⟨by omega, hi5⟩ ⟨by omega, by omega⟩ kk)
    · exact gz_tabIn (pc := 39) (tgt := 1272) (k := 18) (off := 1233) F dL_law_39 (by omega) (by decide) rfl (by decide) (law_k18 hfl F FX NC hX hbl hbA hL2 h hj2 ⟨by omega, hi5⟩ ⟨by omega, by omega⟩ kk)
    · exact gz_tabIn (pc := 39) (tgt := 1347) (k := 19) (off := 1308) F dL_law_39 (by omega) (by decide) rfl (by decide) (law_k19 hfl F FX NC hX hbl hbA hL2 h hj2 ⟨by omega, hi5⟩ ⟨by omega, by omega⟩ kk)
end GZR
