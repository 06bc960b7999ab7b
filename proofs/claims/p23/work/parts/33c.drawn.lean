/-! ===== act, isAlike, isWhole, drawn; laid by wip/p23/gen/rest23.py ===== -/
/-! the script's ints, drawn -/
theorem and31 (x : Int32) : 0 ≤ (x &&& zI 2147483647).toInt := by
  have h : (x &&& zI 2147483647).toBitVec.msb = false := by
    rw [Int32.toBitVec_and, BitVec.msb_and, show (zI 2147483647).toBitVec.msb = false by decide, Bool.and_false]
  show 0 ≤ (x &&& zI 2147483647).toBitVec.toInt
  rw [BitVec.toInt_eq_toNat_of_msb h]
  omega
def gz_PcD (D : va_G) (cI cJ cZ : ClassId) (bs L : Nat) (xs : Nat → Int32) (sz : Nat) (As : List Value) : Array Value → State → Prop := va_Pc As (fun U => U.heap.size = sz ∧ va_K D vwCl (gz_tys cI cJ cZ) U ∧ gz_N U ∧ va_X bs L xs U U.heap ∧ bs < U.heap.size)
theorem gz_blindD (D : va_G) (cI cJ cZ : ClassId) (bs L : Nat) (xs : Nat → Int32) (sz : Nat) (As : List Value) : FrameBlind (gz_PcD D cI cJ cZ bs L xs sz As) := fun a U g mk q => by
  obtain ⟨q0, q1, qK, qN, qX, qb⟩ := q
  exact ⟨q0, q1, va_K.moved (u := U) (U := U.calling g mk a) (Vm.Alike.refl U.vm) qK, gz_N.same rfl qN, va_X.moved (u := U) (U := U.calling g mk a) (Vm.Alike.refl U.vm) qX, qb⟩
section GHD
variable {p : Program} {l : Launch} {e : Env} {R : Room} {s : State} {m : MethodId} {args : Array Value} {below : List Frame} {meth : Method} {c : Code} {D : va_G} {A : Nat → Prop} {nL : Nat} {Q : State → Prop} {cells slots g : Nat}
variable {cc : ByteArray} {own : String} {Ts : List Cond} {cI cJ cZ : ClassId} {ws : va_W} {lv : List (Nat × Value)} {st : List Value} {pc : Nat}
theorem gh_sld (F : gF p s m args c cc nL own Ts D cI cJ cZ A) {bs L : Nat} {xs : Nat → Int32} (hX : va_X bs L xs s s.heap) (hbl : bs < s.heap.size) (hbA : ¬ A bs) {j : Int} (hj : 0 ≤ j ∧ j < (L : Int)) (hL : L < 2147483648) (d : decode cc pc = .ok (.iaload, 1)) (kk : gH g p l e R s m args below meth c D A nL Q cells slots ws lv (vI (xs j.toNat).toInt :: st) (pc + 1)) : gH g p l e R s m args below meth c D A nL Q cells slots ws lv (vI j :: .ref bs :: st) pc :=
  fun H locs ls hg hP hD hS hl => va_sld F.1 F.2.1 hX hbl hbA hS (zI_in hj hL) d (by
    rw [zI_cl ⟨by omega, by omega⟩, ← zI_of (xs j.toNat)]
    exact kk H locs ls hg hP hD hS hl)
theorem gh_callD (F : gF p s m args c cc nL own Ts D cI cJ cZ A) {bs L : Nat} {xs : Nat → Int32} (hX : va_X bs L xs s s.heap) (hbl : bs < s.heap.size) (hbA : ¬ A bs) {y : MethodName} {bytes : ByteArray} {maxL n index : Nat} {ret : Option FieldType} {wsy wsy' : List Cond} {rm : Room} {As rest : List Value} {post : Option Value → va_W → Nat → Prop}
    (hM : ∀ sz : Nat, vx_Met l y wsy rm (gz_PcD D cI cJ cZ bs L xs sz As) (gz_QG D [] sz post) (gz_XC D [] sz (fun _ => False)) 0 0 (va_A [] sz)) (hG : GoodIn Ts (va_wsS own index y wsy)) (hw : wsy = Cond.code y bytes maxL ret :: wsy') (hrm : rm.cells = 0 ∧ rm.slots = 0)
    (hd : y.cls ≠ "java/lang/invoke/MethodHandle" ∧ y.cls ≠ "java/lang/invoke/VarHandle" ∧ (parseMethodDescriptor y.desc).map (fun d => d.parameters.length) = some n) (hR : rm.frames + 1 ≤ R.frames ∧ 8 + (maxL + 11) + rm.locals ≤ R.locals)
    (hn : As.length = n) (hst : st = As.reverse ++ rest) (hroom : (rest.map fun v => v.category).sum ≤ 8) (hcs : cells ≤ R.cells ∧ slots ≤ R.slots) (hpost : ∀ v W1 g1, post v W1 g1 → W1 = []) (d : decode cc pc = .ok (.invokestatic index, 3))
    (kk : ∀ v g1, post v [] g1 → gH (g + g1) p l e R s m args below meth c D A nL Q cells slots ws lv (v.toList ++ rest) (pc + 3)) : gH g p l e R s m args below meth c D A nL Q cells slots ws lv st pc := by
  intro H locs ls hg hP hD hS hl
  obtain ⟨hx, hb, hml, hown, hts, hK, hN, hA⟩ := F
  exact gh_coreX (W0 := []) (mc := 0) (ms := 0) (vx_runS (As := As) (rest := rest) ⟨hx, hb, hml, hown, hts⟩ (hM H.size) (va_cwS n hts hG hw hrm.1 hrm.2 hd hR) ⟨gz_blindD D cI cJ cZ bs L xs H.size _, fun U hU hW => ⟨rfl, by rw [hU], va_K.moved hW.alike hK, gz_N.warm hW hN, by rw [hU]; exact (hX.kept (hS.2.1 bs hbl hbA)).moved hW.alike, by rw [hU]; exact Nat.lt_of_lt_of_le hbl hS.1⟩⟩ rfl hn hl.1 hst (lv_room hroom) d hcs) hA hg hP hD hS hl [] rfl (fun v W1 g1 h => by rw [hpost v W1 g1 h]) (fun v W1 g1 h => by
    have h2 := hpost v W1 g1 h
    subst h2
    exact kk v g1 h)
end GHD
theorem knL_drawn_84 : Cond.constant RL 84 (zI 15526823) ∈ wsL_drawn := by decide +kernel
theorem knL_drawn_85 : Cond.constant RL 85 (zI 2147483647) ∈ wsL_drawn := by decide +kernel
set_option maxHeartbeats 8000000 in
theorem dr (l : Launch) (hfl : l.stackTraces = false) (D : va_G) (cI cJ cZ : ClassId) (bs L : Nat) (xs : Nat → Int32) (hL : L < 2147483648) (k : Int) (hk : 0 ≤ k ∧ k ≤ 100) : ∀ sz : Nat, vx_Met l yL_drawn wsL_drawn { frames := 0, cells := 0, slots := 0, locals := 0 } (gz_PcD D cI cJ cZ bs L xs sz [.ref bs, vI k]) (gz_QG D [] sz (fun v W1 g => (∃ q : Int, v = some (vI q) ∧ 0 ≤ q ∧ q < 2147483648) ∧ W1 = [] ∧ g = 0)) (gz_XC D [] sz (fun _ => False)) 0 0 (va_A [] sz) := by
  intro sz
  refine vx_ofW (cc := cL_drawn) (maxL := 2) (ret := some .int) (by decide) rfl ?_
  intro p e s m args below meth c s₁ B hml htab hv
  obtain ⟨rfl, hsz, hK, hN, hX, hbl⟩ := hv
  have hts := atoms_spec (ws := wsL_drawn) B.pre
  have hown : s.vm.findClass RL = some m.cls := findClass_of_methodNamed B.named
  subst hsz
  have hl := lv_entry [.ref bs, vI k] (n := 2) (Nat.le_of_ble_eq_true rfl)
  have hr := B.returns
  have hlocks := B.notSynchronized
  have hbA : ¬ va_A [] s.heap.size bs := fun h => by
    rcases h with ⟨j, e2, h⟩ | h
    · simp at h
    · omega
  have F : gF p s m [.ref bs, vI k].toArray c cL_drawn 2 RL wsL_drawn D cI cJ cZ (va_A [] s.heap.size) := ⟨B.exec, B.bytes, hml, hown, hts, hK, hN, fun q h => Or.inr h⟩
  have J : ∀ (w : Int) (lv : List (Nat × Value)), gH 0 p l e ({ frames := 0, cells := 0, slots := 0, locals := 0 } : Room) s m [.ref bs, vI k].toArray below meth c D (va_A [] s.heap.size) 2 (vx_MQ below (gz_QG D [] s.heap.size (fun v W1 g => (∃ q : Int, v = some (vI q) ∧ 0 ≤ q ∧ q < 2147483648) ∧ W1 = [] ∧ g = 0)) (gz_XC D [] s.heap.size (fun _ => False)) [.ref bs, vI k].toArray s 0 0 (va_A [] s.heap.size)) 0 0 [] lv [vI w] 22 := by
    intro w lv
    refine gh_ldc (pc := 22) (v := 2147483647) F knL_drawn_85 dL_drawn_22 ?_
    refine gh_iand (pc := 24) (v := (zI w &&& zI 2147483647).toInt) F dL_drawn_24 (zI_of _).symm ?_
    intro H locs ls hg hP hD hS hl2
    exact vx_ret (W.zret B.exec B.bytes hr rfl (fun t ht hW => ⟨⟨_, [], 0, rfl, ⟨⟨_, rfl, and31 _, (zI_rng _).2⟩, rfl, rfl⟩, by rw [ht]; exact hP, ⟨fun i j p q h => by simp at h, fun k q h => by simp at h⟩, by rw [ht]; exact hg⟩, hS.F ht⟩) hS.2.2 dL_drawn_25 hlocks)
  rw [lg_entry_eq]
  refine (?_ : gH 0 p l e ({ frames := 0, cells := 0, slots := 0, locals := 0 } : Room) s m [.ref bs, vI k].toArray below meth c D (va_A [] s.heap.size) 2 (vx_MQ below (gz_QG D [] s.heap.size (fun v W1 g => (∃ q : Int, v = some (vI q) ∧ 0 ≤ q ∧ q < 2147483648) ∧ W1 = [] ∧ g = 0)) (gz_XC D [] s.heap.size (fun _ => False)) [.ref bs, vI k].toArray s 0 0 (va_A [] s.heap.size)) 0 0 [] [(0, .ref bs), (1, vI k)] [] 0) s.heap [] _ (Nat.le_refl _) (fun k q h => by simp at h) ⟨fun i j p q h => by simp at h, fun k q h => by simp at h⟩ va_S.rf hl
  refine gh_iload_n (pc := 0) F dL_drawn_0 rfl 1 rfl ?_
  refine gh_aload_n (pc := 1) F dL_drawn_1 rfl 0 rfl ?_
  refine gh_slen (pc := 2) F hX hbl hbA dL_drawn_2 ?_
  refine gh_icmp_ge (pc := 3) (tgt := 12) F dL_drawn_3 (by decide) (by omega) (by omega) (fun hq => ?_) (fun hq => ?_)
  · refine gh_ldc (pc := 12) (v := 15526823) F knL_drawn_84 dL_drawn_12 ?_
    refine gh_iload_n (pc := 14) F dL_drawn_14 rfl 1 rfl ?_
    refine gh_const (pc := 15) F dL_drawn_15 ?_
    refine gh_iadd (pc := 16) (z := k + 3) F dL_drawn_16 rfl ?_
    refine gh_imul (pc := 17) (z := 15526823 * (k + 3)) F dL_drawn_17 rfl ?_
    refine gh_sipush (pc := 18) F dL_drawn_18 (by decide) ?_
    refine gh_iadd (pc := 21) (z := 15526823 * (k + 3) + 14831) F dL_drawn_21 rfl ?_
    exact J _ _
  · refine gh_aload_n (pc := 6) F dL_drawn_6 rfl 0 rfl ?_
    refine gh_iload_n (pc := 7) F dL_drawn_7 rfl 1 rfl ?_
    refine gh_sld (pc := 8) F hX hbl hbA ⟨by omega, by omega⟩ hL dL_drawn_8 ?_
    refine gh_goto (pc := 9) (tgt := 22) F dL_drawn_9 (by decide) ?_
    exact J _ _
