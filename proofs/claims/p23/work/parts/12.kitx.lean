/-! ===== methods that throw ===== -/
def gz_names : List String := ["java/lang/RuntimeException", "java/lang/Exception"]
def gz_exc : List String := ["java/lang/IndexOutOfBoundsException", "java/lang/IllegalArgumentException", "java/lang/IllegalStateException"]
def gz_strs : List (Nat × String) := [(114, "a swap is of two meetings"), (178, "nothing of a meeting has this number"), (187, "nothing of a build has this number"), (210, "no char is there"), (219, "an argument is out of range"), (224, "a meeting is on one day"), (228, "as things are, this cannot be"), (231, "no such person"), (234, "no such machine"), (237, "no such meeting"), (239, "no such swap"), (241, "no such build")]
def gz_decl : List String := ["java/lang/RuntimeException", "java/lang/Exception", "java/lang/Throwable"]
def gz_XB (U : State) : Prop := (∀ Y ∈ gz_decl, va_Nw (.declares (Bundle.initS Y)) U) ∧ (∀ X ∈ gz_exc, va_Nw (.castable X X) U) ∧ ∀ q ∈ gz_strs, ∃ sa, vk_R RX8 q.1 q.2 sa U
theorem gz_XB.same {u U : State} (h : u.vm = U.vm) (k : gz_XB u) : gz_XB U := ⟨fun Y hY => va_Nw.same rfl h (k.1 Y hY), fun X hX => va_Nw.same rfl h (k.2.1 X hX), fun q hq => by
  obtain ⟨sa, h1⟩ := k.2.2 q hq
  exact ⟨sa, vk_R.same h.symm h1⟩⟩
theorem gz_XB.warm {s U : State} (hW : s.WarmedH U.vm) (k : gz_XB s) : gz_XB U := ⟨fun Y hY => va_Nw.warmD hW (k.1 Y hY), fun X hX => va_Nw.warmC hW (k.2.1 X hX), fun q hq => by
  obtain ⟨sa, h1⟩ := k.2.2 q hq
  exact ⟨sa, vk_R.warm hW h1⟩⟩
def gz_bad (X : String) : List Cond := [.declares (Bundle.initS "java/lang/RuntimeException"), .declares (Bundle.initS "java/lang/Exception"), .declares (Bundle.initS "java/lang/Throwable"), .castable X X]
theorem gz_XB.bad {s : State} {args : Array Value} (k : gz_XB s) {X : String} (hX : X ∈ gz_exc) : ∀ w ∈ gz_bad X, w.before args s = true := by
  have h0 : ∀ Y ∈ gz_decl, (Cond.declares (Bundle.initS Y)).before args s = true := fun Y hY => va_Nw.use rfl (k.1 Y hY)
  have h1 : (Cond.castable X X).before args s = true := va_Nw.use rfl (k.2.1 X hX)
  intro w hw
  simp only [gz_bad, List.mem_cons, List.not_mem_nil, or_false] at hw
  rcases hw with rfl | rfl | rfl | rfl
  · exact h0 _ (by decide)
  · exact h0 _ (by decide)
  · exact h0 _ (by decide)
  · exact h1
/-- the two statics that a throw reads -/
def gz_Z (A : Nat → Prop) (U : State) (H : Heap) : Prop := vx_Zq Bundle.tN "UNASSIGNED_STACK" Bundle.steD A U H ∧ vx_Zq Bundle.tN "SUPPRESSED_SENTINEL" Bundle.listD A U H
theorem gz_Z.moved {A : Nat → Prop} {u U : State} {H : Heap} (hvm : u.vm.Alike U.vm) (h : gz_Z A u H) : gz_Z A U H := ⟨h.1.moved hvm, h.2.moved hvm⟩
theorem gz_Z.kept {A : Nat → Prop} {U : State} {H H1 : Heap} (h : gz_Z A U H) (hq : ∀ a : Nat, a < H.size → ¬ A a → H1[a]? = H[a]?) : gz_Z A U H1 := ⟨h.1.kept hq, h.2.kept hq⟩
theorem gz_Z.narrow {A B : Nat → Prop} {U : State} {H : Heap} (h : gz_Z A U H) (hAB : ∀ q, B q → A q) : gz_Z B U H := ⟨h.1.narrow hAB, h.2.narrow hAB⟩
def gz_PcX (D : va_G) (cI cJ cZ : ClassId) (W0 : va_W) (sz : Nat) (As : List Value) : Array Value → State → Prop := va_Pc As (fun U => (U.heap.size = sz ∧ va_P D vwCl W0 U.heap ∧ va_K D vwCl (gz_tys cI cJ cZ) U ∧ va_D (fun _ => True) W0 ∧ gz_N U) ∧ gz_XB U ∧ gz_Z (va_A W0 sz) U U.heap)
theorem gz_blindX (D : va_G) (cI cJ cZ : ClassId) (W0 : va_W) (sz : Nat) (As : List Value) : FrameBlind (gz_PcX D cI cJ cZ W0 sz As) := fun a U g mk q => by
  obtain ⟨q0, ⟨q1, qP, qK, qD, qN⟩, qX, qZ⟩ := q
  exact ⟨q0, ⟨q1, qP, va_K.moved (u := U) (U := U.calling g mk a) (Vm.Alike.refl U.vm) qK, qD, gz_N.same rfl qN⟩, gz_XB.same rfl qX, gz_Z.moved (u := U) (U := U.calling g mk a) (Vm.Alike.refl U.vm) qZ⟩
def gz_XC (D : va_G) (W0 : va_W) (sz : Nat) (px : String → Prop) : String → State → State → Prop := fun E st t => px E ∧ va_P D vwCl W0 t.heap ∧ va_F (va_A W0 sz) st t ∧ st.heap.size < t.heap.size
/-- a contract of a method that returns or throws; it throws before it changes anything -/
def gz_X (l : Launch) (y : MethodName) (wsy : List Cond) (rm : Room) (D : va_G) (cI cJ cZ : ClassId) (As : List Value) (W0 : va_W) (post : Option Value → va_W → Prop) (px : String → Prop) : Prop :=
  ∀ sz : Nat, vx_Met l y wsy rm (gz_PcX D cI cJ cZ W0 sz As) (gz_Qc D W0 sz post) (gz_XC D W0 sz px) 1 6 (va_A W0 sz)
section GZX
variable {p : Program} {l : Launch} {e : Env} {R : Room} {s : State} {m : MethodId} {args : Array Value} {below : List Frame} {meth : Method} {c : Code} {D : va_G} {A : Nat → Prop} {nL : Nat} {Q : State → Prop} {cells slots : Nat}
/-- q of class E is thrown over the frame -/
def gGx (p : Program) (l : Launch) (e : Env) (R : Room) (s : State) (m : MethodId) (args : Array Value) (below : List Frame) (meth : Method) (c : Code) (D : va_G) (A : Nat → Prop) (nL : Nat) (Q : State → Prop) (cells slots : Nat) (ws : va_W) (lv : List (Nat × Value)) (st : List Value) (pc : Nat) (E : String) : Prop :=
  ∀ (H : Heap) (locs : List Loc) (ls : Array Slot) (q : Addr) (ce : Cell), va_P D vwCl ws H → va_D A ws → va_S A s.heap H locs → lv_has ls nL lv → s.heap.size < H.size → H[q]? = some ce → ce.vm = .none → s.vm.findClass E = some ce.cls → vx_W p l e R s m args below meth c H locs cells slots Q (F0 m pc ls st) q
variable {cc : ByteArray} {own : String} {Ts : List Cond} {cI cJ cZ : ClassId} {ws : va_W} {lv : List (Nat × Value)} {st : List Value} {pc : Nat}
theorem gz_coreX {W0 : va_W} {post : Option Value → va_W → Prop} {px : String → Prop} {rest st0 : List Value} {a : Array Value} {H : Heap} {locs : List Loc} {ls : Array Slot} (hr : vx_Run p l e R s m args below meth c H locs cells slots 1 6 (F0 m pc ls st0) rest (gz_Qc D W0 H.size post a) (gz_XC D W0 H.size px) (va_A W0 H.size)) (hA : ∀ q, s.heap.size ≤ q → A q) (hP : va_P D vwCl ws H) (hD : va_D A ws) (hS : va_S A s.heap H locs) (hl : lv_has ls nL lv) (isC : List Nat) (hC : isC.map (fun i => ws[i]?) = W0.map some) (hsh : ∀ v W1, post v W1 → W1.map Prod.fst = W0.map Prod.fst)
    (kk : ∀ v W1, post v W1 → gG p l e R s m args below meth c D A nL Q (cells + 1) (slots + 6) (gz_pw ws isC W1) lv (v.toList ++ rest) (pc + 3))
    (kx : ∀ E, px E → gGx p l e R s m args below meth c D A nL Q (cells + 1) (slots + 6) ws lv rest pc E) : W p l e R s m args below meth c H locs cells slots Q (F0 m pc ls st0) := by
  intro T hT X
  have hFc : ∀ q, va_A W0 H.size q → A q := va_free hD hS hA isC hC
  rcases hr T hT X with ⟨v, st₀, t, T', L, h0, X', hL, e1, e2, ⟨⟨v1, W1, hv, hpost, hP1, hD1⟩, hz, hk⟩, st9⟩ | ⟨q, st₀, t, T', L, E, ce, h0, X', hL, e1, e2, ⟨hpx, hP1, ⟨hz, hk⟩, hgr⟩, hce, hcv, hcl, st9⟩
  · cases hv
    rw [h0] at hz hk
    obtain ⟨hP2, hD2⟩ := gz_putP (H1 := T'.heap) hP hD hC (hsh v W1 hpost) (fun q h1 h2 => by rw [e1]; exact hk q h1 h2) (by rw [e1]; exact hP1)
    obtain ⟨t2, a1, b1⟩ := kk v W1 hpost T'.heap (locs ++ L) ls hP2 hD2
      ⟨Nat.le_trans hS.1 (by rw [e1]; exact hz), fun q h1 h2 => by rw [e1, hk q (Nat.lt_of_lt_of_le h1 hS.1) (fun z => h2 (hFc q z))]; exact hS.2.1 q h1 h2, fun q hq => by
        rcases List.mem_append.mp hq with h | h
        · exact hS.2.2 q h
        · exact hFc _ (hL q h)⟩ hl T' rfl X'
    exact ⟨t2, st9 t2 a1, b1⟩
  · rw [h0] at hz hk hgr
    obtain ⟨hP2, hD2⟩ := gz_putP (H1 := T'.heap) (W1 := W0) hP hD hC rfl (fun q h1 h2 => by rw [e1]; exact hk q h1 h2) (by rw [e1]; exact hP1)
    rw [gz_pw_id isC W0 ws hC] at hP2 hD2
    obtain ⟨t2, a1, b1⟩ := kx E hpx T'.heap (locs ++ L) ls q ce hP2 hD2
      ⟨Nat.le_trans hS.1 (by rw [e1]; exact hz), fun q h1 h2 => by rw [e1, hk q (Nat.lt_of_lt_of_le h1 hS.1) (fun z => h2 (hFc q z))]; exact hS.2.1 q h1 h2, fun q hq => by
        rcases List.mem_append.mp hq with h | h
        · exact hS.2.2 q h
        · exact hFc _ (hL q h)⟩ hl (Nat.lt_of_le_of_lt hS.1 (by rw [e1]; exact hgr)) (by rw [e1]; exact hce) hcv hcl T' rfl X'
    exact ⟨t2, st9.trans a1, b1⟩
theorem gz_preX {W0 : va_W} {As : List Value} {H : Heap} {locs : List Loc} {isC : List Nat} (hK : va_K D vwCl (gz_tys cI cJ cZ) s) (hN : gz_N s) (hB : gz_XB s) (hZ : gz_Z A s s.heap) (hA : ∀ q, s.heap.size ≤ q → A q) (hP : va_P D vwCl ws H) (hD : va_D A ws) (hS : va_S A s.heap H locs) (hC : isC.map (fun i => ws[i]?) = W0.map some) (hnd : va_nd isC = true) : ∀ U : State, U.heap = H → s.WarmedH U.vm → gz_PcX D cI cJ cZ W0 H.size As As.toArray U := fun U hU hW =>
  ⟨rfl, ⟨by rw [hU], by rw [hU]; exact gz_subP hC hP, va_K.moved hW.alike hK, (hD.sub isC hnd hC).weaken (fun _ _ _ _ => trivial), gz_N.warm hW hN⟩, gz_XB.warm hW hB, by
    rw [hU]
    exact ((hZ.kept hS.2.1).narrow (va_free hD hS hA isC hC)).moved hW.alike⟩
/-- what a method that throws rests on beside gF -/
def gFX (l : Launch) (s : State) (A : Nat → Prop) : Prop := l.stackTraces = false ∧ gz_XB s ∧ gz_Z A s s.heap
theorem gz_callVX (F : gF p s m args c cc nL own Ts D cI cJ cZ A) (FX : gFX l s A) {y : MethodName} {bytes : ByteArray} {maxL n index : Nat} {ret : Option FieldType} {wsy wsy' : List Cond} {rm : Room} {C : String} {b : Nat} {As rest : List Value} {W0 : va_W} {post : Option Value → va_W → Prop} {px : String → Prop}
    (hM : gz_X l y wsy rm D cI cJ cZ (.ref b :: As) W0 post px) (hG : GoodIn Ts (wsV own index C y wsy)) (hw : wsy = Cond.code y bytes maxL ret :: wsy') (hrm : rm.cells = 1 ∧ rm.slots = 6)
    (hd : y.cls = C ∧ y.cls ≠ "java/lang/invoke/MethodHandle" ∧ y.cls ≠ "java/lang/invoke/VarHandle" ∧ (parseMethodDescriptor y.desc).map (fun d => d.parameters.length) = some n) (hR : rm.frames + 1 ≤ R.frames ∧ 8 + (maxL + 11) + rm.locals ≤ R.locals)
    (hn : As.length = n) (isC : List Nat) (hC : isC.map (fun i => ws[i]?) = W0.map some) (hnd : va_nd isC = true) (q0 ci : Nat) {fs : List Value} {T : u_T} {N : Nat} (he : ws[q0]? = some (b, .inr (ci, fs))) (hc : vwCl[ci]? = some (C, T, N)) (hst : st = As.reverse ++ .ref b :: rest) (hroom : (rest.map fun v => v.category).sum ≤ 8) (hcs : cells + 1 ≤ R.cells ∧ slots + 6 ≤ R.slots) (hsh : ∀ v W1, post v W1 → W1.map Prod.fst = W0.map Prod.fst) (d : decode cc pc = .ok (.invokevirtual index, 3))
    (kk : ∀ v W1, post v W1 → gG p l e R s m args below meth c D A nL Q (cells + 1) (slots + 6) (gz_pw ws isC W1) lv (v.toList ++ rest) (pc + 3))
    (kx : ∀ E, px E → gGx p l e R s m args below meth c D A nL Q (cells + 1) (slots + 6) ws lv rest pc E) : gG p l e R s m args below meth c D A nL Q cells slots ws lv st pc := by
  intro H locs ls hP hD hS hl
  obtain ⟨hx, hb, hml, hown, hts, hK, hN, hA⟩ := F
  exact gz_coreX (vx_runV (As := As) (rest := rest) ⟨hx, hb, hml, hown, hts⟩ (hM H.size) (cwV n hts hG hw hrm.1 hrm.2 hd hR) ⟨gz_blindX D cI cJ cZ W0 H.size _, va_recv hK hP hc he, gz_preX hK hN FX.2.1 FX.2.2 hA hP hD hS hC hnd⟩ rfl hn hl.1 hst (lv_room hroom) d hcs) hA hP hD hS hl isC hC hsh kk kx
theorem gz_callSX (F : gF p s m args c cc nL own Ts D cI cJ cZ A) (FX : gFX l s A) {y : MethodName} {bytes : ByteArray} {maxL n index : Nat} {ret : Option FieldType} {wsy wsy' : List Cond} {rm : Room} {As rest : List Value} {W0 : va_W} {post : Option Value → va_W → Prop} {px : String → Prop}
    (hM : gz_X l y wsy rm D cI cJ cZ As W0 post px) (hG : GoodIn Ts (va_wsS own index y wsy)) (hw : wsy = Cond.code y bytes maxL ret :: wsy') (hrm : rm.cells = 1 ∧ rm.slots = 6)
    (hd : y.cls ≠ "java/lang/invoke/MethodHandle" ∧ y.cls ≠ "java/lang/invoke/VarHandle" ∧ (parseMethodDescriptor y.desc).map (fun d => d.parameters.length) = some n) (hR : rm.frames + 1 ≤ R.frames ∧ 8 + (maxL + 11) + rm.locals ≤ R.locals)
    (hn : As.length = n) (isC : List Nat) (hC : isC.map (fun i => ws[i]?) = W0.map some) (hnd : va_nd isC = true) (hst : st = As.reverse ++ rest) (hroom : (rest.map fun v => v.category).sum ≤ 8) (hcs : cells + 1 ≤ R.cells ∧ slots + 6 ≤ R.slots) (hsh : ∀ v W1, post v W1 → W1.map Prod.fst = W0.map Prod.fst) (d : decode cc pc = .ok (.invokestatic index, 3))
    (kk : ∀ v W1, post v W1 → gG p l e R s m args below meth c D A nL Q (cells + 1) (slots + 6) (gz_pw ws isC W1) lv (v.toList ++ rest) (pc + 3))
    (kx : ∀ E, px E → gGx p l e R s m args below meth c D A nL Q (cells + 1) (slots + 6) ws lv rest pc E) : gG p l e R s m args below meth c D A nL Q cells slots ws lv st pc := by
  intro H locs ls hP hD hS hl
  obtain ⟨hx, hb, hml, hown, hts, hK, hN, hA⟩ := F
  exact gz_coreX (vx_runS (As := As) (rest := rest) ⟨hx, hb, hml, hown, hts⟩ (hM H.size) (va_cwS n hts hG hw hrm.1 hrm.2 hd hR) ⟨gz_blindX D cI cJ cZ W0 H.size _, gz_preX hK hN FX.2.1 FX.2.2 hA hP hD hS hC hnd⟩ rfl hn hl.1 hst (lv_room hroom) d hcs) hA hP hD hS hl isC hC hsh kk kx
theorem gz_callVXb (F : gF p s m args c cc nL own Ts D cI cJ cZ A) (FX : gFX l s A) {y : MethodName} {bytes : ByteArray} {maxL n index : Nat} {ret : Option FieldType} {wsy wsy' : List Cond} {rm : Room} {C : String} {b : Nat} {As rest : List Value} {W0 : va_W} {post : Option Value → va_W → Prop} {px : String → Prop}
    (hM : gz_X l y wsy rm D cI cJ cZ (.ref b :: As) W0 post px) (hG : GoodIn Ts (wsV own index C y wsy)) (hw : wsy = Cond.code y bytes maxL ret :: wsy') (hrm : rm.cells = 1 ∧ rm.slots = 6)
    (hd : y.cls = C ∧ y.cls ≠ "java/lang/invoke/MethodHandle" ∧ y.cls ≠ "java/lang/invoke/VarHandle" ∧ (parseMethodDescriptor y.desc).map (fun d => d.parameters.length) = some n) (hR : rm.frames + 1 ≤ R.frames ∧ 8 + (maxL + 11) + rm.locals ≤ R.locals)
    (hn : As.length = n) (X Y : va_W) (hws : ws = X ++ (W0 ++ Y)) (ci : Nat) {fs : List Value} {T : u_T} {N : Nat} (he : W0[0]? = some (b, .inr (ci, fs))) (hc : vwCl[ci]? = some (C, T, N)) (hst : st = As.reverse ++ .ref b :: rest) (hroom : (rest.map fun v => v.category).sum ≤ 8) (hcs : cells + 1 ≤ R.cells ∧ slots + 6 ≤ R.slots) (hsh : ∀ v W1, post v W1 → W1.map Prod.fst = W0.map Prod.fst) (d : decode cc pc = .ok (.invokevirtual index, 3))
    (kk : ∀ v W1, post v W1 → gG p l e R s m args below meth c D A nL Q (cells + 1) (slots + 6) (X ++ (W1 ++ Y)) lv (v.toList ++ rest) (pc + 3))
    (kx : ∀ E, px E → gGx p l e R s m args below meth c D A nL Q (cells + 1) (slots + 6) ws lv rest pc E) : gG p l e R s m args below meth c D A nL Q cells slots ws lv st pc := by
  subst hws
  refine gz_callVX F FX hM hG hw hrm hd hR hn (List.range' X.length W0.length) (gz_midC X W0 Y) (gz_range_nd _ _) X.length ci (fs := fs) ?_ hc hst hroom hcs hsh d (fun v W1 h => ?_) kx
  · have hlt : 0 < W0.length := (List.getElem?_eq_some_iff.mp he).1
    rw [List.getElem?_append_right (Nat.le_refl _), Nat.sub_self, List.getElem?_append_left hlt]
    exact he
  · rw [gz_pw_mid W0 W1 X Y (by have h1 := congrArg List.length (hsh v W1 h); simpa using h1)]
    exact kk v W1 h
/-- what a body that may throw owes: 'throw new E(text)', and what a callee threw -/
def gz_RT (p : Program) (l : Launch) (e : Env) (R : Room) (s : State) (m : MethodId) (args : Array Value) (below : List Frame) (meth : Method) (c : Code) (D : va_G) (A : Nat → Prop) (nL : Nat) (Q : State → Prop) (cc : ByteArray) (own : String) (Ts : List Cond) (W0 : va_W) (px : String → Prop) : Prop :=
  ∀ (lv : List (Nat × Value)) (st : List Value) (pc : Nat) (cls text : String) (ik is ic : Nat), px cls → cls ∈ gz_exc → (is, text) ∈ gz_strs → own = RX8 → Cond.classLink own ik cls ∈ Ts → Cond.initialized cls ∈ Ts → (∀ w ∈ (vx_atS own ic cls gz_names).filter goodWord, w ∈ Ts) → (∀ w ∈ (vx_atS own ic cls gz_names).filter (fun w => !goodWord w), w ∈ gz_bad cls) →
    (∀ w ∈ Cond.classLink own ik cls :: Cond.initialized cls :: vx_atS own ic cls gz_names, vx_ot w = true) → decode cc pc = .ok (.new ik, 3) → decode cc (pc + 3) = .ok (.dup, 1) → decode cc (pc + 4) = .ok (.ldc is, 2) → decode cc (pc + 6) = .ok (.invokespecial ic, 3) → decode cc (pc + 9) = .ok (.athrow, 1) →
    5 < R.frames → (st.map fun v => v.category).sum + 82 ≤ R.locals → 1 ≤ R.cells → 6 ≤ R.slots → gG p l e R s m args below meth c D A nL Q 0 0 W0 lv st pc
def gz_RC (p : Program) (l : Launch) (e : Env) (R : Room) (s : State) (m : MethodId) (args : Array Value) (below : List Frame) (meth : Method) (c : Code) (D : va_G) (A : Nat → Prop) (nL : Nat) (Q : State → Prop) (W0 : va_W) (px : String → Prop) : Prop :=
  ∀ (lv : List (Nat × Value)) (st : List Value) (pc : Nat) (E : String), px E → gGx p l e R s m args below meth c D A nL Q 1 6 W0 lv st pc E
theorem gz_bodyX {y : MethodName} {wsy wsy' : List Cond} {rm : Room} {As : List Value} {W0 : va_W} {post : Option Value → va_W → Prop} {px : String → Prop} {maxL : Nat} {ret : Option FieldType} (hfl : l.stackTraces = false) (hy : plainName y.cls = true) (ho : y.cls = own) (hw : wsy = Cond.code y cc maxL ret :: wsy') (hlen : (lg_sl As).length ≤ maxL) {lv0 : List (Nat × Value)} (hlv : lv_args 0 As = lv0)
    (body : ∀ (p : Program) (e : Env) (s : State) (m : MethodId) (args : Array Value) (below : List Frame) (meth : Method) (c : Code), meth.sig.returnType = ret → meth.locks = false → (∀ x ∈ c.exceptionTable.toList, False) → gF p s m args c cc maxL own wsy D cI cJ cZ (va_A W0 s.heap.size) → gFX l s (va_A W0 s.heap.size) → gG p l e rm s m args below meth c D (va_A W0 s.heap.size) maxL (vx_MQ below (gz_Qc D W0 s.heap.size post) (gz_XC D W0 s.heap.size px) args s 1 6 (va_A W0 s.heap.size)) 0 0 W0 lv0 [] 0) : gz_X l y wsy rm D cI cJ cZ As W0 post px := by
  intro sz
  subst ho
  subst hlv
  refine vx_ofW (cc := cc) (maxL := maxL) (ret := ret) hy hw ?_
  intro p e s m args below meth c s₁ B hml htab hv
  obtain ⟨rfl, ⟨hsz, hP, hK, hD0, hN⟩, hB, hZ⟩ := hv
  have hts := atoms_spec (ws := wsy) B.pre
  have hown : s.vm.findClass y.cls = some m.cls := findClass_of_methodNamed B.named
  subst hsz
  have hD := hD0.self (sz := s.heap.size)
  have hl := lv_entry As (n := maxL) hlen
  rw [lg_entry_eq]
  exact body p e s m As.toArray below meth c B.returns B.notSynchronized htab ⟨B.exec, B.bytes, hml, hown, hts, hK, hN, fun q h => Or.inr h⟩ ⟨hfl, hB, hZ⟩ s.heap [] _ hP hD va_S.rf hl
theorem gz_RT_of {W0 : va_W} {post : Option Value → va_W → Prop} {px : String → Prop} (hlocks : meth.locks = false) (htab : ∀ x ∈ c.exceptionTable.toList, False) (F : gF p s m args c cc nL own Ts D cI cJ cZ (va_A W0 s.heap.size)) (FX : gFX l s (va_A W0 s.heap.size)) : gz_RT p l e R s m args below meth c D (va_A W0 s.heap.size) nL (vx_MQ below (gz_Qc D W0 s.heap.size post) (gz_XC D W0 s.heap.size px) args s 1 6 (va_A W0 s.heap.size)) cc own Ts W0 px := by
  intro lv st pc cls text ik is ic hpx hcls hstr hro hk hini hgood hbad hot d0 d3 d4 d6 d9 r1 r2 r3 r4 H locs ls hP hD hS hl
  obtain ⟨hx, hb, hml, hown, hts, hK, hN, hA⟩ := F
  subst hro
  obtain ⟨sa, hsa⟩ := FX.2.1.2.2 _ hstr
  refine vx_throwS (sa := sa) (text := text) (names := gz_names) hx hb FX.1 hown ?_ ?_ (hts _ hk) (hts _ hini) hsa (vx_hat (fun w hw => hts w (hgood w hw)) hbad (FX.2.1.bad hcls)) hot FX.2.2.1 FX.2.2.2 hS (by rw [hl.1, hml]) d0 d3 d4 d6 d9 (fun x hx => (htab x hx).elim) r1 r2 (by omega) (by omega) hlocks ?_ hS.2.2 (by omega) (by omega)
  · exact (show ∀ x ∈ gz_exc, Bundle.fit x = true by decide) _ hcls
  · decide
  · intro t hvm hz hk
    refine ⟨hpx, hP.kept (fun k q hq => hk q.1 (hP k q hq).lt), ⟨Nat.le_trans hS.1 (Nat.le_of_lt hz), fun q h1 h2 => ?_⟩, Nat.lt_of_le_of_lt hS.1 hz⟩
    rw [hk q (Nat.lt_of_lt_of_le h1 hS.1)]
    exact hS.2.1 q h1 h2
theorem gz_RC_of {W0 : va_W} {post : Option Value → va_W → Prop} {px : String → Prop} (hlocks : meth.locks = false) (htab : ∀ x ∈ c.exceptionTable.toList, False) : gz_RC p l e R s m args below meth c D (va_A W0 s.heap.size) nL (vx_MQ below (gz_Qc D W0 s.heap.size post) (gz_XC D W0 s.heap.size px) args s 1 6 (va_A W0 s.heap.size)) W0 px := by
  intro lv st pc E hpx H locs ls q ce hP hD hS hl hgr hce hcv hcl
  exact vx_out (fun x hx => (htab x hx).elim) hlocks hce hcv hcl (fun t ht hvm => ⟨hpx, by rw [ht]; exact hP, hS.F ht, by rw [ht]; exact hgr⟩) hS.2.2 (Nat.le_refl _) (Nat.le_refl _)
theorem gz_ofXZ {y : MethodName} {wsy wsy' : List Cond} {rm : Room} {As : List Value} {W0 : va_W} {post : Option Value → va_W → Prop} {px : String → Prop} {maxL : Nat} {ty : FieldType} (hfl : l.stackTraces = false) (hy : plainName y.cls = true) (ho : y.cls = own) (hw : wsy = Cond.code y cc maxL (some ty) :: wsy') (hlen : (lg_sl As).length ≤ maxL) {lv0 : List (Nat × Value)} (hlv : lv_args 0 As = lv0)
    (body : ∀ (p : Program) (e : Env) (s : State) (m : MethodId) (args : Array Value) (below : List Frame) (meth : Method) (c : Code) (A : Nat → Prop) (Q : State → Prop), gF p s m args c cc maxL own wsy D cI cJ cZ A → gFX l s A → gz_RZ p l e rm s m args below meth c D A maxL Q cc ty post → gz_RT p l e rm s m args below meth c D A maxL Q cc own wsy W0 px → gz_RC p l e rm s m args below meth c D A maxL Q W0 px → gG p l e rm s m args below meth c D A maxL Q 0 0 W0 lv0 [] 0) : gz_X l y wsy rm D cI cJ cZ As W0 post px :=
  gz_bodyX hfl hy ho hw hlen hlv fun p e s m args below meth c hr hlocks htab F FX => body p e s m args below meth c _ _ F FX (fun ws lv pc v d hn hq H locs ls hP hD hS hl =>
    vx_ret (W.widen (Nat.zero_le 1) (Nat.zero_le 6) (W.zret F.1 F.2.1 hr hn (fun t ht hW => ⟨⟨_, ws, rfl, hq, by rw [ht]; exact hP, hD⟩, hS.F ht⟩) hS.2.2 d hlocks))) (gz_RT_of hlocks htab F FX) (gz_RC_of hlocks htab)
theorem gz_ofXV {y : MethodName} {wsy wsy' : List Cond} {rm : Room} {As : List Value} {W0 : va_W} {post : Option Value → va_W → Prop} {px : String → Prop} {maxL : Nat} (hfl : l.stackTraces = false) (hy : plainName y.cls = true) (ho : y.cls = own) (hw : wsy = Cond.code y cc maxL none :: wsy') (hlen : (lg_sl As).length ≤ maxL) {lv0 : List (Nat × Value)} (hlv : lv_args 0 As = lv0)
    (body : ∀ (p : Program) (e : Env) (s : State) (m : MethodId) (args : Array Value) (below : List Frame) (meth : Method) (c : Code) (A : Nat → Prop) (Q : State → Prop), gF p s m args c cc maxL own wsy D cI cJ cZ A → gFX l s A → gz_RV p l e rm s m args below meth c D A maxL Q cc post → gz_RT p l e rm s m args below meth c D A maxL Q cc own wsy W0 px → gz_RC p l e rm s m args below meth c D A maxL Q W0 px → gG p l e rm s m args below meth c D A maxL Q 0 0 W0 lv0 [] 0) : gz_X l y wsy rm D cI cJ cZ As W0 post px :=
  gz_bodyX hfl hy ho hw hlen hlv fun p e s m args below meth c hr hlocks htab F FX => body p e s m args below meth c _ _ F FX (fun ws lv pc d hq H locs ls hP hD hS hl =>
    vx_ret (W.widen (Nat.zero_le 1) (Nat.zero_le 6) (W.vret F.1 F.2.1 hr (fun t ht hW => ⟨⟨_, ws, rfl, hq, by rw [ht]; exact hP, hD⟩, hS.F ht⟩) hS.2.2 d hlocks))) (gz_RT_of hlocks htab F FX) (gz_RC_of hlocks htab)
/-- a callee that always throws -/
theorem gz_pF_sh {W0 : va_W} : ∀ (v : Option Value) (W1 : va_W), False → W1.map Prod.fst = W0.map Prod.fst := fun _ _ h => h.elim
end GZX
