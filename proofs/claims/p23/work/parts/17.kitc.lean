/-! ===== constructors ===== -/
def gz_pC (b : Nat) (W1 : (Nat → Nat) → va_W) : Option Value → va_W → Prop := fun v W => v = none ∧ ∃ a : Nat → Nat, a 0 = b ∧ W = W1 a
/-- a constructor: from the bare object b to a world with b at its head; so many cells and slots are new -/
def gz_C (l : Launch) (y : MethodName) (wsy : List Cond) (rm : Room) (D : va_G) (cI cJ cZ : ClassId) (b : Nat) (W0 : va_W) (W1 : (Nat → Nat) → va_W) (mc ms : Nat) : Prop :=
  ∀ sz : Nat, Met l y wsy rm (gz_Pc D cI cJ cZ W0 sz [.ref b]) (gz_Qc D W0 sz (gz_pC b W1)) mc ms (va_A W0 sz)
section GZC
variable {p : Program} {l : Launch} {e : Env} {R : Room} {s : State} {m : MethodId} {args : Array Value} {below : List Frame} {meth : Method} {c : Code} {D : va_G} {A : Nat → Prop} {nL : Nat} {Q : State → Prop} {cells slots : Nat}
variable {cc : ByteArray} {own : String} {Ts : List Cond} {cI cJ cZ : ClassId} {ws : va_W} {lv : List (Nat × Value)} {st : List Value} {pc : Nat}
theorem gz_newI (F : gF p s m args c cc nL own Ts D cI cJ cZ A) {n : Int} (N' : Nat) (harr : Cond.arrayClass .int ∈ Ts) (hn : 0 ≤ n ∧ n ≤ 1023 ∧ n.toNat = N') (hcs : cells + 1 ≤ R.cells ∧ slots + N' ≤ R.slots) (d : decode cc pc = .ok (.newarray .int, 2))
    (kk : ∀ q : Nat, gG p l e R s m args below meth c D A nL Q (cells + 1) (slots + N') (ws ++ [(q, .inl (cI, (N', .inl (zA (fun _ => 0)))))]) lv (.ref q :: st) (pc + 2)) : gG p l e R s m args below meth c D A nL Q cells slots ws lv (vI n :: st) pc := by
  intro H locs ls hP hD hS hl
  obtain ⟨hx, hb, hml, hown, hts, hK, hN, hA⟩ := F
  refine va_newa (atype := .int) (ty := .int) (a0 := (N', .inl (zA (fun _ => 0)))) (N' := N') hx hb (hts _ harr) rfl hK hP hD hS hA (fun cA => ?_) (fun h => ?_) ?_ ?_ hcs.1 hcs.2 d (fun q cA H1 hK1 hP1 hD1 hS1 => ?_)
  · show arrV cA N' (fun j => Value.int (zI 0)) = arrV cA N' (fun _ => Value.int 0)
    rw [zI_0]
  · have h1 := Int32.lt_iff_toInt_lt.mp h
    rw [zI_toInt (by omega)] at h1
    have h2 : (0 : Int32).toInt = 0 := rfl
    omega
  · rw [zI_cl (by omega)]
    exact hn.2.2
  · show N' * 4 ≤ 536870912
    omega
  · have h1 : s.vm.findClass _ = some cI := (hK.2 0 _ rfl).2
    have h2 : s.vm.findClass _ = some cA := (hK1.2 3 _ rfl).2
    have h3 : cA = cI := Option.some.inj (h2.symm.trans h1)
    subst h3
    exact kk q H1 locs ls hP1 hD1 hS1 hl
theorem gz_newJ (F : gF p s m args c cc nL own Ts D cI cJ cZ A) {n : Int} (N' : Nat) (harr : Cond.arrayClass .long ∈ Ts) (hn : 0 ≤ n ∧ n ≤ 1023 ∧ n.toNat = N') (hcs : cells + 1 ≤ R.cells ∧ slots + N' ≤ R.slots) (d : decode cc pc = .ok (.newarray .long, 2))
    (kk : ∀ q : Nat, gG p l e R s m args below meth c D A nL Q (cells + 1) (slots + N') (ws ++ [(q, .inl (cJ, (N', .inr (.inl (zB (fun _ => 0))))))]) lv (.ref q :: st) (pc + 2)) : gG p l e R s m args below meth c D A nL Q cells slots ws lv (vI n :: st) pc := by
  intro H locs ls hP hD hS hl
  obtain ⟨hx, hb, hml, hown, hts, hK, hN, hA⟩ := F
  refine va_newa (atype := .long) (ty := .long) (a0 := (N', .inr (.inl (zB (fun _ => 0))))) (N' := N') hx hb (hts _ harr) rfl hK hP hD hS hA (fun cA => ?_) (fun h => ?_) ?_ ?_ hcs.1 hcs.2 d (fun q cA H1 hK1 hP1 hD1 hS1 => ?_)
  · show arrV cA N' (fun j => Value.long (lN 0)) = arrV cA N' (fun _ => Value.long 0)
    rfl
  · have h1 := Int32.lt_iff_toInt_lt.mp h
    rw [zI_toInt (by omega)] at h1
    have h2 : (0 : Int32).toInt = 0 := rfl
    omega
  · rw [zI_cl (by omega)]
    exact hn.2.2
  · show N' * 8 ≤ 536870912
    omega
  · have h1 : s.vm.findClass _ = some cJ := (hK.2 1 _ rfl).2
    have h2 : s.vm.findClass _ = some cA := (hK1.2 3 _ rfl).2
    have h3 : cA = cJ := Option.some.inj (h2.symm.trans h1)
    subst h3
    exact kk q H1 locs ls hP1 hD1 hS1 hl
theorem gz_new (F : gF p s m args c cc nL own Ts D cI cJ cZ A) {C : String} {T : u_T} {N index : Nat} (hin : ∀ w ∈ u_ws C T N, w ∈ Ts) (ty : Nat → FieldType) (hty : ∀ k, k < N → parseFieldDescriptor (T k).2.2.1 = some (ty k)) (hcl : Cond.classLink own index C ∈ Ts) (hinst : Cond.instantiable C N ∈ Ts) (hini : Cond.initialized C ∈ Ts) (ci : Nat) (hc : vwCl[ci]? = some (C, T, N)) {fs : List Value} (hfs : ∀ j, j < N → defaultValue (ty j) = vp_V fs j) (hcs : cells + 1 ≤ R.cells ∧ slots + N ≤ R.slots) (d : decode cc pc = .ok (.new index, 3))
    (kk : ∀ q : Nat, gG p l e R s m args below meth c D A nL Q (cells + 1) (slots + N) (ws ++ [(q, .inr (ci, fs))]) lv (.ref q :: st) (pc + 3)) : gG p l e R s m args below meth c D A nL Q cells slots ws lv st pc := by
  intro H locs ls hP hD hS hl
  obtain ⟨hx, hb, hml, hown, hts, hK, hN, hA⟩ := F
  exact va_new hx hb hts hin ty hty hown (hts _ hcl) (hts _ hinst) (hts _ hini) hK hP hD hS hA hc hfs hcs.1 hcs.2 d (fun q H1 hP1 hD1 hS1 => kk q H1 locs ls hP1 hD1 hS1 hl)
theorem gz_objInit (F : gF p s m args c cc nL own Ts D cI cJ cZ A) {index a : Nat} (h1 : Cond.methodLink own index objectInit ∈ Ts) (h2 : Cond.instanceMethod objectInit ∈ Ts) (h3 : Cond.code objectInit ⟨#[0xb1]⟩ 1 none ∈ Ts) (d : decode cc pc = .ok (.invokespecial index, 3)) (hr : 1 ≤ R.frames) (hlo : (st.map fun v => v.category).sum + 12 ≤ R.locals)
    (kk : gG p l e R s m args below meth c D A nL Q cells slots ws lv st (pc + 3)) : gG p l e R s m args below meth c D A nL Q cells slots ws lv (.ref a :: st) pc := by
  intro H locs ls hP hD hS hl
  obtain ⟨hx, hb, hml, hown, hts, hK, hN, hA⟩ := F
  refine W.objInit hx hb hown (hts _ h1) (hts _ h2) (hts _ h3) rfl (by rw [hml]; exact hl.1) rfl d hr ?_ ?_
  · show 2 * 0 + (st.map fun v => v.category).sum + 12 ≤ R.locals
    omega
  · exact kk H locs ls hP hD hS hl
theorem gz_putF (F : gF p s m args c cc nL own Ts D cI cJ cZ A) (hin2 : meth.name = "<init>") {C : String} {T : u_T} {N index : Nat} {a : Nat} (hin : ∀ w ∈ u_ws C T N, w ∈ Ts) (ty0 : Nat → FieldType) (hty : ∀ k, k < N → parseFieldDescriptor (T k).2.2.1 = some (ty0 k)) (hnm : ∀ a, a < N → ∀ b, b < N → a ≠ b → (T a).2.1 ≠ (T b).2.1) (q0 ci : Nat) {fs : List Value} (he : ws[q0]? = some (a, .inr (ci, fs))) (hc : vwCl[ci]? = some (C, T, N)) (k : Nat) (hk : k < N) (hlink : Cond.fieldLink own index (T k).1 (T k).2.1 (T k).2.2.1 ∈ Ts) (hfin : (T k).2.2.2 = true) (hdecl : (T k).1 = own) {ty : FieldType} {v : Value} (hd : parseFieldDescriptor (T k).2.2.1 = some ty) (hn : narrow ty v = v) (hfit : fits ty v = true) (hlen : k < fs.length) {ws2 : va_W} (h2 : ws.set q0 (a, .inr (ci, fs.set k v)) = ws2) (d : decode cc pc = .ok (.putfield index, 3))
    (kk : gG p l e R s m args below meth c D A nL Q cells slots ws2 lv st (pc + 3)) : gG p l e R s m args below meth c D A nL Q cells slots ws lv (v :: .ref a :: st) pc := by
  subst h2
  exact fun H locs ls hP hD hS hl => va_putF (ref := (T k).1) F.1 F.2.1 F.2.2.2.2.1 hin ty0 hty hnm F.2.2.2.1 F.2.2.2.2.2.1 hP hD hS q0 he hc k hk (F.2.2.2.2.1 _ hlink) (fun _ h9 => h9) hfin hin2 hdecl hd hn hfit hlen d (fun H locs hP hD hS => kk H locs ls hP hD hS hl)
theorem gz_coreC {W0 X : va_W} {W1 : (Nat → Nat) → va_W} {b mc ms : Nat} {rest st0 : List Value} {a : Array Value} {H : Heap} {locs : List Loc} {ls : Array Slot} (hr : va_Run p l e R s m args below meth c H locs cells slots mc ms (F0 m pc ls st0) rest (gz_Qc D W0 H.size (gz_pC b W1) a) (va_A W0 H.size)) (hA : ∀ q, s.heap.size ≤ q → A q) (hP : va_P D vwCl (X ++ (W0 ++ [])) H) (hD : va_D A (X ++ (W0 ++ []))) (hS : va_S A s.heap H locs) (hl : lv_has ls nL lv)
    (kk : ∀ a : Nat → Nat, a 0 = b → gG p l e R s m args below meth c D A nL Q (cells + mc) (slots + ms) (X ++ W1 a) lv rest (pc + 3)) : W p l e R s m args below meth c H locs cells slots Q (F0 m pc ls st0) := by
  intro T hT X2
  obtain ⟨v, st₀, t, T', L, h0, X', hL, e1, e2, ⟨⟨v1, W2, hv, ⟨hpost, a1, ha, hW⟩, hP1, hD1⟩, hz, hk⟩, st⟩ := hr T hT X2
  cases hv
  subst hpost
  subst hW
  rw [h0] at hz hk
  have hFc : ∀ q, va_A W0 H.size q → A q := va_free hD hS hA (List.range' X.length W0.length) (gz_midC X W0 [])
  obtain ⟨hP2, hD2⟩ := va_join (wr := X) (w1 := W1 a1) hP hD (List.range' X.length W0.length) (List.range' 0 X.length) (gz_midC X W0 []) (gz_midC [] X (W0 ++ [])) (gz_range_nd _ _) (fun i h1 h2 => by
    have h3 := List.mem_range'_1.mp h1
    have h4 := List.mem_range'_1.mp h2
    omega) (H1 := T'.heap) (fun q h1 h2 => by rw [e1]; exact hk q h1 h2) hFc (by rw [e1]; exact hP1) hD1
  obtain ⟨t2, a2, b1⟩ := kk a1 ha T'.heap (locs ++ L) ls hP2 hD2
    ⟨Nat.le_trans hS.1 (by rw [e1]; exact hz), fun q h1 h2 => by rw [e1, hk q (Nat.lt_of_lt_of_le h1 hS.1) (fun z => h2 (hFc q z))]; exact hS.2.1 q h1 h2, fun q hq => by
      rcases List.mem_append.mp hq with h | h
      · exact hS.2.2 q h
      · exact hFc _ (hL q h)⟩ hl T' rfl X'
  exact ⟨t2, st t2 a2, b1⟩
theorem gz_callC (F : gF p s m args c cc nL own Ts D cI cJ cZ A) {y : MethodName} {bytes : ByteArray} {maxL index : Nat} {wsy wsy' : List Cond} {rm : Room} {b mc ms : Nat} {rest : List Value} {W0 : va_W} {W1 : (Nat → Nat) → va_W}
    (hM : gz_C l y wsy rm D cI cJ cZ b W0 W1 mc ms) (hG : GoodIn Ts wsy) (hw : wsy = Cond.code y bytes maxL none :: wsy') (hrm : rm.cells = mc ∧ rm.slots = ms) (hnest : (own, index, y) ∈ gz_nest) (hini : Cond.initialized y.cls ∈ Ts) (hinst : Cond.instanceMethod y ∈ Ts) (hy1 : y.name = "<init>")
    (hd : y.cls ≠ "java/lang/invoke/MethodHandle" ∧ y.cls ≠ "java/lang/invoke/VarHandle" ∧ (parseMethodDescriptor y.desc).map (fun d => d.parameters.length) = some 0) (hR : rm.frames + 1 ≤ R.frames ∧ 8 + (maxL + 11) + rm.locals ≤ R.locals)
    (X : va_W) (hws : ws = X ++ (W0 ++ [])) (hroom : (rest.map fun v => v.category).sum ≤ 8) (hcs : cells + mc ≤ R.cells ∧ slots + ms ≤ R.slots) (d : decode cc pc = .ok (.invokespecial index, 3))
    (kk : ∀ a : Nat → Nat, a 0 = b → gG p l e R s m args below meth c D A nL Q (cells + mc) (slots + ms) (X ++ W1 a) lv rest (pc + 3)) : gG p l e R s m args below meth c D A nL Q cells slots ws lv (.ref b :: rest) pc := by
  subst hws
  intro H locs ls hP hD hS hl
  obtain ⟨hx, hb, hml, hown, hts, hK, hN, hA⟩ := F
  exact gz_coreC (va_runIN (As := []) (rest := rest) (own := own) (host := "Rigdiary") ⟨hx, hb, hml, hown, hts⟩ (hM H.size) ⟨va_cnB 0 hts hG hw hrm.1 hrm.2 (hN _ hnest) (hts _ hini) hd hR, hy1, hts _ hinst⟩ ⟨gz_blind D cI cJ cZ W0 H.size _, gz_pre hK hN hP hD (gz_midC X W0 []) (gz_range_nd _ _)⟩ rfl rfl hl.1 rfl (lv_room hroom) d hcs) hA hP hD hS hl kk
theorem gz_callCI (F : gF p s m args c cc nL own Ts D cI cJ cZ A) {y : MethodName} {bytes : ByteArray} {maxL index : Nat} {wsy wsy' : List Cond} {rm : Room} {b mc ms : Nat} {rest : List Value} {W0 : va_W} {W1 : (Nat → Nat) → va_W}
    (hM : gz_C l y wsy rm D cI cJ cZ b W0 W1 mc ms) (hG : GoodIn Ts wsy) (hw : wsy = Cond.code y bytes maxL none :: wsy') (hrm : rm.cells = mc ∧ rm.slots = ms) (hlink : Cond.methodLink own index y ∈ Ts) (hini : Cond.initialized y.cls ∈ Ts) (hinst : Cond.instanceMethod y ∈ Ts) (hy1 : y.name = "<init>")
    (hd : y.cls ≠ "java/lang/invoke/MethodHandle" ∧ y.cls ≠ "java/lang/invoke/VarHandle" ∧ (parseMethodDescriptor y.desc).map (fun d => d.parameters.length) = some 0) (hR : rm.frames + 1 ≤ R.frames ∧ 8 + (maxL + 11) + rm.locals ≤ R.locals)
    (X : va_W) (hws : ws = X ++ (W0 ++ [])) (hroom : (rest.map fun v => v.category).sum ≤ 8) (hcs : cells + mc ≤ R.cells ∧ slots + ms ≤ R.slots) (d : decode cc pc = .ok (.invokespecial index, 3))
    (kk : ∀ a : Nat → Nat, a 0 = b → gG p l e R s m args below meth c D A nL Q (cells + mc) (slots + ms) (X ++ W1 a) lv rest (pc + 3)) : gG p l e R s m args below meth c D A nL Q cells slots ws lv (.ref b :: rest) pc := by
  subst hws
  intro H locs ls hP hD hS hl
  obtain ⟨hx, hb, hml, hown, hts, hK, hN, hA⟩ := F
  exact gz_coreC (va_runI (As := []) (rest := rest) (own := own) ⟨hx, hb, hml, hown, hts⟩ (hM H.size) (cwI 0 hts hG hw hrm.1 hrm.2 (hts _ hini) (hts _ hlink) (hts _ hinst) hy1 hd hR) ⟨gz_blind D cI cJ cZ W0 H.size _, gz_pre hK hN hP hD (gz_midC X W0 []) (gz_range_nd _ _)⟩ rfl rfl hl.1 rfl (lv_room hroom) d hcs) hA hP hD hS hl kk
theorem gz_ofC {y : MethodName} {wsy wsy' : List Cond} {rm : Room} {b mc ms : Nat} {W0 : va_W} {W1 : (Nat → Nat) → va_W} {maxL : Nat} (hy : plainName y.cls = true) (ho : y.cls = own) (hi : y.name = "<init>") (hw : wsy = Cond.code y cc maxL none :: wsy') (hlen : 1 ≤ maxL)
    (body : ∀ (p : Program) (e : Env) (s : State) (m : MethodId) (args : Array Value) (below : List Frame) (meth : Method) (c : Code) (A : Nat → Prop) (Q : State → Prop), gF p s m args c cc maxL own wsy D cI cJ cZ A → meth.name = "<init>" →
      (∀ (lv : List (Nat × Value)) (pc : Nat) (a : Nat → Nat), decode cc pc = .ok (.return_, 1) → a 0 = b → gG p l e rm s m args below meth c D A maxL Q mc ms (W1 a) lv [] pc) → gG p l e rm s m args below meth c D A maxL Q 0 0 W0 [(0, .ref b)] [] 0) : gz_C l y wsy rm D cI cJ cZ b W0 W1 mc ms := by
  intro sz
  subst ho
  refine Met.ofW (cc := cc) (maxL := maxL) (ret := none) hy hw ?_
  intro p e s m args below meth c s₁ B hml hv
  obtain ⟨rfl, hsz, hP, hK, hD0, hN⟩ := hv
  have hts := atoms_spec (ws := wsy) B.pre
  have hown : s.vm.findClass y.cls = some m.cls := findClass_of_methodNamed B.named
  have hin : meth.name = "<init>" := (name_of_methodNamed B.named B.method).1.trans hi
  subst hsz
  have hD := hD0.self (sz := s.heap.size)
  have hl := lv_entry [Value.ref b] (n := maxL) hlen
  rw [lg_entry_eq]
  exact body p e s m _ below meth c (va_A W0 s.heap.size) (MQ below (gz_Qc D W0 s.heap.size (gz_pC b W1)) _ s mc ms (va_A W0 s.heap.size)) ⟨B.exec, B.bytes, hml, hown, hts, hK, hN, fun q h => Or.inr h⟩ hin
    (fun lv pc a d ha H locs ls hP hD hS hl => W.vret B.exec B.bytes B.returns (fun t ht hW => ⟨⟨_, W1 a, rfl, ⟨rfl, a, ha, rfl⟩, by rw [ht]; exact hP, hD⟩, hS.F ht⟩) hS.2.2 d B.notSynchronized) s.heap [] _ hP hD va_S.rf hl
end GZC
