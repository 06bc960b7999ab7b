/-! ===== the law's methods: they catch what the class throws ===== -/
def gz_ncs : List (String × String) := [(xIA, xIO), (xIS, xIO), (xIS, xIA)]
def gz_NC (U : State) : Prop := ∀ q ∈ gz_ncs, va_Nc q.1 q.2 U
theorem gz_NC.moved {u U : State} (hvm : u.vm.Alike U.vm) (k : gz_NC u) : gz_NC U := fun q hq => va_Nc.moved hvm (k q hq)
def gz_PcY (D : va_G) (cI cJ cZ : ClassId) (W0 : va_W) (sz : Nat) (As : List Value) : Array Value → State → Prop := va_Pc As (fun U => (U.heap.size = sz ∧ va_P D vwCl W0 U.heap ∧ va_K D vwCl (gz_tys cI cJ cZ) U ∧ va_D (fun _ => True) W0 ∧ gz_N U) ∧ gz_XB U ∧ gz_Z (va_A W0 sz) U U.heap ∧ gz_NC U)
theorem gz_blindY (D : va_G) (cI cJ cZ : ClassId) (W0 : va_W) (sz : Nat) (As : List Value) : FrameBlind (gz_PcY D cI cJ cZ W0 sz As) := fun a U g mk q => by
  obtain ⟨q0, ⟨q1, qP, qK, qD, qN⟩, qX, qZ, qC⟩ := q
  exact ⟨q0, ⟨q1, qP, va_K.moved (u := U) (U := U.calling g mk a) (Vm.Alike.refl U.vm) qK, qD, gz_N.same rfl qN⟩, gz_XB.same rfl qX, gz_Z.moved (u := U) (U := U.calling g mk a) (Vm.Alike.refl U.vm) qZ, gz_NC.moved (u := U) (U := U.calling g mk a) (Vm.Alike.refl U.vm) qC⟩
/-- a contract of a method that catches: it returns -/
def gz_Y (l : Launch) (y : MethodName) (wsy : List Cond) (rm : Room) (D : va_G) (cI cJ cZ : ClassId) (As : List Value) (W0 : va_W) (post : Option Value → va_W → Prop) : Prop :=
  ∀ sz : Nat, vx_Met l y wsy rm (gz_PcY D cI cJ cZ W0 sz As) (gz_Qc D W0 sz post) (gz_XC D W0 sz (fun _ => False)) 1 6 (va_A W0 sz)
section GZY
variable {p : Program} {l : Launch} {e : Env} {R : Room} {s : State} {m : MethodId} {args : Array Value} {below : List Frame} {meth : Method} {c : Code} {D : va_G} {A : Nat → Prop} {nL : Nat} {Q : State → Prop} {cells slots : Nat}
variable {cc : ByteArray} {own : String} {Ts : List Cond} {cI cJ cZ : ClassId} {ws : va_W} {lv : List (Nat × Value)} {st : List Value} {pc : Nat}
/-- what such a body owes at its end -/
def gz_RY (p : Program) (l : Launch) (e : Env) (R : Room) (s : State) (m : MethodId) (args : Array Value) (below : List Frame) (meth : Method) (c : Code) (D : va_G) (A : Nat → Prop) (nL : Nat) (Q : State → Prop) (cc : ByteArray) (post : Option Value → va_W → Prop) : Prop :=
  ∀ (ws : va_W) (lv : List (Nat × Value)) (pc : Nat) (v : Int), decode cc pc = .ok (.ireturn, 1) → post (some (vI v)) ws → gG p l e R s m args below meth c D A nL Q 1 6 ws lv [vI v] pc
theorem gz_ofY {y : MethodName} {wsy wsy' : List Cond} {rm : Room} {As : List Value} {W0 : va_W} {post : Option Value → va_W → Prop} {maxL : Nat} {hh : List (Nat × Nat × Nat × Nat)} (hfl : l.stackTraces = false) (hy : plainName y.cls = true) (ho : y.cls = own) (hw : wsy = Cond.codeWith y cc maxL (some .int) hh :: wsy') (hlen : (lg_sl As).length ≤ maxL) {lv0 : List (Nat × Value)} (hlv : lv_args 0 As = lv0)
    (body : ∀ (p : Program) (e : Env) (s : State) (m : MethodId) (args : Array Value) (below : List Frame) (meth : Method) (c : Code) (A : Nat → Prop) (Q : State → Prop), c.exceptionTable.toList = tableOf hh → gF p s m args c cc maxL own wsy D cI cJ cZ A → gFX l s A → gz_NC s → gz_RY p l e rm s m args below meth c D A maxL Q cc post → gG p l e rm s m args below meth c D A maxL Q 0 0 W0 lv0 [] 0) : gz_Y l y wsy rm D cI cJ cZ As W0 post := by
  intro sz
  subst ho
  subst hlv
  refine vx_ofWH (cc := cc) (maxL := maxL) (ret := some .int) (hh := hh) hy hw ?_
  intro p e s m args below meth c s₁ B hml hv
  obtain ⟨rfl, ⟨hsz, hP, hK, hD0, hN⟩, hB, hZ, hC⟩ := hv
  have hts := atoms_spec (ws := wsy) B.pre
  have hown : s.vm.findClass y.cls = some m.cls := findClass_of_methodNamed B.named
  subst hsz
  have hD := hD0.self (sz := s.heap.size)
  have hl := lv_entry As (n := maxL) hlen
  have hr := B.returns
  have hlocks := B.notSynchronized
  rw [lg_entry_eq]
  exact body p e s m As.toArray below meth c (va_A W0 s.heap.size) _ (vx_table (x := y) B (hts _ (by rw [hw]; exact List.mem_cons_self))) ⟨B.exec, B.bytes, hml, hown, hts, hK, hN, fun q h => Or.inr h⟩ ⟨hfl, hB, hZ⟩ hC (fun ws lv pc v d hq H locs ls hP hD hS hl =>
    vx_ret (W.zret B.exec B.bytes hr rfl (fun t ht hW => ⟨⟨_, ws, rfl, hq, by rw [ht]; exact hP, hD⟩, hS.F ht⟩) hS.2.2 d hlocks)) s.heap [] _ hP hD va_S.rf hl
theorem gz_preY {W0 : va_W} {As : List Value} {H : Heap} {locs : List Loc} {isC : List Nat} (hK : va_K D vwCl (gz_tys cI cJ cZ) s) (hN : gz_N s) (hB : gz_XB s) (hZ : gz_Z A s s.heap) (hNC : gz_NC s) (hA : ∀ q, s.heap.size ≤ q → A q) (hP : va_P D vwCl ws H) (hD : va_D A ws) (hS : va_S A s.heap H locs) (hC : isC.map (fun i => ws[i]?) = W0.map some) (hnd : va_nd isC = true) : ∀ U : State, U.heap = H → s.WarmedH U.vm → gz_PcY D cI cJ cZ W0 H.size As As.toArray U := fun U hU hW =>
  ⟨rfl, ⟨by rw [hU], by rw [hU]; exact gz_subP hC hP, va_K.moved hW.alike hK, (hD.sub isC hnd hC).weaken (fun _ _ _ _ => trivial), gz_N.warm hW hN⟩, gz_XB.warm hW hB, by
    rw [hU]
    exact ((hZ.kept hS.2.1).narrow (va_free hD hS hA isC hC)).moved hW.alike, gz_NC.moved hW.alike hNC⟩
/-- a static call of such a method -/
theorem gz_callSY (F : gF p s m args c cc nL own Ts D cI cJ cZ A) (FX : gFX l s A) (NC : gz_NC s) {y : MethodName} {bytes : ByteArray} {maxL n index : Nat} {ret : Option FieldType} {hh : List (Nat × Nat × Nat × Nat)} {wsy wsy' : List Cond} {rm : Room} {As rest : List Value} {W0 : va_W} {post : Option Value → va_W → Prop}
    (hM : gz_Y l y wsy rm D cI cJ cZ As W0 post) (hG : GoodIn Ts (va_wsS own index y wsy)) (hw : wsy = Cond.codeWith y bytes maxL ret hh :: wsy') (hrm : rm.cells = 1 ∧ rm.slots = 6)
    (hd : y.cls ≠ "java/lang/invoke/MethodHandle" ∧ y.cls ≠ "java/lang/invoke/VarHandle" ∧ (parseMethodDescriptor y.desc).map (fun d => d.parameters.length) = some n) (hR : rm.frames + 1 ≤ R.frames ∧ 8 + (maxL + 11) + rm.locals ≤ R.locals)
    (hn : As.length = n) (X Y : va_W) (hws : ws = X ++ (W0 ++ Y)) (hst : st = As.reverse ++ rest) (hroom : (rest.map fun v => v.category).sum ≤ 8) (hcs : cells + 1 ≤ R.cells ∧ slots + 6 ≤ R.slots) (hsh : ∀ v W1, post v W1 → W1.map Prod.fst = W0.map Prod.fst) (d : decode cc pc = .ok (.invokestatic index, 3))
    (kk : ∀ v W1, post v W1 → gG p l e R s m args below meth c D A nL Q (cells + 1) (slots + 6) (X ++ (W1 ++ Y)) lv (v.toList ++ rest) (pc + 3)) : gG p l e R s m args below meth c D A nL Q cells slots ws lv st pc := by
  subst hws
  intro H locs ls hP hD hS hl
  obtain ⟨hx, hb, hml, hown, hts, hK, hN, hA⟩ := F
  exact gz_coreX (vx_runSX (As := As) (rest := rest) ⟨hx, hb, hml, hown, hts⟩ (hM H.size) (vx_cwSW n hts hG hw hrm.1 hrm.2 hd hR) ⟨gz_blindY D cI cJ cZ W0 H.size _, gz_preY hK hN FX.2.1 FX.2.2 NC hA hP hD hS (gz_midC X W0 Y) (gz_range_nd _ _)⟩ rfl hn hl.1 hst (lv_room hroom) d hcs) hA hP hD hS hl (List.range' X.length W0.length) (gz_midC X W0 Y) hsh (fun v W1 h => by
    rw [gz_pw_mid W0 W1 X Y (by have h1 := congrArg List.length (hsh v W1 h); simpa using h1)]
    exact kk v W1 h) (fun E h => h.elim)
/-- caught by the row x of the table -/
theorem gz_catch (F : gF p s m args c cc nL own Ts D cI cJ cZ A) (NC : gz_NC s) (hB : gz_XB s) {E : String} {hh : List (Nat × Nat × Nat × Nat)} (htab : c.exceptionTable.toList = tableOf hh) (pre : List ExceptionTableEntry) (x : ExceptionTableEntry) (suf : List ExceptionTableEntry) (hsplit : tableOf hh = pre ++ x :: suf) (hE : E ∈ gz_exc)
    (hpass : ∀ z ∈ pre, z.catchType ≠ 0 ∧ ∃ nm : String, Cond.classLink own z.catchType nm ∈ Ts ∧ (E, nm) ∈ gz_ncs) (hx : covers x pc = true) (h0 : x.catchType ≠ 0) (hlink : Cond.classLink own x.catchType E ∈ Ts)
    (kk : ∀ q : Nat, gG p l e R s m args below meth c D A nL Q cells slots ws lv [.ref q] x.handlerPc) : gGx p l e R s m args below meth c D A nL Q cells slots ws lv st pc E := by
  intro H locs ls q ce hP hD hS hl hce hcv hcl
  obtain ⟨hx1, hb, hml, hown, hts, hK, hN, hA⟩ := F
  exact vx_catch hown pre x suf (htab.trans hsplit) (fun z hz => by
    obtain ⟨z0, nm, z1, z2⟩ := hpass z hz
    exact Or.inr ⟨z0, nm, hts _ z1, NC _ z2⟩) hx h0 (hts _ hlink) (va_Nw.use rfl (hB.2.1 E hE)) hce hcv hcl (kk q H locs ls hP hD hS hl)
theorem gz_widen {k n : Nat} (h1 : cells ≤ k) (h2 : slots ≤ n) (kk : gG p l e R s m args below meth c D A nL Q k n ws lv st pc) : gG p l e R s m args below meth c D A nL Q cells slots ws lv st pc := fun H locs ls hP hD hS hl => W.widen h1 h2 (kk H locs ls hP hD hS hl)
end GZY
/-- what a law's method hands back: 0 and the answer kept, or the exception's number and all as it was -/
def gz_pW (k : String → Int) (cs : List (Prop × String)) (W2 W0 : va_W) : Option Value → va_W → Prop := fun v W1 => v = some (vI (gz_cd k cs)) ∧ ((gz_ok cs ∧ W1 = W2) ∨ ((∃ E, gz_px cs E) ∧ W1 = W0))
theorem gz_pW_sh {k : String → Int} {cs : List (Prop × String)} {W2 W0 : va_W} (h : W2.map Prod.fst = W0.map Prod.fst) : ∀ v W1, gz_pW k cs W2 W0 v W1 → W1.map Prod.fst = W0.map Prod.fst := fun v W1 q => by
  rcases q.2 with ⟨-, e⟩ | ⟨-, e⟩
  · rw [e]; exact h
  · rw [e]
theorem gz_pO_sh {cs : List (Prop × String)} {v0 : Option Value} {W2 W0 : va_W} (h : W2.map Prod.fst = W0.map Prod.fst) : ∀ v W1, gz_pO cs v0 W2 v W1 → W1.map Prod.fst = W0.map Prod.fst := fun v W1 q => by rw [q.2.2]; exact h
theorem gz_px_in {E : String} : ∀ {cs : List (Prop × String)}, gz_px cs E → E ∈ cs.map Prod.snd
  | [], h => h.elim
  | q :: r, h => by
    rcases h with ⟨-, h2⟩ | ⟨-, h2⟩
    · rw [h2]
      exact List.mem_cons_self
    · exact List.mem_cons_of_mem _ (gz_px_in h2)
abbrev OuC (cJ : ClassId) (o : Nat) (f : Nat → Int64) : Nat × va_E := (o, .inl (cJ, 1, .inr (.inl f)))
