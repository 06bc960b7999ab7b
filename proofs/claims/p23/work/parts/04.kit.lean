/-! ===== a kit of my own: ints as whole numbers ===== -/
def zI (x : Int) : Int32 := Int32.ofInt x
abbrev vI (x : Int) : Value := .int (zI x)
theorem zI_add (a b : Int) : zI a + zI b = zI (a + b) := (Int32.ofInt_add a b).symm
theorem zI_sub (a b : Int) : zI a - zI b = zI (a - b) := (Int32.ofInt_sub a b).symm
theorem zI_mul (a b : Int) : zI a * zI b = zI (a * b) := (Int32.ofInt_mul a b).symm
theorem zI_toInt {a : Int} (h : -2147483648 ≤ a ∧ a < 2147483648) : (zI a).toInt = a := Int32.toInt_ofInt_of_le (by omega) (by omega)
theorem zI_of (x : Int32) : zI x.toInt = x := Int32.ofInt_toInt x
theorem zI_rng (x : Int32) : -2147483648 ≤ x.toInt ∧ x.toInt < 2147483648 := ⟨x.le_toInt, x.toInt_lt⟩
theorem zI_le {a b : Int} (ha : -2147483648 ≤ a ∧ a < 2147483648) (hb : -2147483648 ≤ b ∧ b < 2147483648) : zI a ≤ zI b ↔ a ≤ b := by rw [Int32.le_iff_toInt_le, zI_toInt ha, zI_toInt hb]
theorem zI_lt {a b : Int} (ha : -2147483648 ≤ a ∧ a < 2147483648) (hb : -2147483648 ≤ b ∧ b < 2147483648) : zI a < zI b ↔ a < b := by rw [Int32.lt_iff_toInt_lt, zI_toInt ha, zI_toInt hb]
theorem zI_eq {a b : Int} (ha : -2147483648 ≤ a ∧ a < 2147483648) (hb : -2147483648 ≤ b ∧ b < 2147483648) : zI a = zI b ↔ a = b := by rw [← Int32.toInt_inj, zI_toInt ha, zI_toInt hb]
theorem zI_0 : zI 0 = 0 := by decide
theorem zI_cl {a : Int} (h : -2147483648 ≤ a ∧ a < 2147483648) : (zI a).toNatClampNeg = a.toNat := Int32.toNatClampNeg_ofInt_of_le (by omega) (by omega)
theorem zI_in {j : Int} {n : Nat} (h : 0 ≤ j ∧ j < n) (hn : n < 2147483648) : vp_in (zI j) n := vp_in_iff.mpr (by rw [zI_toInt ⟨by omega, by omega⟩]; exact h)
theorem zI_div {a d : Int} (ha : 0 ≤ a ∧ a < 2147483648) (hd : 0 < d ∧ d < 2147483648) : zI a / zI d = zI (a / d) := by
  rw [show a / d = a.tdiv d from (Int.tdiv_eq_ediv_of_nonneg ha.1).symm]
  refine (Int32.ofInt_tdiv ?_ ?_ ?_ ?_).symm <;> first | (show (-2147483648 : Int) ≤ _; omega) | (show _ ≤ (2147483647 : Int); omega)
theorem zI_rem {a d : Int} (ha : 0 ≤ a ∧ a < 2147483648) (hd : 0 < d ∧ d < 2147483648) : zI a - zI a / zI d * zI d = zI (a % d) := by
  rw [zI_div ha hd, zI_mul, zI_sub]
  congr 1
  have h := Int.emod_def a d
  rw [h, Int.mul_comm]
/-- functions of whole numbers as rows of ints -/
def zU (f : Int → Int) (j x : Int) : Int → Int := fun k => if k = j then x else f k
def zA (f : Int → Int) : Nat → Int32 := fun k => zI (f (k : Int))
theorem zU_s (f : Int → Int) (j x : Int) : zU f j x j = x := by unfold zU; rw [if_pos rfl]
theorem zU_n (f : Int → Int) {j k : Int} (x : Int) (h : k ≠ j) : zU f j x k = f k := by unfold zU; rw [if_neg h]
theorem zU_c (f : Int → Int) (j x k : Int) : (k = j ∧ zU f j x k = x) ∨ (k ≠ j ∧ zU f j x k = f k) := by
  by_cases h : k = j
  · exact Or.inl ⟨h, by rw [h, zU_s]⟩
  · exact Or.inr ⟨h, zU_n f x h⟩
theorem zU_id {f : Int → Int} {j x : Int} (h : f j = x) : zU f j x = f := by
  funext k
  rcases zU_c f j x k with ⟨h1, h2⟩ | ⟨h1, h2⟩
  · rw [h2, h1, h]
  · exact h2
theorem zA_upd (f : Int → Int) {j : Int} (x : Int) (hj : 0 ≤ j) : upd (zA f) j.toNat (zI x) = zA (zU f j x) := by
  funext k
  unfold upd zA zU
  by_cases h : k = j.toNat
  · subst h
    rw [if_pos rfl, if_pos (Int.toNat_of_nonneg hj)]
  · rw [if_neg h, if_neg (by omega)]
theorem zA_at (f : Int → Int) {j : Int} (hj : 0 ≤ j) : zA f j.toNat = zI (f j) := by unfold zA; rw [Int.toNat_of_nonneg hj]
theorem zA_0 : zA (fun _ => 0) = fun _ => 0 := by
  funext k
  exact zI_0
/-- a proposition as 1 or 0 -/
noncomputable def bz (P : Prop) : Int := @ite Int P (Classical.propDecidable P) 1 0
theorem bz_t {P : Prop} (h : P) : bz P = 1 := by unfold bz; exact if_pos h
theorem bz_f {P : Prop} (h : ¬ P) : bz P = 0 := by unfold bz; exact if_neg h
theorem bz_01 (P : Prop) : (P ∧ bz P = 1) ∨ (¬ P ∧ bz P = 0) := by
  by_cases h : P
  · exact Or.inl ⟨h, bz_t h⟩
  · exact Or.inr ⟨h, bz_f h⟩
theorem bz_r (P : Prop) : 0 ≤ bz P ∧ bz P ≤ 1 := by rcases bz_01 P with h | h <;> omega
theorem bz_c {P P2 : Prop} (h : P ↔ P2) : bz P = bz P2 := by
  rcases bz_01 P with ⟨h1, h2⟩ | ⟨h1, h2⟩
  · rw [h2, bz_t (h.mp h1)]
  · rw [h2, bz_f (fun q => h1 (h.mpr q))]
theorem bz_nar (P : Prop) : narrow .boolean (vI (bz P)) = vI (bz P) := by
  rcases bz_01 P with ⟨-, h⟩ | ⟨-, h⟩ <;> rw [h] <;> rfl
/-! ===== one judgement for a body's middle ===== -/
abbrev gz_tys (cI cJ cZ : ClassId) : List (ClassId × FieldType) := [(cI, .int), (cJ, .long), (cZ, .byte)]
def gz_nest : List (String × Nat × MethodName) := [(RX8, 9, yX5_init), (RX8, 21, yX7_init), (RX8, 28, yX6_init), (RX3, 35, yX8_overlap), (RX4, 42, yX8_overlap), (RX5, 11, yX3_init), (RX5, 20, yX2_init), (RX5, 27, yX1_init), (RX5, 34, yX4_init), (RX5, 41, yX0_init), (RX5, 124, yX8_overlap), (RX5, 147, yX8_isOneDay)]
def gz_N (U : State) : Prop := ∀ q ∈ gz_nest, va_Nw (.methodLinkNest q.1 q.2.1 q.2.2 "Rigdiary") U
theorem gz_N.same {u U : State} (h : u.vm = U.vm) (k : gz_N u) : gz_N U := fun q hq => va_Nw.same rfl h (k q hq)
theorem gz_N.warm {s U : State} (hW : s.WarmedH U.vm) (k : gz_N s) : gz_N U := fun q hq => va_Nw.warmM hW (k q hq)
section GZ
variable {p : Program} {l : Launch} {e : Env} {R : Room} {s : State} {m : MethodId} {args : Array Value} {below : List Frame} {meth : Method} {c : Code} {D : va_G} {A : Nat → Prop} {nL : Nat} {Q : State → Prop} {cells slots : Nat}
def gG (p : Program) (l : Launch) (e : Env) (R : Room) (s : State) (m : MethodId) (args : Array Value) (below : List Frame) (meth : Method) (c : Code) (D : va_G) (A : Nat → Prop) (nL : Nat) (Q : State → Prop) (cells slots : Nat) (ws : va_W) (lv : List (Nat × Value)) (st : List Value) (pc : Nat) : Prop :=
  ∀ (H : Heap) (locs : List Loc) (ls : Array Slot), va_P D vwCl ws H → va_D A ws → va_S A s.heap H locs → lv_has ls nL lv → W p l e R s m args below meth c H locs cells slots Q (F0 m pc ls st)
def gF (p : Program) (s : State) (m : MethodId) (args : Array Value) (c : Code) (cc : ByteArray) (nL : Nat) (own : String) (Ts : List Cond) (D : va_G) (cI cJ cZ : ClassId) (A : Nat → Prop) : Prop :=
  p.tables.exec = Jvm.exec ∧ c.code = cc ∧ c.maxLocals = nL ∧ s.vm.findClass own = some m.cls ∧ (∀ w ∈ Ts, w.before args s = true) ∧ va_K D vwCl (gz_tys cI cJ cZ) s ∧ gz_N s ∧ (∀ q, s.heap.size ≤ q → A q)
variable {cc : ByteArray} {own : String} {Ts : List Cond} {cI cJ cZ : ClassId} {ws : va_W} {lv : List (Nat × Value)} {st : List Value} {pc : Nat}
theorem gz_eqst {st2 : List Value} (h : st = st2) (k : gG p l e R s m args below meth c D A nL Q cells slots ws lv st2 pc) : gG p l e R s m args below meth c D A nL Q cells slots ws lv st pc := by rw [h]; exact k
theorem gz_eqw {ws2 : va_W} (h : ws = ws2) (k : gG p l e R s m args below meth c D A nL Q cells slots ws2 lv st pc) : gG p l e R s m args below meth c D A nL Q cells slots ws lv st pc := by rw [h]; exact k
theorem gz_lv {lv2 : List (Nat × Value)} (ks : List Nat) (h : lv_pick lv ks = lv2) (k : gG p l e R s m args below meth c D A nL Q cells slots ws lv2 st pc) : gG p l e R s m args below meth c D A nL Q cells slots ws lv st pc :=
  fun H locs ls hP hD hS hl => k H locs ls hP hD hS (lv_sub hl ks h)
theorem gz_const (F : gF p s m args c cc nL own Ts D cI cJ cZ A) {n : Int} (d : decode cc pc = .ok (.iconst n, 1)) (k : gG p l e R s m args below meth c D A nL Q cells slots ws lv (vI n :: st) (pc + 1)) : gG p l e R s m args below meth c D A nL Q cells slots ws lv st pc :=
  fun H locs ls hP hD hS hl => lv_iconst F.1 F.2.1 d rfl (k H locs ls hP hD hS hl)
theorem gz_bipush (F : gF p s m args c cc nL own Ts D cI cJ cZ A) {n : Int} (d : decode cc pc = .ok (.bipush n, 2)) (hv : (Int8.ofInt n).toInt32 = zI n) (k : gG p l e R s m args below meth c D A nL Q cells slots ws lv (vI n :: st) (pc + 2)) : gG p l e R s m args below meth c D A nL Q cells slots ws lv st pc :=
  fun H locs ls hP hD hS hl => lv_bipush F.1 F.2.1 d hv (k H locs ls hP hD hS hl)
theorem gz_sipush (F : gF p s m args c cc nL own Ts D cI cJ cZ A) {n : Int} (d : decode cc pc = .ok (.sipush n, 3)) (hv : (Int16.ofInt n).toInt32 = zI n) (k : gG p l e R s m args below meth c D A nL Q cells slots ws lv (vI n :: st) (pc + 3)) : gG p l e R s m args below meth c D A nL Q cells slots ws lv st pc :=
  fun H locs ls hP hD hS hl => lv_sipush F.1 F.2.1 d hv (k H locs ls hP hD hS hl)
theorem gz_iload_n (F : gF p s m args c cc nL own Ts D cI cJ cZ A) {k : Fin 4} {i : Nat} {x : Int32} (d : decode cc pc = .ok (.iload_n k, 1)) (hi : (k : Nat) = i) (k0 : Nat) (h0 : lv[k0]? = some (i, .int x)) (kk : gG p l e R s m args below meth c D A nL Q cells slots ws lv (.int x :: st) (pc + 1)) : gG p l e R s m args below meth c D A nL Q cells slots ws lv st pc :=
  fun H locs ls hP hD hS hl => lv_iload_n F.1 F.2.1 d hi (lv_at hl k0 h0) (kk H locs ls hP hD hS hl)
theorem gz_iload (F : gF p s m args c cc nL own Ts D cI cJ cZ A) {i : Nat} {x : Int32} (d : decode cc pc = .ok (.iload i, 2)) (k0 : Nat) (h0 : lv[k0]? = some (i, .int x)) (kk : gG p l e R s m args below meth c D A nL Q cells slots ws lv (.int x :: st) (pc + 2)) : gG p l e R s m args below meth c D A nL Q cells slots ws lv st pc :=
  fun H locs ls hP hD hS hl => lv_iload F.1 F.2.1 d (lv_at hl k0 h0) (kk H locs ls hP hD hS hl)
theorem gz_aload_n (F : gF p s m args c cc nL own Ts D cI cJ cZ A) {k : Fin 4} {i : Nat} {x : Nat} (d : decode cc pc = .ok (.aload_n k, 1)) (hi : (k : Nat) = i) (k0 : Nat) (h0 : lv[k0]? = some (i, .ref x)) (kk : gG p l e R s m args below meth c D A nL Q cells slots ws lv (.ref x :: st) (pc + 1)) : gG p l e R s m args below meth c D A nL Q cells slots ws lv st pc :=
  fun H locs ls hP hD hS hl => lv_aload_n F.1 F.2.1 d hi (lv_at hl k0 h0) (kk H locs ls hP hD hS hl)
theorem gz_aload (F : gF p s m args c cc nL own Ts D cI cJ cZ A) {i : Nat} {x : Nat} (d : decode cc pc = .ok (.aload i, 2)) (k0 : Nat) (h0 : lv[k0]? = some (i, .ref x)) (kk : gG p l e R s m args below meth c D A nL Q cells slots ws lv (.ref x :: st) (pc + 2)) : gG p l e R s m args below meth c D A nL Q cells slots ws lv st pc :=
  fun H locs ls hP hD hS hl => lv_aload F.1 F.2.1 d (lv_at hl k0 h0) (kk H locs ls hP hD hS hl)
theorem gz_istore_n (F : gF p s m args c cc nL own Ts D cI cJ cZ A) {k : Fin 4} {i : Nat} {x : Int32} {lv2 : List (Nat × Value)} (d : decode cc pc = .ok (.istore_n k, 1)) (hi : (k : Nat) = i) (hn : i < nL) (h2 : (i, Value.int x) :: lv.filter (fun q => !(q.1 == i) && !(q.1 + 1 == i && q.2.category == 2)) = lv2) (kk : gG p l e R s m args below meth c D A nL Q cells slots ws lv2 st (pc + 1)) : gG p l e R s m args below meth c D A nL Q cells slots ws lv (.int x :: st) pc :=
  fun H locs ls hP hD hS hl => lv_istore_n F.1 F.2.1 d hi hl hn h2 (fun ls hl => kk H locs ls hP hD hS hl)
theorem gz_istore (F : gF p s m args c cc nL own Ts D cI cJ cZ A) {i : Nat} {x : Int32} {lv2 : List (Nat × Value)} (d : decode cc pc = .ok (.istore i, 2)) (hn : i < nL) (h2 : (i, Value.int x) :: lv.filter (fun q => !(q.1 == i) && !(q.1 + 1 == i && q.2.category == 2)) = lv2) (kk : gG p l e R s m args below meth c D A nL Q cells slots ws lv2 st (pc + 2)) : gG p l e R s m args below meth c D A nL Q cells slots ws lv (.int x :: st) pc :=
  fun H locs ls hP hD hS hl => lv_istore F.1 F.2.1 d hl hn h2 (fun ls hl => kk H locs ls hP hD hS hl)
theorem gz_astore_n (F : gF p s m args c cc nL own Ts D cI cJ cZ A) {k : Fin 4} {i : Nat} {x : Nat} {lv2 : List (Nat × Value)} (d : decode cc pc = .ok (.astore_n k, 1)) (hi : (k : Nat) = i) (hn : i < nL) (h2 : (i, Value.ref x) :: lv.filter (fun q => !(q.1 == i) && !(q.1 + 1 == i && q.2.category == 2)) = lv2) (kk : gG p l e R s m args below meth c D A nL Q cells slots ws lv2 st (pc + 1)) : gG p l e R s m args below meth c D A nL Q cells slots ws lv (.ref x :: st) pc :=
  fun H locs ls hP hD hS hl => lv_astore_n F.1 F.2.1 d hi hl hn h2 (fun ls hl => kk H locs ls hP hD hS hl)
theorem gz_astore (F : gF p s m args c cc nL own Ts D cI cJ cZ A) {i : Nat} {x : Nat} {lv2 : List (Nat × Value)} (d : decode cc pc = .ok (.astore i, 2)) (hn : i < nL) (h2 : (i, Value.ref x) :: lv.filter (fun q => !(q.1 == i) && !(q.1 + 1 == i && q.2.category == 2)) = lv2) (kk : gG p l e R s m args below meth c D A nL Q cells slots ws lv2 st (pc + 2)) : gG p l e R s m args below meth c D A nL Q cells slots ws lv (.ref x :: st) pc :=
  fun H locs ls hP hD hS hl => lv_astore F.1 F.2.1 d hl hn h2 (fun ls hl => kk H locs ls hP hD hS hl)
theorem gz_iinc (F : gF p s m args c cc nL own Ts D cI cJ cZ A) {i : Nat} {n x : Int} {lv2 : List (Nat × Value)} (d : decode cc pc = .ok (.iinc i n, 3)) (k0 : Nat) (h0 : lv[k0]? = some (i, vI x)) (hn : i < nL) (h2 : (i, vI (x + n)) :: lv.filter (fun q => !(q.1 == i) && !(q.1 + 1 == i && q.2.category == 2)) = lv2) (kk : gG p l e R s m args below meth c D A nL Q cells slots ws lv2 st (pc + 3)) : gG p l e R s m args below meth c D A nL Q cells slots ws lv st pc :=
  fun H locs ls hP hD hS hl => lv_iinc F.1 F.2.1 d hl h0 (zI_add x n) hn h2 (fun ls hl => kk H locs ls hP hD hS hl)
theorem gz_iadd (F : gF p s m args c cc nL own Ts D cI cJ cZ A) {x y : Int} (d : decode cc pc = .ok (.iadd, 1)) (k : gG p l e R s m args below meth c D A nL Q cells slots ws lv (vI (x + y) :: st) (pc + 1)) : gG p l e R s m args below meth c D A nL Q cells slots ws lv (vI y :: vI x :: st) pc :=
  fun H locs ls hP hD hS hl => lv_iadd F.1 F.2.1 d (by rw [zI_add]; exact k H locs ls hP hD hS hl)
theorem gz_isub (F : gF p s m args c cc nL own Ts D cI cJ cZ A) {x y : Int} (d : decode cc pc = .ok (.isub, 1)) (k : gG p l e R s m args below meth c D A nL Q cells slots ws lv (vI (x - y) :: st) (pc + 1)) : gG p l e R s m args below meth c D A nL Q cells slots ws lv (vI y :: vI x :: st) pc :=
  fun H locs ls hP hD hS hl => lv_isub F.1 F.2.1 d (by rw [zI_sub]; exact k H locs ls hP hD hS hl)
theorem gz_imul (F : gF p s m args c cc nL own Ts D cI cJ cZ A) {x y : Int} (d : decode cc pc = .ok (.imul, 1)) (k : gG p l e R s m args below meth c D A nL Q cells slots ws lv (vI (x * y) :: st) (pc + 1)) : gG p l e R s m args below meth c D A nL Q cells slots ws lv (vI y :: vI x :: st) pc :=
  fun H locs ls hP hD hS hl => lv_imul F.1 F.2.1 d (by rw [zI_mul]; exact k H locs ls hP hD hS hl)
theorem gz_idiv (F : gF p s m args c cc nL own Ts D cI cJ cZ A) {x y : Int} (d : decode cc pc = .ok (.idiv, 1)) (hx : 0 ≤ x ∧ x < 2147483648) (hy : 0 < y ∧ y < 2147483648) (k : gG p l e R s m args below meth c D A nL Q cells slots ws lv (vI (x / y) :: st) (pc + 1)) : gG p l e R s m args below meth c D A nL Q cells slots ws lv (vI y :: vI x :: st) pc :=
  fun H locs ls hP hD hS hl => lv_idiv F.1 F.2.1 d (fun h => by have h1 := zI_toInt (a := y) (by omega); rw [h] at h1; have h2 : (0 : Int32).toInt = 0 := rfl; omega) (by rw [zI_div hx hy]; exact k H locs ls hP hD hS hl)
theorem gz_irem (F : gF p s m args c cc nL own Ts D cI cJ cZ A) {x y : Int} (d : decode cc pc = .ok (.irem, 1)) (hx : 0 ≤ x ∧ x < 2147483648) (hy : 0 < y ∧ y < 2147483648) (k : gG p l e R s m args below meth c D A nL Q cells slots ws lv (vI (x % y) :: st) (pc + 1)) : gG p l e R s m args below meth c D A nL Q cells slots ws lv (vI y :: vI x :: st) pc :=
  fun H locs ls hP hD hS hl => lv_irem F.1 F.2.1 d (fun h => by have h1 := zI_toInt (a := y) (by omega); rw [h] at h1; have h2 : (0 : Int32).toInt = 0 := rfl; omega) (by rw [zI_rem hx hy]; exact k H locs ls hP hD hS hl)
/-- any other word of two ints: what it makes is given by an equation -/
theorem gz_iand (F : gF p s m args c cc nL own Ts D cI cJ cZ A) {x y : Int32} {v : Int} (d : decode cc pc = .ok (.iand, 1)) (hv : x &&& y = zI v) (k : gG p l e R s m args below meth c D A nL Q cells slots ws lv (vI v :: st) (pc + 1)) : gG p l e R s m args below meth c D A nL Q cells slots ws lv (.int y :: .int x :: st) pc :=
  fun H locs ls hP hD hS hl => lv_iand F.1 F.2.1 d (by rw [hv]; exact k H locs ls hP hD hS hl)
theorem gz_ior (F : gF p s m args c cc nL own Ts D cI cJ cZ A) {x y : Int32} {v : Int} (d : decode cc pc = .ok (.ior, 1)) (hv : x ||| y = zI v) (k : gG p l e R s m args below meth c D A nL Q cells slots ws lv (vI v :: st) (pc + 1)) : gG p l e R s m args below meth c D A nL Q cells slots ws lv (.int y :: .int x :: st) pc :=
  fun H locs ls hP hD hS hl => lv_ior F.1 F.2.1 d (by rw [hv]; exact k H locs ls hP hD hS hl)
theorem gz_ixor (F : gF p s m args c cc nL own Ts D cI cJ cZ A) {x y : Int32} {v : Int} (d : decode cc pc = .ok (.ixor, 1)) (hv : x ^^^ y = zI v) (k : gG p l e R s m args below meth c D A nL Q cells slots ws lv (vI v :: st) (pc + 1)) : gG p l e R s m args below meth c D A nL Q cells slots ws lv (.int y :: .int x :: st) pc :=
  fun H locs ls hP hD hS hl => lv_ixor F.1 F.2.1 d (by rw [hv]; exact k H locs ls hP hD hS hl)
theorem gz_ishl (F : gF p s m args c cc nL own Ts D cI cJ cZ A) {x y : Int32} {v : Int} (d : decode cc pc = .ok (.ishl, 1)) (hv : x <<< (y &&& 31) = zI v) (k : gG p l e R s m args below meth c D A nL Q cells slots ws lv (vI v :: st) (pc + 1)) : gG p l e R s m args below meth c D A nL Q cells slots ws lv (.int y :: .int x :: st) pc :=
  fun H locs ls hP hD hS hl => lv_ishl F.1 F.2.1 d (by rw [hv]; exact k H locs ls hP hD hS hl)
theorem gz_ishr (F : gF p s m args c cc nL own Ts D cI cJ cZ A) {x y : Int32} {v : Int} (d : decode cc pc = .ok (.ishr, 1)) (hv : x >>> (y &&& 31) = zI v) (k : gG p l e R s m args below meth c D A nL Q cells slots ws lv (vI v :: st) (pc + 1)) : gG p l e R s m args below meth c D A nL Q cells slots ws lv (.int y :: .int x :: st) pc :=
  fun H locs ls hP hD hS hl => lv_ishr F.1 F.2.1 d (by rw [hv]; exact k H locs ls hP hD hS hl)
theorem gz_i2c (F : gF p s m args c cc nL own Ts D cI cJ cZ A) {x : Int32} {v : Int} (d : decode cc pc = .ok (.i2c, 1)) (hv : (x.toUInt32 % 65536).toInt32 = zI v) (k : gG p l e R s m args below meth c D A nL Q cells slots ws lv (vI v :: st) (pc + 1)) : gG p l e R s m args below meth c D A nL Q cells slots ws lv (.int x :: st) pc :=
  fun H locs ls hP hD hS hl => lv_i2c F.1 F.2.1 d hv (k H locs ls hP hD hS hl)
theorem gz_dup (F : gF p s m args c cc nL own Ts D cI cJ cZ A) {v : Value} (d : decode cc pc = .ok (.dup, 1)) (hv : v.category = 1) (k : gG p l e R s m args below meth c D A nL Q cells slots ws lv (v :: v :: st) (pc + 1)) : gG p l e R s m args below meth c D A nL Q cells slots ws lv (v :: st) pc :=
  fun H locs ls hP hD hS hl => lv_dup F.1 F.2.1 d hv (k H locs ls hP hD hS hl)
theorem gz_dup2 (F : gF p s m args c cc nL own Ts D cI cJ cZ A) {v w : Value} (d : decode cc pc = .ok (.dup2, 1)) (hv : v.category = 1) (hw : w.category = 1) (k : gG p l e R s m args below meth c D A nL Q cells slots ws lv (v :: w :: v :: w :: st) (pc + 1)) : gG p l e R s m args below meth c D A nL Q cells slots ws lv (v :: w :: st) pc :=
  fun H locs ls hP hD hS hl => lv_dup2_11 F.1 F.2.1 d hv hw (k H locs ls hP hD hS hl)
theorem gz_pop (F : gF p s m args c cc nL own Ts D cI cJ cZ A) {v : Value} (d : decode cc pc = .ok (.pop, 1)) (hv : v.category = 1) (k : gG p l e R s m args below meth c D A nL Q cells slots ws lv st (pc + 1)) : gG p l e R s m args below meth c D A nL Q cells slots ws lv (v :: st) pc :=
  fun H locs ls hP hD hS hl => lv_pop F.1 F.2.1 d hv (k H locs ls hP hD hS hl)
theorem gz_goto (F : gF p s m args c cc nL own Ts D cI cJ cZ A) {off : Int} {tgt : Nat} (d : decode cc pc = .ok (.goto off, 3)) (ht : (pc : Int) + off = (tgt : Int)) (k : gG p l e R s m args below meth c D A nL Q cells slots ws lv st tgt) : gG p l e R s m args below meth c D A nL Q cells slots ws lv st pc :=
  fun H locs ls hP hD hS hl => lv_goto F.1 F.2.1 d ht (k H locs ls hP hD hS hl)
theorem gz_icmp_eq (F : gF p s m args c cc nL own Ts D cI cJ cZ A) {x y : Int} {off : Int} {tgt : Nat} (d : decode cc pc = .ok (.if_icmp .eq off, 3)) (ht : (pc : Int) + off = (tgt : Int)) (hx : -2147483648 ≤ x ∧ x < 2147483648) (hy : -2147483648 ≤ y ∧ y < 2147483648) (kt : x = y → gG p l e R s m args below meth c D A nL Q cells slots ws lv st tgt) (kf : x ≠ y → gG p l e R s m args below meth c D A nL Q cells slots ws lv st (pc + 3)) : gG p l e R s m args below meth c D A nL Q cells slots ws lv (vI y :: vI x :: st) pc :=
  fun H locs ls hP hD hS hl => lv_icmp_eq F.1 F.2.1 d ht (fun h => kt ((zI_eq hx hy).mp h) H locs ls hP hD hS hl) (fun h => kf (fun q => h ((zI_eq hx hy).mpr q)) H locs ls hP hD hS hl)
theorem gz_icmp_ne (F : gF p s m args c cc nL own Ts D cI cJ cZ A) {x y : Int} {off : Int} {tgt : Nat} (d : decode cc pc = .ok (.if_icmp .ne off, 3)) (ht : (pc : Int) + off = (tgt : Int)) (hx : -2147483648 ≤ x ∧ x < 2147483648) (hy : -2147483648 ≤ y ∧ y < 2147483648) (kt : x ≠ y → gG p l e R s m args below meth c D A nL Q cells slots ws lv st tgt) (kf : x = y → gG p l e R s m args below meth c D A nL Q cells slots ws lv st (pc + 3)) : gG p l e R s m args below meth c D A nL Q cells slots ws lv (vI y :: vI x :: st) pc :=
  fun H locs ls hP hD hS hl => lv_icmp_ne F.1 F.2.1 d ht (fun h => kt (fun q => h ((zI_eq hx hy).mpr q)) H locs ls hP hD hS hl) (fun h => kf ((zI_eq hx hy).mp h) H locs ls hP hD hS hl)
theorem gz_icmp_lt (F : gF p s m args c cc nL own Ts D cI cJ cZ A) {x y : Int} {off : Int} {tgt : Nat} (d : decode cc pc = .ok (.if_icmp .lt off, 3)) (ht : (pc : Int) + off = (tgt : Int)) (hx : -2147483648 ≤ x ∧ x < 2147483648) (hy : -2147483648 ≤ y ∧ y < 2147483648) (kt : x < y → gG p l e R s m args below meth c D A nL Q cells slots ws lv st tgt) (kf : y ≤ x → gG p l e R s m args below meth c D A nL Q cells slots ws lv st (pc + 3)) : gG p l e R s m args below meth c D A nL Q cells slots ws lv (vI y :: vI x :: st) pc :=
  fun H locs ls hP hD hS hl => lv_icmp_lt F.1 F.2.1 d ht (fun h => kt ((zI_lt hx hy).mp h) H locs ls hP hD hS hl) (fun h => kf (Int.not_lt.mp (fun q => h ((zI_lt hx hy).mpr q))) H locs ls hP hD hS hl)
theorem gz_icmp_ge (F : gF p s m args c cc nL own Ts D cI cJ cZ A) {x y : Int} {off : Int} {tgt : Nat} (d : decode cc pc = .ok (.if_icmp .ge off, 3)) (ht : (pc : Int) + off = (tgt : Int)) (hx : -2147483648 ≤ x ∧ x < 2147483648) (hy : -2147483648 ≤ y ∧ y < 2147483648) (kt : y ≤ x → gG p l e R s m args below meth c D A nL Q cells slots ws lv st tgt) (kf : x < y → gG p l e R s m args below meth c D A nL Q cells slots ws lv st (pc + 3)) : gG p l e R s m args below meth c D A nL Q cells slots ws lv (vI y :: vI x :: st) pc :=
  fun H locs ls hP hD hS hl => lv_icmp_ge F.1 F.2.1 d ht (fun h => kt ((zI_le hy hx).mp h) H locs ls hP hD hS hl) (fun h => kf (Int.not_le.mp (fun q => h ((zI_le hy hx).mpr q))) H locs ls hP hD hS hl)
theorem gz_icmp_gt (F : gF p s m args c cc nL own Ts D cI cJ cZ A) {x y : Int} {off : Int} {tgt : Nat} (d : decode cc pc = .ok (.if_icmp .gt off, 3)) (ht : (pc : Int) + off = (tgt : Int)) (hx : -2147483648 ≤ x ∧ x < 2147483648) (hy : -2147483648 ≤ y ∧ y < 2147483648) (kt : y < x → gG p l e R s m args below meth c D A nL Q cells slots ws lv st tgt) (kf : x ≤ y → gG p l e R s m args below meth c D A nL Q cells slots ws lv st (pc + 3)) : gG p l e R s m args below meth c D A nL Q cells slots ws lv (vI y :: vI x :: st) pc :=
  fun H locs ls hP hD hS hl => lv_icmp_gt F.1 F.2.1 d ht (fun h => kt ((zI_lt hy hx).mp h) H locs ls hP hD hS hl) (fun h => kf (Int.not_lt.mp (fun q => h ((zI_lt hy hx).mpr q))) H locs ls hP hD hS hl)
theorem gz_icmp_le (F : gF p s m args c cc nL own Ts D cI cJ cZ A) {x y : Int} {off : Int} {tgt : Nat} (d : decode cc pc = .ok (.if_icmp .le off, 3)) (ht : (pc : Int) + off = (tgt : Int)) (hx : -2147483648 ≤ x ∧ x < 2147483648) (hy : -2147483648 ≤ y ∧ y < 2147483648) (kt : x ≤ y → gG p l e R s m args below meth c D A nL Q cells slots ws lv st tgt) (kf : y < x → gG p l e R s m args below meth c D A nL Q cells slots ws lv st (pc + 3)) : gG p l e R s m args below meth c D A nL Q cells slots ws lv (vI y :: vI x :: st) pc :=
  fun H locs ls hP hD hS hl => lv_icmp_le F.1 F.2.1 d ht (fun h => kt ((zI_le hx hy).mp h) H locs ls hP hD hS hl) (fun h => kf (Int.not_le.mp (fun q => h ((zI_le hx hy).mpr q))) H locs ls hP hD hS hl)
theorem gz_if_eq (F : gF p s m args c cc nL own Ts D cI cJ cZ A) {x : Int} {off : Int} {tgt : Nat} (d : decode cc pc = .ok (.ifCond .eq off, 3)) (ht : (pc : Int) + off = (tgt : Int)) (hx : -2147483648 ≤ x ∧ x < 2147483648) (kt : x = 0 → gG p l e R s m args below meth c D A nL Q cells slots ws lv st tgt) (kf : x ≠ 0 → gG p l e R s m args below meth c D A nL Q cells slots ws lv st (pc + 3)) : gG p l e R s m args below meth c D A nL Q cells slots ws lv (vI x :: st) pc :=
  fun H locs ls hP hD hS hl => lv_if_eq F.1 F.2.1 d ht (fun h => kt ((zI_eq hx (by decide)).mp (h.trans zI_0.symm)) H locs ls hP hD hS hl) (fun h => kf (fun q => h (((zI_eq hx (by decide)).mpr q).trans zI_0)) H locs ls hP hD hS hl)
theorem gz_if_ne (F : gF p s m args c cc nL own Ts D cI cJ cZ A) {x : Int} {off : Int} {tgt : Nat} (d : decode cc pc = .ok (.ifCond .ne off, 3)) (ht : (pc : Int) + off = (tgt : Int)) (hx : -2147483648 ≤ x ∧ x < 2147483648) (kt : x ≠ 0 → gG p l e R s m args below meth c D A nL Q cells slots ws lv st tgt) (kf : x = 0 → gG p l e R s m args below meth c D A nL Q cells slots ws lv st (pc + 3)) : gG p l e R s m args below meth c D A nL Q cells slots ws lv (vI x :: st) pc :=
  fun H locs ls hP hD hS hl => lv_if_ne F.1 F.2.1 d ht (fun h => kt (fun q => h (((zI_eq hx (by decide)).mpr q).trans zI_0)) H locs ls hP hD hS hl) (fun h => kf ((zI_eq hx (by decide)).mp (h.trans zI_0.symm)) H locs ls hP hD hS hl)
theorem gz_if_lt (F : gF p s m args c cc nL own Ts D cI cJ cZ A) {x : Int} {off : Int} {tgt : Nat} (d : decode cc pc = .ok (.ifCond .lt off, 3)) (ht : (pc : Int) + off = (tgt : Int)) (hx : -2147483648 ≤ x ∧ x < 2147483648) (kt : x < 0 → gG p l e R s m args below meth c D A nL Q cells slots ws lv st tgt) (kf : 0 ≤ x → gG p l e R s m args below meth c D A nL Q cells slots ws lv st (pc + 3)) : gG p l e R s m args below meth c D A nL Q cells slots ws lv (vI x :: st) pc :=
  fun H locs ls hP hD hS hl => lv_if_lt F.1 F.2.1 d ht (fun h => kt ((zI_lt hx (by decide)).mp (by rw [zI_0]; exact h)) H locs ls hP hD hS hl) (fun h => kf (Int.not_lt.mp (fun q => h (by have z := (zI_lt hx (by decide)).mpr q; rw [zI_0] at z; exact z))) H locs ls hP hD hS hl)
theorem gz_if_ge (F : gF p s m args c cc nL own Ts D cI cJ cZ A) {x : Int} {off : Int} {tgt : Nat} (d : decode cc pc = .ok (.ifCond .ge off, 3)) (ht : (pc : Int) + off = (tgt : Int)) (hx : -2147483648 ≤ x ∧ x < 2147483648) (kt : 0 ≤ x → gG p l e R s m args below meth c D A nL Q cells slots ws lv st tgt) (kf : x < 0 → gG p l e R s m args below meth c D A nL Q cells slots ws lv st (pc + 3)) : gG p l e R s m args below meth c D A nL Q cells slots ws lv (vI x :: st) pc :=
  fun H locs ls hP hD hS hl => lv_if_ge F.1 F.2.1 d ht (fun h => kt ((zI_le (by decide) hx).mp (by rw [zI_0]; exact h)) H locs ls hP hD hS hl) (fun h => kf (Int.not_le.mp (fun q => h (by have z := (zI_le (by decide) hx).mpr q; rw [zI_0] at z; exact z))) H locs ls hP hD hS hl)
theorem gz_if_gt (F : gF p s m args c cc nL own Ts D cI cJ cZ A) {x : Int} {off : Int} {tgt : Nat} (d : decode cc pc = .ok (.ifCond .gt off, 3)) (ht : (pc : Int) + off = (tgt : Int)) (hx : -2147483648 ≤ x ∧ x < 2147483648) (kt : 0 < x → gG p l e R s m args below meth c D A nL Q cells slots ws lv st tgt) (kf : x ≤ 0 → gG p l e R s m args below meth c D A nL Q cells slots ws lv st (pc + 3)) : gG p l e R s m args below meth c D A nL Q cells slots ws lv (vI x :: st) pc :=
  fun H locs ls hP hD hS hl => lv_if_gt F.1 F.2.1 d ht (fun h => kt ((zI_lt (by decide) hx).mp (by rw [zI_0]; exact h)) H locs ls hP hD hS hl) (fun h => kf (Int.not_lt.mp (fun q => h (by have z := (zI_lt (by decide) hx).mpr q; rw [zI_0] at z; exact z))) H locs ls hP hD hS hl)
theorem gz_if_le (F : gF p s m args c cc nL own Ts D cI cJ cZ A) {x : Int} {off : Int} {tgt : Nat} (d : decode cc pc = .ok (.ifCond .le off, 3)) (ht : (pc : Int) + off = (tgt : Int)) (hx : -2147483648 ≤ x ∧ x < 2147483648) (kt : x ≤ 0 → gG p l e R s m args below meth c D A nL Q cells slots ws lv st tgt) (kf : 0 < x → gG p l e R s m args below meth c D A nL Q cells slots ws lv st (pc + 3)) : gG p l e R s m args below meth c D A nL Q cells slots ws lv (vI x :: st) pc :=
  fun H locs ls hP hD hS hl => lv_if_le F.1 F.2.1 d ht (fun h => kt ((zI_le hx (by decide)).mp (by rw [zI_0]; exact h)) H locs ls hP hD hS hl) (fun h => kf (Int.not_le.mp (fun q => h (by have z := (zI_le hx (by decide)).mpr q; rw [zI_0] at z; exact z))) H locs ls hP hD hS hl)
theorem bz_0 {P : Prop} (h : bz P = 0) : ¬ P := by
  rcases bz_01 P with q | q
  · omega
  · exact q.1
theorem bz_n {P : Prop} (h : bz P ≠ 0) : P := by
  rcases bz_01 P with q | q
  · exact q.1
  · omega
theorem gz_if_eqb (F : gF p s m args c cc nL own Ts D cI cJ cZ A) {P : Prop} {off : Int} {tgt : Nat} (d : decode cc pc = .ok (.ifCond .eq off, 3)) (ht : (pc : Int) + off = (tgt : Int)) (kt : ¬ P → gG p l e R s m args below meth c D A nL Q cells slots ws lv st tgt) (kf : P → gG p l e R s m args below meth c D A nL Q cells slots ws lv st (pc + 3)) : gG p l e R s m args below meth c D A nL Q cells slots ws lv (vI (bz P) :: st) pc :=
  gz_if_eq F d ht (by have h := bz_r P; omega) (fun h => kt (bz_0 h)) (fun h => kf (bz_n h))
theorem gz_if_neb (F : gF p s m args c cc nL own Ts D cI cJ cZ A) {P : Prop} {off : Int} {tgt : Nat} (d : decode cc pc = .ok (.ifCond .ne off, 3)) (ht : (pc : Int) + off = (tgt : Int)) (kt : P → gG p l e R s m args below meth c D A nL Q cells slots ws lv st tgt) (kf : ¬ P → gG p l e R s m args below meth c D A nL Q cells slots ws lv st (pc + 3)) : gG p l e R s m args below meth c D A nL Q cells slots ws lv (vI (bz P) :: st) pc :=
  gz_if_ne F d ht (by have h := bz_r P; omega) (fun h => kt (bz_n h)) (fun h => kf (bz_0 h))
/-! heap rows -/
theorem gz_get (F : gF p s m args c cc nL own Ts D cI cJ cZ A) {C : String} {T : u_T} {N index : Nat} {a : Nat} (hin : ∀ w ∈ u_ws C T N, w ∈ Ts) (q0 ci : Nat) {fs : List Value} (he : ws[q0]? = some (a, .inr (ci, fs))) (hc : vwCl[ci]? = some (C, T, N)) (k : Nat) (hk : k < N) (hlink : Cond.fieldLink own index (T k).1 (T k).2.1 (T k).2.2.1 ∈ Ts) {v : Value} (hv : fs[k]? = some v) (d : decode cc pc = .ok (.getfield index, 3))
    (kk : gG p l e R s m args below meth c D A nL Q cells slots ws lv (v :: st) (pc + 3)) : gG p l e R s m args below meth c D A nL Q cells slots ws lv (.ref a :: st) pc :=
  fun H locs ls hP hD hS hl => va_get (ref := (T k).1) F.1 F.2.1 F.2.2.2.2.1 hin F.2.2.2.1 F.2.2.2.2.2.1 hP q0 he hc k hk (F.2.2.2.2.1 _ hlink) (fun _ h9 => h9) hv d (kk H locs ls hP hD hS hl)
theorem gz_put (F : gF p s m args c cc nL own Ts D cI cJ cZ A) {C : String} {T : u_T} {N index : Nat} {a : Nat} (hin : ∀ w ∈ u_ws C T N, w ∈ Ts) (ty0 : Nat → FieldType) (hty : ∀ k, k < N → parseFieldDescriptor (T k).2.2.1 = some (ty0 k)) (hnm : ∀ a, a < N → ∀ b, b < N → a ≠ b → (T a).2.1 ≠ (T b).2.1) (q0 ci : Nat) {fs : List Value} (he : ws[q0]? = some (a, .inr (ci, fs))) (hc : vwCl[ci]? = some (C, T, N)) (k : Nat) (hk : k < N) (hlink : Cond.fieldLink own index (T k).1 (T k).2.1 (T k).2.2.1 ∈ Ts) (hfin : (T k).2.2.2 = false) {ty : FieldType} {v : Value} (hd : parseFieldDescriptor (T k).2.2.1 = some ty) (hn : narrow ty v = v) (hfit : fits ty v = true) (hlen : k < fs.length) {ws2 : va_W} (h2 : ws.set q0 (a, .inr (ci, fs.set k v)) = ws2) (d : decode cc pc = .ok (.putfield index, 3))
    (kk : gG p l e R s m args below meth c D A nL Q cells slots ws2 lv st (pc + 3)) : gG p l e R s m args below meth c D A nL Q cells slots ws lv (v :: .ref a :: st) pc := by
  subst h2
  exact fun H locs ls hP hD hS hl => va_put (ref := (T k).1) F.1 F.2.1 F.2.2.2.2.1 hin ty0 hty hnm F.2.2.2.1 F.2.2.2.2.2.1 hP hD hS q0 he hc k hk (F.2.2.2.2.1 _ hlink) (fun _ h9 => h9) hfin hd hn hfit hlen d (fun H locs hP hD hS => kk H locs ls hP hD hS hl)
theorem gz_iald (F : gF p s m args c cc nL own Ts D cI cJ cZ A) {a n : Nat} {f : Int → Int} {j : Int} (q0 : Nat) (he : ws[q0]? = some (a, .inl (cI, n, .inl (zA f)))) (hj : 0 ≤ j ∧ j < (n : Int)) (hn : n < 2147483648) (d : decode cc pc = .ok (.iaload, 1))
    (kk : gG p l e R s m args below meth c D A nL Q cells slots ws lv (vI (f j) :: st) (pc + 1)) : gG p l e R s m args below meth c D A nL Q cells slots ws lv (vI j :: .ref a :: st) pc :=
  fun H locs ls hP hD hS hl => va_iald F.1 F.2.1 F.2.2.2.2.2.1 hP q0 0 he rfl (zI_in hj hn) d (by rw [zI_cl ⟨by omega, by omega⟩, zA_at f hj.1]; exact kk H locs ls hP hD hS hl)
theorem gz_lald (F : gF p s m args c cc nL own Ts D cI cJ cZ A) {a n : Nat} {f : Nat → Int64} {j : Int} (q0 : Nat) (he : ws[q0]? = some (a, .inl (cJ, n, .inr (.inl f)))) (hj : 0 ≤ j ∧ j < (n : Int)) (hn : n < 2147483648) (d : decode cc pc = .ok (.laload, 1))
    (kk : gG p l e R s m args below meth c D A nL Q cells slots ws lv (.long (f j.toNat) :: st) (pc + 1)) : gG p l e R s m args below meth c D A nL Q cells slots ws lv (vI j :: .ref a :: st) pc :=
  fun H locs ls hP hD hS hl => va_lald F.1 F.2.1 F.2.2.2.2.2.1 hP q0 1 he rfl (zI_in hj hn) d (by rw [zI_cl ⟨by omega, by omega⟩]; exact kk H locs ls hP hD hS hl)
theorem gz_iast (F : gF p s m args c cc nL own Ts D cI cJ cZ A) {a n : Nat} {f : Int → Int} {j x : Int} (q0 : Nat) (he : ws[q0]? = some (a, .inl (cI, n, .inl (zA f)))) (hj : 0 ≤ j ∧ j < (n : Int)) (hn : n < 2147483648) {ws2 : va_W} (h2 : ws.set q0 (a, .inl (cI, n, .inl (zA (zU f j x)))) = ws2) (d : decode cc pc = .ok (.iastore, 1))
    (kk : gG p l e R s m args below meth c D A nL Q cells slots ws2 lv st (pc + 1)) : gG p l e R s m args below meth c D A nL Q cells slots ws lv (vI x :: vI j :: .ref a :: st) pc := by
  subst h2
  exact fun H locs ls hP hD hS hl => va_iast F.1 F.2.1 F.2.2.2.2.2.1 hP hD hS q0 0 he rfl (zI_in hj hn) d (fun H locs hP hD hS => by
    rw [zI_cl ⟨by omega, by omega⟩, zA_upd f x hj.1] at hP hD
    exact kk H locs ls hP hD hS hl)
theorem gz_last (F : gF p s m args c cc nL own Ts D cI cJ cZ A) {a n : Nat} {f : Nat → Int64} {j : Int} {x : Int64} (q0 : Nat) (he : ws[q0]? = some (a, .inl (cJ, n, .inr (.inl f)))) (hj : 0 ≤ j ∧ j < (n : Int)) (hn : n < 2147483648) {ws2 : va_W} (h2 : ws.set q0 (a, .inl (cJ, n, .inr (.inl (vp_updL f j.toNat x)))) = ws2) (d : decode cc pc = .ok (.lastore, 1))
    (kk : gG p l e R s m args below meth c D A nL Q cells slots ws2 lv st (pc + 1)) : gG p l e R s m args below meth c D A nL Q cells slots ws lv (.long x :: vI j :: .ref a :: st) pc := by
  subst h2
  exact fun H locs ls hP hD hS hl => va_last F.1 F.2.1 F.2.2.2.2.2.1 hP hD hS q0 1 he rfl (zI_in hj hn) d (fun H locs hP hD hS => by
    rw [zI_cl ⟨by omega, by omega⟩] at hP hD
    exact kk H locs ls hP hD hS hl)
/-! contracts -/
def gz_Qc (D : va_G) (W0 : va_W) (sz : Nat) (post : Option Value → va_W → Prop) : Array Value → State → Outcome → State → Prop := fun _ st oc t =>
  (∃ (v : Option Value) (W1 : va_W), oc = .returned v ∧ post v W1 ∧ va_P D vwCl W1 t.heap ∧ va_D (va_A W0 sz) W1) ∧ va_F (va_A W0 sz) st t
def gz_Pc (D : va_G) (cI cJ cZ : ClassId) (W0 : va_W) (sz : Nat) (As : List Value) : Array Value → State → Prop := va_Pc As (fun U => U.heap.size = sz ∧ va_P D vwCl W0 U.heap ∧ va_K D vwCl (gz_tys cI cJ cZ) U ∧ va_D (fun _ => True) W0 ∧ gz_N U)
def gz_M (l : Launch) (y : MethodName) (wsy : List Cond) (rm : Room) (D : va_G) (cI cJ cZ : ClassId) (As : List Value) (W0 : va_W) (post : Option Value → va_W → Prop) : Prop :=
  ∀ sz : Nat, Met l y wsy rm (gz_Pc D cI cJ cZ W0 sz As) (gz_Qc D W0 sz post) 0 0 (va_A W0 sz)
theorem gz_blind (D : va_G) (cI cJ cZ : ClassId) (W0 : va_W) (sz : Nat) (As : List Value) : FrameBlind (gz_Pc D cI cJ cZ W0 sz As) := fun a U g mk q => by
  obtain ⟨q0, q1, qP, qK, qD, qN⟩ := q
  exact ⟨q0, q1, qP, va_K.moved (u := U) (U := U.calling g mk a) (Vm.Alike.refl U.vm) qK, qD, gz_N.same rfl qN⟩
/-- a world with some of its cells put anew -/
def gz_pw : va_W → List Nat → va_W → va_W
  | ws, i :: is, w :: W => gz_pw (ws.set i w) is W
  | ws, _, _ => ws
theorem gz_pw_get : ∀ (is : List Nat) (W1 ws : va_W) (k : Nat) (q : Nat × va_E), W1.length = is.length → (gz_pw ws is W1)[k]? = some q → (∃ j : Nat, is[j]? = some k ∧ W1[j]? = some q) ∨ (k ∉ is ∧ ws[k]? = some q)
  | [], W1, ws, k, q, hlen, h => by
    have : W1 = [] := List.eq_nil_of_length_eq_zero hlen
    subst this
    exact Or.inr ⟨List.not_mem_nil, h⟩
  | i :: is, [], ws, k, q, hlen, h => by simp at hlen
  | i :: is, w :: W, ws, k, q, hlen, h => by
    have h1 := gz_pw_get is W (ws.set i w) k q (by simpa using hlen) h
    rcases h1 with ⟨j, h2, h3⟩ | ⟨h2, h3⟩
    · exact Or.inl ⟨j + 1, by simpa using h2, by simpa using h3⟩
    · by_cases hki : k = i
      · subst hki
        have hlt : k < ws.length := by
          have := (List.getElem?_eq_some_iff.mp h3).1
          simpa using this
        rw [List.getElem?_set_self hlt] at h3
        exact Or.inl ⟨0, rfl, by simpa using h3⟩
      · rw [List.getElem?_set_ne (Ne.symm hki)] at h3
        exact Or.inr ⟨by simp [hki, h2], h3⟩
theorem gz_pw_id : ∀ (is : List Nat) (W1 ws : va_W), is.map (fun i => ws[i]?) = W1.map some → gz_pw ws is W1 = ws
  | [], W1, ws, h => by cases W1 <;> rfl
  | i :: is, [], ws, h => rfl
  | i :: is, w :: W, ws, h => by
    simp only [List.map_cons, List.cons.injEq] at h
    have hs : ws.set i w = ws := by
      apply List.ext_getElem?
      intro k
      by_cases hki : k = i
      · subst hki
        have hlt : k < ws.length := (List.getElem?_eq_some_iff.mp h.1).1
        rw [List.getElem?_set_self hlt, h.1]
      · rw [List.getElem?_set_ne (Ne.symm hki)]
    show gz_pw (ws.set i w) is W = ws
    rw [hs]
    exact gz_pw_id is W ws h.2
theorem gz_in {ws W0 : va_W} {isC : List Nat} (hC : isC.map (fun i => ws[i]?) = W0.map some) {j : Nat} {q : Nat × va_E} (h : W0[j]? = some q) : ∃ i, isC[j]? = some i ∧ ws[i]? = some q := by
  have h1 : (isC.map (fun i => ws[i]?))[j]? = some (some q) := by rw [hC, List.getElem?_map, h]; rfl
  rw [List.getElem?_map] at h1
  cases hi : isC[j]? with
  | none => rw [hi] at h1; cases h1
  | some i => rw [hi] at h1; exact ⟨i, rfl, Option.some.inj h1⟩
theorem gz_out {ws W0 : va_W} {isC : List Nat} (hC : isC.map (fun i => ws[i]?) = W0.map some) {j i : Nat} (h : isC[j]? = some i) : ∃ q, W0[j]? = some q ∧ ws[i]? = some q := by
  have h1 : (W0.map some)[j]? = some (ws[i]?) := by rw [← hC, List.getElem?_map, h]; rfl
  rw [List.getElem?_map] at h1
  cases hi : W0[j]? with
  | none => rw [hi] at h1; cases h1
  | some q => rw [hi] at h1; exact ⟨q, rfl, (Option.some.inj h1).symm⟩
theorem gz_subP {D : va_G} {ws W0 : va_W} {isC : List Nat} {H : Heap} (hC : isC.map (fun i => ws[i]?) = W0.map some) (hP : va_P D vwCl ws H) : va_P D vwCl W0 H := fun j q h => by
  obtain ⟨i, -, h2⟩ := gz_in hC h
  exact hP i q h2
theorem gz_putP {D : va_G} {A : Nat → Prop} {ws W0 W1 : va_W} {isC : List Nat} {H H1 : Heap} (hP : va_P D vwCl ws H) (hD : va_D A ws) (hC : isC.map (fun i => ws[i]?) = W0.map some) (hsh : W1.map Prod.fst = W0.map Prod.fst)
    (hk : ∀ q : Nat, q < H.size → ¬ va_A W0 H.size q → H1[q]? = H[q]?) (hP1 : va_P D vwCl W1 H1) : va_P D vwCl (gz_pw ws isC W1) H1 ∧ va_D A (gz_pw ws isC W1) := by
  have hlen : W1.length = isC.length := by
    have h1 := congrArg List.length hsh
    have h2 := congrArg List.length hC
    simp only [List.length_map] at h1 h2
    omega
  have key : ∀ (k : Nat) (q : Nat × va_E), (gz_pw ws isC W1)[k]? = some q → ∃ q0, ws[k]? = some q0 ∧ q0.1 = q.1 := by
    intro k q h
    rcases gz_pw_get isC W1 ws k q hlen h with ⟨j, h2, h3⟩ | ⟨-, h3⟩
    · obtain ⟨q0, h4, h5⟩ := gz_out hC h2
      refine ⟨q0, h5, ?_⟩
      have h6 : (W1.map Prod.fst)[j]? = (W0.map Prod.fst)[j]? := by rw [hsh]
      rw [List.getElem?_map, List.getElem?_map, h3, h4] at h6
      exact (Option.some.inj h6).symm
    · exact ⟨q, h3, rfl⟩
  refine ⟨fun k q h => ?_, fun i j x y hi hj hxy => ?_, fun k q h => ?_⟩
  · rcases gz_pw_get isC W1 ws k q hlen h with ⟨j, h2, h3⟩ | ⟨h2, h3⟩
    · exact hP1 j q h3
    · refine (hP k q h3).kept (hk q.1 (hP k q h3).lt fun hq => ?_)
      rcases hq with ⟨j, e, hj⟩ | hq
      · obtain ⟨i, h4, h5⟩ := gz_in hC hj
        have := hD.1 k i q (q.1, e) h3 h5 rfl
        subst this
        exact h2 (List.mem_of_getElem? h4)
      · exact absurd (hP k q h3).lt (Nat.not_lt.mpr hq)
  · obtain ⟨x0, h1, h2⟩ := key i x hi
    obtain ⟨y0, h3, h4⟩ := key j y hj
    exact hD.1 i j x0 y0 h1 h3 (h2.trans (hxy.trans h4.symm))
  · obtain ⟨q0, h1, h2⟩ := key k q h
    rw [← h2]
    exact hD.2 k q0 h1
theorem gz_core {W0 : va_W} {post : Option Value → va_W → Prop} {rest st0 : List Value} {a : Array Value} {H : Heap} {locs : List Loc} {ls : Array Slot} (hr : va_Run p l e R s m args below meth c H locs cells slots 0 0 (F0 m pc ls st0) rest (gz_Qc D W0 H.size post a) (va_A W0 H.size)) (hA : ∀ q, s.heap.size ≤ q → A q) (hP : va_P D vwCl ws H) (hD : va_D A ws) (hS : va_S A s.heap H locs) (hl : lv_has ls nL lv) (isC : List Nat) (hC : isC.map (fun i => ws[i]?) = W0.map some) (hsh : ∀ v W1, post v W1 → W1.map Prod.fst = W0.map Prod.fst)
    (kk : ∀ v W1, post v W1 → gG p l e R s m args below meth c D A nL Q cells slots (gz_pw ws isC W1) lv (v.toList ++ rest) (pc + 3)) : W p l e R s m args below meth c H locs cells slots Q (F0 m pc ls st0) := by
  intro T hT X
  obtain ⟨v, st₀, t, T', L, h0, X', hL, e1, e2, ⟨⟨v1, W1, hv, hpost, hP1, hD1⟩, hz, hk⟩, st⟩ := hr T hT X
  cases hv
  rw [h0] at hz hk
  have hFc : ∀ q, va_A W0 H.size q → A q := va_free hD hS hA isC hC
  obtain ⟨hP2, hD2⟩ := gz_putP (H1 := T'.heap) hP hD hC (hsh v W1 hpost) (fun q h1 h2 => by rw [e1]; exact hk q h1 h2) (by rw [e1]; exact hP1)
  obtain ⟨t2, a1, b1⟩ := kk v W1 hpost T'.heap (locs ++ L) ls hP2 hD2
    ⟨Nat.le_trans hS.1 (by rw [e1]; exact hz), fun q h1 h2 => by rw [e1, hk q (Nat.lt_of_lt_of_le h1 hS.1) (fun z => h2 (hFc q z))]; exact hS.2.1 q h1 h2, fun q hq => by
      rcases List.mem_append.mp hq with h | h
      · exact hS.2.2 q h
      · exact hFc _ (hL q h)⟩ hl T' rfl X'
  exact ⟨t2, st t2 a1, b1⟩
theorem gz_pre {W0 : va_W} {As : List Value} {H : Heap} {isC : List Nat} (hK : va_K D vwCl (gz_tys cI cJ cZ) s) (hN : gz_N s) (hP : va_P D vwCl ws H) (hD : va_D A ws) (hC : isC.map (fun i => ws[i]?) = W0.map some) (hnd : va_nd isC = true) : ∀ U : State, U.heap = H → s.WarmedH U.vm → gz_Pc D cI cJ cZ W0 H.size As As.toArray U := fun U hU hW =>
  ⟨rfl, by rw [hU], by rw [hU]; exact gz_subP hC hP, va_K.moved hW.alike hK, (hD.sub isC hnd hC).weaken (fun _ _ _ _ => trivial), gz_N.warm hW hN⟩
theorem gz_callV (F : gF p s m args c cc nL own Ts D cI cJ cZ A) {y : MethodName} {bytes : ByteArray} {maxL n index : Nat} {ret : Option FieldType} {wsy wsy' : List Cond} {rm : Room} {C : String} {b : Nat} {As rest : List Value} {W0 : va_W} {post : Option Value → va_W → Prop}
    (hM : gz_M l y wsy rm D cI cJ cZ (.ref b :: As) W0 post) (hG : GoodIn Ts (wsV own index C y wsy)) (hw : wsy = Cond.code y bytes maxL ret :: wsy') (hrm : rm.cells = 0 ∧ rm.slots = 0)
    (hd : y.cls = C ∧ y.cls ≠ "java/lang/invoke/MethodHandle" ∧ y.cls ≠ "java/lang/invoke/VarHandle" ∧ (parseMethodDescriptor y.desc).map (fun d => d.parameters.length) = some n) (hR : rm.frames + 1 ≤ R.frames ∧ 8 + (maxL + 11) + rm.locals ≤ R.locals)
    (hn : As.length = n) (isC : List Nat) (hC : isC.map (fun i => ws[i]?) = W0.map some) (hnd : va_nd isC = true) (q0 ci : Nat) {fs : List Value} {T : u_T} {N : Nat} (he : ws[q0]? = some (b, .inr (ci, fs))) (hc : vwCl[ci]? = some (C, T, N)) (hst : st = As.reverse ++ .ref b :: rest) (hroom : (rest.map fun v => v.category).sum ≤ 8) (hcs : cells ≤ R.cells ∧ slots ≤ R.slots) (hsh : ∀ v W1, post v W1 → W1.map Prod.fst = W0.map Prod.fst) (d : decode cc pc = .ok (.invokevirtual index, 3))
    (kk : ∀ v W1, post v W1 → gG p l e R s m args below meth c D A nL Q cells slots (gz_pw ws isC W1) lv (v.toList ++ rest) (pc + 3)) : gG p l e R s m args below meth c D A nL Q cells slots ws lv st pc := by
  intro H locs ls hP hD hS hl
  obtain ⟨hx, hb, hml, hown, hts, hK, hN, hA⟩ := F
  exact gz_core (va_runV (As := As) (rest := rest) ⟨hx, hb, hml, hown, hts⟩ (hM H.size) (cwV n hts hG hw hrm.1 hrm.2 hd hR) ⟨gz_blind D cI cJ cZ W0 H.size _, va_recv hK hP hc he, gz_pre hK hN hP hD hC hnd⟩ rfl hn hl.1 hst (lv_room hroom) d hcs) hA hP hD hS hl isC hC hsh kk
theorem gz_callS (F : gF p s m args c cc nL own Ts D cI cJ cZ A) {y : MethodName} {bytes : ByteArray} {maxL n index : Nat} {ret : Option FieldType} {wsy wsy' : List Cond} {rm : Room} {As rest : List Value} {W0 : va_W} {post : Option Value → va_W → Prop}
    (hM : gz_M l y wsy rm D cI cJ cZ As W0 post) (hG : GoodIn Ts (va_wsS own index y wsy)) (hw : wsy = Cond.code y bytes maxL ret :: wsy') (hrm : rm.cells = 0 ∧ rm.slots = 0)
    (hd : y.cls ≠ "java/lang/invoke/MethodHandle" ∧ y.cls ≠ "java/lang/invoke/VarHandle" ∧ (parseMethodDescriptor y.desc).map (fun d => d.parameters.length) = some n) (hR : rm.frames + 1 ≤ R.frames ∧ 8 + (maxL + 11) + rm.locals ≤ R.locals)
    (hn : As.length = n) (isC : List Nat) (hC : isC.map (fun i => ws[i]?) = W0.map some) (hnd : va_nd isC = true) (hst : st = As.reverse ++ rest) (hroom : (rest.map fun v => v.category).sum ≤ 8) (hcs : cells ≤ R.cells ∧ slots ≤ R.slots) (hsh : ∀ v W1, post v W1 → W1.map Prod.fst = W0.map Prod.fst) (d : decode cc pc = .ok (.invokestatic index, 3))
    (kk : ∀ v W1, post v W1 → gG p l e R s m args below meth c D A nL Q cells slots (gz_pw ws isC W1) lv (v.toList ++ rest) (pc + 3)) : gG p l e R s m args below meth c D A nL Q cells slots ws lv st pc := by
  intro H locs ls hP hD hS hl
  obtain ⟨hx, hb, hml, hown, hts, hK, hN, hA⟩ := F
  exact gz_core (va_runS (As := As) (rest := rest) ⟨hx, hb, hml, hown, hts⟩ (hM H.size) (va_cwS n hts hG hw hrm.1 hrm.2 hd hR) ⟨gz_blind D cI cJ cZ W0 H.size _, gz_pre hK hN hP hD hC hnd⟩ rfl hn hl.1 hst (lv_room hroom) d hcs) hA hP hD hS hl isC hC hsh kk
theorem gz_callSN (F : gF p s m args c cc nL own Ts D cI cJ cZ A) {y : MethodName} {bytes : ByteArray} {maxL n index : Nat} {ret : Option FieldType} {wsy wsy' : List Cond} {rm : Room} {As rest : List Value} {W0 : va_W} {post : Option Value → va_W → Prop}
    (hM : gz_M l y wsy rm D cI cJ cZ As W0 post) (hG : GoodIn Ts wsy) (hw : wsy = Cond.code y bytes maxL ret :: wsy') (hrm : rm.cells = 0 ∧ rm.slots = 0) (hnest : (own, index, y) ∈ gz_nest) (hini : Cond.initialized y.cls ∈ Ts) (hstat : Cond.static y ∈ Ts)
    (hd : y.cls ≠ "java/lang/invoke/MethodHandle" ∧ y.cls ≠ "java/lang/invoke/VarHandle" ∧ (parseMethodDescriptor y.desc).map (fun d => d.parameters.length) = some n) (hR : rm.frames + 1 ≤ R.frames ∧ 8 + (maxL + 11) + rm.locals ≤ R.locals)
    (hn : As.length = n) (isC : List Nat) (hC : isC.map (fun i => ws[i]?) = W0.map some) (hnd : va_nd isC = true) (hst : st = As.reverse ++ rest) (hroom : (rest.map fun v => v.category).sum ≤ 8) (hcs : cells ≤ R.cells ∧ slots ≤ R.slots) (hsh : ∀ v W1, post v W1 → W1.map Prod.fst = W0.map Prod.fst) (d : decode cc pc = .ok (.invokestatic index, 3))
    (kk : ∀ v W1, post v W1 → gG p l e R s m args below meth c D A nL Q cells slots (gz_pw ws isC W1) lv (v.toList ++ rest) (pc + 3)) : gG p l e R s m args below meth c D A nL Q cells slots ws lv st pc := by
  intro H locs ls hP hD hS hl
  obtain ⟨hx, hb, hml, hown, hts, hK, hN, hA⟩ := F
  exact gz_core (va_runSN (As := As) (rest := rest) (own := own) (host := "Rigdiary") ⟨hx, hb, hml, hown, hts⟩ (hM H.size) ⟨va_cnB n hts hG hw hrm.1 hrm.2 (hN _ hnest) (hts _ hini) hd hR, hts _ hstat, trivial⟩ ⟨gz_blind D cI cJ cZ W0 H.size _, gz_pre hK hN hP hD hC hnd⟩ rfl hn hl.1 hst (lv_room hroom) d hcs) hA hP hD hS hl isC hC hsh kk
/-! shapes of ends -/
/-- an int comes back, nothing changed -/
def gz_pI (W0 : va_W) (P : Int → Prop) : Option Value → va_W → Prop := fun v W1 => W1 = W0 ∧ ∃ r : Int, v = some (vI r) ∧ P r
/-- nothing comes back, the world is another -/
def gz_pE (W2 : va_W) : Option Value → va_W → Prop := fun v W1 => v = none ∧ W1 = W2
theorem gz_pI_sh {W0 : va_W} {P : Int → Prop} : ∀ v W1, gz_pI W0 P v W1 → W1.map Prod.fst = W0.map Prod.fst := fun v W1 h => by rw [h.1]
theorem gz_pE_sh {W0 W2 : va_W} (h2 : W2.map Prod.fst = W0.map Prod.fst) : ∀ v W1, gz_pE W2 v W1 → W1.map Prod.fst = W0.map Prod.fst := fun v W1 h => by rw [h.2]; exact h2
theorem gz_kI {W0 : va_W} {P : Int → Prop} {rest : List Value} {isC : List Nat} (hC : isC.map (fun i => ws[i]?) = W0.map some) (kk : ∀ r : Int, P r → gG p l e R s m args below meth c D A nL Q cells slots ws lv (vI r :: rest) (pc + 3)) : ∀ v W1, gz_pI W0 P v W1 → gG p l e R s m args below meth c D A nL Q cells slots (gz_pw ws isC W1) lv (v.toList ++ rest) (pc + 3) := by
  intro v W1 ⟨h1, r, h2, h3⟩
  subst h1; subst h2
  rw [gz_pw_id isC W1 ws hC]
  exact kk r h3
theorem gz_kE {W2 ws2 : va_W} {rest : List Value} {isC : List Nat} (h2 : gz_pw ws isC W2 = ws2) (kk : gG p l e R s m args below meth c D A nL Q cells slots ws2 lv rest (pc + 3)) : ∀ v W1, gz_pE W2 v W1 → gG p l e R s m args below meth c D A nL Q cells slots (gz_pw ws isC W1) lv (v.toList ++ rest) (pc + 3) := by
  intro v W1 ⟨h1, h3⟩
  subst h1; subst h3; subst h2
  exact kk
/-! the body of a method -/
theorem gz_body {y : MethodName} {wsy wsy' : List Cond} {rm : Room} {As : List Value} {W0 : va_W} {post : Option Value → va_W → Prop} {maxL : Nat} {ret : Option FieldType} (hy : plainName y.cls = true) (ho : y.cls = own) (hw : wsy = Cond.code y cc maxL ret :: wsy') (hlen : (lg_sl As).length ≤ maxL) {lv0 : List (Nat × Value)} (hlv : lv_args 0 As = lv0)
    (body : ∀ (p : Program) (e : Env) (s : State) (m : MethodId) (args : Array Value) (below : List Frame) (meth : Method) (c : Code), meth.sig.returnType = ret → meth.locks = false → gF p s m args c cc maxL own wsy D cI cJ cZ (va_A W0 s.heap.size) → gG p l e rm s m args below meth c D (va_A W0 s.heap.size) maxL (MQ below (gz_Qc D W0 s.heap.size post) args s 0 0 (va_A W0 s.heap.size)) 0 0 W0 lv0 [] 0) : gz_M l y wsy rm D cI cJ cZ As W0 post := by
  intro sz
  subst ho
  subst hlv
  refine Met.ofW (cc := cc) (maxL := maxL) (ret := ret) hy hw ?_
  intro p e s m args below meth c s₁ B hml hv
  obtain ⟨rfl, hsz, hP, hK, hD0, hN⟩ := hv
  have hts := atoms_spec (ws := wsy) B.pre
  have hown : s.vm.findClass y.cls = some m.cls := findClass_of_methodNamed B.named
  subst hsz
  have hD := hD0.self (sz := s.heap.size)
  have hl := lv_entry As (n := maxL) hlen
  rw [lg_entry_eq]
  exact body p e s m As.toArray below meth c B.returns B.notSynchronized ⟨B.exec, B.bytes, hml, hown, hts, hK, hN, fun q h => Or.inr h⟩ s.heap [] _ hP hD va_S.rf hl
/-- what a body that hands back a value owes at its end -/
def gz_RZ (p : Program) (l : Launch) (e : Env) (R : Room) (s : State) (m : MethodId) (args : Array Value) (below : List Frame) (meth : Method) (c : Code) (D : va_G) (A : Nat → Prop) (nL : Nat) (Q : State → Prop) (cc : ByteArray) (ty : FieldType) (post : Option Value → va_W → Prop) : Prop :=
  ∀ (ws : va_W) (lv : List (Nat × Value)) (pc : Nat) (v : Int), decode cc pc = .ok (.ireturn, 1) → narrow ty (vI v) = vI v → post (some (vI v)) ws → gG p l e R s m args below meth c D A nL Q 0 0 ws lv [vI v] pc
def gz_RV (p : Program) (l : Launch) (e : Env) (R : Room) (s : State) (m : MethodId) (args : Array Value) (below : List Frame) (meth : Method) (c : Code) (D : va_G) (A : Nat → Prop) (nL : Nat) (Q : State → Prop) (cc : ByteArray) (post : Option Value → va_W → Prop) : Prop :=
  ∀ (ws : va_W) (lv : List (Nat × Value)) (pc : Nat), decode cc pc = .ok (.return_, 1) → post none ws → gG p l e R s m args below meth c D A nL Q 0 0 ws lv [] pc
theorem gz_ofZ {y : MethodName} {wsy wsy' : List Cond} {rm : Room} {As : List Value} {W0 : va_W} {post : Option Value → va_W → Prop} {maxL : Nat} {ty : FieldType} (hy : plainName y.cls = true) (ho : y.cls = own) (hw : wsy = Cond.code y cc maxL (some ty) :: wsy') (hlen : (lg_sl As).length ≤ maxL) {lv0 : List (Nat × Value)} (hlv : lv_args 0 As = lv0)
    (body : ∀ (p : Program) (e : Env) (s : State) (m : MethodId) (args : Array Value) (below : List Frame) (meth : Method) (c : Code) (A : Nat → Prop) (Q : State → Prop), gF p s m args c cc maxL own wsy D cI cJ cZ A → gz_RZ p l e rm s m args below meth c D A maxL Q cc ty post → gG p l e rm s m args below meth c D A maxL Q 0 0 W0 lv0 [] 0) : gz_M l y wsy rm D cI cJ cZ As W0 post :=
  gz_body hy ho hw hlen hlv fun p e s m args below meth c hr hlocks F => body p e s m args below meth c _ _ F fun ws lv pc v d hn hq H locs ls hP hD hS hl =>
    W.zret F.1 F.2.1 hr hn (fun t ht hW => ⟨⟨_, ws, rfl, hq, by rw [ht]; exact hP, hD⟩, hS.F ht⟩) hS.2.2 d hlocks
theorem gz_ofV {y : MethodName} {wsy wsy' : List Cond} {rm : Room} {As : List Value} {W0 : va_W} {post : Option Value → va_W → Prop} {maxL : Nat} (hy : plainName y.cls = true) (ho : y.cls = own) (hw : wsy = Cond.code y cc maxL none :: wsy') (hlen : (lg_sl As).length ≤ maxL) {lv0 : List (Nat × Value)} (hlv : lv_args 0 As = lv0)
    (body : ∀ (p : Program) (e : Env) (s : State) (m : MethodId) (args : Array Value) (below : List Frame) (meth : Method) (c : Code) (A : Nat → Prop) (Q : State → Prop), gF p s m args c cc maxL own wsy D cI cJ cZ A → gz_RV p l e rm s m args below meth c D A maxL Q cc post → gG p l e rm s m args below meth c D A maxL Q 0 0 W0 lv0 [] 0) : gz_M l y wsy rm D cI cJ cZ As W0 post :=
  gz_body hy ho hw hlen hlv fun p e s m args below meth c hr hlocks F => body p e s m args below meth c _ _ F fun ws lv pc d hq H locs ls hP hD hS hl =>
    W.vret F.1 F.2.1 hr (fun t ht hW => ⟨⟨_, ws, rfl, hq, by rw [ht]; exact hP, hD⟩, hS.F ht⟩) hS.2.2 d hlocks
theorem zI_nar (v : Int) : narrow .int (vI v) = vI v := rfl
end GZ
