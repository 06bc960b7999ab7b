/-! ===== how much the heap has grown at least; laid by wip/p23/gen/grow.py ===== -/
section GH
variable {p : Program} {l : Launch} {e : Env} {R : Room} {s : State} {m : MethodId} {args : Array Value} {below : List Frame} {meth : Method} {c : Code} {D : va_G} {A : Nat → Prop} {nL : Nat} {Q : State → Prop} {cells slots g : Nat}
/-- gG with the heap's growth: at least g cells are new -/
def gH (g : Nat) (p : Program) (l : Launch) (e : Env) (R : Room) (s : State) (m : MethodId) (args : Array Value) (below : List Frame) (meth : Method) (c : Code) (D : va_G) (A : Nat → Prop) (nL : Nat) (Q : State → Prop) (cells slots : Nat) (ws : va_W) (lv : List (Nat × Value)) (st : List Value) (pc : Nat) : Prop :=
  ∀ (H : Heap) (locs : List Loc) (ls : Array Slot), s.heap.size + g ≤ H.size → va_P D vwCl ws H → va_D A ws → va_S A s.heap H locs → lv_has ls nL lv → W p l e R s m args below meth c H locs cells slots Q (F0 m pc ls st)
variable {cc : ByteArray} {own : String} {Ts : List Cond} {cI cJ cZ : ClassId} {ws : va_W} {lv : List (Nat × Value)} {st : List Value} {pc : Nat}
theorem gh_in (k : gH 0 p l e R s m args below meth c D A nL Q cells slots ws lv st pc) : gG p l e R s m args below meth c D A nL Q cells slots ws lv st pc := fun H locs ls hP hD hS hl => k H locs ls hS.1 hP hD hS hl
theorem gh_less {g2 : Nat} (h : g2 ≤ g) (k : gH g2 p l e R s m args below meth c D A nL Q cells slots ws lv st pc) : gH g p l e R s m args below meth c D A nL Q cells slots ws lv st pc := fun H locs ls hg hP hD hS hl => k H locs ls (Nat.le_trans (Nat.add_le_add_left h _) hg) hP hD hS hl
theorem gh_widen {k n : Nat} (h1 : cells ≤ k) (h2 : slots ≤ n) (kk : gH g p l e R s m args below meth c D A nL Q k n ws lv st pc) : gH g p l e R s m args below meth c D A nL Q cells slots ws lv st pc := fun H locs ls hg hP hD hS hl => W.widen h1 h2 (kk H locs ls hg hP hD hS hl)
theorem gh_rot {X Y Z : va_W} (k : gH g p l e R s m args below meth c D A nL Q cells slots (Y ++ (X ++ Z)) lv st pc) : gH g p l e R s m args below meth c D A nL Q cells slots (X ++ (Y ++ Z)) lv st pc := fun H locs ls hg hP hD hS hl =>
  k H locs ls hg (va_P.swap (a := []) (b := X ++ Z) (c := Y) (va_P.swap (a := X) (b := Y) (c := Z) (by rw [List.append_assoc]; exact hP))) (va_D.swap (a := []) (b := X ++ Z) (c := Y) (va_D.swap (a := X) (b := Y) (c := Z) (by rw [List.append_assoc]; exact hD))) hS hl

theorem gh_eqst {st2 : List Value} (h : st = st2) (k : gH g p l e R s m args below meth c D A nL Q cells slots ws lv st2 pc) : gH g p l e R s m args below meth c D A nL Q cells slots ws lv st pc := by rw [h]; exact k
theorem gh_eqw {ws2 : va_W} (h : ws = ws2) (k : gH g p l e R s m args below meth c D A nL Q cells slots ws2 lv st pc) : gH g p l e R s m args below meth c D A nL Q cells slots ws lv st pc := by rw [h]; exact k
theorem gh_lv {lv2 : List (Nat × Value)} (ks : List Nat) (h : lv_pick lv ks = lv2) (k : gH g p l e R s m args below meth c D A nL Q cells slots ws lv2 st pc) : gH g p l e R s m args below meth c D A nL Q cells slots ws lv st pc :=
  fun H locs ls hg hP hD hS hl => k H locs ls hg hP hD hS (lv_sub hl ks h)
theorem gh_const (F : gF p s m args c cc nL own Ts D cI cJ cZ A) {n : Int} (d : decode cc pc = .ok (.iconst n, 1)) (k : gH g p l e R s m args below meth c D A nL Q cells slots ws lv (vI n :: st) (pc + 1)) : gH g p l e R s m args below meth c D A nL Q cells slots ws lv st pc :=
  fun H locs ls hg hP hD hS hl => lv_iconst F.1 F.2.1 d rfl (k H locs ls hg hP hD hS hl)
theorem gh_bipush (F : gF p s m args c cc nL own Ts D cI cJ cZ A) {n : Int} (d : decode cc pc = .ok (.bipush n, 2)) (hv : (Int8.ofInt n).toInt32 = zI n) (k : gH g p l e R s m args below meth c D A nL Q cells slots ws lv (vI n :: st) (pc + 2)) : gH g p l e R s m args below meth c D A nL Q cells slots ws lv st pc :=
  fun H locs ls hg hP hD hS hl => lv_bipush F.1 F.2.1 d hv (k H locs ls hg hP hD hS hl)
theorem gh_sipush (F : gF p s m args c cc nL own Ts D cI cJ cZ A) {n : Int} (d : decode cc pc = .ok (.sipush n, 3)) (hv : (Int16.ofInt n).toInt32 = zI n) (k : gH g p l e R s m args below meth c D A nL Q cells slots ws lv (vI n :: st) (pc + 3)) : gH g p l e R s m args below meth c D A nL Q cells slots ws lv st pc :=
  fun H locs ls hg hP hD hS hl => lv_sipush F.1 F.2.1 d hv (k H locs ls hg hP hD hS hl)
theorem gh_iload_n (F : gF p s m args c cc nL own Ts D cI cJ cZ A) {k : Fin 4} {i : Nat} {x : Int32} (d : decode cc pc = .ok (.iload_n k, 1)) (hi : (k : Nat) = i) (k0 : Nat) (h0 : lv[k0]? = some (i, .int x)) (kk : gH g p l e R s m args below meth c D A nL Q cells slots ws lv (.int x :: st) (pc + 1)) : gH g p l e R s m args below meth c D A nL Q cells slots ws lv st pc :=
  fun H locs ls hg hP hD hS hl => lv_iload_n F.1 F.2.1 d hi (lv_at hl k0 h0) (kk H locs ls hg hP hD hS hl)
theorem gh_iload (F : gF p s m args c cc nL own Ts D cI cJ cZ A) {i : Nat} {x : Int32} (d : decode cc pc = .ok (.iload i, 2)) (k0 : Nat) (h0 : lv[k0]? = some (i, .int x)) (kk : gH g p l e R s m args below meth c D A nL Q cells slots ws lv (.int x :: st) (pc + 2)) : gH g p l e R s m args below meth c D A nL Q cells slots ws lv st pc :=
  fun H locs ls hg hP hD hS hl => lv_iload F.1 F.2.1 d (lv_at hl k0 h0) (kk H locs ls hg hP hD hS hl)
theorem gh_aload_n (F : gF p s m args c cc nL own Ts D cI cJ cZ A) {k : Fin 4} {i : Nat} {x : Nat} (d : decode cc pc = .ok (.aload_n k, 1)) (hi : (k : Nat) = i) (k0 : Nat) (h0 : lv[k0]? = some (i, .ref x)) (kk : gH g p l e R s m args below meth c D A nL Q cells slots ws lv (.ref x :: st) (pc + 1)) : gH g p l e R s m args below meth c D A nL Q cells slots ws lv st pc :=
  fun H locs ls hg hP hD hS hl => lv_aload_n F.1 F.2.1 d hi (lv_at hl k0 h0) (kk H locs ls hg hP hD hS hl)
theorem gh_aload (F : gF p s m args c cc nL own Ts D cI cJ cZ A) {i : Nat} {x : Nat} (d : decode cc pc = .ok (.aload i, 2)) (k0 : Nat) (h0 : lv[k0]? = some (i, .ref x)) (kk : gH g p l e R s m args below meth c D A nL Q cells slots ws lv (.ref x :: st) (pc + 2)) : gH g p l e R s m args below meth c D A nL Q cells slots ws lv st pc :=
  fun H locs ls hg hP hD hS hl => lv_aload F.1 F.2.1 d (lv_at hl k0 h0) (kk H locs ls hg hP hD hS hl)
theorem gh_istore_n (F : gF p s m args c cc nL own Ts D cI cJ cZ A) {k : Fin 4} {i : Nat} {x : Int32} {lv2 : List (Nat × Value)} (d : decode cc pc = .ok (.istore_n k, 1)) (hi : (k : Nat) = i) (hn : i < nL) (h2 : (i, Value.int x) :: lv.filter (fun q => !(q.1 == i) && !(q.1 + 1 == i && q.2.category == 2)) = lv2) (kk : gH g p l e R s m args below meth c D A nL Q cells slots ws lv2 st (pc + 1)) : gH g p l e R s m args below meth c D A nL Q cells slots ws lv (.int x :: st) pc :=
  fun H locs ls hg hP hD hS hl => lv_istore_n F.1 F.2.1 d hi hl hn h2 (fun ls hl => kk H locs ls hg hP hD hS hl)
theorem gh_istore (F : gF p s m args c cc nL own Ts D cI cJ cZ A) {i : Nat} {x : Int32} {lv2 : List (Nat × Value)} (d : decode cc pc = .ok (.istore i, 2)) (hn : i < nL) (h2 : (i, Value.int x) :: lv.filter (fun q => !(q.1 == i) && !(q.1 + 1 == i && q.2.category == 2)) = lv2) (kk : gH g p l e R s m args below meth c D A nL Q cells slots ws lv2 st (pc + 2)) : gH g p l e R s m args below meth c D A nL Q cells slots ws lv (.int x :: st) pc :=
  fun H locs ls hg hP hD hS hl => lv_istore F.1 F.2.1 d hl hn h2 (fun ls hl => kk H locs ls hg hP hD hS hl)
theorem gh_astore_n (F : gF p s m args c cc nL own Ts D cI cJ cZ A) {k : Fin 4} {i : Nat} {x : Nat} {lv2 : List (Nat × Value)} (d : decode cc pc = .ok (.astore_n k, 1)) (hi : (k : Nat) = i) (hn : i < nL) (h2 : (i, Value.ref x) :: lv.filter (fun q => !(q.1 == i) && !(q.1 + 1 == i && q.2.category == 2)) = lv2) (kk : gH g p l e R s m args below meth c D A nL Q cells slots ws lv2 st (pc + 1)) : gH g p l e R s m args below meth c D A nL Q cells slots ws lv (.ref x :: st) pc :=
  fun H locs ls hg hP hD hS hl => lv_astore_n F.1 F.2.1 d hi hl hn h2 (fun ls hl => kk H locs ls hg hP hD hS hl)
theorem gh_astore (F : gF p s m args c cc nL own Ts D cI cJ cZ A) {i : Nat} {x : Nat} {lv2 : List (Nat × Value)} (d : decode cc pc = .ok (.astore i, 2)) (hn : i < nL) (h2 : (i, Value.ref x) :: lv.filter (fun q => !(q.1 == i) && !(q.1 + 1 == i && q.2.category == 2)) = lv2) (kk : gH g p l e R s m args below meth c D A nL Q cells slots ws lv2 st (pc + 2)) : gH g p l e R s m args below meth c D A nL Q cells slots ws lv (.ref x :: st) pc :=
  fun H locs ls hg hP hD hS hl => lv_astore F.1 F.2.1 d hl hn h2 (fun ls hl => kk H locs ls hg hP hD hS hl)
theorem gh_iinc (F : gF p s m args c cc nL own Ts D cI cJ cZ A) {i : Nat} {n x : Int} {lv2 : List (Nat × Value)} (d : decode cc pc = .ok (.iinc i n, 3)) (k0 : Nat) (h0 : lv[k0]? = some (i, vI x)) (hn : i < nL) (h2 : (i, vI (x + n)) :: lv.filter (fun q => !(q.1 == i) && !(q.1 + 1 == i && q.2.category == 2)) = lv2) (kk : gH g p l e R s m args below meth c D A nL Q cells slots ws lv2 st (pc + 3)) : gH g p l e R s m args below meth c D A nL Q cells slots ws lv st pc :=
  fun H locs ls hg hP hD hS hl => lv_iinc F.1 F.2.1 d hl h0 (zI_add x n) hn h2 (fun ls hl => kk H locs ls hg hP hD hS hl)
theorem gh_iand (F : gF p s m args c cc nL own Ts D cI cJ cZ A) {x y : Int32} {v : Int} (d : decode cc pc = .ok (.iand, 1)) (hv : x &&& y = zI v) (k : gH g p l e R s m args below meth c D A nL Q cells slots ws lv (vI v :: st) (pc + 1)) : gH g p l e R s m args below meth c D A nL Q cells slots ws lv (.int y :: .int x :: st) pc :=
  fun H locs ls hg hP hD hS hl => lv_iand F.1 F.2.1 d (by rw [hv]; exact k H locs ls hg hP hD hS hl)
theorem gh_dup (F : gF p s m args c cc nL own Ts D cI cJ cZ A) {v : Value} (d : decode cc pc = .ok (.dup, 1)) (hv : v.category = 1) (k : gH g p l e R s m args below meth c D A nL Q cells slots ws lv (v :: v :: st) (pc + 1)) : gH g p l e R s m args below meth c D A nL Q cells slots ws lv (v :: st) pc :=
  fun H locs ls hg hP hD hS hl => lv_dup F.1 F.2.1 d hv (k H locs ls hg hP hD hS hl)
theorem gh_dup2 (F : gF p s m args c cc nL own Ts D cI cJ cZ A) {v w : Value} (d : decode cc pc = .ok (.dup2, 1)) (hv : v.category = 1) (hw : w.category = 1) (k : gH g p l e R s m args below meth c D A nL Q cells slots ws lv (v :: w :: v :: w :: st) (pc + 1)) : gH g p l e R s m args below meth c D A nL Q cells slots ws lv (v :: w :: st) pc :=
  fun H locs ls hg hP hD hS hl => lv_dup2_11 F.1 F.2.1 d hv hw (k H locs ls hg hP hD hS hl)
theorem gh_pop (F : gF p s m args c cc nL own Ts D cI cJ cZ A) {v : Value} (d : decode cc pc = .ok (.pop, 1)) (hv : v.category = 1) (k : gH g p l e R s m args below meth c D A nL Q cells slots ws lv st (pc + 1)) : gH g p l e R s m args below meth c D A nL Q cells slots ws lv (v :: st) pc :=
  fun H locs ls hg hP hD hS hl => lv_pop F.1 F.2.1 d hv (k H locs ls hg hP hD hS hl)
theorem gh_goto (F : gF p s m args c cc nL own Ts D cI cJ cZ A) {off : Int} {tgt : Nat} (d : decode cc pc = .ok (.goto off, 3)) (ht : (pc : Int) + off = (tgt : Int)) (k : gH g p l e R s m args below meth c D A nL Q cells slots ws lv st tgt) : gH g p l e R s m args below meth c D A nL Q cells slots ws lv st pc :=
  fun H locs ls hg hP hD hS hl => lv_goto F.1 F.2.1 d ht (k H locs ls hg hP hD hS hl)
theorem gh_icmp_eq (F : gF p s m args c cc nL own Ts D cI cJ cZ A) {x y : Int} {off : Int} {tgt : Nat} (d : decode cc pc = .ok (.if_icmp .eq off, 3)) (ht : (pc : Int) + off = (tgt : Int)) (hx : -2147483648 ≤ x ∧ x < 2147483648) (hy : -2147483648 ≤ y ∧ y < 2147483648) (kt : x = y → gH g p l e R s m args below meth c D A nL Q cells slots ws lv st tgt) (kf : x ≠ y → gH g p l e R s m args below meth c D A nL Q cells slots ws lv st (pc + 3)) : gH g p l e R s m args below meth c D A nL Q cells slots ws lv (vI y :: vI x :: st) pc :=
  fun H locs ls hg hP hD hS hl => lv_icmp_eq F.1 F.2.1 d ht (fun h => kt ((zI_eq hx hy).mp h) H locs ls hg hP hD hS hl) (fun h => kf (fun q => h ((zI_eq hx hy).mpr q)) H locs ls hg hP hD hS hl)
theorem gh_icmp_ne (F : gF p s m args c cc nL own Ts D cI cJ cZ A) {x y : Int} {off : Int} {tgt : Nat} (d : decode cc pc = .ok (.if_icmp .ne off, 3)) (ht : (pc : Int) + off = (tgt : Int)) (hx : -2147483648 ≤ x ∧ x < 2147483648) (hy : -2147483648 ≤ y ∧ y < 2147483648) (kt : x ≠ y → gH g p l e R s m args below meth c D A nL Q cells slots ws lv st tgt) (kf : x = y → gH g p l e R s m args below meth c D A nL Q cells slots ws lv st (pc + 3)) : gH g p l e R s m args below meth c D A nL Q cells slots ws lv (vI y :: vI x :: st) pc :=
  fun H locs ls hg hP hD hS hl => lv_icmp_ne F.1 F.2.1 d ht (fun h => kt (fun q => h ((zI_eq hx hy).mpr q)) H locs ls hg hP hD hS hl) (fun h => kf ((zI_eq hx hy).mp h) H locs ls hg hP hD hS hl)
theorem gh_icmp_lt (F : gF p s m args c cc nL own Ts D cI cJ cZ A) {x y : Int} {off : Int} {tgt : Nat} (d : decode cc pc = .ok (.if_icmp .lt off, 3)) (ht : (pc : Int) + off = (tgt : Int)) (hx : -2147483648 ≤ x ∧ x < 2147483648) (hy : -2147483648 ≤ y ∧ y < 2147483648) (kt : x < y → gH g p l e R s m args below meth c D A nL Q cells slots ws lv st tgt) (kf : y ≤ x → gH g p l e R s m args below meth c D A nL Q cells slots ws lv st (pc + 3)) : gH g p l e R s m args below meth c D A nL Q cells slots ws lv (vI y :: vI x :: st) pc :=
  fun H locs ls hg hP hD hS hl => lv_icmp_lt F.1 F.2.1 d ht (fun h => kt ((zI_lt hx hy).mp h) H locs ls hg hP hD hS hl) (fun h => kf (Int.not_lt.mp (fun q => h ((zI_lt hx hy).mpr q))) H locs ls hg hP hD hS hl)
theorem gh_icmp_ge (F : gF p s m args c cc nL own Ts D cI cJ cZ A) {x y : Int} {off : Int} {tgt : Nat} (d : decode cc pc = .ok (.if_icmp .ge off, 3)) (ht : (pc : Int) + off = (tgt : Int)) (hx : -2147483648 ≤ x ∧ x < 2147483648) (hy : -2147483648 ≤ y ∧ y < 2147483648) (kt : y ≤ x → gH g p l e R s m args below meth c D A nL Q cells slots ws lv st tgt) (kf : x < y → gH g p l e R s m args below meth c D A nL Q cells slots ws lv st (pc + 3)) : gH g p l e R s m args below meth c D A nL Q cells slots ws lv (vI y :: vI x :: st) pc :=
  fun H locs ls hg hP hD hS hl => lv_icmp_ge F.1 F.2.1 d ht (fun h => kt ((zI_le hy hx).mp h) H locs ls hg hP hD hS hl) (fun h => kf (Int.not_le.mp (fun q => h ((zI_le hy hx).mpr q))) H locs ls hg hP hD hS hl)
theorem gh_icmp_gt (F : gF p s m args c cc nL own Ts D cI cJ cZ A) {x y : Int} {off : Int} {tgt : Nat} (d : decode cc pc = .ok (.if_icmp .gt off, 3)) (ht : (pc : Int) + off = (tgt : Int)) (hx : -2147483648 ≤ x ∧ x < 2147483648) (hy : -2147483648 ≤ y ∧ y < 2147483648) (kt : y < x → gH g p l e R s m args below meth c D A nL Q cells slots ws lv st tgt) (kf : x ≤ y → gH g p l e R s m args below meth c D A nL Q cells slots ws lv st (pc + 3)) : gH g p l e R s m args below meth c D A nL Q cells slots ws lv (vI y :: vI x :: st) pc :=
  fun H locs ls hg hP hD hS hl => lv_icmp_gt F.1 F.2.1 d ht (fun h => kt ((zI_lt hy hx).mp h) H locs ls hg hP hD hS hl) (fun h => kf (Int.not_lt.mp (fun q => h ((zI_lt hy hx).mpr q))) H locs ls hg hP hD hS hl)
theorem gh_icmp_le (F : gF p s m args c cc nL own Ts D cI cJ cZ A) {x y : Int} {off : Int} {tgt : Nat} (d : decode cc pc = .ok (.if_icmp .le off, 3)) (ht : (pc : Int) + off = (tgt : Int)) (hx : -2147483648 ≤ x ∧ x < 2147483648) (hy : -2147483648 ≤ y ∧ y < 2147483648) (kt : x ≤ y → gH g p l e R s m args below meth c D A nL Q cells slots ws lv st tgt) (kf : y < x → gH g p l e R s m args below meth c D A nL Q cells slots ws lv st (pc + 3)) : gH g p l e R s m args below meth c D A nL Q cells slots ws lv (vI y :: vI x :: st) pc :=
  fun H locs ls hg hP hD hS hl => lv_icmp_le F.1 F.2.1 d ht (fun h => kt ((zI_le hx hy).mp h) H locs ls hg hP hD hS hl) (fun h => kf (Int.not_le.mp (fun q => h ((zI_le hx hy).mpr q))) H locs ls hg hP hD hS hl)
theorem gh_if_eq (F : gF p s m args c cc nL own Ts D cI cJ cZ A) {x : Int} {off : Int} {tgt : Nat} (d : decode cc pc = .ok (.ifCond .eq off, 3)) (ht : (pc : Int) + off = (tgt : Int)) (hx : -2147483648 ≤ x ∧ x < 2147483648) (kt : x = 0 → gH g p l e R s m args below meth c D A nL Q cells slots ws lv st tgt) (kf : x ≠ 0 → gH g p l e R s m args below meth c D A nL Q cells slots ws lv st (pc + 3)) : gH g p l e R s m args below meth c D A nL Q cells slots ws lv (vI x :: st) pc :=
  fun H locs ls hg hP hD hS hl => lv_if_eq F.1 F.2.1 d ht (fun h => kt ((zI_eq hx (by decide)).mp (h.trans zI_0.symm)) H locs ls hg hP hD hS hl) (fun h => kf (fun q => h (((zI_eq hx (by decide)).mpr q).trans zI_0)) H locs ls hg hP hD hS hl)
theorem gh_if_ne (F : gF p s m args c cc nL own Ts D cI cJ cZ A) {x : Int} {off : Int} {tgt : Nat} (d : decode cc pc = .ok (.ifCond .ne off, 3)) (ht : (pc : Int) + off = (tgt : Int)) (hx : -2147483648 ≤ x ∧ x < 2147483648) (kt : x ≠ 0 → gH g p l e R s m args below meth c D A nL Q cells slots ws lv st tgt) (kf : x = 0 → gH g p l e R s m args below meth c D A nL Q cells slots ws lv st (pc + 3)) : gH g p l e R s m args below meth c D A nL Q cells slots ws lv (vI x :: st) pc :=
  fun H locs ls hg hP hD hS hl => lv_if_ne F.1 F.2.1 d ht (fun h => kt (fun q => h (((zI_eq hx (by decide)).mpr q).trans zI_0)) H locs ls hg hP hD hS hl) (fun h => kf ((zI_eq hx (by decide)).mp (h.trans zI_0.symm)) H locs ls hg hP hD hS hl)
theorem gh_if_lt (F : gF p s m args c cc nL own Ts D cI cJ cZ A) {x : Int} {off : Int} {tgt : Nat} (d : decode cc pc = .ok (.ifCond .lt off, 3)) (ht : (pc : Int) + off = (tgt : Int)) (hx : -2147483648 ≤ x ∧ x < 2147483648) (kt : x < 0 → gH g p l e R s m args below meth c D A nL Q cells slots ws lv st tgt) (kf : 0 ≤ x → gH g p l e R s m args below meth c D A nL Q cells slots ws lv st (pc + 3)) : gH g p l e R s m args below meth c D A nL Q cells slots ws lv (vI x :: st) pc :=
  fun H locs ls hg hP hD hS hl => lv_if_lt F.1 F.2.1 d ht (fun h => kt ((zI_lt hx (by decide)).mp (by rw [zI_0]; exact h)) H locs ls hg hP hD hS hl) (fun h => kf (Int.not_lt.mp (fun q => h (by have z := (zI_lt hx (by decide)).mpr q; rw [zI_0] at z; exact z))) H locs ls hg hP hD hS hl)
theorem gh_if_ge (F : gF p s m args c cc nL own Ts D cI cJ cZ A) {x : Int} {off : Int} {tgt : Nat} (d : decode cc pc = .ok (.ifCond .ge off, 3)) (ht : (pc : Int) + off = (tgt : Int)) (hx : -2147483648 ≤ x ∧ x < 2147483648) (kt : 0 ≤ x → gH g p l e R s m args below meth c D A nL Q cells slots ws lv st tgt) (kf : x < 0 → gH g p l e R s m args below meth c D A nL Q cells slots ws lv st (pc + 3)) : gH g p l e R s m args below meth c D A nL Q cells slots ws lv (vI x :: st) pc :=
  fun H locs ls hg hP hD hS hl => lv_if_ge F.1 F.2.1 d ht (fun h => kt ((zI_le (by decide) hx).mp (by rw [zI_0]; exact h)) H locs ls hg hP hD hS hl) (fun h => kf (Int.not_le.mp (fun q => h (by have z := (zI_le (by decide) hx).mpr q; rw [zI_0] at z; exact z))) H locs ls hg hP hD hS hl)
theorem gh_if_gt (F : gF p s m args c cc nL own Ts D cI cJ cZ A) {x : Int} {off : Int} {tgt : Nat} (d : decode cc pc = .ok (.ifCond .gt off, 3)) (ht : (pc : Int) + off = (tgt : Int)) (hx : -2147483648 ≤ x ∧ x < 2147483648) (kt : 0 < x → gH g p l e R s m args below meth c D A nL Q cells slots ws lv st tgt) (kf : x ≤ 0 → gH g p l e R s m args below meth c D A nL Q cells slots ws lv st (pc + 3)) : gH g p l e R s m args below meth c D A nL Q cells slots ws lv (vI x :: st) pc :=
  fun H locs ls hg hP hD hS hl => lv_if_gt F.1 F.2.1 d ht (fun h => kt ((zI_lt (by decide) hx).mp (by rw [zI_0]; exact h)) H locs ls hg hP hD hS hl) (fun h => kf (Int.not_lt.mp (fun q => h (by have z := (zI_lt (by decide) hx).mpr q; rw [zI_0] at z; exact z))) H locs ls hg hP hD hS hl)
theorem gh_if_le (F : gF p s m args c cc nL own Ts D cI cJ cZ A) {x : Int} {off : Int} {tgt : Nat} (d : decode cc pc = .ok (.ifCond .le off, 3)) (ht : (pc : Int) + off = (tgt : Int)) (hx : -2147483648 ≤ x ∧ x < 2147483648) (kt : x ≤ 0 → gH g p l e R s m args below meth c D A nL Q cells slots ws lv st tgt) (kf : 0 < x → gH g p l e R s m args below meth c D A nL Q cells slots ws lv st (pc + 3)) : gH g p l e R s m args below meth c D A nL Q cells slots ws lv (vI x :: st) pc :=
  fun H locs ls hg hP hD hS hl => lv_if_le F.1 F.2.1 d ht (fun h => kt ((zI_le hx (by decide)).mp (by rw [zI_0]; exact h)) H locs ls hg hP hD hS hl) (fun h => kf (Int.not_le.mp (fun q => h (by have z := (zI_le hx (by decide)).mpr q; rw [zI_0] at z; exact z))) H locs ls hg hP hD hS hl)
theorem gh_ldc (F : gF p s m args c cc nL own Ts D cI cJ cZ A) {index : Nat} {v : Int} (hconst : Cond.constant own index (zI v) ∈ Ts) (d : decode cc pc = .ok (.ldc index, 2)) (k : gH g p l e R s m args below meth c D A nL Q cells slots ws lv (vI v :: st) (pc + 2)) : gH g p l e R s m args below meth c D A nL Q cells slots ws lv st pc :=
  fun H locs ls hg hP hD hS hl => lv_ldc F.1 F.2.1 F.2.2.2.1 (F.2.2.2.2.1 _ hconst) d (k H locs ls hg hP hD hS hl)
theorem gh_tabIn (F : gF p s m args c cc nL own Ts D cI cJ cZ A) {dflt lo hi : Int} {offs : Array Int} {len : Nat} {x : Int} {off : Int} {tgt : Nat} (d : decode cc pc = .ok (.tableswitch dflt lo hi offs, len)) {k : Nat} (hx : x = lo + (k : Int)) (hr : 0 ≤ lo ∧ lo + (k : Int) ≤ hi ∧ hi < 2147483648) (ho : offs[k]? = some off) (ht : (pc : Int) + off = (tgt : Int))
    (kk : gH g p l e R s m args below meth c D A nL Q cells slots ws lv st tgt) : gH g p l e R s m args below meth c D A nL Q cells slots ws lv (vI x :: st) pc := by
  intro H locs ls hg hP hD hS hl
  have hz := zI_toInt (a := x) (by omega)
  exact lv_tableIn F.1 F.2.1 d (by rw [hz]; omega) (by rw [hz]; omega) (by rw [hz, show (x - lo).toNat = k by omega]; exact ho) ht (kk H locs ls hg hP hD hS hl)
theorem gh_slen (F : gF p s m args c cc nL own Ts D cI cJ cZ A) {bs L : Nat} {xs : Nat → Int32} (hX : va_X bs L xs s s.heap) (hbl : bs < s.heap.size) (hbA : ¬ A bs) (d : decode cc pc = .ok (.arraylength, 1)) (kk : gH g p l e R s m args below meth c D A nL Q cells slots ws lv (vI (L : Int) :: st) (pc + 1)) : gH g p l e R s m args below meth c D A nL Q cells slots ws lv (.ref bs :: st) pc :=
  fun H locs ls hg hP hD hS hl => va_slen F.1 F.2.1 hX hbl hbA hS d (by
    rw [show Int32.ofNat L = zI (L : Int) from (zI_nI L).symm]
    exact kk H locs ls hg hP hD hS hl)
theorem gh_iadd (F : gF p s m args c cc nL own Ts D cI cJ cZ A) {x y z : Int} (d : decode cc pc = .ok (.iadd, 1)) (hz : x + y = z) (k : gH g p l e R s m args below meth c D A nL Q cells slots ws lv (vI z :: st) (pc + 1)) : gH g p l e R s m args below meth c D A nL Q cells slots ws lv (vI y :: vI x :: st) pc :=
  fun H locs ls hg hP hD hS hl => lv_iadd F.1 F.2.1 d (by rw [zI_add, hz]; exact k H locs ls hg hP hD hS hl)
theorem gh_isub (F : gF p s m args c cc nL own Ts D cI cJ cZ A) {x y z : Int} (d : decode cc pc = .ok (.isub, 1)) (hz : x - y = z) (k : gH g p l e R s m args below meth c D A nL Q cells slots ws lv (vI z :: st) (pc + 1)) : gH g p l e R s m args below meth c D A nL Q cells slots ws lv (vI y :: vI x :: st) pc :=
  fun H locs ls hg hP hD hS hl => lv_isub F.1 F.2.1 d (by rw [zI_sub, hz]; exact k H locs ls hg hP hD hS hl)
theorem gh_imul (F : gF p s m args c cc nL own Ts D cI cJ cZ A) {x y z : Int} (d : decode cc pc = .ok (.imul, 1)) (hz : x * y = z) (k : gH g p l e R s m args below meth c D A nL Q cells slots ws lv (vI z :: st) (pc + 1)) : gH g p l e R s m args below meth c D A nL Q cells slots ws lv (vI y :: vI x :: st) pc :=
  fun H locs ls hg hP hD hS hl => lv_imul F.1 F.2.1 d (by rw [zI_mul, hz]; exact k H locs ls hg hP hD hS hl)
theorem zI_neg (a : Int) : -(zI a) = zI (-a) := (Int32.ofInt_neg a).symm
theorem gh_ineg (F : gF p s m args c cc nL own Ts D cI cJ cZ A) {x z : Int} (d : decode cc pc = .ok (.ineg, 1)) (hz : -x = z) (k : gH g p l e R s m args below meth c D A nL Q cells slots ws lv (vI z :: st) (pc + 1)) : gH g p l e R s m args below meth c D A nL Q cells slots ws lv (vI x :: st) pc :=
  fun H locs ls hg hP hD hS hl => lv_ineg F.1 F.2.1 d (by rw [zI_neg, hz]; exact k H locs ls hg hP hD hS hl)
theorem gh_idiv (F : gF p s m args c cc nL own Ts D cI cJ cZ A) {x y z : Int} (d : decode cc pc = .ok (.idiv, 1)) (hx : 0 ≤ x ∧ x < 2147483648) (hy : 0 < y ∧ y < 2147483648) (hz : x / y = z) (k : gH g p l e R s m args below meth c D A nL Q cells slots ws lv (vI z :: st) (pc + 1)) : gH g p l e R s m args below meth c D A nL Q cells slots ws lv (vI y :: vI x :: st) pc :=
  fun H locs ls hg hP hD hS hl => lv_idiv F.1 F.2.1 d (fun h => by have h1 := zI_toInt (a := y) (by omega); rw [h] at h1; have h2 : (0 : Int32).toInt = 0 := rfl; omega) (by rw [zI_div hx hy, hz]; exact k H locs ls hg hP hD hS hl)
theorem gh_irem (F : gF p s m args c cc nL own Ts D cI cJ cZ A) {x y z : Int} (d : decode cc pc = .ok (.irem, 1)) (hx : 0 ≤ x ∧ x < 2147483648) (hy : 0 < y ∧ y < 2147483648) (hz : x % y = z) (k : gH g p l e R s m args below meth c D A nL Q cells slots ws lv (vI z :: st) (pc + 1)) : gH g p l e R s m args below meth c D A nL Q cells slots ws lv (vI y :: vI x :: st) pc :=
  fun H locs ls hg hP hD hS hl => lv_irem F.1 F.2.1 d (fun h => by have h1 := zI_toInt (a := y) (by omega); rw [h] at h1; have h2 : (0 : Int32).toInt = 0 := rfl; omega) (by rw [zI_rem hx hy, hz]; exact k H locs ls hg hP hD hS hl)
theorem gh_icmp32_ne (F : gF p s m args c cc nL own Ts D cI cJ cZ A) {x : Int} {off : Int} (d : decode cc pc = .ok (.if_icmp .ne off, 3)) {tgt : Nat} (ht : (pc : Int) + off = (tgt : Int)) (k : gH g p l e R s m args below meth c D A nL Q cells slots ws lv st (pc + 3)) : gH g p l e R s m args below meth c D A nL Q cells slots ws lv (vI x :: vI x :: st) pc :=
  fun H locs ls hg hP hD hS hl => lv_icmp_ne F.1 F.2.1 d ht (fun h => absurd rfl h) (fun h => k H locs ls hg hP hD hS hl)
theorem gh_iald (F : gF p s m args c cc nL own Ts D cI cJ cZ A) {a n : Nat} {f : Int → Int} {j v : Int} (q0 : Nat) (he : ws[q0]? = some (a, .inl (cI, n, .inl (zA f)))) (hj : 0 ≤ j ∧ j < (n : Int)) (hn : n < 2147483648) (hv : f j = v) (d : decode cc pc = .ok (.iaload, 1))
    (kk : gH g p l e R s m args below meth c D A nL Q cells slots ws lv (vI v :: st) (pc + 1)) : gH g p l e R s m args below meth c D A nL Q cells slots ws lv (vI j :: .ref a :: st) pc :=
  fun H locs ls hg hP hD hS hl => va_iald F.1 F.2.1 F.2.2.2.2.2.1 hP q0 0 he rfl (zI_in hj hn) d (by rw [zI_cl ⟨by omega, by omega⟩, zA_at f hj.1, hv]; exact kk H locs ls hg hP hD hS hl)
theorem gh_iast (F : gF p s m args c cc nL own Ts D cI cJ cZ A) {a n : Nat} {f : Int → Int} {j x : Int} (q0 : Nat) (he : ws[q0]? = some (a, .inl (cI, n, .inl (zA f)))) (hj : 0 ≤ j ∧ j < (n : Int)) (hn : n < 2147483648) {ws2 : va_W} (h2 : ws.set q0 (a, .inl (cI, n, .inl (zA (zU f j x)))) = ws2) (d : decode cc pc = .ok (.iastore, 1))
    (kk : gH g p l e R s m args below meth c D A nL Q cells slots ws2 lv st (pc + 1)) : gH g p l e R s m args below meth c D A nL Q cells slots ws lv (vI x :: vI j :: .ref a :: st) pc := by
  subst h2
  intro H locs ls hg hP hD hS hl
  exact va_iast (H0 := H) F.1 F.2.1 F.2.2.2.2.2.1 hP hD ⟨Nat.le_refl _, fun _ _ _ => rfl, hS.2.2⟩ q0 0 he rfl (zI_in hj hn) d (fun H1 locs1 hP1 hD1 hS1 => by
    rw [zI_cl ⟨by omega, by omega⟩, zA_upd f x hj.1] at hP1 hD1
    exact kk H1 locs1 ls (Nat.le_trans hg hS1.1) hP1 hD1 ⟨Nat.le_trans hS.1 hS1.1, fun q h1 h2 => by rw [hS1.2.1 q (Nat.lt_of_lt_of_le h1 hS.1) h2]; exact hS.2.1 q h1 h2, hS1.2.2⟩ hl)
/-- the walk stops here: so much the heap has grown -/
theorem gh_stop {N : Nat} (h : N ≤ g) (hQ : ∀ t : State, s.heap.size + N ≤ t.heap.size → Q t) : gH g p l e R s m args below meth c D A nL Q cells slots ws lv st pc := by
  intro H locs ls hg hP hD hS hl T hT X
  refine ⟨_, Steps.refl _, hQ _ ?_⟩
  show s.heap.size + N ≤ T.heap.size
  rw [hT]
  omega
end GH
/-! ===== contracts that tell the growth ===== -/
def gz_ncs : List (String × String) := [(xIA, xIO), (xIS, xIO), (xIS, xIA)]
def gz_NC (U : State) : Prop := ∀ q ∈ gz_ncs, va_Nc q.1 q.2 U
theorem gz_NC.moved {u U : State} (hvm : u.vm.Alike U.vm) (k : gz_NC u) : gz_NC U := fun q hq => va_Nc.moved hvm (k q hq)
def gz_PcY (D : va_G) (cI cJ cZ : ClassId) (W0 : va_W) (sz : Nat) (As : List Value) : Array Value → State → Prop := va_Pc As (fun U => (U.heap.size = sz ∧ va_P D vwCl W0 U.heap ∧ va_K D vwCl (gz_tys cI cJ cZ) U ∧ va_D (fun _ => True) W0 ∧ gz_N U) ∧ gz_XB U ∧ gz_Z (va_A W0 sz) U U.heap ∧ gz_NC U)
theorem gz_blindY (D : va_G) (cI cJ cZ : ClassId) (W0 : va_W) (sz : Nat) (As : List Value) : FrameBlind (gz_PcY D cI cJ cZ W0 sz As) := fun a U g mk q => by
  obtain ⟨q0, ⟨q1, qP, qK, qD, qN⟩, qX, qZ, qC⟩ := q
  exact ⟨q0, ⟨q1, qP, va_K.moved (u := U) (U := U.calling g mk a) (Vm.Alike.refl U.vm) qK, qD, gz_N.same rfl qN⟩, gz_XB.same rfl qX, gz_Z.moved (u := U) (U := U.calling g mk a) (Vm.Alike.refl U.vm) qZ, gz_NC.moved (u := U) (U := U.calling g mk a) (Vm.Alike.refl U.vm) qC⟩
def gz_QG (D : va_G) (W0 : va_W) (sz : Nat) (post : Option Value → va_W → Nat → Prop) : Array Value → State → Outcome → State → Prop := fun _ st oc t =>
  (∃ (v : Option Value) (W1 : va_W) (g : Nat), oc = .returned v ∧ post v W1 g ∧ va_P D vwCl W1 t.heap ∧ va_D (va_A W0 sz) W1 ∧ st.heap.size + g ≤ t.heap.size) ∧ va_F (va_A W0 sz) st t
/-- a contract of a method of the law: it returns; so much is new -/
def gz_G (l : Launch) (y : MethodName) (wsy : List Cond) (rm : Room) (D : va_G) (cI cJ cZ : ClassId) (As : List Value) (W0 : va_W) (post : Option Value → va_W → Nat → Prop) (mc ms : Nat) : Prop :=
  ∀ sz : Nat, vx_Met l y wsy rm (gz_PcY D cI cJ cZ W0 sz As) (gz_QG D W0 sz post) (gz_XC D W0 sz (fun _ => False)) mc ms (va_A W0 sz)
section GHC
variable {p : Program} {l : Launch} {e : Env} {R : Room} {s : State} {m : MethodId} {args : Array Value} {below : List Frame} {meth : Method} {c : Code} {D : va_G} {A : Nat → Prop} {nL : Nat} {Q : State → Prop} {cells slots g : Nat}
variable {cc : ByteArray} {own : String} {Ts : List Cond} {cI cJ cZ : ClassId} {ws : va_W} {lv : List (Nat × Value)} {st : List Value} {pc : Nat}

def gh_RG (p : Program) (l : Launch) (e : Env) (R : Room) (s : State) (m : MethodId) (args : Array Value) (below : List Frame) (meth : Method) (c : Code) (D : va_G) (A : Nat → Prop) (nL : Nat) (Q : State → Prop) (cc : ByteArray) (ty : FieldType) (post : Option Value → va_W → Nat → Prop) (mc ms : Nat) : Prop :=
  ∀ (ws : va_W) (lv : List (Nat × Value)) (pc : Nat) (v : Int) (g : Nat), decode cc pc = .ok (.ireturn, 1) → narrow ty (vI v) = vI v → post (some (vI v)) ws g → gH g p l e R s m args below meth c D A nL Q mc ms ws lv [vI v] pc
theorem gh_ofH {y : MethodName} {wsy wsy' : List Cond} {rm : Room} {As : List Value} {W0 : va_W} {post : Option Value → va_W → Nat → Prop} {maxL mc ms : Nat} {hh : List (Nat × Nat × Nat × Nat)} (hfl : l.stackTraces = false) (hy : plainName y.cls = true) (ho : y.cls = own) (hw : wsy = Cond.codeWith y cc maxL (some .int) hh :: wsy') (hlen : (lg_sl As).length ≤ maxL) {lv0 : List (Nat × Value)} (hlv : lv_args 0 As = lv0)
    (body : ∀ (p : Program) (e : Env) (s : State) (m : MethodId) (args : Array Value) (below : List Frame) (meth : Method) (c : Code) (A : Nat → Prop) (Q : State → Prop), c.exceptionTable.toList = tableOf hh → gF p s m args c cc maxL own wsy D cI cJ cZ A → gFX l s A → gz_NC s → gh_RG p l e rm s m args below meth c D A maxL Q cc .int post mc ms → gG p l e rm s m args below meth c D A maxL Q 0 0 W0 lv0 [] 0) : gz_G l y wsy rm D cI cJ cZ As W0 post mc ms := by
  intro sz
  subst ho
  subst hlv
  refine vx_ofWH (cc := cc) (maxL := maxL) (ret := some .int) (hh := hh) hy hw ?_
  intro p e s m args below meth c s₁ B hml hv
  obtain ⟨rfl, ⟨hsz, hP, hK, hD0, hN⟩, hB, hZ, hC⟩ := hv
  have hts := atoms_spec (ws := wsy) B.pre
  have hown : s.vm.findClass y.cls = some m.cls := findClass_of_methodNamed B.named
  subst hsz
  have hD := hD0.self (sz := s.heap.size)
  have hl := lv_entry As (n := maxL) hlen
  have hr := B.returns
  have hlocks := B.notSynchronized
  rw [lg_entry_eq]
  exact body p e s m As.toArray below meth c (va_A W0 s.heap.size) _ (vx_table (x := y) B (hts _ (by rw [hw]; exact List.mem_cons_self))) ⟨B.exec, B.bytes, hml, hown, hts, hK, hN, fun q h => Or.inr h⟩ ⟨hfl, hB, hZ⟩ hC (fun ws lv pc v g d hn hq H locs ls hg hP hD hS hl =>
    vx_ret (W.zret B.exec B.bytes hr hn (fun t ht hW => ⟨⟨_, ws, g, rfl, hq, by rw [ht]; exact hP, hD, by rw [ht]; exact hg⟩, hS.F ht⟩) hS.2.2 d hlocks)) s.heap [] _ hP hD va_S.rf hl
theorem gh_ofG {y : MethodName} {wsy wsy' : List Cond} {rm : Room} {As : List Value} {W0 : va_W} {post : Option Value → va_W → Nat → Prop} {maxL mc ms : Nat} {ty : FieldType} (hfl : l.stackTraces = false) (hy : plainName y.cls = true) (ho : y.cls = own) (hw : wsy = Cond.code y cc maxL (some ty) :: wsy') (hlen : (lg_sl As).length ≤ maxL) {lv0 : List (Nat × Value)} (hlv : lv_args 0 As = lv0)
    (body : ∀ (p : Program) (e : Env) (s : State) (m : MethodId) (args : Array Value) (below : List Frame) (meth : Method) (c : Code) (A : Nat → Prop) (Q : State → Prop), gF p s m args c cc maxL own wsy D cI cJ cZ A → gFX l s A → gz_NC s → gh_RG p l e rm s m args below meth c D A maxL Q cc ty post mc ms → gH 0 p l e rm s m args below meth c D A maxL Q 0 0 W0 lv0 [] 0) : gz_G l y wsy rm D cI cJ cZ As W0 post mc ms := by
  intro sz
  subst ho
  subst hlv
  refine vx_ofW (cc := cc) (maxL := maxL) (ret := some ty) hy hw ?_
  intro p e s m args below meth c s₁ B hml htab hv
  obtain ⟨rfl, ⟨hsz, hP, hK, hD0, hN⟩, hB, hZ, hC⟩ := hv
  have hts := atoms_spec (ws := wsy) B.pre
  have hown : s.vm.findClass y.cls = some m.cls := findClass_of_methodNamed B.named
  subst hsz
  have hD := hD0.self (sz := s.heap.size)
  have hl := lv_entry As (n := maxL) hlen
  have hr := B.returns
  have hlocks := B.notSynchronized
  rw [lg_entry_eq]
  exact body p e s m As.toArray below meth c (va_A W0 s.heap.size) _ ⟨B.exec, B.bytes, hml, hown, hts, hK, hN, fun q h => Or.inr h⟩ ⟨hfl, hB, hZ⟩ hC (fun ws lv pc v g d hn hq H locs ls hg hP hD hS hl =>
    vx_ret (W.zret B.exec B.bytes hr hn (fun t ht hW => ⟨⟨_, ws, g, rfl, hq, by rw [ht]; exact hP, hD, by rw [ht]; exact hg⟩, hS.F ht⟩) hS.2.2 d hlocks)) s.heap [] _ (Nat.le_refl _) hP hD va_S.rf hl
theorem gz_preY {W0 : va_W} {As : List Value} {H : Heap} {locs : List Loc} {isC : List Nat} (hK : va_K D vwCl (gz_tys cI cJ cZ) s) (hN : gz_N s) (hB : gz_XB s) (hZ : gz_Z A s s.heap) (hNC : gz_NC s) (hA : ∀ q, s.heap.size ≤ q → A q) (hP : va_P D vwCl ws H) (hD : va_D A ws) (hS : va_S A s.heap H locs) (hC : isC.map (fun i => ws[i]?) = W0.map some) (hnd : va_nd isC = true) : ∀ U : State, U.heap = H → s.WarmedH U.vm → gz_PcY D cI cJ cZ W0 H.size As As.toArray U := fun U hU hW =>
  ⟨rfl, ⟨by rw [hU], by rw [hU]; exact gz_subP hC hP, va_K.moved hW.alike hK, (hD.sub isC hnd hC).weaken (fun _ _ _ _ => trivial), gz_N.warm hW hN⟩, gz_XB.warm hW hB, by
    rw [hU]
    exact ((hZ.kept hS.2.1).narrow (va_free hD hS hA isC hC)).moved hW.alike, gz_NC.moved hW.alike hNC⟩
theorem gh_coreX {W0 : va_W} {post : Option Value → va_W → Nat → Prop} {mc ms : Nat} {rest st0 : List Value} {a : Array Value} {H : Heap} {locs : List Loc} {ls : Array Slot} (hr : vx_Run p l e R s m args below meth c H locs cells slots mc ms (F0 m pc ls st0) rest (gz_QG D W0 H.size post a) (gz_XC D W0 H.size (fun _ => False)) (va_A W0 H.size)) (hA : ∀ q, s.heap.size ≤ q → A q) (hg : s.heap.size + g ≤ H.size) (hP : va_P D vwCl ws H) (hD : va_D A ws) (hS : va_S A s.heap H locs) (hl : lv_has ls nL lv) (isC : List Nat) (hC : isC.map (fun i => ws[i]?) = W0.map some) (hsh : ∀ v W1 g1, post v W1 g1 → W1.map Prod.fst = W0.map Prod.fst)
    (kk : ∀ v W1 g1, post v W1 g1 → gH (g + g1) p l e R s m args below meth c D A nL Q (cells + mc) (slots + ms) (gz_pw ws isC W1) lv (v.toList ++ rest) (pc + 3)) : W p l e R s m args below meth c H locs cells slots Q (F0 m pc ls st0) := by
  intro T hT X
  have hFc : ∀ q, va_A W0 H.size q → A q := va_free hD hS hA isC hC
  rcases hr T hT X with ⟨v, st₀, t, T', L, h0, X', hL, e1, e2, ⟨⟨v1, W1, g1, hv, hpost, hP1, hD1, hg1⟩, hz, hk⟩, st9⟩ | ⟨q, st₀, t, T', L, E, ce, h0, X', hL, e1, e2, ⟨hpx, -⟩, hce, hcv, hcl, st9⟩
  · cases hv
    rw [h0] at hz hk hg1
    obtain ⟨hP2, hD2⟩ := gz_putP (H1 := T'.heap) hP hD hC (hsh v W1 g1 hpost) (fun q h1 h2 => by rw [e1]; exact hk q h1 h2) (by rw [e1]; exact hP1)
    obtain ⟨t2, a1, b1⟩ := kk v W1 g1 hpost T'.heap (locs ++ L) ls (by rw [e1]; omega) hP2 hD2
      ⟨Nat.le_trans hS.1 (by rw [e1]; exact hz), fun q h1 h2 => by rw [e1, hk q (Nat.lt_of_lt_of_le h1 hS.1) (fun z => h2 (hFc q z))]; exact hS.2.1 q h1 h2, fun q hq => by
        rcases List.mem_append.mp hq with h | h
        · exact hS.2.2 q h
        · exact hFc _ (hL q h)⟩ hl T' rfl X'
    exact ⟨t2, st9 t2 a1, b1⟩
  · exact hpx.elim
/-- a static call of a method of the law that has a table -/
theorem gh_callSH (F : gF p s m args c cc nL own Ts D cI cJ cZ A) (FX : gFX l s A) (NC : gz_NC s) {y : MethodName} {bytes : ByteArray} {maxL n index mc ms : Nat} {ret : Option FieldType} {hh : List (Nat × Nat × Nat × Nat)} {wsy wsy' : List Cond} {rm : Room} {As rest : List Value} {W0 : va_W} {post : Option Value → va_W → Nat → Prop}
    (hM : gz_G l y wsy rm D cI cJ cZ As W0 post mc ms) (hG : GoodIn Ts (va_wsS own index y wsy)) (hw : wsy = Cond.codeWith y bytes maxL ret hh :: wsy') (hrm : rm.cells = mc ∧ rm.slots = ms)
    (hd : y.cls ≠ "java/lang/invoke/MethodHandle" ∧ y.cls ≠ "java/lang/invoke/VarHandle" ∧ (parseMethodDescriptor y.desc).map (fun d => d.parameters.length) = some n) (hR : rm.frames + 1 ≤ R.frames ∧ 8 + (maxL + 11) + rm.locals ≤ R.locals)
    (hn : As.length = n) (X Y : va_W) (hws : ws = X ++ (W0 ++ Y)) (hst : st = As.reverse ++ rest) (hroom : (rest.map fun v => v.category).sum ≤ 8) (hcs : cells + mc ≤ R.cells ∧ slots + ms ≤ R.slots) (hsh : ∀ v W1 g1, post v W1 g1 → W1.map Prod.fst = W0.map Prod.fst) (d : decode cc pc = .ok (.invokestatic index, 3))
    (kk : ∀ v W1 g1, post v W1 g1 → gH (g + g1) p l e R s m args below meth c D A nL Q (cells + mc) (slots + ms) (X ++ (W1 ++ Y)) lv (v.toList ++ rest) (pc + 3)) : gH g p l e R s m args below meth c D A nL Q cells slots ws lv st pc := by
  subst hws
  intro H locs ls hg hP hD hS hl
  obtain ⟨hx, hb, hml, hown, hts, hK, hN, hA⟩ := F
  exact gh_coreX (vx_runSX (As := As) (rest := rest) ⟨hx, hb, hml, hown, hts⟩ (hM H.size) (vx_cwSW n hts hG hw hrm.1 hrm.2 hd hR) ⟨gz_blindY D cI cJ cZ W0 H.size _, gz_preY hK hN FX.2.1 FX.2.2 NC hA hP hD hS (gz_midC X W0 Y) (gz_range_nd _ _)⟩ rfl hn hl.1 hst (lv_room hroom) d hcs) hA hg hP hD hS hl (List.range' X.length W0.length) (gz_midC X W0 Y) hsh (fun v W1 g1 h => by
    rw [gz_pw_mid W0 W1 X Y (by have h1 := congrArg List.length (hsh v W1 g1 h); simpa using h1)]
    exact kk v W1 g1 h)
/-- .. that has none -/
theorem gh_callSG (F : gF p s m args c cc nL own Ts D cI cJ cZ A) (FX : gFX l s A) (NC : gz_NC s) {y : MethodName} {bytes : ByteArray} {maxL n index mc ms : Nat} {ret : Option FieldType} {wsy wsy' : List Cond} {rm : Room} {As rest : List Value} {W0 : va_W} {post : Option Value → va_W → Nat → Prop}
    (hM : gz_G l y wsy rm D cI cJ cZ As W0 post mc ms) (hG : GoodIn Ts (va_wsS own index y wsy)) (hw : wsy = Cond.code y bytes maxL ret :: wsy') (hrm : rm.cells = mc ∧ rm.slots = ms)
    (hd : y.cls ≠ "java/lang/invoke/MethodHandle" ∧ y.cls ≠ "java/lang/invoke/VarHandle" ∧ (parseMethodDescriptor y.desc).map (fun d => d.parameters.length) = some n) (hR : rm.frames + 1 ≤ R.frames ∧ 8 + (maxL + 11) + rm.locals ≤ R.locals)
    (hn : As.length = n) (X Y : va_W) (hws : ws = X ++ (W0 ++ Y)) (hst : st = As.reverse ++ rest) (hroom : (rest.map fun v => v.category).sum ≤ 8) (hcs : cells + mc ≤ R.cells ∧ slots + ms ≤ R.slots) (hsh : ∀ v W1 g1, post v W1 g1 → W1.map Prod.fst = W0.map Prod.fst) (d : decode cc pc = .ok (.invokestatic index, 3))
    (kk : ∀ v W1 g1, post v W1 g1 → gH (g + g1) p l e R s m args below meth c D A nL Q (cells + mc) (slots + ms) (X ++ (W1 ++ Y)) lv (v.toList ++ rest) (pc + 3)) : gH g p l e R s m args below meth c D A nL Q cells slots ws lv st pc := by
  subst hws
  intro H locs ls hg hP hD hS hl
  obtain ⟨hx, hb, hml, hown, hts, hK, hN, hA⟩ := F
  exact gh_coreX (vx_runS (As := As) (rest := rest) ⟨hx, hb, hml, hown, hts⟩ (hM H.size) (va_cwS n hts hG hw hrm.1 hrm.2 hd hR) ⟨gz_blindY D cI cJ cZ W0 H.size _, gz_preY hK hN FX.2.1 FX.2.2 NC hA hP hD hS (gz_midC X W0 Y) (gz_range_nd _ _)⟩ rfl hn hl.1 hst (lv_room hroom) d hcs) hA hg hP hD hS hl (List.range' X.length W0.length) (gz_midC X W0 Y) hsh (fun v W1 g1 h => by
    rw [gz_pw_mid W0 W1 X Y (by have h1 := congrArg List.length (hsh v W1 g1 h); simpa using h1)]
    exact kk v W1 g1 h)
/-- the class's own 'slot()' and its like: an int comes back, nothing changes -/
theorem gh_callI (F : gF p s m args c cc nL own Ts D cI cJ cZ A) {y : MethodName} {bytes : ByteArray} {maxL n index : Nat} {ret : Option FieldType} {wsy wsy' : List Cond} {rm : Room} {C : String} {b : Nat} {As rest : List Value} {W0 : va_W} {P : Int → Prop}
    (hM : gz_M l y wsy rm D cI cJ cZ (.ref b :: As) W0 (gz_pI W0 P)) (hG : GoodIn Ts (wsV own index C y wsy)) (hw : wsy = Cond.code y bytes maxL ret :: wsy') (hrm : rm.cells = 0 ∧ rm.slots = 0)
    (hd : y.cls = C ∧ y.cls ≠ "java/lang/invoke/MethodHandle" ∧ y.cls ≠ "java/lang/invoke/VarHandle" ∧ (parseMethodDescriptor y.desc).map (fun d => d.parameters.length) = some n) (hR : rm.frames + 1 ≤ R.frames ∧ 8 + (maxL + 11) + rm.locals ≤ R.locals)
    (hn : As.length = n) (X Y : va_W) (hws : ws = X ++ (W0 ++ Y)) (ci : Nat) {fs : List Value} {T : u_T} {N : Nat} (he : W0[0]? = some (b, .inr (ci, fs))) (hc : vwCl[ci]? = some (C, T, N)) (hst : st = As.reverse ++ .ref b :: rest) (hroom : (rest.map fun v => v.category).sum ≤ 8) (hcs : cells ≤ R.cells ∧ slots ≤ R.slots) (d : decode cc pc = .ok (.invokevirtual index, 3))
    (kk : ∀ q : Int, P q → gH g p l e R s m args below meth c D A nL Q cells slots ws lv (vI q :: rest) (pc + 3)) : gH g p l e R s m args below meth c D A nL Q cells slots ws lv st pc := by
  intro H locs ls hg hP hD hS hl
  subst hws
  obtain ⟨hx, hb, hml, hown, hts, hK, hN, hA⟩ := F
  have hlt : 0 < W0.length := (List.getElem?_eq_some_iff.mp he).1
  have he2 : (X ++ (W0 ++ Y))[X.length]? = some (b, .inr (ci, fs)) := by
    rw [List.getElem?_append_right (Nat.le_refl _), Nat.sub_self, List.getElem?_append_left hlt]
    exact he
  have hC := gz_midC X W0 Y
  have hr := va_runV (p := p) (l := l) (e := e) (below := below) (meth := meth) (H := H) (locs := locs) (cells := cells) (slots := slots) (mc := 0) (ms := 0) (g := F0 m pc ls st) (As := As) (rest := rest) ⟨hx, hb, hml, hown, hts⟩ (hM H.size) (cwV n hts hG hw hrm.1 hrm.2 hd hR) ⟨gz_blind D cI cJ cZ W0 H.size _, va_recv hK hP hc he2, gz_pre hK hN hP hD hC (gz_range_nd _ _)⟩ rfl hn hl.1 hst (lv_room hroom) d hcs
  intro T hT X1
  obtain ⟨v, st₀, t, T', L, h0, X', hL, e1, e2, ⟨⟨v1, W1, hv, ⟨hW1, q, hq1, hq2⟩, hP1, hD1⟩, hz, hk⟩, st9⟩ := hr T hT X1
  cases hv
  subst hW1
  subst hq1
  rw [h0] at hz hk
  have hFc : ∀ q, va_A W1 H.size q → A q := va_free hD hS hA _ hC
  obtain ⟨hP2, hD2⟩ := gz_putP (H1 := T'.heap) (W1 := W1) hP hD hC rfl (fun q h1 h2 => by rw [e1]; exact hk q h1 h2) (by rw [e1]; exact hP1)
  rw [gz_pw_id _ W1 _ hC] at hP2 hD2
  obtain ⟨t2, a1, b1⟩ := kk q hq2 T'.heap (locs ++ L) ls (by rw [e1]; omega) hP2 hD2
    ⟨Nat.le_trans hS.1 (by rw [e1]; exact hz), fun q h1 h2 => by rw [e1, hk q (Nat.lt_of_lt_of_le h1 hS.1) (fun z => h2 (hFc q z))]; exact hS.2.1 q h1 h2, fun q hq => by
      rcases List.mem_append.mp hq with h | h
      · exact hS.2.2 q h
      · exact hFc _ (hL q h)⟩ hl T' rfl X'
  exact ⟨t2, st9 t2 a1, b1⟩
/-- caught by the row x of the table -/
theorem gh_catch (F : gF p s m args c cc nL own Ts D cI cJ cZ A) (NC : gz_NC s) (hB : gz_XB s) {E : String} {hh : List (Nat × Nat × Nat × Nat)} (htab : c.exceptionTable.toList = tableOf hh) (pre : List ExceptionTableEntry) (x : ExceptionTableEntry) (suf : List ExceptionTableEntry) (hsplit : tableOf hh = pre ++ x :: suf) (hE : E ∈ gz_exc)
    (hpass : ∀ z ∈ pre, z.catchType ≠ 0 ∧ ∃ nm : String, Cond.classLink own z.catchType nm ∈ Ts ∧ (E, nm) ∈ gz_ncs) (hx : covers x pc = true) (h0 : x.catchType ≠ 0) (hlink : Cond.classLink own x.catchType E ∈ Ts)
    (kk : ∀ q : Nat, gH 1 p l e R s m args below meth c D A nL Q cells slots ws lv [.ref q] x.handlerPc) : gGx p l e R s m args below meth c D A nL Q cells slots ws lv st pc E := by
  intro H locs ls q ce hP hD hS hl hgr hce hcv hcl
  obtain ⟨hx1, hb, hml, hown, hts, hK, hN, hA⟩ := F
  exact vx_catch hown pre x suf (htab.trans hsplit) (fun z hz => by
    obtain ⟨z0, nm, z1, z2⟩ := hpass z hz
    exact Or.inr ⟨z0, nm, hts _ z1, NC _ z2⟩) hx h0 (hts _ hlink) (va_Nw.use rfl (hB.2.1 E hE)) hce hcv hcl (kk q H locs ls hgr hP hD hS hl)
end GHC
/-- what a wrapper of the law hands back: the answer and the world behind, or the exception's number, the world as it was and one cell more -/
def gz_pWG (k : String → Int) (cs : List (Prop × String)) (v0 : Option Value) (W2 W0 : va_W) : Option Value → va_W → Nat → Prop := fun v W1 g => (gz_ok cs ∧ v = v0 ∧ W1 = W2 ∧ g = 0) ∨ (∃ E, gz_px cs E ∧ v = some (vI (k E)) ∧ W1 = W0 ∧ g = 1)
theorem gz_pWG_sh {k : String → Int} {cs : List (Prop × String)} {v0 : Option Value} {W2 W0 : va_W} (h : W2.map Prod.fst = W0.map Prod.fst) : ∀ v W1 g, gz_pWG k cs v0 W2 W0 v W1 g → W1.map Prod.fst = W0.map Prod.fst := fun v W1 g q => by
  rcases q with ⟨-, -, e, -⟩ | ⟨-, -, -, e, -⟩
  · rw [e]; exact h
  · rw [e]
theorem gz_px_in {E : String} : ∀ {cs : List (Prop × String)}, gz_px cs E → E ∈ cs.map Prod.snd
  | [], h => h.elim
  | q :: r, h => by
    rcases h with ⟨-, h2⟩ | ⟨-, h2⟩
    · rw [h2]
      exact List.mem_cons_self
    · exact List.mem_cons_of_mem _ (gz_px_in h2)
theorem gz_px_un {E E2 : String} : ∀ {cs : List (Prop × String)}, gz_px cs E → gz_px cs E2 → E = E2
  | [], h, _ => h.elim
  | q :: r, h, h2 => by
    rcases h with ⟨a, b⟩ | ⟨a, b⟩ <;> rcases h2 with ⟨a2, b2⟩ | ⟨a2, b2⟩
    · exact b.trans b2.symm
    · exact absurd a a2
    · exact absurd a2 a
    · exact gz_px_un b b2
theorem gz_px_ok {E : String} : ∀ {cs : List (Prop × String)}, gz_px cs E → ¬ gz_ok cs
  | [], h, _ => h.elim
  | q :: r, h, h2 => by
    rcases h with ⟨a, b⟩ | ⟨a, b⟩
    · exact h2.1 a
    · exact gz_px_ok b h2.2
section GHW
variable {p : Program} {l : Launch} {e : Env} {R : Room} {s : State} {m : MethodId} {args : Array Value} {below : List Frame} {meth : Method} {c : Code} {D : va_G} {A : Nat → Prop} {nL : Nat} {Q : State → Prop} {cells slots g : Nat}
variable {cc : ByteArray} {own : String} {Ts : List Cond} {cI cJ cZ : ClassId} {ws : va_W} {lv : List (Nat × Value)} {st : List Value} {pc : Nat}

/-- the wrapper's call throws E: one cell is new, the number z comes back -/
theorem gh_thr (F : gF p s m args c cc nL own Ts D cI cJ cZ A) (FX : gFX l s A) (NC : gz_NC s) {y : MethodName} {bytes : ByteArray} {maxL n index : Nat} {hh : List (Nat × Nat × Nat × Nat)} {wsy wsy' : List Cond} {rm : Room} {As rest : List Value} {W0 W2 : va_W} {k : String → Int} {cs : List (Prop × String)} {v0 : Option Value} {E : String} {z : Int}
    (hM : gz_G l y wsy rm D cI cJ cZ As W0 (gz_pWG k cs v0 W2 W0) 1 6) (hE : gz_px cs E) (hz : k E = z) (hG : GoodIn Ts (va_wsS own index y wsy)) (hw : wsy = Cond.codeWith y bytes maxL (some .int) hh :: wsy') (hrm : rm.cells = 1 ∧ rm.slots = 6)
    (hd : y.cls ≠ "java/lang/invoke/MethodHandle" ∧ y.cls ≠ "java/lang/invoke/VarHandle" ∧ (parseMethodDescriptor y.desc).map (fun d => d.parameters.length) = some n) (hR : rm.frames + 1 ≤ R.frames ∧ 8 + (maxL + 11) + rm.locals ≤ R.locals)
    (hn : As.length = n) (X Y : va_W) (hws : ws = X ++ (W0 ++ Y)) (hst : st = As.reverse ++ rest) (hroom : (rest.map fun v => v.category).sum ≤ 8) (hcs : cells + 1 ≤ R.cells ∧ slots + 6 ≤ R.slots) (hsh : W2.map Prod.fst = W0.map Prod.fst) (d : decode cc pc = .ok (.invokestatic index, 3))
    (kk : gH (g + 1) p l e R s m args below meth c D A nL Q (cells + 1) (slots + 6) ws lv (vI z :: rest) (pc + 3)) : gH g p l e R s m args below meth c D A nL Q cells slots ws lv st pc := by
  refine gh_callSH F FX NC hM hG hw hrm hd hR hn X Y hws hst hroom hcs (gz_pWG_sh hsh) d (fun v W1 g1 hv => ?_)
  rcases hv with ⟨ho, -⟩ | ⟨E2, h2, rfl, rfl, rfl⟩
  · exact absurd ho (gz_px_ok hE)
  · rw [← gz_px_un hE h2, hz, ← hws]
    exact kk
/-- it doesn't throw -/
theorem gh_ret (F : gF p s m args c cc nL own Ts D cI cJ cZ A) (FX : gFX l s A) (NC : gz_NC s) {y : MethodName} {bytes : ByteArray} {maxL n index : Nat} {hh : List (Nat × Nat × Nat × Nat)} {wsy wsy' : List Cond} {rm : Room} {As rest : List Value} {W0 W2 : va_W} {k : String → Int} {cs : List (Prop × String)} {v0 : Value}
    (hM : gz_G l y wsy rm D cI cJ cZ As W0 (gz_pWG k cs (some v0) W2 W0) 1 6) (hok : gz_ok cs) (hG : GoodIn Ts (va_wsS own index y wsy)) (hw : wsy = Cond.codeWith y bytes maxL (some .int) hh :: wsy') (hrm : rm.cells = 1 ∧ rm.slots = 6)
    (hd : y.cls ≠ "java/lang/invoke/MethodHandle" ∧ y.cls ≠ "java/lang/invoke/VarHandle" ∧ (parseMethodDescriptor y.desc).map (fun d => d.parameters.length) = some n) (hR : rm.frames + 1 ≤ R.frames ∧ 8 + (maxL + 11) + rm.locals ≤ R.locals)
    (hn : As.length = n) (X Y : va_W) (hws : ws = X ++ (W0 ++ Y)) (hst : st = As.reverse ++ rest) (hroom : (rest.map fun v => v.category).sum ≤ 8) (hcs : cells + 1 ≤ R.cells ∧ slots + 6 ≤ R.slots) (hsh : W2.map Prod.fst = W0.map Prod.fst) (d : decode cc pc = .ok (.invokestatic index, 3))
    (kk : gH g p l e R s m args below meth c D A nL Q (cells + 1) (slots + 6) (X ++ (W2 ++ Y)) lv (v0 :: rest) (pc + 3)) : gH g p l e R s m args below meth c D A nL Q cells slots ws lv st pc := by
  refine gh_callSH F FX NC hM hG hw hrm hd hR hn X Y hws hst hroom hcs (gz_pWG_sh hsh) d (fun v W1 g1 hv => ?_)
  rcases hv with ⟨-, rfl, rfl, rfl⟩ | ⟨E2, h2, -⟩
  · exact kk
  · exact absurd hok (gz_px_ok h2)
end GHW
