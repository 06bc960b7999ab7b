/-! ===== calls whose world is a block of ours ===== -/
theorem gz_range_nd : ∀ (n s : Nat), va_nd (List.range' s n) = true
  | 0, s => rfl
  | n + 1, s => by
    show (decide (s ∉ List.range' (s + 1) n) && va_nd (List.range' (s + 1) n)) = true
    rw [gz_range_nd n (s + 1), Bool.and_true, decide_eq_true_iff]
    intro h
    obtain ⟨i, h1, h2⟩ := List.mem_range'.mp h
    omega
theorem gz_midC (A B C : va_W) : (List.range' A.length B.length).map (fun i => (A ++ (B ++ C))[i]?) = B.map some := by
  apply List.ext_getElem?
  intro j
  rw [List.getElem?_map, List.getElem?_map]
  by_cases hj : j < B.length
  · rw [List.getElem?_range' hj, List.getElem?_eq_getElem hj]
    show some ((A ++ (B ++ C))[A.length + 1 * j]?) = some (some B[j])
    rw [Nat.one_mul, List.getElem?_append_right (Nat.le_add_right _ _), Nat.add_sub_cancel_left, List.getElem?_append_left hj, List.getElem?_eq_getElem hj]
  · rw [List.getElem?_eq_none (by rw [List.length_range']; omega), List.getElem?_eq_none (Nat.le_of_not_lt hj)]
    rfl
theorem gz_set_mid (A : va_W) (b : Nat × va_E) (B C : va_W) (x : Nat × va_E) : (A ++ (b :: B ++ C)).set A.length x = (A ++ [x]) ++ (B ++ C) := by
  rw [List.set_append_right _ _ (Nat.le_refl _), Nat.sub_self, List.append_assoc]
  rfl
theorem gz_pw_mid : ∀ (B B' A C : va_W), B'.length = B.length → gz_pw (A ++ (B ++ C)) (List.range' A.length B.length) B' = A ++ (B' ++ C)
  | [], B', A, C, h => by
    have : B' = [] := List.eq_nil_of_length_eq_zero h
    subst this
    rfl
  | b :: B, [], A, C, h => by simp at h
  | b :: B, x :: B', A, C, h => by
    have h1 := gz_pw_mid B B' (A ++ [x]) C (by simpa using h)
    show gz_pw ((A ++ (b :: B ++ C)).set A.length x) (List.range' (A.length + 1) B.length) B' = _
    rw [gz_set_mid]
    rw [List.length_append] at h1
    refine h1.trans ?_
    rw [List.append_assoc]
    rfl
section GZB
variable {p : Program} {l : Launch} {e : Env} {R : Room} {s : State} {m : MethodId} {args : Array Value} {below : List Frame} {meth : Method} {c : Code} {D : va_G} {A : Nat → Prop} {nL : Nat} {Q : State → Prop} {cells slots : Nat}
variable {cc : ByteArray} {own : String} {Ts : List Cond} {cI cJ cZ : ClassId} {ws : va_W} {lv : List (Nat × Value)} {st : List Value} {pc : Nat}
theorem gz_callVb (F : gF p s m args c cc nL own Ts D cI cJ cZ A) {y : MethodName} {bytes : ByteArray} {maxL n index : Nat} {ret : Option FieldType} {wsy wsy' : List Cond} {rm : Room} {C : String} {b : Nat} {As rest : List Value} {W0 : va_W} {post : Option Value → va_W → Prop}
    (hM : gz_M l y wsy rm D cI cJ cZ (.ref b :: As) W0 post) (hG : GoodIn Ts (wsV own index C y wsy)) (hw : wsy = Cond.code y bytes maxL ret :: wsy') (hrm : rm.cells = 0 ∧ rm.slots = 0)
    (hd : y.cls = C ∧ y.cls ≠ "java/lang/invoke/MethodHandle" ∧ y.cls ≠ "java/lang/invoke/VarHandle" ∧ (parseMethodDescriptor y.desc).map (fun d => d.parameters.length) = some n) (hR : rm.frames + 1 ≤ R.frames ∧ 8 + (maxL + 11) + rm.locals ≤ R.locals)
    (hn : As.length = n) (X Y : va_W) (hws : ws = X ++ (W0 ++ Y)) (ci : Nat) {fs : List Value} {T : u_T} {N : Nat} (he : W0[0]? = some (b, .inr (ci, fs))) (hc : vwCl[ci]? = some (C, T, N)) (hst : st = As.reverse ++ .ref b :: rest) (hroom : (rest.map fun v => v.category).sum ≤ 8) (hcs : cells ≤ R.cells ∧ slots ≤ R.slots) (hsh : ∀ v W1, post v W1 → W1.map Prod.fst = W0.map Prod.fst) (d : decode cc pc = .ok (.invokevirtual index, 3))
    (kk : ∀ v W1, post v W1 → gG p l e R s m args below meth c D A nL Q cells slots (X ++ (W1 ++ Y)) lv (v.toList ++ rest) (pc + 3)) : gG p l e R s m args below meth c D A nL Q cells slots ws lv st pc := by
  subst hws
  refine gz_callV F hM hG hw hrm hd hR hn (List.range' X.length W0.length) (gz_midC X W0 Y) (gz_range_nd _ _) X.length ci (fs := fs) ?_ hc hst hroom hcs hsh d (fun v W1 h => ?_)
  · have hlt : 0 < W0.length := (List.getElem?_eq_some_iff.mp he).1
    rw [List.getElem?_append_right (Nat.le_refl _), Nat.sub_self, List.getElem?_append_left hlt]
    exact he
  · rw [gz_pw_mid W0 W1 X Y (by have h1 := congrArg List.length (hsh v W1 h); simpa using h1)]
    exact kk v W1 h
theorem gz_kIb {W0 X Y : va_W} {P : Int → Prop} {rest : List Value} (hws : X ++ (W0 ++ Y) = ws) (kk : ∀ r : Int, P r → gG p l e R s m args below meth c D A nL Q cells slots ws lv (vI r :: rest) (pc + 3)) : ∀ v W1, gz_pI W0 P v W1 → gG p l e R s m args below meth c D A nL Q cells slots (X ++ (W1 ++ Y)) lv (v.toList ++ rest) (pc + 3) := by
  intro v W1 ⟨h1, r, h2, h3⟩
  subst h1; subst h2; subst hws
  exact kk r h3
theorem gz_kEb {W2 ws2 X Y : va_W} {rest : List Value} (h2 : X ++ (W2 ++ Y) = ws2) (kk : gG p l e R s m args below meth c D A nL Q cells slots ws2 lv rest (pc + 3)) : ∀ v W1, gz_pE W2 v W1 → gG p l e R s m args below meth c D A nL Q cells slots (X ++ (W1 ++ Y)) lv (v.toList ++ rest) (pc + 3) := by
  intro v W1 ⟨h1, h3⟩
  subst h1; subst h3; subst h2
  exact kk
/-- ints of any size, equal as ints -/
theorem gz_icmp32_ne (F : gF p s m args c cc nL own Ts D cI cJ cZ A) {x y : Int} {off : Int} {tgt : Nat} (d : decode cc pc = .ok (.if_icmp .ne off, 3)) (ht : (pc : Int) + off = (tgt : Int)) (kt : ¬ zI x = zI y → gG p l e R s m args below meth c D A nL Q cells slots ws lv st tgt) (kf : zI x = zI y → gG p l e R s m args below meth c D A nL Q cells slots ws lv st (pc + 3)) : gG p l e R s m args below meth c D A nL Q cells slots ws lv (vI y :: vI x :: st) pc :=
  fun H locs ls hP hD hS hl => lv_icmp_ne F.1 F.2.1 d ht (fun h => kt h H locs ls hP hD hS hl) (fun h => kf h H locs ls hP hD hS hl)
end GZB
