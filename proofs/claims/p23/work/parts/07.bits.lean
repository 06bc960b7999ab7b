/-! ===== bits, longs ===== -/
theorem zI_nI (n : Nat) : zI (n : Int) = nI n := Int32.ofInt_eq_ofNat
theorem zI_n {x : Int} (h : 0 ≤ x) : zI x = nI x.toNat := by rw [← zI_nI, Int.toNat_of_nonneg h]
theorem zz_and (a b : Nat) : nI a &&& nI b = nI (a &&& b) := by
  apply Int32.toBitVec_inj.1
  show BitVec.ofNat 32 a &&& BitVec.ofNat 32 b = BitVec.ofNat 32 (a &&& b)
  apply BitVec.eq_of_getLsbD_eq
  intro i hi
  simp
theorem zz_or (a b : Nat) : nI a ||| nI b = nI (a ||| b) := by
  apply Int32.toBitVec_inj.1
  show BitVec.ofNat 32 a ||| BitVec.ofNat 32 b = BitVec.ofNat 32 (a ||| b)
  apply BitVec.eq_of_getLsbD_eq
  intro i hi
  simp [hi]
theorem zor_I {x y : Int} (hx : 0 ≤ x) (hy : 0 ≤ y) : zI x ||| zI y = zI (zor x y) := by
  rw [zI_n hx, zI_n hy, zz_or]
  exact (zI_nI _).symm
theorem zand_I {x y : Int} (hx : 0 ≤ x) (hy : 0 ≤ y) : zI x &&& zI y = zI (zand x y) := by
  rw [zI_n hx, zI_n hy, zz_and]
  exact (zI_nI _).symm
theorem zor_r {x y : Int} (hx : 0 ≤ x ∧ x ≤ 1023) (hy : 0 ≤ y ∧ y ≤ 1023) : 0 ≤ zor x y ∧ zor x y ≤ 1023 := by
  have h := Nat.or_lt_two_pow (n := 10) (x := x.toNat) (y := y.toNat) (by omega) (by omega)
  unfold zor
  omega
theorem zand_r {x y : Int} (hx : 0 ≤ x ∧ x ≤ 1023) : 0 ≤ zand x y ∧ zand x y ≤ 1023 := by
  have h := Nat.and_le_left (n := x.toNat) (m := y.toNat)
  unfold zand
  omega
theorem zor_bit (x y : Int) (q : Nat) : bit (zor x y) q ↔ bit x q ∨ bit y q := by
  unfold zor bit
  rw [Int.toNat_natCast, Nat.testBit_or, Bool.or_eq_true]
theorem zand_bit (x y : Int) (q : Nat) : bit (zand x y) q ↔ bit x q ∧ bit y q := by
  unfold zand bit
  rw [Int.toNat_natCast, Nat.testBit_and, Bool.and_eq_true]
theorem bit_0 (q : Nat) : ¬ bit 0 q := by unfold bit; simp
theorem bit_none {x : Int} (hx : 0 ≤ x) : x = 0 ↔ ∀ q, ¬ bit x q := by
  constructor
  · intro h q; rw [h]; exact bit_0 q
  · intro h
    have h1 : x.toNat = 0 := by
      apply Nat.eq_of_testBit_eq
      intro i
      rw [Nat.zero_testBit]
      exact Bool.eq_false_iff.mpr (h i)
    omega
theorem bit_lt {x : Int} (hx : 0 ≤ x ∧ x ≤ 1023) {q : Nat} (h : bit x q) : q < 10 := by
  rcases Nat.lt_or_ge q 10 with h1 | h1
  · exact h1
  · have h2 : x.toNat.testBit q = false := Nat.testBit_lt_two_pow (Nat.lt_of_lt_of_le (show x.toNat < 2 ^ 10 by omega) (Nat.pow_le_pow_right (by decide) h1))
    unfold bit at h
    rw [h2] at h
    cases h
theorem zz_s : ∀ n, n < 32 → ((nI n &&& 31).toBitVec.smod 32).toNat = n := by decide +kernel
/-- the bit of a set -/
def zsh (x y : Int) : Int := ((x.toNat / 2 ^ y.toNat : Nat) : Int)
theorem zsh_I {x y : Int} (hx : 0 ≤ x ∧ x < 2147483648) (hy : 0 ≤ y ∧ y < 32) : zI x >>> (zI y &&& 31) = zI (zsh x y) := by
  rw [zI_n hx.1, zI_n hy.1, pk_shrN (by omega) _ y.toNat (zz_s _ (by omega))]
  exact (zI_nI _).symm
theorem zsh_r {x y : Int} (hx : 0 ≤ x) : 0 ≤ zsh x y ∧ zsh x y ≤ x := by
  have h := Nat.div_le_self x.toNat (2 ^ y.toNat)
  unfold zsh
  generalize x.toNat / 2 ^ y.toNat = n at h ⊢
  omega
theorem zand_1 {x : Int} (hx : 0 ≤ x) : zI x &&& zI 1 = zI (x % 2) := by
  rw [zand_I hx (by decide)]
  congr 1
  unfold zand
  rw [show (1 : Int).toNat = 1 from rfl, Nat.and_one_is_mod]
  omega
theorem zsh_bit (x y : Int) : bit x y.toNat ↔ zsh x y % 2 = 1 := by
  unfold bit zsh
  rw [Nat.testBit_eq_decide_div_mod_eq, decide_eq_true_iff]
  generalize x.toNat / 2 ^ y.toNat = n
  omega
theorem zshl_1 {y : Int} (hy : 0 ≤ y ∧ y < 30) : zI 1 <<< (zI y &&& 31) = zI ((2 ^ y.toNat : Nat) : Int) := by
  rw [zI_n (x := 1) (by decide), zI_n hy.1, pk_shlN _ y.toNat (zz_s _ (by omega)), zI_nI]
  · rw [show (1 : Int).toNat = 1 from rfl, Nat.one_mul]
  · rw [show (1 : Int).toNat = 1 from rfl, Nat.one_mul]
    exact Nat.pow_lt_pow_right (by decide) (by omega)
theorem bit_pow (y q : Nat) : bit ((2 ^ y : Nat) : Int) q ↔ q = y := by
  unfold bit
  rw [Int.toNat_natCast, Nat.testBit_two_pow, decide_eq_true_iff]
  exact eq_comm
theorem pow_r {y : Int} (hy : 0 ≤ y ∧ y < 10) : 0 ≤ ((2 ^ y.toNat : Nat) : Int) ∧ ((2 ^ y.toNat : Nat) : Int) ≤ 1023 := by
  have h : 2 ^ y.toNat ≤ 2 ^ 9 := Nat.pow_le_pow_right (by decide) (by omega)
  generalize 2 ^ y.toNat = n at h ⊢
  omega
theorem bv_bit {x : Int} (hx : 0 ≤ x ∧ x ≤ 1023) (q : Nat) : (zI x).toBitVec.getLsbD q = x.toNat.testBit q := by
  rw [zI_n hx.1]
  show (BitVec.ofNat 32 x.toNat).getLsbD q = _
  rw [BitVec.getLsbD_ofNat]
  by_cases h : q < 32
  · simp [h]
  · have h2 : x.toNat.testBit q = false := Nat.testBit_lt_two_pow (Nat.lt_of_lt_of_le (show x.toNat < 2 ^ 10 by omega) (Nat.pow_le_pow_right (by decide) (by omega)))
    simp [h, h2]
/-- what of x isn't in f -/
def zdf (x f : Int) : Int := (zI x &&& (zI f ^^^ zI (-1))).toInt
theorem zdf_0 {x f : Int} (hx : 0 ≤ x ∧ x ≤ 1023) (hf : 0 ≤ f ∧ f ≤ 1023) : zdf x f = 0 ↔ ∀ q, bit x q → bit f q := by
  have e1 : zdf x f = 0 ↔ zI x &&& (zI f ^^^ zI (-1)) = 0 := by
    unfold zdf
    rw [← Int32.toInt_inj]
    rfl
  have e2 : ∀ q, q < 32 → (zI (-1)).toBitVec.getLsbD q = true := by decide
  rw [e1]
  constructor
  · intro h q hq
    have h1 := congrArg (fun v : Int32 => v.toBitVec.getLsbD q) h
    have hq2 := bit_lt hx hq
    simp only [Int32.toBitVec_and, Int32.toBitVec_xor, BitVec.getLsbD_and, BitVec.getLsbD_xor, bv_bit hx, bv_bit hf, e2 q (by omega)] at h1
    unfold bit at hq ⊢
    rw [hq] at h1
    cases hb : f.toNat.testBit q with
    | true => rfl
    | false => rw [hb] at h1; simp at h1
  · intro h
    apply Int32.toBitVec_inj.mp
    apply BitVec.eq_of_getLsbD_eq
    intro q hq
    simp only [Int32.toBitVec_and, Int32.toBitVec_xor, BitVec.getLsbD_and, BitVec.getLsbD_xor, bv_bit hx, bv_bit hf, e2 q hq]
    have h1 := h q
    unfold bit at h1
    cases hb : x.toNat.testBit q with
    | false => simp
    | true => rw [h1 hb]; simp
theorem zdf_r (x f : Int) : -2147483648 ≤ zdf x f ∧ zdf x f < 2147483648 := zI_rng _
theorem zdf_I (x f : Int) : zI x &&& (zI f ^^^ zI (-1)) = zI (zdf x f) := (zI_of _).symm
theorem zxor_I (f : Int) : zI f ^^^ zI (-1) = zI (zI f ^^^ zI (-1)).toInt := (zI_of _).symm
/-! longs -/
theorem zl_inj {a b : Int64} (h : a.toBitVec = b.toBitVec) : a = b := Int64.toBitVec_inj.mp h
theorem zl_tb (n : Nat) : (lN n).toBitVec = BitVec.ofNat 64 n := rfl
theorem zl_c : ∀ k, k < 64 → ((nI k).toInt64 &&& 63) = lN k := by decide +kernel
theorem zl_sm : ∀ k, k < 64 → (BitVec.ofNat 64 k).smod 64 = BitVec.ofNat 64 k := by decide +kernel
theorem zl_smn : ∀ k, k < 64 → ((lN k).toBitVec.smod 64).toNat = k := by decide +kernel
theorem zl_shl (n : Nat) {k : Nat} (hk : k < 64) : lN n <<< ((nI k).toInt64 &&& 63) = lN (n * 2 ^ k) := by
  rw [zl_c k hk]
  apply zl_inj
  rw [Int64.toBitVec_shiftLeft, zl_tb, zl_tb, zl_tb, zl_sm k hk]
  apply BitVec.eq_of_toNat_eq
  rw [BitVec.shiftLeft_eq', BitVec.toNat_shiftLeft, BitVec.toNat_ofNat, BitVec.toNat_ofNat, BitVec.toNat_ofNat, Nat.mod_eq_of_lt (show k < 2 ^ 64 by omega), Nat.shiftLeft_eq, Nat.mul_mod, Nat.mod_mod, ← Nat.mul_mod]
theorem zl_or {a b : Nat} (ha : a < 2 ^ 64) (hb : b < 2 ^ 64) : lN a ||| lN b = lN (a ||| b) := by
  apply zl_inj
  rw [Int64.toBitVec_or, zl_tb, zl_tb, zl_tb]
  apply BitVec.eq_of_toNat_eq
  rw [BitVec.toNat_or, BitVec.toNat_ofNat, BitVec.toNat_ofNat, BitVec.toNat_ofNat, Nat.mod_eq_of_lt ha, Nat.mod_eq_of_lt hb, Nat.mod_eq_of_lt (Nat.or_lt_two_pow ha hb)]
theorem zl_and {a b : Nat} (ha : a < 2 ^ 64) (hb : b < 2 ^ 64) : lN a &&& lN b = lN (a &&& b) := by
  apply zl_inj
  rw [Int64.toBitVec_and, zl_tb, zl_tb, zl_tb]
  apply BitVec.eq_of_toNat_eq
  rw [BitVec.toNat_and, BitVec.toNat_ofNat, BitVec.toNat_ofNat, BitVec.toNat_ofNat, Nat.mod_eq_of_lt ha, Nat.mod_eq_of_lt hb, Nat.mod_eq_of_lt (Nat.and_lt_two_pow _ hb)]
theorem zl_toInt {a : Nat} (h : a < 2 ^ 63) : (lN a).toInt = (a : Int) := lg_ofNat_toInt h
theorem zl_shr {a d : Nat} (hd : d < 64) (h : a < 2 ^ 62) : lN a >>> ((nI d).toInt64 &&& 63) = lN (a / 2 ^ d) := by
  rw [zl_c d hd]
  have hd2 : a / 2 ^ d ≤ a := Nat.div_le_self _ _
  apply Int64.toInt_inj.mp
  have e : (lN a >>> lN d).toInt = (lN a).toInt >>> d := by
    have h9 := zl_smn d hd
    conv => rhs; rw [← h9]
    exact BitVec.toInt_sshiftRight ..
  rw [e, Int.shiftRight_eq_div_pow, zl_toInt (by omega), zl_toInt (by omega)]
  rfl
/-- the bit of a row of days -/
theorem zl_bit {a d : Nat} (hd : d < 64) (h : a < 2 ^ 62) : (lN a >>> ((nI d).toInt64 &&& 63)) &&& (1 : Int64) = if a.testBit d then 1 else 0 := by
  rw [zl_shr hd h, show (1 : Int64) = lN 1 from rfl, zl_and (Nat.lt_of_le_of_lt (Nat.div_le_self _ _) (by omega)) (by decide), Nat.and_one_is_mod, Nat.testBit_eq_decide_div_mod_eq]
  have h2 : a / 2 ^ d % 2 = 0 ∨ a / 2 ^ d % 2 = 1 := by omega
  rcases h2 with h2 | h2 <;> rw [h2] <;> decide
section GZL
variable {p : Program} {l : Launch} {e : Env} {R : Room} {s : State} {m : MethodId} {args : Array Value} {below : List Frame} {meth : Method} {c : Code} {D : va_G} {A : Nat → Prop} {nL : Nat} {Q : State → Prop} {cells slots : Nat}
variable {cc : ByteArray} {own : String} {Ts : List Cond} {cI cJ cZ : ClassId} {ws : va_W} {lv : List (Nat × Value)} {st : List Value} {pc : Nat}
theorem gz_lconst (F : gF p s m args c cc nL own Ts D cI cJ cZ A) {n : Fin 2} {v : Int64} (d : decode cc pc = .ok (.lconst n, 1)) (hv : Int64.ofNat (n : Nat) = v) (k : gG p l e R s m args below meth c D A nL Q cells slots ws lv (.long v :: st) (pc + 1)) : gG p l e R s m args below meth c D A nL Q cells slots ws lv st pc :=
  fun H locs ls hP hD hS hl => lv_lconst F.1 F.2.1 d hv (k H locs ls hP hD hS hl)
theorem gz_lshl (F : gF p s m args c cc nL own Ts D cI cJ cZ A) {x v : Int64} {y : Int32} (d : decode cc pc = .ok (.lshl, 1)) (hv : x <<< (y.toInt64 &&& 63) = v) (k : gG p l e R s m args below meth c D A nL Q cells slots ws lv (.long v :: st) (pc + 1)) : gG p l e R s m args below meth c D A nL Q cells slots ws lv (.int y :: .long x :: st) pc :=
  fun H locs ls hP hD hS hl => lv_lshl F.1 F.2.1 d hv (k H locs ls hP hD hS hl)
theorem gz_lshr (F : gF p s m args c cc nL own Ts D cI cJ cZ A) {x v : Int64} {y : Int32} (d : decode cc pc = .ok (.lshr, 1)) (hv : x >>> (y.toInt64 &&& 63) = v) (k : gG p l e R s m args below meth c D A nL Q cells slots ws lv (.long v :: st) (pc + 1)) : gG p l e R s m args below meth c D A nL Q cells slots ws lv (.int y :: .long x :: st) pc :=
  fun H locs ls hP hD hS hl => lv_lshr F.1 F.2.1 d hv (k H locs ls hP hD hS hl)
theorem gz_land (F : gF p s m args c cc nL own Ts D cI cJ cZ A) {x y v : Int64} (d : decode cc pc = .ok (.land, 1)) (hv : x &&& y = v) (k : gG p l e R s m args below meth c D A nL Q cells slots ws lv (.long v :: st) (pc + 1)) : gG p l e R s m args below meth c D A nL Q cells slots ws lv (.long y :: .long x :: st) pc :=
  fun H locs ls hP hD hS hl => lv_land F.1 F.2.1 d (by rw [hv]; exact k H locs ls hP hD hS hl)
theorem gz_lor (F : gF p s m args c cc nL own Ts D cI cJ cZ A) {x y v : Int64} (d : decode cc pc = .ok (.lor, 1)) (hv : x ||| y = v) (k : gG p l e R s m args below meth c D A nL Q cells slots ws lv (.long v :: st) (pc + 1)) : gG p l e R s m args below meth c D A nL Q cells slots ws lv (.long y :: .long x :: st) pc :=
  fun H locs ls hP hD hS hl => lv_lor F.1 F.2.1 d (by rw [hv]; exact k H locs ls hP hD hS hl)
theorem gz_lcmp (F : gF p s m args c cc nL own Ts D cI cJ cZ A) {x y : Int64} {v : Int} (d : decode cc pc = .ok (.lcmp, 1)) (hv : lg_cmp x y = zI v) (k : gG p l e R s m args below meth c D A nL Q cells slots ws lv (vI v :: st) (pc + 1)) : gG p l e R s m args below meth c D A nL Q cells slots ws lv (.long y :: .long x :: st) pc :=
  fun H locs ls hP hD hS hl => W.lcmp F.1 F.2.1 d (by rw [hv]; exact k H locs ls hP hD hS hl)
theorem gz_i2l (F : gF p s m args c cc nL own Ts D cI cJ cZ A) {x : Int32} {v : Int64} (d : decode cc pc = .ok (.i2l, 1)) (hv : x.toInt64 = v) (k : gG p l e R s m args below meth c D A nL Q cells slots ws lv (.long v :: st) (pc + 1)) : gG p l e R s m args below meth c D A nL Q cells slots ws lv (.int x :: st) pc :=
  fun H locs ls hP hD hS hl => lv_i2l F.1 F.2.1 d hv (k H locs ls hP hD hS hl)
end GZL
section GZT
variable {p : Program} {l : Launch} {e : Env} {R : Room} {s : State} {m : MethodId} {args : Array Value} {below : List Frame} {meth : Method} {c : Code} {D : va_G} {A : Nat → Prop} {nL : Nat} {Q : State → Prop} {cells slots : Nat}
variable {cc : ByteArray} {own : String} {Ts : List Cond} {cI cJ cZ : ClassId} {ws : va_W} {lv : List (Nat × Value)} {st : List Value} {pc : Nat}
theorem gz_tabIn (F : gF p s m args c cc nL own Ts D cI cJ cZ A) {dflt lo hi : Int} {offs : Array Int} {len : Nat} {x : Int} {off : Int} {tgt : Nat} (d : decode cc pc = .ok (.tableswitch dflt lo hi offs, len)) {k : Nat} (hx : x = lo + (k : Int)) (hr : 0 ≤ lo ∧ lo + (k : Int) ≤ hi ∧ hi < 2147483648) (ho : offs[k]? = some off) (ht : (pc : Int) + off = (tgt : Int))
    (kk : gG p l e R s m args below meth c D A nL Q cells slots ws lv st tgt) : gG p l e R s m args below meth c D A nL Q cells slots ws lv (vI x :: st) pc := by
  intro H locs ls hP hD hS hl
  have hz := zI_toInt (a := x) (by omega)
  exact lv_tableIn F.1 F.2.1 d (by rw [hz]; omega) (by rw [hz]; omega) (by rw [hz, show (x - lo).toNat = k by omega]; exact ho) ht (kk H locs ls hP hD hS hl)
theorem gz_tabOut (F : gF p s m args c cc nL own Ts D cI cJ cZ A) {dflt lo hi : Int} {offs : Array Int} {len : Nat} {x : Int} {tgt : Nat} (d : decode cc pc = .ok (.tableswitch dflt lo hi offs, len)) (hx : -2147483648 ≤ x ∧ x < 2147483648) (h : x < lo ∨ hi < x) (ht : (pc : Int) + dflt = (tgt : Int))
    (kk : gG p l e R s m args below meth c D A nL Q cells slots ws lv st tgt) : gG p l e R s m args below meth c D A nL Q cells slots ws lv (vI x :: st) pc := by
  intro H locs ls hP hD hS hl
  exact lv_tableOut F.1 F.2.1 d (by rw [zI_toInt hx]; exact h) ht (kk H locs ls hP hD hS hl)
theorem gz_ldc (F : gF p s m args c cc nL own Ts D cI cJ cZ A) {index : Nat} {v : Int} (hconst : Cond.constant own index (zI v) ∈ Ts) (d : decode cc pc = .ok (.ldc index, 2)) (k : gG p l e R s m args below meth c D A nL Q cells slots ws lv (vI v :: st) (pc + 2)) : gG p l e R s m args below meth c D A nL Q cells slots ws lv st pc :=
  fun H locs ls hP hD hS hl => lv_ldc F.1 F.2.1 F.2.2.2.1 (F.2.2.2.2.1 _ hconst) d (k H locs ls hP hD hS hl)
theorem gz_ldc_w (F : gF p s m args c cc nL own Ts D cI cJ cZ A) {index : Nat} {v : Int} (hconst : Cond.constant own index (zI v) ∈ Ts) (d : decode cc pc = .ok (.ldc_w index, 3)) (k : gG p l e R s m args below meth c D A nL Q cells slots ws lv (vI v :: st) (pc + 3)) : gG p l e R s m args below meth c D A nL Q cells slots ws lv st pc :=
  fun H locs ls hP hD hS hl => lv_ldcw F.1 F.2.1 F.2.2.2.1 (F.2.2.2.2.1 _ hconst) d (k H locs ls hP hD hS hl)
end GZT
