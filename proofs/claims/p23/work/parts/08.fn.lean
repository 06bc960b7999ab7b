/-! ===== what the methods of the parts make, as functions ===== -/
def Mt_peof (u : MtS) (k : Int) : Int := if 0 ≤ k ∧ k < Mt_n u then Mt_pe u k else 0
def Mt_place (u : MtS) (k x : Int) : MtS := if 0 ≤ k ∧ k < Mt_n u then (Mt_n u, Mt_pe u, zU (Mt_sl u) k x, Mt_ln u, Mt_ma u, Mt_st u, zU (Mt_mv u) k (Mt_mv u k + 1)) else u
def Mt_callOff (u : MtS) (k : Int) : MtS := if 0 ≤ k ∧ k < Mt_n u then (Mt_n u, Mt_pe u, Mt_sl u, Mt_ln u, Mt_ma u, zU (Mt_st u) k 1, Mt_mv u) else u
def Mt_exch (u : MtS) (k o : Int) : MtS := if (0 ≤ k ∧ k < Mt_n u) ∧ 0 ≤ o ∧ o < Mt_n u then (Mt_n u, Mt_pe u, zU (zU (Mt_sl u) k (Mt_sl u o)) o (Mt_sl u k), Mt_ln u, Mt_ma u, Mt_st u, Mt_mv u) else u
def Mt_mvup (u : MtS) (k : Int) : MtS := (Mt_n u, Mt_pe u, Mt_sl u, Mt_ln u, Mt_ma u, Mt_st u, zU (Mt_mv u) k (Mt_mv u k + 1))
def Mt_plsw (u : MtS) (k o : Int) : MtS := if (0 ≤ k ∧ k < Mt_n u) ∧ 0 ≤ o ∧ o < Mt_n u then Mt_mvup (Mt_mvup (Mt_exch u k o) k) o else u
def Mt_add (u : MtS) (p s l m : Int) : MtS := if Mt_n u < 30 then (Mt_n u + 1, zU (Mt_pe u) (Mt_n u) p, zU (Mt_sl u) (Mt_n u) s, zU (Mt_ln u) (Mt_n u) l, zU (Mt_ma u) (Mt_n u) m, zU (Mt_st u) (Mt_n u) 0, zU (Mt_mv u) (Mt_n u) 0) else u
/-- the meetings' states, the first i of them looked at: what is over by the slot x -/
def Mt_over (u : MtS) (x i : Int) : Int → Int := fun k => if 0 ≤ k ∧ k < i ∧ Mt_st u k = 0 ∧ Mt_sl u k + Mt_ln u k ≤ x then 2 else Mt_st u k
def Mt_endBy (u : MtS) (x : Int) : MtS := (Mt_n u, Mt_pe u, Mt_sl u, Mt_ln u, Mt_ma u, Mt_over u x (Mt_n u), Mt_mv u)
def Mc_add (u : McS) (f o : Int) : McS := if Mc_n u < 6 then (Mc_n u + 1, zU (Mc_fe u) (Mc_n u) f, zU (Mc_ow u) (Mc_n u) o, zU (Mc_bf u) (Mc_n u) 0, zU (Mc_bu u) (Mc_n u) 0, zU (Mc_ru u) (Mc_n u) (-1)) else u
def Mc_brk (u : McS) (m s l : Int) : Prop := (0 ≤ m ∧ m < Mc_n u) ∧ Mc_bf u m < Mc_bu u m ∧ ovl s l (Mc_bf u m) (Mc_bu u m - Mc_bf u m)
def Lo_add (u : LoS) (m p f t : Int) : LoS := if Lo_n u < 20 then (Lo_n u + 1, zU (Lo_ma u) (Lo_n u) m, zU (Lo_pe u) (Lo_n u) p, zU (Lo_fr u) (Lo_n u) f, zU (Lo_to u) (Lo_n u) t) else u
/-- who borrowed a machine, by the first k loans -/
def Lo_borN (u : LoS) (m s : Int) : Nat → Int
  | 0 => -1
  | k + 1 => if Lo_ma u (k : Int) = m ∧ Lo_fr u (k : Int) ≤ s ∧ s ≤ Lo_to u (k : Int) then Lo_pe u (k : Int) else Lo_borN u m s k
def Lo_bor (u : LoS) (m s : Int) : Int := Lo_borN u m s (Lo_n u).toNat
def Bu_enq (u : BuS) (k : Int) : BuS := if 0 ≤ k ∧ k < Bu_n u then (Bu_n u, Bu_ne u, Bu_ur u, Bu_ln u, zU (Bu_st u) k 0, zU (Bu_ma u) k (-1), zU (Bu_bg u) k (-1), Bu_ti u) else u
def Bu_add (u : BuS) (x y z : Int) : BuS := if Bu_n u < 40 then Bu_enq (Bu_n u + 1, zU (Bu_ne u) (Bu_n u) x, zU (Bu_ur u) (Bu_n u) y, zU (Bu_ln u) (Bu_n u) z, Bu_st u, Bu_ma u, Bu_bg u, zU (Bu_ti u) (Bu_n u) 0) (Bu_n u + 1 - 1) else u
def Bu_setU (u : BuS) (k x : Int) : BuS := if 0 ≤ k ∧ k < Bu_n u then (Bu_n u, Bu_ne u, zU (Bu_ur u) k x, Bu_ln u, Bu_st u, Bu_ma u, Bu_bg u, Bu_ti u) else u
def Bu_beg (u : BuS) (k m x : Int) : BuS := if 0 ≤ k ∧ k < Bu_n u then (Bu_n u, Bu_ne u, Bu_ur u, Bu_ln u, zU (Bu_st u) k 1, zU (Bu_ma u) k m, zU (Bu_bg u) k x, zU (Bu_ti u) k (Bu_ti u k + 1)) else u
/-- the most urgent of the first k builds -/
def Bu_bestN (u : BuS) (f x : Int) : Nat → Int
  | 0 => -1
  | k + 1 => if Bu_st u (k : Int) = 0 ∧ zdf (Bu_ne u (k : Int)) f = 0 ∧ Bu_ln u (k : Int) ≤ x ∧ (Bu_bestN u f x k = -1 ∨ Bu_ur u (Bu_bestN u f x k) < Bu_ur u (k : Int)) then (k : Int) else Bu_bestN u f x k
def Bu_best (u : BuS) (f x : Int) : Int := Bu_bestN u f x (Bu_n u).toNat
def Lv_clear (u : LvS) (i : Int) : LvS := fun k => if 0 ≤ k ∧ k < i then 0 else u k
/-- k days more in a row of days, from the day f on -/
def Lv_bits (x : Nat) (f : Int) : Nat → Nat
  | 0 => x
  | k + 1 => Lv_bits x f k ||| 2 ^ (f + (k : Int)).toNat
def Lv_put (u : LvS) (j : Int) (x : Nat) : LvS := fun k => if k = j then x else u k
def Lv_add (u : LvS) (q f t : Int) : LvS := if 0 ≤ q ∧ q < 10 then Lv_put u q (Lv_bits (u q) f ((min (t + 1) 50) - f).toNat) else u
def Sw_add (u : SwS) (x y z w : Int) : SwS := if Sw_n u < 20 then (Sw_n u + 1, zU (Sw_me u) (Sw_n u) x, zU (Sw_mm u) (Sw_n u) y, zU (Sw_ot u) (Sw_n u) z, zU (Sw_om u) (Sw_n u) w, zU (Sw_ag u) (Sw_n u) 0, zU (Sw_st u) (Sw_n u) 0) else u
def To_note (u : ToS) (k t x y z w : Int) : ToS := if To_n u < 512 then (To_n u + 1, zU (To_ki u) (To_n u) k, zU (To_at u) (To_n u) t, zU (To_a u) (To_n u) x, zU (To_b u) (To_n u) y, zU (To_c u) (To_n u) z, zU (To_d u) (To_n u) w) else u
/-! rows for their loops -/
theorem Mt_prom_0 (u : MtS) (m s l ex : Int) : ¬ Mt_prom u 0 m s l ex := by
  rintro ⟨k, h1, h2, -⟩
  omega
theorem Mt_prom_in {u : MtS} {n m s l ex k : Int} (h1 : 0 ≤ k) (h2 : k < n) (h3 : k ≠ ex) (h4 : Mt_ma u k = m) (h5 : Mt_st u k = 0) (h6 : ovl (Mt_sl u k) (Mt_ln u k) s l) : Mt_prom u n m s l ex := ⟨k, h1, h2, h3, h4, h5, h6⟩
theorem Mt_prom_no {u : MtS} {i m s l ex : Int} (h : ¬ Mt_prom u i m s l ex) (hx : ¬ (i ≠ ex ∧ Mt_ma u i = m ∧ Mt_st u i = 0 ∧ ovl (Mt_sl u i) (Mt_ln u i) s l)) : ¬ Mt_prom u (i + 1) m s l ex := by
  rintro ⟨k, h1, h2, h3, h4, h5, h6⟩
  by_cases hk : k = i
  · subst hk
    exact hx ⟨h3, h4, h5, h6⟩
  · exact h ⟨k, h1, by omega, h3, h4, h5, h6⟩
theorem Mt_busy_0 (u : MtS) (s l ex : Int) : ∀ q, bit 0 q ↔ Mt_busy u 0 q s l ex := fun q => ⟨fun h => absurd h (bit_0 q), by
  rintro ⟨k, h1, h2, -⟩
  omega⟩
theorem Mt_busy_no {u : MtS} {i b s l ex : Int} (hi : 0 ≤ i) (h : ∀ q, bit b q ↔ Mt_busy u i q s l ex) (hx : ¬ (i ≠ ex ∧ Mt_st u i = 0 ∧ ovl (Mt_sl u i) (Mt_ln u i) s l)) : ∀ q, bit b q ↔ Mt_busy u (i + 1) q s l ex := by
  intro q
  rw [h q]
  constructor
  · rintro ⟨k, h1, h2, h3⟩
    exact ⟨k, h1, by omega, h3⟩
  · rintro ⟨k, h1, h2, h3, h4, h5, h6⟩
    by_cases hk : k = i
    · subst hk
      exact absurd ⟨h3, h5, h6⟩ hx
    · exact ⟨k, h1, by omega, h3, h4, h5, h6⟩
theorem Mt_busy_yes {u : MtS} {i b s l ex : Int} (hi : 0 ≤ i) (h : ∀ q, bit b q ↔ Mt_busy u i q s l ex) (hx : i ≠ ex ∧ Mt_st u i = 0 ∧ ovl (Mt_sl u i) (Mt_ln u i) s l) : ∀ q, bit (zor b (Mt_pe u i)) q ↔ Mt_busy u (i + 1) q s l ex := by
  intro q
  rw [zor_bit, h q]
  constructor
  · rintro (⟨k, h1, h2, h3⟩ | h4)
    · exact ⟨k, h1, by omega, h3⟩
    · exact ⟨i, hi, by omega, hx.1, h4, hx.2⟩
  · rintro ⟨k, h1, h2, h3, h4, h5⟩
    by_cases hk : k = i
    · subst hk
      exact Or.inr h4
    · exact Or.inl ⟨k, h1, by omega, h3, h4, h5⟩
theorem Mt_over_0 (u : MtS) (x : Int) : Mt_over u x 0 = Mt_st u := by
  funext k
  unfold Mt_over
  rw [if_neg (by omega)]
theorem Mt_over_no {u : MtS} {x i : Int} (h : ¬ (Mt_st u i = 0 ∧ Mt_sl u i + Mt_ln u i ≤ x)) : Mt_over u x i = Mt_over u x (i + 1) := by
  funext k
  unfold Mt_over
  by_cases hk : k = i
  · subst hk
    rw [if_neg (by omega), if_neg (by omega)]
  · by_cases h1 : 0 ≤ k ∧ k < i ∧ Mt_st u k = 0 ∧ Mt_sl u k + Mt_ln u k ≤ x
    · rw [if_pos h1, if_pos (by omega)]
    · rw [if_neg h1, if_neg (by omega)]
theorem Mt_over_yes {u : MtS} {x i : Int} (hi : 0 ≤ i) (h : Mt_st u i = 0 ∧ Mt_sl u i + Mt_ln u i ≤ x) : zU (Mt_over u x i) i 2 = Mt_over u x (i + 1) := by
  funext k
  unfold zU Mt_over
  by_cases hk : k = i
  · subst hk
    rw [if_pos rfl, if_pos (by omega)]
  · rw [if_neg hk]
    by_cases h1 : 0 ≤ k ∧ k < i ∧ Mt_st u k = 0 ∧ Mt_sl u k + Mt_ln u k ≤ x
    · rw [if_pos h1, if_pos (by omega)]
    · rw [if_neg h1, if_neg (by omega)]
theorem Mt_over_at {u : MtS} {x i : Int} : Mt_over u x i i = Mt_st u i := by
  unfold Mt_over
  rw [if_neg (by omega)]
theorem Lo_borN_no {u : LoS} {m s i : Int} (hi : 0 ≤ i) (h : ¬ (Lo_ma u i = m ∧ Lo_fr u i ≤ s ∧ s ≤ Lo_to u i)) : Lo_borN u m s (i + 1).toNat = Lo_borN u m s i.toNat := by
  rw [show (i + 1).toNat = i.toNat + 1 by omega]
  show (if _ then _ else _) = _
  rw [Int.toNat_of_nonneg hi, if_neg h]
theorem Lo_borN_yes {u : LoS} {m s i : Int} (hi : 0 ≤ i) (h : Lo_ma u i = m ∧ Lo_fr u i ≤ s ∧ s ≤ Lo_to u i) : Lo_borN u m s (i + 1).toNat = Lo_pe u i := by
  rw [show (i + 1).toNat = i.toNat + 1 by omega]
  show (if _ then _ else _) = _
  rw [Int.toNat_of_nonneg hi, if_pos h]
theorem Bu_bestN_no {u : BuS} {f x i b : Int} (hi : 0 ≤ i) (hb : b = Bu_bestN u f x i.toNat) (h : ¬ (Bu_st u i = 0 ∧ zdf (Bu_ne u i) f = 0 ∧ Bu_ln u i ≤ x ∧ (b = -1 ∨ Bu_ur u b < Bu_ur u i))) : b = Bu_bestN u f x (i + 1).toNat := by
  rw [show (i + 1).toNat = i.toNat + 1 by omega]
  show _ = (if _ then _ else _)
  rw [Int.toNat_of_nonneg hi, ← hb, if_neg h]
theorem Bu_bestN_yes {u : BuS} {f x i b : Int} (hi : 0 ≤ i) (hb : b = Bu_bestN u f x i.toNat) (h : Bu_st u i = 0 ∧ zdf (Bu_ne u i) f = 0 ∧ Bu_ln u i ≤ x ∧ (b = -1 ∨ Bu_ur u b < Bu_ur u i)) : i = Bu_bestN u f x (i + 1).toNat := by
  rw [show (i + 1).toNat = i.toNat + 1 by omega]
  show _ = (if _ then _ else _)
  rw [Int.toNat_of_nonneg hi, ← hb, if_pos h]
theorem Bu_bestN_r (u : BuS) (f x : Int) : ∀ k : Nat, -1 ≤ Bu_bestN u f x k ∧ Bu_bestN u f x k < k
  | 0 => by show -1 ≤ (-1 : Int) ∧ (-1 : Int) < _; omega
  | k + 1 => by
    have h := Bu_bestN_r u f x k
    show -1 ≤ (if _ then _ else _) ∧ (if _ then _ else _) < _
    split <;> omega
/-! leaves -/
def Lv_off (u : LvS) (q s : Int) : Prop := 0 ≤ q ∧ q < 10 ∧ (u q).testBit (s / 8).toNat = true
theorem zB_at (f : Int → Nat) {j : Int} (hj : 0 ≤ j) : zB f j.toNat = lN (f j) := by unfold zB; rw [Int.toNat_of_nonneg hj]
theorem zB_upd (f : Int → Nat) {j : Int} (x : Nat) (hj : 0 ≤ j) : vp_updL (zB f) j.toNat (lN x) = zB (Lv_put f j x) := by
  funext k
  unfold vp_updL zB Lv_put
  by_cases h : k = j.toNat
  · subst h
    rw [if_pos rfl, if_pos (Int.toNat_of_nonneg hj)]
  · rw [if_neg h, if_neg (by omega)]
theorem Lv_put_at (u : LvS) (q : Int) (x : Nat) : Lv_put u q x q = x := by unfold Lv_put; rw [if_pos rfl]
theorem Lv_put_id (u : LvS) (q : Int) : Lv_put u q (u q) = u := by
  funext k
  unfold Lv_put
  by_cases h : k = q
  · rw [if_pos h, h]
  · rw [if_neg h]
theorem Lv_put2 (u : LvS) (q : Int) (x y : Nat) : Lv_put (Lv_put u q x) q y = Lv_put u q y := by
  funext k
  unfold Lv_put
  by_cases h : k = q
  · rw [if_pos h, if_pos h]
  · rw [if_neg h, if_neg h, if_neg h]
theorem Lv_bits_1 {x : Nat} {f d : Int} (h : f ≤ d) : Lv_bits x f (d + 1 - f).toNat = Lv_bits x f (d - f).toNat ||| 2 ^ d.toNat := by
  rw [show (d + 1 - f).toNat = (d - f).toNat + 1 by omega]
  show _ ||| _ = _
  rw [show (f + (((d - f).toNat : Nat) : Int)).toNat = d.toNat by omega]
theorem Lv_put_s {u : LvS} {q f d : Int} (h : f ≤ d) : Lv_put (Lv_put u q (Lv_bits (u q) f (d - f).toNat)) q (Lv_bits (u q) f (d - f).toNat ||| 2 ^ d.toNat) = Lv_put u q (Lv_bits (u q) f (d + 1 - f).toNat) := by
  rw [Lv_put2, Lv_bits_1 h]
theorem Lv_bits_s {x : Nat} {f d : Int} (h : f ≤ d) (h2 : 0 ≤ d ∧ d < 50) (hb : Lv_bits x f (d - f).toNat < 2 ^ 50) : Lv_bits x f (d + 1 - f).toNat < 2 ^ 50 := by
  rw [Lv_bits_1 h]
  exact Nat.or_lt_two_pow hb (Nat.pow_lt_pow_right (by decide) (by omega))
theorem Lv_orL {u : LvS} {q f d : Int} (hq : 0 ≤ q) (h2 : 0 ≤ d ∧ d < 50) (hb : Lv_bits (u q) f (d - f).toNat < 2 ^ 50) : zB (Lv_put u q (Lv_bits (u q) f (d - f).toNat)) q.toNat ||| lN (1 * 2 ^ d.toNat) = lN (Lv_bits (u q) f (d - f).toNat ||| 2 ^ d.toNat) := by
  rw [zB_at _ hq, Lv_put_at, Nat.one_mul, zl_or (by omega) (Nat.lt_trans (Nat.pow_lt_pow_right (by decide) (show d.toNat < 50 by omega)) (by decide))]
theorem Lv_clear_0 (u : LvS) : Lv_clear u 0 = u := by
  funext k
  unfold Lv_clear
  rw [if_neg (by omega)]
theorem Lv_clear_s {u : LvS} {i : Int} (h : 0 ≤ i) : Lv_put (Lv_clear u i) i 0 = Lv_clear u (i + 1) := by
  funext k
  unfold Lv_put Lv_clear
  by_cases h1 : k = i
  · rw [if_pos h1, if_pos (by omega)]
  · rw [if_neg h1]
    by_cases h2 : 0 ≤ k ∧ k < i
    · rw [if_pos h2, if_pos (by omega)]
    · rw [if_neg h2, if_neg (by omega)]
theorem Lv_offL {u : LvS} {q s : Int} (hu : LvI u) (hq : 0 ≤ q) (hs : 0 ≤ s ∧ s ≤ 511) : (zB u q.toNat >>> ((zI (s / 8)).toInt64 &&& 63)) &&& (1 : Int64) = if (u q).testBit (s / 8).toNat then 1 else 0 := by
  rw [zB_at _ hq, zI_n (show 0 ≤ s / 8 by omega)]
  have h := hu q
  exact zl_bit (by omega) (by omega)
theorem Lv_offC (b : Bool) : lg_cmp (if b then 1 else 0) (1 : Int64) = zI (bz (b = true) - 1) := by
  cases b with
  | true => rw [bz_t rfl]; decide
  | false => rw [bz_f (by decide)]; decide
theorem Lv_q_0 (u : LvS) (s : Int) : ∀ q : Nat, bit 0 q ↔ (q : Int) < 0 ∧ Lv_off u (q : Int) s := fun q => ⟨fun h => absurd h (bit_0 q), fun h => by have h1 := h.1; omega⟩
theorem Lv_q_no {u : LvS} {b i s : Int} (hi : 0 ≤ i) (h : ∀ q : Nat, bit b q ↔ (q : Int) < i ∧ Lv_off u (q : Int) s) (hx : ¬ Lv_off u i s) : ∀ q : Nat, bit b q ↔ (q : Int) < i + 1 ∧ Lv_off u (q : Int) s := by
  intro q
  rw [h q]
  constructor
  · rintro ⟨h1, h2⟩
    exact ⟨by omega, h2⟩
  · rintro ⟨h1, h2⟩
    refine ⟨?_, h2⟩
    rcases Int.lt_or_eq_of_le (show (q : Int) ≤ i by omega) with h3 | h3
    · exact h3
    · rw [h3] at h2; exact absurd h2 hx
theorem Lv_q_yes {u : LvS} {b i s : Int} (hi : 0 ≤ i) (h : ∀ q : Nat, bit b q ↔ (q : Int) < i ∧ Lv_off u (q : Int) s) (hx : Lv_off u i s) : ∀ q : Nat, bit (zor b ((2 ^ i.toNat : Nat) : Int)) q ↔ (q : Int) < i + 1 ∧ Lv_off u (q : Int) s := by
  intro q
  rw [zor_bit, h q, bit_pow]
  constructor
  · rintro (⟨h1, h2⟩ | h1)
    · exact ⟨by omega, h2⟩
    · rw [show (q : Int) = i by omega]
      exact ⟨by omega, hx⟩
  · rintro ⟨h1, h2⟩
    rcases Int.lt_or_eq_of_le (show (q : Int) ≤ i by omega) with h3 | h3
    · exact Or.inl ⟨h3, h2⟩
    · exact Or.inr (by omega)
theorem Lv_q_10 {u : LvS} {b s : Int} (h : ∀ q : Nat, bit b q ↔ (q : Int) < 10 ∧ Lv_off u (q : Int) s) : ∀ q : Nat, bit b q ↔ Lv_off u (q : Int) s := fun q => by
  rw [h q]
  exact ⟨fun h => h.2, fun h => ⟨h.2.1, h⟩⟩
/-! the room of the numbers, kept -/
def SwI (u : SwS) : Prop := (0 ≤ Sw_n u ∧ Sw_n u ≤ 20) ∧ ∀ k, (0 ≤ Sw_me u k ∧ Sw_me u k ≤ 30) ∧ (0 ≤ Sw_ot u k ∧ Sw_ot u k ≤ 30) ∧ zR2 (Sw_ag u k) ∧ (0 ≤ Sw_st u k ∧ Sw_st u k ≤ 2)
def ToI (u : ToS) : Prop := (0 ≤ To_n u ∧ To_n u ≤ 512) ∧ ∀ k, (0 ≤ To_ki u k ∧ To_ki u k ≤ 9) ∧ (0 ≤ To_at u k ∧ To_at u k ≤ 400) ∧ zR2 (To_a u k) ∧ zR0 (To_b u k) ∧ zR0 (To_c u k) ∧ zR (To_d u k)
theorem zU_all {P : Int → Prop} {f : Int → Int} {j x : Int} (h : ∀ k, P (f k)) (hx : P x) : ∀ k, P (zU f j x k) := fun k => by
  rcases zU_c f j x k with ⟨-, h2⟩ | ⟨-, h2⟩
  · rw [h2]; exact hx
  · rw [h2]; exact h k
theorem Lo_bor_r {u : LoS} (hu : LoI u) (m s : Int) : -1 ≤ Lo_bor u m s ∧ Lo_bor u m s ≤ 511 := by
  have h : ∀ k : Nat, -1 ≤ Lo_borN u m s k ∧ Lo_borN u m s k ≤ 511 := by
    intro k
    induction k with
    | zero => show -1 ≤ (-1 : Int) ∧ (-1 : Int) ≤ 511; omega
    | succ k ih =>
      show -1 ≤ (if _ then _ else _) ∧ (if _ then _ else _) ≤ _
      have h1 := (hu.2 (k : Int)).2.1
      split <;> omega
  exact h _
theorem Bu_addI0 {u : BuS} {x y z : Int} (hu : BuI u) (hn : Bu_n u < 40) (hx : zR2 x) (hy : zR y) (hz : zR0 z) : BuI (Bu_n u + 1, zU (Bu_ne u) (Bu_n u) x, zU (Bu_ur u) (Bu_n u) y, zU (Bu_ln u) (Bu_n u) z, Bu_st u, Bu_ma u, Bu_bg u, zU (Bu_ti u) (Bu_n u) 0) := by
  refine ⟨⟨by have h := hu.1; show 0 ≤ Bu_n u + 1; omega, by show Bu_n u + 1 ≤ 40; omega⟩, fun k => ?_⟩
  have h := hu.2 k
  exact ⟨zU_all (P := zR2) (fun k => (hu.2 k).1) hx k, zU_all (P := zR) (fun k => (hu.2 k).2.1) hy k, zU_all (P := zR0) (fun k => (hu.2 k).2.2.1) hz k, h.2.2.2⟩
