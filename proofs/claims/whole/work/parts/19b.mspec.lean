/-! ===== the model's state, and what its methods ask and make ===== -/
abbrev MmS : Type := Int × (Int → Int) × (Int → Int) × (Int → Int) × (Int → Int)
abbrev MdS : Type := Int × Int × (Int → Int) × MmS × LoS × MtS × SwS × BuS
-- machines: how many, features, owner, broken from, broken to
abbrev Mm_n (u : MmS) : Int := u.1
abbrev Mm_fe (u : MmS) : Int → Int := u.2.1
abbrev Mm_ow (u : MmS) : Int → Int := u.2.2.1
abbrev Mm_bf (u : MmS) : Int → Int := u.2.2.2.1
abbrev Mm_bt (u : MmS) : Int → Int := u.2.2.2.2
abbrev Md_th (u : MdS) : Int := u.1
abbrev Md_now (u : MdS) : Int := u.2.1
abbrev Md_aw (u : MdS) : Int → Int := u.2.2.1
abbrev Md_mm (u : MdS) : MmS := u.2.2.2.1
abbrev Md_lo (u : MdS) : LoS := u.2.2.2.2.1
abbrev Md_mt (u : MdS) : MtS := u.2.2.2.2.2.1
abbrev Md_sw (u : MdS) : SwS := u.2.2.2.2.2.2.1
abbrev Md_bu (u : MdS) : BuS := u.2.2.2.2.2.2.2
def MdW (cI cZ : ClassId) (a : Nat → Nat) (u : MdS) : va_W := [(a 0, .inr (9, [vI (Md_th u), vI (Md_now u), .ref (a 1), vI (Mm_n (Md_mm u)), .ref (a 2), .ref (a 3), .ref (a 4), .ref (a 5), vI (Lo_n (Md_lo u)), .ref (a 6), .ref (a 7), .ref (a 8), .ref (a 9), vI (Mt_n (Md_mt u)), .ref (a 10), .ref (a 11), .ref (a 12), .ref (a 13), .ref (a 14), .ref (a 15), vI (Sw_n (Md_sw u)), .ref (a 16), .ref (a 17), .ref (a 18), .ref (a 19), .ref (a 20), .ref (a 21), vI (Bu_n (Md_bu u)), .ref (a 22), .ref (a 23), .ref (a 24), .ref (a 25), .ref (a 26), .ref (a 27), .ref (a 28)])),
  (a 1, .inl (cZ, 500, .inl (zA (Md_aw u)))), (a 2, aI cI 6 (Mm_fe (Md_mm u))), (a 3, aI cI 6 (Mm_ow (Md_mm u))), (a 4, aI cI 6 (Mm_bf (Md_mm u))), (a 5, aI cI 6 (Mm_bt (Md_mm u))),
  (a 6, aI cI 20 (Lo_ma (Md_lo u))), (a 7, aI cI 20 (Lo_pe (Md_lo u))), (a 8, aI cI 20 (Lo_fr (Md_lo u))), (a 9, aI cI 20 (Lo_to (Md_lo u))),
  (a 10, aI cI 30 (Mt_st (Md_mt u))), (a 11, aI cI 30 (Mt_pe (Md_mt u))), (a 12, aI cI 30 (Mt_sl (Md_mt u))), (a 13, aI cI 30 (Mt_ln (Md_mt u))), (a 14, aI cI 30 (Mt_ma (Md_mt u))), (a 15, aI cI 30 (Mt_mv (Md_mt u))),
  (a 16, aI cI 20 (Sw_st (Md_sw u))), (a 17, aI cI 20 (Sw_me (Md_sw u))), (a 18, aI cI 20 (Sw_ot (Md_sw u))), (a 19, aI cI 20 (Sw_mm (Md_sw u))), (a 20, aI cI 20 (Sw_om (Md_sw u))), (a 21, aI cI 20 (Sw_ag (Md_sw u))),
  (a 22, aI cI 40 (Bu_st (Md_bu u))), (a 23, aI cI 40 (Bu_ne (Md_bu u))), (a 24, aI cI 40 (Bu_ur (Md_bu u))), (a 25, aI cI 40 (Bu_ln (Md_bu u))), (a 26, aI cI 40 (Bu_ma (Md_bu u))), (a 27, aI cI 40 (Bu_bg (Md_bu u))), (a 28, aI cI 40 (Bu_ti (Md_bu u)))]
def MmI (u : MmS) : Prop := (0 ≤ Mm_n u ∧ Mm_n u ≤ 6) ∧ ∀ k, zR2 (Mm_fe u k) ∧ (0 ≤ Mm_ow u k ∧ Mm_ow u k ≤ 9) ∧ zR0 (Mm_bf u k) ∧ zR (Mm_bt u k)
def LmI (u : LoS) : Prop := (0 ≤ Lo_n u ∧ Lo_n u ≤ 20) ∧ ∀ k, zR2 (Lo_ma u k) ∧ (0 ≤ Lo_pe u k ∧ Lo_pe u k ≤ 9) ∧ zR (Lo_fr u k) ∧ zR (Lo_to u k)
def SmI (u : SwS) : Prop := (0 ≤ Sw_n u ∧ Sw_n u ≤ 20) ∧ ∀ k, (0 ≤ Sw_me u k ∧ Sw_me u k ≤ 29) ∧ (0 ≤ Sw_ot u k ∧ Sw_ot u k ≤ 29) ∧ zR2 (Sw_ag u k) ∧ (0 ≤ Sw_st u k ∧ Sw_st u k ≤ 2)
def MqI (u : MtS) : Prop := MtI u ∧ ∀ k, -1 ≤ Mt_ma u k ∧ Mt_ma u k ≤ 5
def MdI (u : MdS) : Prop := (0 ≤ Md_now u ∧ Md_now u ≤ 400) ∧ (∀ k, 0 ≤ Md_aw u k ∧ Md_aw u k ≤ 1) ∧ MmI (Md_mm u) ∧ LmI (Md_lo u) ∧ MqI (Md_mt u) ∧ SmI (Md_sw u) ∧ BuI (Md_bu u)
/-! what it asks -/
def Mm_brk (u : MmS) (m s : Int) : Prop := Mm_bf u m ≤ s ∧ s ≤ Mm_bt u m
def Aw_off (f : Int → Int) (q s : Int) : Prop := s < 400 ∧ f (50 * q + s / 8) ≠ 0
def Lo_hasN (u : LoS) (o m s : Int) : Nat → Int
  | 0 => o
  | k + 1 => if Lo_ma u (k : Int) = m ∧ Lo_fr u (k : Int) ≤ s ∧ s ≤ Lo_to u (k : Int) then Lo_pe u (k : Int) else Lo_hasN u o m s k
def Md_has (u : MdS) (m s : Int) : Int := Lo_hasN (Md_lo u) (Mm_ow (Md_mm u) m) m s (Lo_n (Md_lo u)).toNat
def Bu_on (u : BuS) (n m s : Int) : Prop := ∃ k : Int, 0 ≤ k ∧ k < n ∧ Bu_st u k = 1 ∧ Bu_ma u k = m ∧ Bu_bg u k ≤ s ∧ s ≤ Bu_bg u k + Bu_ln u k - 1
/-- in a slot x: the first j people of a set have nothing else -/
def Md_c1 (u : MdS) (w t x j : Int) : Prop := ∀ q : Nat, (q : Int) < j → bit t q → ¬ Mt_busy (Md_mt u) (Mt_n (Md_mt u)) q x 1 w ∧ ¬ Aw_off (Md_aw u) (q : Int) x
def Md_c2 (u : MdS) (w m x : Int) : Prop := m = -1 ∨ ¬ Mt_prom (Md_mt u) (Mt_n (Md_mt u)) m x 1 w ∧ ¬ Bu_on (Md_bu u) (Bu_n (Md_bu u)) m x ∧ ¬ Mm_brk (Md_mm u) m x
def Md_can (u : MdS) (w t s i m : Int) : Prop := ∀ x : Int, s ≤ x → x < i → Md_c1 u w t x 10 ∧ Md_c2 u w m x
/-! rows for its loops -/
theorem bzT {P : Prop} (h : P) : 1 = bz P := (bz_t h).symm
theorem bzF {P : Prop} (h : ¬ P) : 0 = bz P := (bz_f h).symm
theorem bz_of1 {b : Int} {P : Prop} (h : b = bz P) (h1 : b ≠ 0) : P := by
  rcases bz_01 P with h2 | h2
  · exact h2.1
  · omega
theorem bz_of0 {b : Int} {P : Prop} (h : b = bz P) (h1 : b = 0) : ¬ P := by
  rcases bz_01 P with h2 | h2
  · omega
  · exact h2.1
theorem bz_rb {b : Int} {P : Prop} (h : b = bz P) : 0 ≤ b ∧ b ≤ 1 := by
  have h2 := bz_r P
  omega
theorem bz_same {b : Int} {P P2 : Prop} (h : b = bz P) (h2 : P ↔ P2) : b = bz P2 := h.trans (bz_c h2)
theorem Mt_prom_up {u : MtS} {i m s l ex : Int} (h : Mt_prom u i m s l ex) : Mt_prom u (i + 1) m s l ex := by
  obtain ⟨k, h1, h2, h3⟩ := h
  exact ⟨k, h1, by omega, h3⟩
theorem Mt_prom_at {u : MtS} {i m s l ex : Int} (hi : 0 ≤ i) (h3 : i ≠ ex) (h4 : Mt_ma u i = m) (h5 : Mt_at u i s l) : Mt_prom u (i + 1) m s l ex := ⟨i, hi, by omega, h3, h4, h5⟩
theorem Mt_prom_nx {u : MtS} {i m s l ex : Int} (h : ¬ Mt_prom u i m s l ex) (hx : ¬ (i ≠ ex ∧ Mt_ma u i = m ∧ Mt_at u i s l)) : ¬ Mt_prom u (i + 1) m s l ex := Mt_prom_no h (fun q => hx ⟨q.1, q.2.1, q.2.2⟩)
theorem Mt_busy_up {u : MtS} {i : Int} {q : Nat} {s l ex : Int} (h : Mt_busy u i q s l ex) : Mt_busy u (i + 1) q s l ex := by
  obtain ⟨k, h1, h2, h3⟩ := h
  exact ⟨k, h1, by omega, h3⟩
theorem Mt_busy_at {u : MtS} {i : Int} {q : Nat} {s l ex : Int} (hi : 0 ≤ i) (h3 : i ≠ ex) (h4 : bit (Mt_pe u i) q) (h5 : Mt_at u i s l) : Mt_busy u (i + 1) q s l ex := ⟨i, hi, by omega, h3, h4, h5⟩
theorem Mt_busy_nx {u : MtS} {i : Int} {q : Nat} {s l ex : Int} (h : ¬ Mt_busy u i q s l ex) (hx : ¬ (i ≠ ex ∧ bit (Mt_pe u i) q ∧ Mt_at u i s l)) : ¬ Mt_busy u (i + 1) q s l ex := by
  rintro ⟨k, h1, h2, h3⟩
  by_cases hk : k = i
  · subst hk
    exact hx h3
  · exact h ⟨k, h1, by omega, h3⟩
theorem Mt_busy_00 (u : MtS) (q : Nat) (s l ex : Int) : ¬ Mt_busy u 0 q s l ex := by
  rintro ⟨k, h1, h2, -⟩
  omega
theorem Bu_on_0 (u : BuS) (m s : Int) : ¬ Bu_on u 0 m s := by
  rintro ⟨k, h1, h2, -⟩
  omega
theorem Bu_on_up {u : BuS} {i m s : Int} (h : Bu_on u i m s) : Bu_on u (i + 1) m s := by
  obtain ⟨k, h1, h2, h3⟩ := h
  exact ⟨k, h1, by omega, h3⟩
theorem Bu_on_at {u : BuS} {i m s : Int} (hi : 0 ≤ i) (h3 : Bu_st u i = 1) (h4 : Bu_ma u i = m) (h5 : Bu_bg u i ≤ s ∧ s ≤ Bu_bg u i + Bu_ln u i - 1) : Bu_on u (i + 1) m s := ⟨i, hi, by omega, h3, h4, h5⟩
theorem Bu_on_nx {u : BuS} {i m s : Int} (h : ¬ Bu_on u i m s) (hx : ¬ (Bu_st u i = 1 ∧ Bu_ma u i = m ∧ Bu_bg u i ≤ s ∧ s ≤ Bu_bg u i + Bu_ln u i - 1)) : ¬ Bu_on u (i + 1) m s := by
  rintro ⟨k, h1, h2, h3⟩
  by_cases hk : k = i
  · subst hk
    exact hx h3
  · exact h ⟨k, h1, by omega, h3⟩
theorem Lo_hasN_y {u : LoS} {o m s i : Int} (hi : 0 ≤ i) (h : Lo_ma u i = m ∧ Lo_fr u i ≤ s ∧ s ≤ Lo_to u i) : Lo_pe u i = Lo_hasN u o m s (i + 1).toNat := by
  rw [show (i + 1).toNat = i.toNat + 1 by omega]
  show _ = if _ then _ else _
  rw [Int.toNat_of_nonneg hi, if_pos h]
theorem Lo_hasN_n {u : LoS} {o m s i w : Int} (hi : 0 ≤ i) (hw : w = Lo_hasN u o m s i.toNat) (h : ¬ (Lo_ma u i = m ∧ Lo_fr u i ≤ s ∧ s ≤ Lo_to u i)) : w = Lo_hasN u o m s (i + 1).toNat := by
  rw [show (i + 1).toNat = i.toNat + 1 by omega]
  show _ = if _ then _ else _
  rw [Int.toNat_of_nonneg hi, if_neg h]
  exact hw
theorem Lo_hasN_r {u : LoS} (hu : LmI u) {o m s : Int} (ho : 0 ≤ o ∧ o ≤ 9) : ∀ n : Nat, 0 ≤ Lo_hasN u o m s n ∧ Lo_hasN u o m s n ≤ 9
  | 0 => ho
  | n + 1 => by
    have e : Lo_hasN u o m s (n + 1) = if Lo_ma u (n : Int) = m ∧ Lo_fr u (n : Int) ≤ s ∧ s ≤ Lo_to u (n : Int) then Lo_pe u (n : Int) else Lo_hasN u o m s n := rfl
    rw [e]
    split
    · exact (hu.2 _).2.1
    · exact Lo_hasN_r hu ho n
theorem Md_has_r {u : MdS} (hu : MdI u) (m s : Int) : 0 ≤ Md_has u m s ∧ Md_has u m s ≤ 9 := Lo_hasN_r hu.2.2.2.1 (hu.2.2.1.2 m).2.1 _
theorem Md_c1_0 (u : MdS) (w t x : Int) : Md_c1 u w t x 0 := fun q h => absurd h (by omega)
theorem Md_c1_y {u : MdS} {w t x j : Int} (hj : 0 ≤ j) (h : Md_c1 u w t x j) (h2 : bit t j.toNat → ¬ Mt_busy (Md_mt u) (Mt_n (Md_mt u)) j.toNat x 1 w ∧ ¬ Aw_off (Md_aw u) j x) : Md_c1 u w t x (j + 1) := by
  intro q hq hb
  by_cases hk : (q : Int) = j
  · have hq2 : q = j.toNat := by omega
    rw [hk, hq2]
    exact h2 (by rw [← hq2]; exact hb)
  · exact h q (by omega) hb
theorem Md_c1_n {u : MdS} {w t x j : Int} (h : ¬ Md_c1 u w t x j) : ¬ Md_c1 u w t x (j + 1) := fun h2 => h (fun q hq hb => h2 q (by omega) hb)
theorem Md_c1_nb {u : MdS} {w t x j : Int} (hj : 0 ≤ j) (hb : bit t j.toNat) (h : Mt_busy (Md_mt u) (Mt_n (Md_mt u)) j.toNat x 1 w ∨ Aw_off (Md_aw u) j x) : ¬ Md_c1 u w t x (j + 1) := fun h2 => by
  have h3 := h2 j.toNat (by omega) hb
  rw [Int.toNat_of_nonneg hj] at h3
  exact h.elim h3.1 h3.2
theorem Md_can_0 (u : MdS) (w t s m : Int) : Md_can u w t s s m := fun x h1 h2 => absurd h2 (by omega)
theorem Md_can_y {u : MdS} {w t s i m : Int} (h : Md_can u w t s i m ∧ Md_c1 u w t i 10) (h2 : Md_c2 u w m i) : Md_can u w t s (i + 1) m := by
  intro x h1 h3
  by_cases hk : x = i
  · subst hk
    exact ⟨h.2, h2⟩
  · exact h.1 x h1 (by omega)
theorem Md_can_n1 {u : MdS} {w t s i m : Int} (hs : s ≤ i) (h : ¬ (Md_can u w t s i m ∧ Md_c1 u w t i 10)) : ¬ Md_can u w t s (i + 1) m := fun h2 => h ⟨fun x h3 h4 => h2 x h3 (by omega), (h2 i hs (by omega)).1⟩
theorem Md_can_n2 {u : MdS} {w t s i m : Int} (hs : s ≤ i) (h : ¬ Md_c2 u w m i) : ¬ Md_can u w t s (i + 1) m := fun h2 => h (h2 i hs (by omega)).2
/-! what a call refused, or did -/
def gz_kx : List (Prop × Int) → Int → Prop
  | [], k => k = 0
  | q :: r, k => (q.1 ∧ k = q.2) ∨ (¬ q.1 ∧ gz_kx r k)
abbrev Md_setTh (u : MdS) (k : Int) : MdS := (k, Md_now u, Md_aw u, Md_mm u, Md_lo u, Md_mt u, Md_sw u, Md_bu u)
/-- refused, or: this answer and this state -/
def gz_pK (cs : List (Prop × Int)) (v0 : Option Value) (vz : Option Value) (W0 : Int → va_W) (W2 : va_W) : Option Value → va_W → Prop := fun v W1 => ∃ k : Int, gz_kx cs k ∧ (k ≠ 0 → v = vz ∧ W1 = W0 k) ∧ (k = 0 → v = v0 ∧ W1 = W2)
def gz_pV (r : Int) (W2 : va_W) : Option Value → va_W → Prop := fun v W1 => v = some (vI r) ∧ W1 = W2
theorem gz_pV_sh {W0 W2 : va_W} {r : Int} (h2 : W2.map Prod.fst = W0.map Prod.fst) : ∀ v W1, gz_pV r W2 v W1 → W1.map Prod.fst = W0.map Prod.fst := fun v W1 h => by rw [h.2]; exact h2
section GZV
variable {p : Program} {l : Launch} {e : Env} {R : Room} {s : State} {m : MethodId} {args : Array Value} {below : List Frame} {meth : Method} {c : Code} {D : va_G} {A : Nat → Prop} {nL : Nat} {Q : State → Prop} {cells slots : Nat}
variable {cc : ByteArray} {own : String} {Ts : List Cond} {cI cJ cZ : ClassId} {ws : va_W} {lv : List (Nat × Value)} {st : List Value} {pc : Nat}
theorem gz_kVb {W2 ws2 X Y : va_W} {r : Int} {rest : List Value} (h2 : X ++ (W2 ++ Y) = ws2) (kk : gG p l e R s m args below meth c D A nL Q cells slots ws2 lv (vI r :: rest) (pc + 3)) : ∀ v W1, gz_pV r W2 v W1 → gG p l e R s m args below meth c D A nL Q cells slots (X ++ (W1 ++ Y)) lv (v.toList ++ rest) (pc + 3) := by
  intro v W1 ⟨h1, h3⟩
  subst h1; subst h3; subst h2
  exact kk
theorem gz_icmp32_eq (F : gF p s m args c cc nL own Ts D cI cJ cZ A) {x y : Int} {off : Int} {tgt : Nat} (d : decode cc pc = .ok (.if_icmp .eq off, 3)) (ht : (pc : Int) + off = (tgt : Int)) (kt : zI x = zI y → gG p l e R s m args below meth c D A nL Q cells slots ws lv st tgt) (kf : ¬ zI x = zI y → gG p l e R s m args below meth c D A nL Q cells slots ws lv st (pc + 3)) : gG p l e R s m args below meth c D A nL Q cells slots ws lv (vI y :: vI x :: st) pc :=
  fun H locs ls hP hD hS hl => lv_icmp_eq F.1 F.2.1 d ht (fun h => kt h H locs ls hP hD hS hl) (fun h => kf h H locs ls hP hD hS hl)
end GZV
def Md0 : MdS := (0, 0, z0, (0, z0, z0, z0, z0), Lo0, Mt0, Sw0, Bu0)
