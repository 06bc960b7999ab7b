/-! ===== what the model's calls make ===== -/
theorem zbit1 {x y : Int} (h : zsh x y % 2 ≠ 0) : bit x y.toNat := (zsh_bit x y).mpr (by omega)
theorem zbit0 {x y : Int} (h : zsh x y % 2 = 0) : ¬ bit x y.toNat := fun h2 => by
  have h3 := (zsh_bit x y).mp h2
  omega
theorem zU_back (f : Int → Int) (i j : Int) : zU (zU (zU (zU f i (f j)) j (f i)) i (f i)) j (f j) = f := by
  funext k
  unfold zU
  by_cases h1 : k = j
  · rw [if_pos h1, h1]
  · rw [if_neg h1]
    by_cases h2 : k = i
    · rw [if_pos h2, h2]
    · rw [if_neg h2, if_neg h1, if_neg h2]
/-- a build can run on a machine, as far as the slots before i say -/
def Md_runN (u : MdS) (m k i : Int) : Prop := zdf (Bu_ne (Md_bu u) k) (Mm_fe (Md_mm u) m) = 0 ∧ ∀ x : Int, Md_now u ≤ x → x < i → ¬ Mm_brk (Md_mm u) m x ∧ ¬ Mt_prom (Md_mt u) (Mt_n (Md_mt u)) m x 1 (-1) ∧ ¬ Aw_off (Md_aw u) (Md_has u m x) x
abbrev Md_run (u : MdS) (m k : Int) : Prop := Md_runN u m k (Md_now u + Bu_ln (Md_bu u) k)
theorem Md_runN_y {u : MdS} {m k i : Int} (h : Md_runN u m k i) (h2 : ¬ Mm_brk (Md_mm u) m i ∧ ¬ Mt_prom (Md_mt u) (Mt_n (Md_mt u)) m i 1 (-1) ∧ ¬ Aw_off (Md_aw u) (Md_has u m i) i) : Md_runN u m k (i + 1) := ⟨h.1, fun x h3 h4 => by
  by_cases hk : x = i
  · subst hk
    exact h2
  · exact h.2 x h3 (by omega)⟩
theorem Md_runN_n {u : MdS} {m k i : Int} (h : ¬ Md_runN u m k i) : ¬ Md_runN u m k (i + 1) := fun h2 => h ⟨h2.1, fun x h3 h4 => h2.2 x h3 (by omega)⟩
theorem Md_runN_x {u : MdS} {m k i : Int} (hi : Md_now u ≤ i) (h : Mm_brk (Md_mm u) m i ∨ Mt_prom (Md_mt u) (Mt_n (Md_mt u)) m i 1 (-1) ∨ Aw_off (Md_aw u) (Md_has u m i) i) : ¬ Md_runN u m k (i + 1) := fun h2 => by
  have h3 := h2.2 i hi (by omega)
  exact h.elim h3.1 (fun q => q.elim h3.2.1 h3.2.2)
def Mm_add (u : MmS) (f o : Int) : MmS := (Mm_n u + 1, zU (Mm_fe u) (Mm_n u) f, zU (Mm_ow u) (Mm_n u) o, zU (Mm_bf u) (Mm_n u) 0, zU (Mm_bt u) (Mm_n u) (-1))
def Md_had (u : MdS) (q : Nat) (f s : Int) : Prop := ∃ x : Int, f ≤ x ∧ x < s ∧ Mt_busy (Md_mt u) (Mt_n (Md_mt u)) q x 1 (-1)
theorem Md_had_0 (u : MdS) (q : Nat) (f : Int) : ¬ Md_had u q f f := by
  rintro ⟨x, h1, h2, -⟩
  omega
theorem Md_had_up {u : MdS} {q : Nat} {f s : Int} (h : Md_had u q f s) : Md_had u q f (s + 1) := by
  obtain ⟨x, h1, h2, h3⟩ := h
  exact ⟨x, h1, by omega, h3⟩
theorem Md_had_at {u : MdS} {q : Nat} {f s : Int} (h1 : f ≤ s) (h : Mt_busy (Md_mt u) (Mt_n (Md_mt u)) q s 1 (-1)) : Md_had u q f (s + 1) := ⟨s, h1, by omega, h⟩
theorem Md_had_nx {u : MdS} {q : Nat} {f s : Int} (h : ¬ Md_had u q f s) (hx : ¬ Mt_busy (Md_mt u) (Mt_n (Md_mt u)) q s 1 (-1)) : ¬ Md_had u q f (s + 1) := by
  rintro ⟨x, h1, h2, h3⟩
  by_cases hk : x = s
  · subst hk
    exact hx h3
  · exact h ⟨x, h1, by omega, h3⟩
/-- the days from a up to n (n apart) are off -/
def Aw_add (f : Int → Int) (q a n : Int) : Int → Int := fun k => if 50 * q + a ≤ k ∧ k < 50 * q + n then 1 else f k
theorem Aw_add_0 (f : Int → Int) (q a : Int) : Aw_add f q a a = f := by
  funext k
  unfold Aw_add
  rw [if_neg (by omega)]
theorem Aw_add_s {f : Int → Int} {q a n : Int} (h : a ≤ n) : zU (Aw_add f q a n) (50 * q + n) 1 = Aw_add f q a (n + 1) := by
  funext k
  unfold zU Aw_add
  by_cases h1 : k = 50 * q + n
  · rw [if_pos h1, if_pos (by omega)]
  · rw [if_neg h1]
    by_cases h2 : 50 * q + a ≤ k ∧ k < 50 * q + n
    · rw [if_pos h2, if_pos (by omega)]
    · rw [if_neg h2, if_neg (by omega)]
abbrev Lo_addM (u : LoS) (m p f t : Int) : LoS := (Lo_n u + 1, zU (Lo_ma u) (Lo_n u) m, zU (Lo_pe u) (Lo_n u) p, zU (Lo_fr u) (Lo_n u) f, zU (Lo_to u) (Lo_n u) t)
/-- the last of the first k builds that runs on a machine -/
def Bu_fndN (u : BuS) (m : Int) : Nat → Int
  | 0 => -1
  | k + 1 => if Bu_st u (k : Int) = 1 ∧ Bu_ma u (k : Int) = m then (k : Int) else Bu_fndN u m k
theorem Bu_fndN_y {u : BuS} {m i : Int} (hi : 0 ≤ i) (h : Bu_st u i = 1 ∧ Bu_ma u i = m) : i = Bu_fndN u m (i + 1).toNat := by
  rw [show (i + 1).toNat = i.toNat + 1 by omega]
  show _ = if _ then _ else _
  rw [Int.toNat_of_nonneg hi, if_pos h]
theorem Bu_fndN_n {u : BuS} {m i w : Int} (hi : 0 ≤ i) (hw : w = Bu_fndN u m i.toNat) (h : ¬ (Bu_st u i = 1 ∧ Bu_ma u i = m)) : w = Bu_fndN u m (i + 1).toNat := by
  rw [show (i + 1).toNat = i.toNat + 1 by omega]
  show _ = if _ then _ else _
  rw [Int.toNat_of_nonneg hi, if_neg h]
  exact hw
def Md_fnd (u : MdS) (m x : Int) : Int := if 0 < x then Bu_fndN (Md_bu u) m (Bu_n (Md_bu u)).toNat else -1
def Bu_unq (u : BuS) (k : Int) : BuS := if k ≠ -1 then (Bu_n u, Bu_ne u, Bu_ur u, Bu_ln u, zU (Bu_st u) k 0, zU (Bu_ma u) k (-1), zU (Bu_bg u) k (-1), Bu_ti u) else u
abbrev Md_brk (u : MdS) (m x : Int) : MdS := (0, Md_now u, Md_aw u, (Mm_n (Md_mm u), Mm_fe (Md_mm u), Mm_ow (Md_mm u), zU (Mm_bf (Md_mm u)) m (Md_now u), zU (Mm_bt (Md_mm u)) m (Md_now u + x - 1)), Md_lo u, Md_mt u, Md_sw u, Bu_unq (Md_bu u) (Md_fnd u m x))
abbrev Mt_addM (u : MtS) (p s l m : Int) : MtS := (Mt_n u + 1, zU (Mt_pe u) (Mt_n u) p, zU (Mt_sl u) (Mt_n u) s, zU (Mt_ln u) (Mt_n u) l, zU (Mt_ma u) (Mt_n u) m, zU (Mt_st u) (Mt_n u) 0, Mt_mv u)
abbrev Md_setMt (u : MdS) (v : MtS) : MdS := (0, Md_now u, Md_aw u, Md_mm u, Md_lo u, v, Md_sw u, Md_bu u)
abbrev Md_setBu (u : MdS) (v : BuS) : MdS := (0, Md_now u, Md_aw u, Md_mm u, Md_lo u, Md_mt u, Md_sw u, v)
abbrev Mt_plM (u : MtS) (k x : Int) : MtS := (Mt_n u, Mt_pe u, zU (Mt_sl u) k x, Mt_ln u, Mt_ma u, Mt_st u, zU (Mt_mv u) k (Mt_mv u k + 1))
abbrev Md_canM (u : MdS) (k x : Int) : Prop := Md_can u k (Mt_pe (Md_mt u) k) x (x + Mt_ln (Md_mt u) k) (Mt_ma (Md_mt u) k)
noncomputable def Md_move (u : MdS) (k x : Int) : MdS := @ite _ (Md_canM u k x) (Classical.propDecidable _) (Md_setMt u (Mt_plM (Md_mt u) k x)) (Md_setTh u 0)
abbrev Md_ahd (u : MdS) (k : Int) : Prop := Mt_st (Md_mt u) k = 0 ∧ Md_now u ≤ Mt_sl (Md_mt u) k
abbrev Sw_addM (u : SwS) (x y z w : Int) : SwS := (Sw_n u + 1, zU (Sw_me u) (Sw_n u) x, zU (Sw_mm u) (Sw_n u) y, zU (Sw_ot u) (Sw_n u) z, zU (Sw_om u) (Sw_n u) w, Sw_ag u, Sw_st u)
abbrev Mt_exM (u : MtS) (k o : Int) : MtS := (Mt_n u, Mt_pe u, zU (zU (Mt_sl u) k (Mt_sl u o)) o (Mt_sl u k), Mt_ln u, Mt_ma u, Mt_st u, Mt_mv u)
abbrev Md_exM (u : MdS) (k o : Int) : MdS := (Md_th u, Md_now u, Md_aw u, Md_mm u, Md_lo u, Mt_exM (Md_mt u) k o, Md_sw u, Md_bu u)
theorem Md_exM_I {u : MdS} (hu : MdI u) {k o : Int} : MdI (Md_exM u k o) := by
  obtain ⟨h1, h2, h3, h4, ⟨h5, h6⟩, h7, h8⟩ := hu
  exact ⟨h1, h2, h3, h4, ⟨⟨h5.1, fun j => ⟨(h5.2 j).1, zU_all (P := zR0) (zU_all (P := zR0) (fun k => (h5.2 k).2.1) (h5.2 o).2.1) (h5.2 k).2.1 j, (h5.2 j).2.2⟩⟩, h6⟩, h7, h8⟩
abbrev Md_swp (u : MdS) (k o : Int) : Prop := Mt_sl (Md_mt u) o % 8 + Mt_ln (Md_mt u) k ≤ 8 ∧ Mt_sl (Md_mt u) k % 8 + Mt_ln (Md_mt u) o ≤ 8 ∧ Md_can (Md_exM u k o) k (Mt_pe (Md_mt u) k) (Mt_sl (Md_mt u) o) (Mt_sl (Md_mt u) o + Mt_ln (Md_mt u) k) (Mt_ma (Md_mt u) k) ∧ Md_can (Md_exM u k o) o (Mt_pe (Md_mt u) o) (Mt_sl (Md_mt u) k) (Mt_sl (Md_mt u) k + Mt_ln (Md_mt u) o) (Mt_ma (Md_mt u) o)
abbrev Bu_addM (u : BuS) (x y z : Int) : BuS := (Bu_n u + 1, zU (Bu_ne u) (Bu_n u) x, zU (Bu_ur u) (Bu_n u) y, zU (Bu_ln u) (Bu_n u) z, Bu_st u, zU (Bu_ma u) (Bu_n u) (-1), zU (Bu_bg u) (Bu_n u) (-1), Bu_ti u)
abbrev Bu_urM (u : BuS) (k x : Int) : BuS := (Bu_n u, Bu_ne u, zU (Bu_ur u) k x, Bu_ln u, Bu_st u, Bu_ma u, Bu_bg u, Bu_ti u)
