/-! ===== a plan: what is asked of it, and how it goes on ===== -/
def Pl_hold (u : PlS) (m s : Int) : Int := if Lo_bor (Pl_lo u) m s = -1 ∧ 0 ≤ m ∧ m < Mc_n (Pl_mc u) then Mc_ow (Pl_mc u) m else Lo_bor (Pl_lo u) m s
def Pl_ahead (u : PlS) (k : Int) : Prop := (0 ≤ k ∧ k < Mt_n (Pl_mt u)) ∧ Mt_st (Pl_mt u) k = 0 ∧ Pl_now u ≤ Mt_sl (Pl_mt u) k
def Pl_runs (u : PlS) (m s l : Int) : Prop := (0 ≤ m ∧ m < Mc_n (Pl_mc u)) ∧ (0 ≤ Mc_ru (Pl_mc u) m ∧ Mc_ru (Pl_mc u) m < Bu_n (Pl_bu u)) ∧ ovl (Bu_bg (Pl_bu u) (Mc_ru (Pl_mc u) m)) (Bu_ln (Pl_bu u) (Mc_ru (Pl_mc u) m)) s l
def Pl_room (u : PlS) (p s l m ex : Int) : Prop := (∀ q : Nat, bit p q → ¬ (Mt_busy (Pl_mt u) (Mt_n (Pl_mt u)) q s l ex ∨ Lv_off (Pl_lv u) (q : Int) s)) ∧ (m = -1 ∨ ¬ Mt_prom (Pl_mt u) (Mt_n (Pl_mt u)) m s l ex ∧ ¬ Pl_runs u m s l ∧ ¬ Mc_brk (Pl_mc u) m s l)
def Pl_can (u : PlS) (k s : Int) : Prop := (0 ≤ k ∧ k < Mt_n (Pl_mt u)) ∧ s / 8 = (s + Mt_ln (Pl_mt u) k - 1) / 8 ∧ Pl_room u (Mt_pe (Pl_mt u) k) s (Mt_ln (Pl_mt u) k) (Mt_ma (Pl_mt u) k) k
abbrev Pl_setMt (u : PlS) (v : MtS) : PlS := (Pl_mc u, Pl_lo u, Pl_lv u, v, Pl_bu u, Pl_now u)
def Pl_swp (u : PlS) (k o : Int) : Prop := ((0 ≤ k ∧ k < Mt_n (Pl_mt u)) ∧ 0 ≤ o ∧ o < Mt_n (Pl_mt u)) ∧ Pl_can (Pl_setMt u (Mt_exch (Pl_mt u) k o)) k (Mt_sl (Mt_exch (Pl_mt u) k o) k) ∧ Pl_can (Pl_setMt u (Mt_exch (Pl_mt u) k o)) o (Mt_sl (Mt_exch (Pl_mt u) k o) o)
/-- what hinders a build on a machine in a slot -/
def Pl_hin (u : PlS) (m s : Int) : Prop := Mc_brk (Pl_mc u) m s 1 ∨ Lv_off (Pl_lv u) (Pl_hold u m s) s ∨ Mt_prom (Pl_mt u) (Mt_n (Pl_mt u)) m s 1 (-1)
/-- the free slots, the last k of six looked at -/
noncomputable def Pl_freeN (u : PlS) (m : Int) : Nat → Int
  | 0 => 6
  | k + 1 => if Pl_now u + (5 - (k : Int)) < 400 then (if bz (Pl_hin u m (Pl_now u + (5 - (k : Int)))) = 1 then 5 - (k : Int) else Pl_freeN u m k) else 6
noncomputable def Pl_free (u : PlS) (m : Int) : Int := Pl_freeN u m 6
abbrev Mc_setR (u : McS) (r : Int → Int) : McS := (Mc_n u, Mc_fe u, Mc_ow u, Mc_bf u, Mc_bu u, r)
/-- the build that begins on a machine in the slot of now, or -1 -/
noncomputable def Pl_pick (u : PlS) (m : Int) : Int := if (0 ≤ m ∧ m < Mc_n (Pl_mc u)) ∧ Mc_ru (Pl_mc u) m = -1 ∧ Bu_best (Pl_bu u) (Mc_fe (Pl_mc u) m) 6 ≠ -1 then Bu_best (Pl_bu u) (Mc_fe (Pl_mc u) m) (Pl_free u m) else -1
noncomputable def Pl_beg (u : PlS) (m : Int) : PlS := if Pl_pick u m = -1 then u else (Mc_setR (Pl_mc u) (zU (Mc_ru (Pl_mc u)) m (Pl_pick u m)), Pl_lo u, Pl_lv u, Pl_mt u, Bu_beg (Pl_bu u) (Pl_pick u m) m (Pl_now u), Pl_now u)
noncomputable def Pl_begN (u : PlS) : Nat → PlS
  | 0 => u
  | k + 1 => Pl_beg (Pl_begN u k) (k : Int)
/-- the end of a build on a machine -/
def Pl_e1 (u : PlS) (m : Int) : PlS := if (0 ≤ Mc_ru (Pl_mc u) m ∧ Mc_ru (Pl_mc u) m < Bu_n (Pl_bu u)) ∧ Bu_bg (Pl_bu u) (Mc_ru (Pl_mc u) m) + Bu_ln (Pl_bu u) (Mc_ru (Pl_mc u) m) ≤ Pl_now u then (Mc_setR (Pl_mc u) (zU (Mc_ru (Pl_mc u)) m (-1)), Pl_lo u, Pl_lv u, Pl_mt u, (Bu_n (Pl_bu u), Bu_ne (Pl_bu u), Bu_ur (Pl_bu u), Bu_ln (Pl_bu u), zU (Bu_st (Pl_bu u)) (Mc_ru (Pl_mc u) m) 2, Bu_ma (Pl_bu u), Bu_bg (Pl_bu u), Bu_ti (Pl_bu u)), Pl_now u) else u
def Pl_eN (u : PlS) : Nat → PlS
  | 0 => u
  | k + 1 => Pl_e1 (Pl_eN u k) (k : Int)
abbrev Pl_setNow (u : PlS) (x : Int) : PlS := (Pl_mc u, Pl_lo u, Pl_lv u, Pl_mt u, Pl_bu u, x)
abbrev Pl_endM (u : PlS) : PlS := (Pl_mc u, Pl_lo u, Pl_lv u, Mt_endBy (Pl_mt u) (Pl_now u), Pl_bu u, Pl_now u)
def Pl_end (u : PlS) : PlS := Pl_endM (Pl_eN (Pl_setNow u (Pl_now u + 1)) (Mc_n (Pl_mc u)).toNat)
noncomputable def Pl_step (u : PlS) : PlS := Pl_end (Pl_begN u (Mc_n (Pl_mc u)).toNat)
noncomputable def Pl_iter : Nat → PlS → PlS
  | 0, u => u
  | k + 1, u => Pl_iter k (Pl_step u)
noncomputable def Pl_pass (u : PlS) (t : Int) : PlS := Pl_iter (min t 400 - Pl_now u).toNat u
def Pl_clear (u : PlS) : PlS := ((0, Mc_fe (Pl_mc u), Mc_ow (Pl_mc u), Mc_bf (Pl_mc u), Mc_bu (Pl_mc u), Mc_ru (Pl_mc u)), (0, Lo_ma (Pl_lo u), Lo_pe (Pl_lo u), Lo_fr (Pl_lo u), Lo_to (Pl_lo u)), Lv_clear (Pl_lv u) 10, (0, Mt_pe (Pl_mt u), Mt_sl (Pl_mt u), Mt_ln (Pl_mt u), Mt_ma (Pl_mt u), Mt_st (Pl_mt u), Mt_mv (Pl_mt u)), (0, Bu_ne (Pl_bu u), Bu_ur (Pl_bu u), Bu_ln (Pl_bu u), Bu_st (Pl_bu u), Bu_ma (Pl_bu u), Bu_bg (Pl_bu u), Bu_ti (Pl_bu u)), 0)
def Pl_brkn (u : PlS) (m x : Int) : PlS := if 0 ≤ m ∧ m < Mc_n (Pl_mc u) then
    (if 0 < x then ((Mc_n (Pl_mc u), Mc_fe (Pl_mc u), Mc_ow (Pl_mc u), zU (Mc_bf (Pl_mc u)) m (Pl_now u), zU (Mc_bu (Pl_mc u)) m (Pl_now u + x), zU (Mc_ru (Pl_mc u)) m (-1)), Pl_lo u, Pl_lv u, Pl_mt u, Bu_enq (Pl_bu u) (Mc_ru (Pl_mc u) m), Pl_now u)
    else ((Mc_n (Pl_mc u), Mc_fe (Pl_mc u), Mc_ow (Pl_mc u), zU (Mc_bf (Pl_mc u)) m (Pl_now u), zU (Mc_bu (Pl_mc u)) m (Pl_now u + x), Mc_ru (Pl_mc u)), Pl_lo u, Pl_lv u, Pl_mt u, Pl_bu u, Pl_now u)) else u
def Pl_take (u : PlS) (k x y z w : Int) : PlS :=
  if k = 0 then (Mc_add (Pl_mc u) x y, Pl_lo u, Pl_lv u, Pl_mt u, Pl_bu u, Pl_now u)
  else if k = 1 then (Pl_mc u, Pl_lo u, Lv_add (Pl_lv u) x y z, Pl_mt u, Pl_bu u, Pl_now u)
  else if k = 2 then (Pl_mc u, Lo_add (Pl_lo u) x y z w, Pl_lv u, Pl_mt u, Pl_bu u, Pl_now u)
  else if k = 3 then Pl_brkn u x y
  else if k = 4 then Pl_setMt u (Mt_add (Pl_mt u) x y z w)
  else if k = 5 then Pl_setMt u (Mt_place (Pl_mt u) x y)
  else if k = 6 then Pl_setMt u (Mt_callOff (Pl_mt u) x)
  else if k = 7 then Pl_setMt u (Mt_plsw (Pl_mt u) x y)
  else if k = 8 then (Pl_mc u, Pl_lo u, Pl_lv u, Pl_mt u, Bu_add (Pl_bu u) x y z, Pl_now u)
  else if k = 9 then (Pl_mc u, Pl_lo u, Pl_lv u, Pl_mt u, Bu_setU (Pl_bu u) x y, Pl_now u)
  else u
def Pl_sign (u : PlS) (m s : Int) (r : Int) : Prop := (Mt_prom (Pl_mt u) (Mt_n (Pl_mt u)) m s 1 (-1) ∧ r = 77) ∨ (¬ Mt_prom (Pl_mt u) (Mt_n (Pl_mt u)) m s 1 (-1) ∧ Pl_runs u m s 1 ∧ r = 66) ∨ (¬ Mt_prom (Pl_mt u) (Mt_n (Pl_mt u)) m s 1 (-1) ∧ ¬ Pl_runs u m s 1 ∧ Mc_brk (Pl_mc u) m s 1 ∧ r = 55357) ∨ (¬ Mt_prom (Pl_mt u) (Mt_n (Pl_mt u)) m s 1 (-1) ∧ ¬ Pl_runs u m s 1 ∧ ¬ Mc_brk (Pl_mc u) m s 1 ∧ r = 46)
/-! rows -/
theorem Pl_room_0 {p b1 b2 : Int} (hp : 0 ≤ p ∧ p ≤ 1023) {X Y : Nat → Prop} (h1 : ∀ q, bit b1 q ↔ X q) (h2 : ∀ q, bit b2 q ↔ Y q) : zand p (zor b1 b2) = 0 ↔ ∀ q : Nat, bit p q → ¬ (X q ∨ Y q) := by
  rw [bit_none (zand_r (y := zor b1 b2) hp).1]
  constructor
  · intro h q hq hx
    exact h q ((zand_bit p _ q).mpr ⟨hq, (zor_bit b1 b2 q).mpr (hx.imp (h1 q).mpr (h2 q).mpr)⟩)
  · intro h q hq
    obtain ⟨h3, h4⟩ := (zand_bit p _ q).mp hq
    exact h q h3 (((zor_bit b1 b2 q).mp h4).imp (h1 q).mp (h2 q).mp)
theorem Mt_exch_n (u : MtS) (k o : Int) : Mt_n (Mt_exch u k o) = Mt_n u := by unfold Mt_exch; split <;> rfl
theorem Mt_exch2 (u : MtS) (k o : Int) : Mt_exch (Mt_exch u k o) k o = u := by
  by_cases h : (0 ≤ k ∧ k < Mt_n u) ∧ 0 ≤ o ∧ o < Mt_n u
  · rw [show Mt_exch u k o = (Mt_n u, Mt_pe u, zU (zU (Mt_sl u) k (Mt_sl u o)) o (Mt_sl u k), Mt_ln u, Mt_ma u, Mt_st u, Mt_mv u) by rw [Mt_exch, if_pos h], Mt_exch, if_pos h]
    have e : zU (zU (zU (zU (Mt_sl u) k (Mt_sl u o)) o (Mt_sl u k)) k (zU (zU (Mt_sl u) k (Mt_sl u o)) o (Mt_sl u k) o)) o (zU (zU (Mt_sl u) k (Mt_sl u o)) o (Mt_sl u k) k) = Mt_sl u := by
      funext j
      by_cases hko : k = o
      · subst hko
        rw [zU_s]
        rcases zU_c (zU (zU (zU (Mt_sl u) k (Mt_sl u k)) k (Mt_sl u k)) k (Mt_sl u k)) k (Mt_sl u k) j with ⟨h1, h2⟩ | ⟨h1, h2⟩
        · rw [h2, h1]
        · rw [h2, zU_n _ _ h1, zU_n _ _ h1, zU_n _ _ h1]
      · rw [zU_s, zU_n _ _ hko, zU_s]
        by_cases hjo : j = o
        · rw [hjo, zU_s]
        · rw [zU_n _ _ hjo]
          by_cases hjk : j = k
          · rw [hjk, zU_s]
          · rw [zU_n _ _ hjk, zU_n _ _ hjo, zU_n _ _ hjk]
    show (Mt_n u, Mt_pe u, _, Mt_ln u, Mt_ma u, Mt_st u, Mt_mv u) = u
    exact congrArg (fun f => (Mt_n u, Mt_pe u, f, Mt_ln u, Mt_ma u, Mt_st u, Mt_mv u)) e
  · rw [show Mt_exch u k o = u by rw [Mt_exch, if_neg h], Mt_exch, if_neg h]
theorem Pl_freeN_hin {u : PlS} {m i : Int} (hi : 0 ≤ i ∧ i < 6) (h4 : Pl_now u + i < 400) (h : Pl_hin u m (Pl_now u + i)) : Pl_freeN u m (6 - i).toNat = i := by
  rw [show (6 - i).toNat = (5 - i).toNat + 1 by omega]
  show (if _ then (if _ then _ else _) else _) = _
  rw [show (5 : Int) - (((5 - i).toNat : Nat) : Int) = i by omega, if_pos h4, if_pos (bz_t h)]
theorem Pl_freeN_no {u : PlS} {m i : Int} (hi : 0 ≤ i ∧ i < 6) (h4 : Pl_now u + i < 400) (h : ¬ Pl_hin u m (Pl_now u + i)) : Pl_freeN u m (6 - i).toNat = Pl_freeN u m (6 - (i + 1)).toNat := by
  rw [show (6 - i).toNat = (5 - i).toNat + 1 by omega, show (6 - (i + 1)).toNat = (5 - i).toNat by omega]
  show (if _ then (if _ then _ else _) else _) = _
  rw [show (5 : Int) - (((5 - i).toNat : Nat) : Int) = i by omega, if_pos h4, if_neg (by rw [bz_f h]; decide)]
theorem Pl_freeN_end {u : PlS} {m i : Int} (hi : 0 ≤ i ∧ i < 6) (h4 : ¬ Pl_now u + i < 400) : Pl_freeN u m (6 - i).toNat = 6 := by
  rw [show (6 - i).toNat = (5 - i).toNat + 1 by omega]
  show (if _ then (if _ then _ else _) else _) = _
  rw [show (5 : Int) - (((5 - i).toNat : Nat) : Int) = i by omega, if_neg h4]
theorem Pl_free_r (u : PlS) (m : Int) : 0 ≤ Pl_free u m ∧ Pl_free u m ≤ 6 := by
  have h : ∀ k : Nat, k ≤ 6 → 0 ≤ Pl_freeN u m k ∧ Pl_freeN u m k ≤ 6 := by
    intro k
    induction k with
    | zero => intro _; show 0 ≤ (6 : Int) ∧ (6 : Int) ≤ 6; omega
    | succ k ih =>
      intro hk
      have h1 := ih (by omega)
      have e : ∀ q : Int, q = Pl_freeN u m (k + 1) → 0 ≤ q ∧ q ≤ 6 := by
        intro q hq
        rw [Pl_freeN] at hq
        split at hq
        · split at hq <;> omega
        · omega
      exact e _ rfl
  exact h 6 (Nat.le_refl 6)
theorem Pl_hold_r {u : PlS} (hu : PlI u) (m s : Int) : -1 ≤ Pl_hold u m s ∧ Pl_hold u m s ≤ 511 := by
  have h1 := Lo_bor_r hu.2.1 m s
  have h2 := (hu.1.2 m).2.1
  unfold Pl_hold
  split <;> omega
theorem Bu_best_r {u : BuS} (hu : BuI u) (f x : Int) : -1 ≤ Bu_best u f x ∧ Bu_best u f x < Bu_n u := by
  have h1 := Bu_bestN_r u f x (Bu_n u).toNat
  have h2 := hu.1
  unfold Bu_best
  omega
/-! the room of the numbers, kept -/
theorem Mt_over_r {u : MtS} {x i : Int} (hu : MtI u) (k : Int) : 0 ≤ Mt_over u x i k ∧ Mt_over u x i k ≤ 2 := by
  have h := (hu.2 k).2.2.2.2
  unfold Mt_over
  split <;> omega
theorem Mt_endBy_I {u : MtS} (hu : MtI u) (x : Int) : MtI (Mt_endBy u x) := ⟨hu.1, fun k => ⟨(hu.2 k).1, (hu.2 k).2.1, (hu.2 k).2.2.1, (hu.2 k).2.2.2.1, Mt_over_r hu k⟩⟩
theorem Mt_place_I {u : MtS} {k x : Int} (hu : MtI u) (hx : zR0 x) : MtI (Mt_place u k x) := by
  unfold Mt_place
  split
  · exact ⟨hu.1, fun j => ⟨(hu.2 j).1, zU_all (P := zR0) (fun k => (hu.2 k).2.1) hx j, (hu.2 j).2.2⟩⟩
  · exact hu
theorem Mt_callOff_I {u : MtS} {k : Int} (hu : MtI u) : MtI (Mt_callOff u k) := by
  unfold Mt_callOff
  split
  · exact ⟨hu.1, fun j => ⟨(hu.2 j).1, (hu.2 j).2.1, (hu.2 j).2.2.1, (hu.2 j).2.2.2.1, zU_all (P := fun y => 0 ≤ y ∧ y ≤ 2) (fun k => (hu.2 k).2.2.2.2) (by omega) j⟩⟩
  · exact hu
theorem Mt_exch_I {u : MtS} {k o : Int} (hu : MtI u) : MtI (Mt_exch u k o) := by
  unfold Mt_exch
  split
  · exact ⟨hu.1, fun j => ⟨(hu.2 j).1, zU_all (P := zR0) (zU_all (P := zR0) (fun k => (hu.2 k).2.1) (hu.2 o).2.1) (hu.2 k).2.1 j, (hu.2 j).2.2⟩⟩
  · exact hu
theorem Mt_mvup_I {u : MtS} {k : Int} (hu : MtI u) : MtI (Mt_mvup u k) := ⟨hu.1, fun j => hu.2 j⟩
theorem Mt_plsw_I {u : MtS} {k o : Int} (hu : MtI u) : MtI (Mt_plsw u k o) := by
  unfold Mt_plsw
  split
  · exact Mt_mvup_I (Mt_mvup_I (Mt_exch_I hu))
  · exact hu
theorem Mt_add_I {u : MtS} {p x y z : Int} (hu : MtI u) (hp : zR2 p) (hx : zR0 x) (hy : zR0 y) (hz : zR z) : MtI (Mt_add u p x y z) := by
  unfold Mt_add
  split
  · refine ⟨⟨by have h := hu.1; show 0 ≤ Mt_n u + 1; omega, by show Mt_n u + 1 ≤ 30; omega⟩, fun j => ⟨zU_all (P := zR2) (fun k => (hu.2 k).1) hp j, zU_all (P := zR0) (fun k => (hu.2 k).2.1) hx j, zU_all (P := zR0) (fun k => (hu.2 k).2.2.1) hy j, zU_all (P := zR) (fun k => (hu.2 k).2.2.2.1) hz j, zU_all (P := fun y => 0 ≤ y ∧ y ≤ 2) (fun k => (hu.2 k).2.2.2.2) (by omega) j⟩⟩
  · exact hu
theorem Mc_add_I {u : McS} {x y : Int} (hu : McI u) (hx : zR2 x) (hy : zR y) : McI (Mc_add u x y) := by
  unfold Mc_add
  split
  · refine ⟨⟨by have h := hu.1; show 0 ≤ Mc_n u + 1; omega, by show Mc_n u + 1 ≤ 6; omega⟩, fun j => ⟨zU_all (P := zR2) (fun k => (hu.2 k).1) hx j, zU_all (P := zR) (fun k => (hu.2 k).2.1) hy j, zU_all (P := zR0) (fun k => (hu.2 k).2.2.1) (by omega) j, zU_all (P := zR2) (fun k => (hu.2 k).2.2.2.1) (by omega) j, zU_all (P := fun y => -1 ≤ y ∧ y ≤ 40) (fun k => (hu.2 k).2.2.2.2) (by omega) j⟩⟩
  · exact hu
theorem Lo_add_I {u : LoS} {x y z w : Int} (hu : LoI u) (hx : zR2 x) (hy : zR y) (hz : zR z) (hw : zR w) : LoI (Lo_add u x y z w) := by
  unfold Lo_add
  split
  · refine ⟨⟨by have h := hu.1; show 0 ≤ Lo_n u + 1; omega, by show Lo_n u + 1 ≤ 20; omega⟩, fun j => ⟨zU_all (P := zR2) (fun k => (hu.2 k).1) hx j, zU_all (P := zR) (fun k => (hu.2 k).2.1) hy j, zU_all (P := zR) (fun k => (hu.2 k).2.2.1) hz j, zU_all (P := zR) (fun k => (hu.2 k).2.2.2) hw j⟩⟩
  · exact hu
theorem Lv_bits_r {x : Nat} {f : Int} (hx : x < 2 ^ 50) (hf : 0 ≤ f) : ∀ k : Nat, f + k ≤ 50 → Lv_bits x f k < 2 ^ 50
  | 0, _ => hx
  | k + 1, h => Nat.or_lt_two_pow (Lv_bits_r hx hf k (by omega)) (Nat.pow_lt_pow_right (by decide) (by omega))
theorem Lv_add_I {u : LvS} {q f t : Int} (hu : LvI u) (hf : 0 ≤ f) : LvI (Lv_add u q f t) := by
  unfold Lv_add
  split
  · intro k
    show Lv_put u q _ k < _
    unfold Lv_put
    split
    · by_cases h : f ≤ 50
      · exact Lv_bits_r (hu q) hf _ (by omega)
      · rw [show (min (t + 1) 50 - f).toNat = 0 by omega]
        exact hu q
    · exact hu k
  · exact hu
theorem Lv_clear_I {u : LvS} {i : Int} (hu : LvI u) : LvI (Lv_clear u i) := fun k => by
  unfold Lv_clear
  split
  · decide
  · exact hu k
theorem Bu_enq_I {u : BuS} {k : Int} (hu : BuI u) : BuI (Bu_enq u k) := by
  unfold Bu_enq
  split
  · exact ⟨hu.1, fun j => ⟨(hu.2 j).1, (hu.2 j).2.1, (hu.2 j).2.2.1, zU_all (P := fun y => 0 ≤ y ∧ y ≤ 2) (fun k => (hu.2 k).2.2.2.1) (by omega) j, zU_all (P := zR) (fun k => (hu.2 k).2.2.2.2.1) (by omega) j, zU_all (P := zR) (fun k => (hu.2 k).2.2.2.2.2) (by omega) j⟩⟩
  · exact hu
theorem Bu_add_I {u : BuS} {x y z : Int} (hu : BuI u) (hx : zR2 x) (hy : zR y) (hz : zR0 z) : BuI (Bu_add u x y z) := by
  unfold Bu_add
  split
  · exact Bu_enq_I (Bu_addI0 hu (by assumption) hx hy hz)
  · exact hu
theorem Bu_setU_I {u : BuS} {k x : Int} (hu : BuI u) (hx : zR x) : BuI (Bu_setU u k x) := by
  unfold Bu_setU
  split
  · exact ⟨hu.1, fun j => ⟨(hu.2 j).1, zU_all (P := zR) (fun k => (hu.2 k).2.1) hx j, (hu.2 j).2.2⟩⟩
  · exact hu
theorem Bu_beg_I {u : BuS} {k m x : Int} (hu : BuI u) (hm : zR m) (hx : zR x) : BuI (Bu_beg u k m x) := by
  unfold Bu_beg
  split
  · exact ⟨hu.1, fun j => ⟨(hu.2 j).1, (hu.2 j).2.1, (hu.2 j).2.2.1, zU_all (P := fun y => 0 ≤ y ∧ y ≤ 2) (fun k => (hu.2 k).2.2.2.1) (by omega) j, zU_all (P := zR) (fun k => (hu.2 k).2.2.2.2.1) hm j, zU_all (P := zR) (fun k => (hu.2 k).2.2.2.2.2) hx j⟩⟩
  · exact hu
theorem Mc_setR_I {u : McS} {k x : Int} (hu : McI u) (hx : -1 ≤ x ∧ x ≤ 40) : McI (Mc_setR u (zU (Mc_ru u) k x)) := ⟨hu.1, fun j => ⟨(hu.2 j).1, (hu.2 j).2.1, (hu.2 j).2.2.1, (hu.2 j).2.2.2.1, zU_all (P := fun y => -1 ≤ y ∧ y ≤ 40) (fun k => (hu.2 k).2.2.2.2) hx j⟩⟩
theorem Pl_pick_r {u : PlS} (hu : PlI u) (m : Int) : -1 ≤ Pl_pick u m ∧ Pl_pick u m < Bu_n (Pl_bu u) := by
  have h := Bu_best_r hu.2.2.2.2.1 (Mc_fe (Pl_mc u) m) (Pl_free u m)
  have h1 := hu.2.2.2.2.1.1
  unfold Pl_pick
  split <;> omega
theorem Pl_beg_I {u : PlS} (hu : PlI u) {m : Int} (hm : zR m) : PlI (Pl_beg u m) := by
  have h := Pl_pick_r hu m
  have h1 := hu.2.2.2.2.1.1
  have h2 := hu.2.2.2.2.2
  unfold Pl_beg
  split
  · exact hu
  · exact ⟨Mc_setR_I hu.1 (by omega), hu.2.1, hu.2.2.1, hu.2.2.2.1, Bu_beg_I hu.2.2.2.2.1 hm (by omega), hu.2.2.2.2.2⟩
theorem Pl_e1_I {u : PlS} (hu : PlI u) (m : Int) : PlI (Pl_e1 u m) := by
  unfold Pl_e1
  split
  · exact ⟨Mc_setR_I hu.1 (by omega), hu.2.1, hu.2.2.1, hu.2.2.2.1, ⟨hu.2.2.2.2.1.1, fun j => ⟨(hu.2.2.2.2.1.2 j).1, (hu.2.2.2.2.1.2 j).2.1, (hu.2.2.2.2.1.2 j).2.2.1, zU_all (P := fun y => 0 ≤ y ∧ y ≤ 2) (fun k => (hu.2.2.2.2.1.2 k).2.2.2.1) (by omega) j, (hu.2.2.2.2.1.2 j).2.2.2.2⟩⟩, hu.2.2.2.2.2⟩
  · exact hu
theorem Pl_brkn_I {u : PlS} {m x : Int} (hu : PlI u) (hx : 0 ≤ x ∧ x ≤ 511) : PlI (Pl_brkn u m x) := by
  have hn := hu.2.2.2.2.2
  have e : ∀ r : Int → Int, (∀ k, -1 ≤ r k ∧ r k ≤ 40) → McI (Mc_n (Pl_mc u), Mc_fe (Pl_mc u), Mc_ow (Pl_mc u), zU (Mc_bf (Pl_mc u)) m (Pl_now u), zU (Mc_bu (Pl_mc u)) m (Pl_now u + x), r) := fun r hr => ⟨hu.1.1, fun j => ⟨(hu.1.2 j).1, (hu.1.2 j).2.1, zU_all (P := zR0) (fun k => (hu.1.2 k).2.2.1) (by omega) j, zU_all (P := zR2) (fun k => (hu.1.2 k).2.2.2.1) (by omega) j, hr j⟩⟩
  unfold Pl_brkn
  split
  · split
    · exact ⟨e _ (zU_all (P := fun y => -1 ≤ y ∧ y ≤ 40) (fun k => (hu.1.2 k).2.2.2.2) (by omega)), hu.2.1, hu.2.2.1, hu.2.2.2.1, Bu_enq_I hu.2.2.2.2.1, hu.2.2.2.2.2⟩
    · exact ⟨e _ (fun k => (hu.1.2 k).2.2.2.2), hu.2.1, hu.2.2.1, hu.2.2.2.1, hu.2.2.2.2.1, hu.2.2.2.2.2⟩
  · exact hu
theorem Pl_take_I {u : PlS} {k x y z w : Int} (hu : PlI u) (hx : zR2 x) (hy : zR0 y) (hz : zR0 z) (hw : zR w) : PlI (Pl_take u k x y z w) := by
  obtain ⟨h1, h2, h3, h4, h5, h6⟩ := id hu
  unfold Pl_take
  split
  · exact ⟨Mc_add_I h1 hx (by omega), h2, h3, h4, h5, h6⟩
  split
  · exact ⟨h1, h2, Lv_add_I h3 (by omega), h4, h5, h6⟩
  split
  · exact ⟨h1, Lo_add_I h2 hx (by omega) (by omega) hw, h3, h4, h5, h6⟩
  split
  · exact Pl_brkn_I hu (by omega)
  split
  · exact ⟨h1, h2, h3, Mt_add_I h4 hx hy hz hw, h5, h6⟩
  split
  · exact ⟨h1, h2, h3, Mt_place_I h4 hy, h5, h6⟩
  split
  · exact ⟨h1, h2, h3, Mt_callOff_I h4, h5, h6⟩
  split
  · exact ⟨h1, h2, h3, Mt_plsw_I h4, h5, h6⟩
  split
  · exact ⟨h1, h2, h3, h4, Bu_add_I h5 hx (by omega) hz, h6⟩
  split
  · exact ⟨h1, h2, h3, h4, Bu_setU_I h5 (by omega), h6⟩
  · exact hu
/-! the loops of a slot -/
theorem Pl_beg_n (u : PlS) (m : Int) : Mc_n (Pl_mc (Pl_beg u m)) = Mc_n (Pl_mc u) ∧ Pl_now (Pl_beg u m) = Pl_now u := by
  unfold Pl_beg
  split <;> exact ⟨rfl, rfl⟩
theorem Pl_begN_s {u v : PlS} {k : Int} (hk : 0 ≤ k) (h : v = Pl_begN u k.toNat) : Pl_beg v k = Pl_begN u (k + 1).toNat := by
  rw [show (k + 1).toNat = k.toNat + 1 by omega]
  show _ = Pl_beg _ _
  rw [h, Int.toNat_of_nonneg hk]
theorem Pl_e1_n (u : PlS) (m : Int) : Mc_n (Pl_mc (Pl_e1 u m)) = Mc_n (Pl_mc u) ∧ Pl_now (Pl_e1 u m) = Pl_now u := by
  unfold Pl_e1
  split <;> exact ⟨rfl, rfl⟩
theorem Pl_eN_n (u : PlS) : ∀ k : Nat, Mc_n (Pl_mc (Pl_eN u k)) = Mc_n (Pl_mc u) ∧ Pl_now (Pl_eN u k) = Pl_now u
  | 0 => ⟨rfl, rfl⟩
  | k + 1 => ⟨(Pl_e1_n _ _).1.trans (Pl_eN_n u k).1, (Pl_e1_n _ _).2.trans (Pl_eN_n u k).2⟩
theorem Pl_begN_n (u : PlS) : ∀ k : Nat, Mc_n (Pl_mc (Pl_begN u k)) = Mc_n (Pl_mc u) ∧ Pl_now (Pl_begN u k) = Pl_now u
  | 0 => ⟨rfl, rfl⟩
  | k + 1 => ⟨(Pl_beg_n _ _).1.trans (Pl_begN_n u k).1, (Pl_beg_n _ _).2.trans (Pl_begN_n u k).2⟩
theorem Pl_eN_s {u v : PlS} {k : Int} (hk : 0 ≤ k) (h : v = Pl_eN u k.toNat) : Pl_e1 v k = Pl_eN u (k + 1).toNat := by
  rw [show (k + 1).toNat = k.toNat + 1 by omega]
  show _ = Pl_e1 _ _
  rw [h, Int.toNat_of_nonneg hk]
theorem Pl_eN_I {u : PlS} (hu : PlI u) : ∀ k : Nat, PlI (Pl_eN u k)
  | 0 => hu
  | k + 1 => Pl_e1_I (Pl_eN_I hu k) _
theorem Pl_setNow_I {u : PlS} (hu : PlI u) {x : Int} (hx : 0 ≤ x ∧ x ≤ 400) : PlI (Pl_setNow u x) := ⟨hu.1, hu.2.1, hu.2.2.1, hu.2.2.2.1, hu.2.2.2.2.1, hx⟩
theorem Pl_end_now (u : PlS) : Pl_now (Pl_end u) = Pl_now u + 1 := (Pl_eN_n _ _).2
theorem Pl_end_I {u : PlS} (hu : PlI u) (h4 : Pl_now u < 400) : PlI (Pl_end u) := by
  have h := hu.2.2.2.2.2
  have h2 := Pl_eN_I (Pl_setNow_I hu (x := Pl_now u + 1) (by omega)) (Mc_n (Pl_mc u)).toNat
  exact ⟨h2.1, h2.2.1, h2.2.2.1, Mt_endBy_I h2.2.2.2.1 _, h2.2.2.2.2.1, h2.2.2.2.2.2⟩
theorem Pl_begN_I {u : PlS} (hu : PlI u) : ∀ k : Nat, k ≤ 511 → PlI (Pl_begN u k)
  | 0, _ => hu
  | k + 1, h => Pl_beg_I (Pl_begN_I hu k (by omega)) (by omega)
theorem Pl_step_I {u : PlS} (hu : PlI u) (h4 : Pl_now u < 400) : PlI (Pl_step u) ∧ Pl_now (Pl_step u) = Pl_now u + 1 := by
  have h := hu.1.1
  have e := (Pl_begN_n u (Mc_n (Pl_mc u)).toNat).2
  exact ⟨Pl_end_I (Pl_begN_I hu _ (by omega)) (by rw [e]; exact h4), (Pl_end_now _).trans (by rw [e])⟩
theorem Pl_pass_s {u : PlS} {t : Int} (hu : PlI u) (h1 : Pl_now u < t) (h2 : Pl_now u < 400) : Pl_pass u t = Pl_pass (Pl_step u) t := by
  have h := hu.2.2.2.2.2
  unfold Pl_pass
  rw [(Pl_step_I hu h2).2, show (min t 400 - Pl_now u).toNat = (min t 400 - (Pl_now u + 1)).toNat + 1 by omega]
  rfl
theorem Pl_pass_0 {u : PlS} {t : Int} (h : ¬ (Pl_now u < t ∧ Pl_now u < 400)) : Pl_pass u t = u := by
  unfold Pl_pass
  rw [show (min t 400 - Pl_now u).toNat = 0 by omega]
  rfl
theorem Mt_exch_L {u : MtS} {k o : Int} (h : ∀ j, 0 ≤ j → j < Mt_n u → 1 ≤ Mt_ln u j) : ∀ j, 0 ≤ j → j < Mt_n (Mt_exch u k o) → 1 ≤ Mt_ln (Mt_exch u k o) j := by
  unfold Mt_exch
  split <;> exact h
theorem Pl_pick_1 {u : PlS} {m : Int} (h : ¬ (0 ≤ m ∧ m < Mc_n (Pl_mc u))) : Pl_pick u m = -1 := by rw [Pl_pick, if_neg (fun q => h q.1)]
theorem Pl_pick_2 {u : PlS} {m : Int} (h : Mc_ru (Pl_mc u) m ≠ -1) : Pl_pick u m = -1 := by rw [Pl_pick, if_neg (fun q => h q.2.1)]
theorem Pl_pick_3 {u : PlS} {m : Int} (h : Bu_best (Pl_bu u) (Mc_fe (Pl_mc u) m) 6 = -1) : Pl_pick u m = -1 := by rw [Pl_pick, if_neg (fun q => q.2.2 h)]
theorem Pl_pick_4 {u : PlS} {m : Int} (h1 : 0 ≤ m ∧ m < Mc_n (Pl_mc u)) (h2 : Mc_ru (Pl_mc u) m = -1) (h3 : Bu_best (Pl_bu u) (Mc_fe (Pl_mc u) m) 6 ≠ -1) : Pl_pick u m = Bu_best (Pl_bu u) (Mc_fe (Pl_mc u) m) (Pl_free u m) := by rw [Pl_pick, if_pos ⟨h1, h2, h3⟩]
theorem Pl_beg_no {u : PlS} {m : Int} (h : Pl_pick u m = -1) : Pl_beg u m = u := by rw [Pl_beg, if_pos h]
theorem Pl_beg_yes {u : PlS} {m b : Int} (h : Pl_pick u m = b) (hb : b ≠ -1) : Pl_beg u m = (Mc_setR (Pl_mc u) (zU (Mc_ru (Pl_mc u)) m b), Pl_lo u, Pl_lv u, Pl_mt u, Bu_beg (Pl_bu u) b m (Pl_now u), Pl_now u) := by rw [Pl_beg, if_neg (by rw [h]; exact hb), h]
theorem Pl_take_0 (u : PlS) (x y z w : Int) : Pl_take u 0 x y z w = (Mc_add (Pl_mc u) x y, Pl_lo u, Pl_lv u, Pl_mt u, Pl_bu u, Pl_now u) := by
  unfold Pl_take
  rw [if_pos rfl]
theorem Pl_take_1 (u : PlS) (x y z w : Int) : Pl_take u 1 x y z w = (Pl_mc u, Pl_lo u, Lv_add (Pl_lv u) x y z, Pl_mt u, Pl_bu u, Pl_now u) := by
  unfold Pl_take
  rw [if_neg (by decide), if_pos rfl]
theorem Pl_take_2 (u : PlS) (x y z w : Int) : Pl_take u 2 x y z w = (Pl_mc u, Lo_add (Pl_lo u) x y z w, Pl_lv u, Pl_mt u, Pl_bu u, Pl_now u) := by
  unfold Pl_take
  rw [if_neg (by decide), if_neg (by decide), if_pos rfl]
theorem Pl_take_3 (u : PlS) (x y z w : Int) : Pl_take u 3 x y z w = Pl_brkn u x y := by
  unfold Pl_take
  rw [if_neg (by decide), if_neg (by decide), if_neg (by decide), if_pos rfl]
theorem Pl_take_4 (u : PlS) (x y z w : Int) : Pl_take u 4 x y z w = (Pl_mc u, Pl_lo u, Pl_lv u, Mt_add (Pl_mt u) x y z w, Pl_bu u, Pl_now u) := by
  unfold Pl_take
  rw [if_neg (by decide), if_neg (by decide), if_neg (by decide), if_neg (by decide), if_pos rfl]
theorem Pl_take_5 (u : PlS) (x y z w : Int) : Pl_take u 5 x y z w = (Pl_mc u, Pl_lo u, Pl_lv u, Mt_place (Pl_mt u) x y, Pl_bu u, Pl_now u) := by
  unfold Pl_take
  rw [if_neg (by decide), if_neg (by decide), if_neg (by decide), if_neg (by decide), if_neg (by decide), if_pos rfl]
theorem Pl_take_6 (u : PlS) (x y z w : Int) : Pl_take u 6 x y z w = (Pl_mc u, Pl_lo u, Pl_lv u, Mt_callOff (Pl_mt u) x, Pl_bu u, Pl_now u) := by
  unfold Pl_take
  rw [if_neg (by decide), if_neg (by decide), if_neg (by decide), if_neg (by decide), if_neg (by decide), if_neg (by decide), if_pos rfl]
theorem Pl_take_7 (u : PlS) (x y z w : Int) : Pl_take u 7 x y z w = (Pl_mc u, Pl_lo u, Pl_lv u, Mt_plsw (Pl_mt u) x y, Pl_bu u, Pl_now u) := by
  unfold Pl_take
  rw [if_neg (by decide), if_neg (by decide), if_neg (by decide), if_neg (by decide), if_neg (by decide), if_neg (by decide), if_neg (by decide), if_pos rfl]
theorem Pl_take_8 (u : PlS) (x y z w : Int) : Pl_take u 8 x y z w = (Pl_mc u, Pl_lo u, Pl_lv u, Pl_mt u, Bu_add (Pl_bu u) x y z, Pl_now u) := by
  unfold Pl_take
  rw [if_neg (by decide), if_neg (by decide), if_neg (by decide), if_neg (by decide), if_neg (by decide), if_neg (by decide), if_neg (by decide), if_neg (by decide), if_pos rfl]
theorem Pl_take_9 (u : PlS) (x y z w : Int) : Pl_take u 9 x y z w = (Pl_mc u, Pl_lo u, Pl_lv u, Pl_mt u, Bu_setU (Pl_bu u) x y, Pl_now u) := by
  unfold Pl_take
  rw [if_neg (by decide), if_neg (by decide), if_neg (by decide), if_neg (by decide), if_neg (by decide), if_neg (by decide), if_neg (by decide), if_neg (by decide), if_neg (by decide), if_pos rfl]
theorem Pl_e1_yes {u : PlS} {m : Int} (h1 : 0 ≤ Mc_ru (Pl_mc u) m ∧ Mc_ru (Pl_mc u) m < Bu_n (Pl_bu u)) (h2 : Bu_bg (Pl_bu u) (Mc_ru (Pl_mc u) m) + Bu_ln (Pl_bu u) (Mc_ru (Pl_mc u) m) ≤ Pl_now u) : Pl_e1 u m = (Mc_setR (Pl_mc u) (zU (Mc_ru (Pl_mc u)) m (-1)), Pl_lo u, Pl_lv u, Pl_mt u, (Bu_n (Pl_bu u), Bu_ne (Pl_bu u), Bu_ur (Pl_bu u), Bu_ln (Pl_bu u), zU (Bu_st (Pl_bu u)) (Mc_ru (Pl_mc u) m) 2, Bu_ma (Pl_bu u), Bu_bg (Pl_bu u), Bu_ti (Pl_bu u)), Pl_now u) := by rw [Pl_e1, if_pos ⟨h1, h2⟩]
theorem Pl_e1_no1 {u : PlS} {m : Int} (h : ¬ (0 ≤ Mc_ru (Pl_mc u) m ∧ Mc_ru (Pl_mc u) m < Bu_n (Pl_bu u))) : Pl_e1 u m = u := by rw [Pl_e1, if_neg (fun q => h q.1)]
theorem Pl_e1_no2 {u : PlS} {m : Int} (h : Pl_now u < Bu_bg (Pl_bu u) (Mc_ru (Pl_mc u) m) + Bu_ln (Pl_bu u) (Mc_ru (Pl_mc u) m)) : Pl_e1 u m = u := by rw [Pl_e1, if_neg (fun q => absurd q.2 (Int.not_le.mpr h))]
