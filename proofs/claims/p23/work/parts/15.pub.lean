/-! ===== what the public methods of the class do ===== -/
/-- where no check fails: this answer, this world -/
def gz_pO (cs : List (Prop × String)) (v0 : Option Value) (W2 : va_W) : Option Value → va_W → Prop := fun v W1 => gz_ok cs ∧ v = v0 ∧ W1 = W2
abbrev Ri_setS (r : RiS) (S : SwS) : RiS := (Ri_P r, Ri_A r, Ri_T r, S)
abbrev Sw_setAg (u : SwS) (f : Int → Int) : SwS := (Sw_n u, Sw_me u, Sw_mm u, Sw_ot u, Sw_om u, f, Sw_st u)
abbrev Ri_st (r : RiS) (k x : Int) : RiS := Ri_setS r (Sw_setSt (Ri_S r) (zU (Sw_st (Ri_S r)) k x))
noncomputable def Ri_settle (r : RiS) (k : Int) : RiS := @ite _ (Pl_swp (Ri_P r) (Sw_me (Ri_S r) k) (Sw_ot (Ri_S r) k)) (Classical.propDecidable _) (Ri_st (Ri_tell r 7 (Sw_me (Ri_S r) k) (Sw_ot (Ri_S r) k) 0 0) k 1) (Ri_st r k 2)
theorem Ri_settle_y {r : RiS} {k : Int} (h : Pl_swp (Ri_P r) (Sw_me (Ri_S r) k) (Sw_ot (Ri_S r) k)) : Ri_settle r k = Ri_st (Ri_tell r 7 (Sw_me (Ri_S r) k) (Sw_ot (Ri_S r) k) 0 0) k 1 := by rw [Ri_settle, if_pos h]
theorem Ri_settle_n {r : RiS} {k : Int} (h : ¬ Pl_swp (Ri_P r) (Sw_me (Ri_S r) k) (Sw_ot (Ri_S r) k)) : Ri_settle r k = Ri_st r k 2 := by rw [Ri_settle, if_neg h]
def Ri_all (r : RiS) (k : Int) : Int := zor (Mt_peof (Pl_mt (Ri_P r)) (Sw_me (Ri_S r) k)) (Mt_peof (Pl_mt (Ri_P r)) (Sw_ot (Ri_S r) k))
def Ri_ag (r : RiS) (p k : Int) : RiS := Ri_setS r (Sw_setAg (Ri_S r) (zU (Sw_ag (Ri_S r)) k (zor (Sw_ag (Ri_S r) k) ((2 ^ p.toNat : Nat) : Int))))
noncomputable def Ri_agr (r : RiS) (p k : Int) : RiS := @ite _ (Ri_holds (Ri_ag r p k) k) (Classical.propDecidable _) (if Sw_ag (Ri_S (Ri_ag r p k)) k = Ri_all r k then Ri_settle (Ri_ag r p k) k else Ri_ag r p k) (Ri_st (Ri_ag r p k) k 2)
theorem Ri_agr_0 {r : RiS} {p k : Int} (h : ¬ Ri_holds (Ri_ag r p k) k) : Ri_agr r p k = Ri_st (Ri_ag r p k) k 2 := by rw [Ri_agr, if_neg h]
theorem Ri_agr_1 {r : RiS} {p k : Int} (h : Ri_holds (Ri_ag r p k) k) (h2 : Sw_ag (Ri_S (Ri_ag r p k)) k = Ri_all r k) : Ri_agr r p k = Ri_settle (Ri_ag r p k) k := by rw [Ri_agr, if_pos h, if_pos h2]
theorem Ri_agr_2 {r : RiS} {p k : Int} (h : Ri_holds (Ri_ag r p k) k) (h2 : ¬ Sw_ag (Ri_S (Ri_ag r p k)) k = Ri_all r k) : Ri_agr r p k = Ri_ag r p k := by rw [Ri_agr, if_pos h, if_neg h2]
theorem Mt_peof_r {u : MtS} (hu : MtI u) (k : Int) : 0 ≤ Mt_peof u k ∧ Mt_peof u k ≤ 1023 := by
  unfold Mt_peof
  split
  · exact (hu.2 k).1
  · decide
theorem Ri_ag_I {r : RiS} (hr : RiI r) {p k : Int} (hp : 0 ≤ p ∧ p < 10) : RiI (Ri_ag r p k) := ⟨hr.1, hr.2.1, hr.2.2.1, ⟨hr.2.2.2.1, fun j => ⟨(hr.2.2.2.2 j).1, (hr.2.2.2.2 j).2.1, zU_all (P := zR2) (fun k => (hr.2.2.2.2 k).2.2.1) (zor_r (hr.2.2.2.2 k).2.2.1 (pow_r hp)) j, (hr.2.2.2.2 j).2.2.2⟩⟩⟩
/-- the sign of a slot -/
noncomputable def Pl_sgn (u : PlS) (m s : Int) : Int := @ite _ (Mt_prom (Pl_mt u) (Mt_n (Pl_mt u)) m s 1 (-1)) (Classical.propDecidable _) 77 (@ite _ (Pl_runs u m s 1) (Classical.propDecidable _) 66 (@ite _ (Mc_brk (Pl_mc u) m s 1) (Classical.propDecidable _) 55357 46))
theorem Pl_sgn_of {u : PlS} {m s r : Int} (h : Pl_sign u m s r) : r = Pl_sgn u m s := by
  unfold Pl_sgn
  rcases h with ⟨h1, h⟩ | ⟨h1, h2, h⟩ | ⟨h1, h2, h3, h⟩ | ⟨h1, h2, h3, h⟩
  · rw [if_pos h1, h]
  · rw [if_neg h1, if_pos h2, h]
  · rw [if_neg h1, if_neg h2, if_pos h3, h]
  · rw [if_neg h1, if_neg h2, if_neg h3, h]
theorem Pl_sgn_r {u : PlS} {m s r : Int} (h : Pl_sign u m s r) : r = 77 ∨ r = 66 ∨ r = 55357 ∨ r = 46 := by
  rcases h with ⟨h1, h⟩ | ⟨h1, h2, h⟩ | ⟨h1, h2, h3, h⟩ | ⟨h1, h2, h3, h⟩
  · exact Or.inl h
  · exact Or.inr (Or.inl h)
  · exact Or.inr (Or.inr (Or.inl h))
  · exact Or.inr (Or.inr (Or.inr h))
theorem gz_narC {r : Int} (h : r = 77 ∨ r = 66 ∨ r = 55357 ∨ r = 46) : narrow .char (vI r) = vI r := by
  rcases h with rfl | rfl | rfl | rfl <;> rfl
/-- the char at a place, of the signs n-1 .. 0 -/
def Dy (sg : Int → Int) (x : Int) : Nat → Int → Int
  | 0, _ => 0
  | n + 1, pl => if pl = x then sg (n : Int) else if sg (n : Int) = 55357 then (if pl + 1 = x then 56615 else Dy sg x n (pl + 1 + 1)) else Dy sg x n (pl + 1)
theorem Dy_s (sg : Int → Int) (x : Int) {i : Int} (hi : 0 ≤ i) (pl : Int) : Dy sg x (i + 1).toNat pl = if pl = x then sg i else if sg i = 55357 then (if pl + 1 = x then 56615 else Dy sg x (i + -1 + 1).toNat (pl + 1 + 1)) else Dy sg x (i + -1 + 1).toNat (pl + 1) := by
  rw [show (i + 1).toNat = i.toNat + 1 by omega, show (i + -1 + 1).toNat = i.toNat by omega]
  show (if pl = x then sg (i.toNat : Int) else _) = _
  rw [Int.toNat_of_nonneg hi]
noncomputable def Ri_dy (r : RiS) (m d : Int) : Int → Int := fun k => Pl_sgn (Ri_P r) m (d * 8 + k)
theorem Ri_ahead_k {u : PlS} {k : Int} (h : Pl_ahead u k) : 0 ≤ k ∧ k < Mt_n (Pl_mt u) := h.1
