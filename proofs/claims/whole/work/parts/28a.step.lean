/-! ===== a call of both: refused alike, answered alike, alike behind it ===== -/
def Agd (j : Nat) (c : String → Int) (cs : List (Prop × String)) (ms : List (Prop × Int)) (ans : Prop) (r2 : RiS) (u2 : MdS) : Prop := gz_cd c cs = gz_cm ms ∧ (gz_ok cs → ans ∧ RR (j + 1) r2 u2 ∧ Md_th u2 = 0)
theorem gz_c2_A : gz_c2 xIA = 2 := by rw [gz_c2, if_neg (by decide)]
/-! machine -/
theorem Mc_add_y {u : McS} {f o : Int} (h : Mc_n u < 6) : Mc_add u f o = (Mc_n u + 1, zU (Mc_fe u) (Mc_n u) f, zU (Mc_ow u) (Mc_n u) o, zU (Mc_bf u) (Mc_n u) 0, zU (Mc_bu u) (Mc_n u) 0, zU (Mc_ru u) (Mc_n u) (-1)) := by rw [Mc_add, if_pos h]
theorem Mc_R_add {c : McS} {m : MmS} {f o : Int} (h : Mc_R c m) (hn : Mc_n c < 6) : Mc_R (Mc_add c f o) (Mm_add m f o) := by
  obtain ⟨m1, m2, m3, m4, m5⟩ := h
  rw [Mc_add_y hn]
  refine ⟨?_, ?_, ?_, ?_, fun k k1 k2 => ?_⟩
  · show Mm_n m + 1 = Mc_n c + 1
    rw [m1]
  · show zU (Mm_fe m) (Mm_n m) f = zU (Mc_fe c) (Mc_n c) f
    rw [m1, m2]
  · show zU (Mm_ow m) (Mm_n m) o = zU (Mc_ow c) (Mc_n c) o
    rw [m1, m3]
  · show zU (Mm_bf m) (Mm_n m) 0 = zU (Mc_bf c) (Mc_n c) 0
    rw [m1, m4]
  · show zU (Mm_bt m) (Mm_n m) (-1) k = zU (Mc_bu c) (Mc_n c) 0 k - 1
    rw [m1]
    by_cases hk : k = Mc_n c
    · rw [hk, zU_s, zU_s]
      decide
    · rw [zU_n _ _ hk, zU_n _ _ hk]
      have k2' : k < Mc_n c + 1 := k2
      exact m5 k k1 (by omega)
theorem Mm_add_I {m : MmS} (h : MmI m) (hn : Mm_n m < 6) {f o : Int} (hf : zR2 f) (ho : 0 ≤ o ∧ o ≤ 9) : MmI (Mm_add m f o) := ⟨⟨by have h1 := h.1; show 0 ≤ Mm_n m + 1; omega, by show Mm_n m + 1 ≤ 6; omega⟩, fun k => ⟨zU_all (P := zR2) (fun k => (h.2 k).1) hf k, zU_all (P := fun y => 0 ≤ y ∧ y ≤ 9) (fun k => (h.2 k).2.1) ho k, zU_all (P := zR0) (fun k => (h.2 k).2.2.1) z0_0 k, zU_all (P := zR) (fun k => (h.2 k).2.2.2) (by decide) k⟩⟩
theorem J_mach {P : PlS} (hJ : Pl_J P) (h0 : 0 ≤ Pl_now P) {x y : Int} (hn : Mc_n (Pl_mc P) < 6) : Pl_J (Mc_add (Pl_mc P) x y, Pl_lo P, Pl_lv P, Pl_mt P, Pl_bu P, Pl_now P) := by
  rw [Mc_add_y hn]
  obtain ⟨j1, j2, j3, ⟨j4, j5⟩, j6, j7⟩ := hJ
  refine ⟨j1, j2, fun k g1 g2 => ?_, ⟨fun k g1 g2 => ?_, fun m g1 g2 => ?_⟩, j6, fun m g1 g2 => ?_⟩
  · have h := j3 k g1 g2
    refine ⟨h.1, ?_, h.2.2⟩
    rcases h.2.1 with q | q
    · exact Or.inl q
    · exact Or.inr ⟨q.1, by show Mt_ma (Pl_mt P) k < Mc_n (Pl_mc P) + 1; omega⟩
  · have h := j4 k g1 g2
    refine ⟨h.1, fun g3 => ?_⟩
    have h2 := h.2 g3
    refine ⟨⟨h2.1.1, by show Bu_ma (Pl_bu P) k < Mc_n (Pl_mc P) + 1; omega⟩, ?_⟩
    show zU (Mc_ru (Pl_mc P)) (Mc_n (Pl_mc P)) (-1) (Bu_ma (Pl_bu P) k) = k
    rw [zU_n _ _ (by omega)]
    exact h2.2
  · show zU (Mc_ru (Pl_mc P)) (Mc_n (Pl_mc P)) (-1) m = -1 ∨ (0 ≤ zU (Mc_ru (Pl_mc P)) (Mc_n (Pl_mc P)) (-1) m ∧ zU (Mc_ru (Pl_mc P)) (Mc_n (Pl_mc P)) (-1) m < Bu_n (Pl_bu P)) ∧ Bu_st (Pl_bu P) (zU (Mc_ru (Pl_mc P)) (Mc_n (Pl_mc P)) (-1) m) = 1 ∧ Bu_ma (Pl_bu P) (zU (Mc_ru (Pl_mc P)) (Mc_n (Pl_mc P)) (-1) m) = m
    by_cases hm : m = Mc_n (Pl_mc P)
    · rw [hm, zU_s]
      exact Or.inl rfl
    · rw [zU_n _ _ hm]
      have g2' : m < Mc_n (Pl_mc P) + 1 := g2
      exact j5 m g1 (by omega)
  · show zU (Mc_bf (Pl_mc P)) (Mc_n (Pl_mc P)) 0 m ≤ Pl_now P
    by_cases hm : m = Mc_n (Pl_mc P)
    · rw [hm, zU_s]
      exact h0
    · rw [zU_n _ _ hm]
      have g2' : m < Mc_n (Pl_mc P) + 1 := g2
      exact j7 m g1 (by omega)
theorem st_machine {j : Nat} {r : RiS} {u : MdS} (h : RR j r u) (hj : j < 512) (p0 p1 : Int) : Agd j gz_c3 (cd_machine r p0 p1) (md_machine u p0 p1) (Mc_n (Pl_mc (Ri_P r)) = Mm_n (Md_mm u) + 1 - 1) (Ri_tell r 0 p0 p1 0 0) (0, Md_now u, Md_aw u, Mm_add (Md_mm u) p0 p1, Md_lo u, Md_mt u, Md_sw u, Md_bu u) := by
  have h0 := h
  obtain ⟨hr, hu, ⟨s1, s2, s3, s4, s5, s6⟩, hJ, hRP, hW, hTn⟩ := h
  have hn := s3.1
  have hc := hr.1.1.1
  refine ⟨cdm gz_c3_O (by omega) fun _ => cdm gz_c3_A Iff.rfl fun _ => cdm gz_c3_S (by omega) fun _ => rfl, ?_⟩
  rintro ⟨k1, k2, k3, -⟩
  have k1 := Classical.not_not.mp k1
  have k2 := Classical.not_not.mp k2
  have k3 := Classical.not_not.mp k3
  refine ⟨by omega, RR_tell h0 hj (by decide) ⟨by omega, by omega⟩ ⟨by omega, by omega⟩ z0_0 z0_1 ?_ ?_ ?_ ?_, rfl⟩
  · exact ⟨hu.1, hu.2.1, Mm_add_I hu.2.2.1 (by omega) ⟨by omega, by omega⟩ ⟨by omega, by omega⟩, hu.2.2.2.1, hu.2.2.2.2.1, hu.2.2.2.2.2.1, hu.2.2.2.2.2.2⟩
  · rw [Pl_take_0]
    exact ⟨s1, s2, Mc_R_add s3 k3, s4, s5, s6⟩
  · rw [Pl_take_0]
    exact J_mach hJ hr.1.2.2.2.2.2.1 k3
  · rw [Pl_take_0]
    exact hW
/-! leave -/
theorem Lv_bits_bit {x : Nat} {f : Int} (hf : 0 ≤ f) (d : Nat) : ∀ k : Nat, (Lv_bits x f k).testBit d = true ↔ x.testBit d = true ∨ (f ≤ (d : Int) ∧ (d : Int) < f + (k : Int))
  | 0 => by
    show x.testBit d = true ↔ _
    exact ⟨Or.inl, fun h => h.elim id (fun q => by omega)⟩
  | k + 1 => by
    have ih := Lv_bits_bit (x := x) hf d k
    show (Lv_bits x f k ||| 2 ^ (f + (k : Int)).toNat).testBit d = true ↔ _
    rw [Nat.testBit_or, Bool.or_eq_true, ih, Nat.testBit_two_pow, decide_eq_true_iff]
    constructor
    · rintro ((q | q) | q)
      · exact Or.inl q
      · exact Or.inr ⟨q.1, by omega⟩
      · exact Or.inr ⟨by omega, by omega⟩
    · rintro (q | q)
      · exact Or.inl (Or.inl q)
      · by_cases hk : (d : Int) < f + (k : Int)
        · exact Or.inl (Or.inr ⟨q.1, hk⟩)
        · exact Or.inr (by omega)
theorem Lv_R_add {f : LvS} {a : Int → Int} (h : Lv_R f a) {q x y : Int} (hq : 0 ≤ q ∧ q < 10) (hx : 0 ≤ x) (hxy : x ≤ y) (hy : y ≤ 49) : Lv_R (Lv_add f q x y) (Aw_add a q x (y + 1)) := by
  intro p d p1 p2 d1 d2
  have h1 := h p d p1 p2 d1 d2
  rw [Lv_add, if_pos hq, show min (y + 1) 50 = y + 1 by omega]
  show (Lv_put f q (Lv_bits (f q) x (y + 1 - x).toNat) p).testBit d.toNat = true ↔ (if 50 * q + x ≤ 50 * p + d ∧ 50 * p + d < 50 * q + (y + 1) then 1 else a (50 * p + d)) ≠ 0
  unfold Lv_put
  by_cases hp : p = q
  · subst hp
    rw [if_pos rfl, Lv_bits_bit hx, h1]
    by_cases hc : 50 * p + x ≤ 50 * p + d ∧ 50 * p + d < 50 * p + (y + 1)
    · rw [if_pos hc]
      exact ⟨fun _ => by decide, fun _ => Or.inr ⟨by omega, by omega⟩⟩
    · rw [if_neg hc]
      exact ⟨fun k => k.resolve_right (fun z => hc ⟨by omega, by omega⟩), Or.inl⟩
  · rw [if_neg hp, if_neg (by omega), h1]
theorem Aw_add_I {a : Int → Int} (h : ∀ k, 0 ≤ a k ∧ a k ≤ 1) (q x n : Int) : ∀ k, 0 ≤ Aw_add a q x n k ∧ Aw_add a q x n k ≤ 1 := fun k => by
  have h1 := h k
  unfold Aw_add
  split <;> omega
theorem J_same {P : PlS} (hJ : Pl_J P) (L : LoS) (V : LvS) : Pl_J (Pl_mc P, L, V, Pl_mt P, Pl_bu P, Pl_now P) := ⟨hJ.1, hJ.2.1, hJ.2.2.1, ⟨hJ.2.2.2.1.1, hJ.2.2.2.1.2⟩, hJ.2.2.2.2.1, hJ.2.2.2.2.2⟩
theorem st_leave {j : Nat} {r : RiS} {u : MdS} (h : RR j r u) (hj : j < 512) (p0 p1 p2 : Int) : Agd j gz_c3 (cd_leave r p0 p1 p2) (md_leave u p0 p1 p2) True (Ri_tell r 1 p0 p1 p2 0) (0, Md_now u, Aw_add (Md_aw u) p0 p1 (p2 + 1), Md_mm u, Md_lo u, Md_mt u, Md_sw u, Md_bu u) := by
  have h0 := h
  obtain ⟨hr, hu, ⟨s1, s2, s3, s4, s5, s6⟩, hJ, hRP, hW, hTn⟩ := h
  have hnow := hr.1.2.2.2.2.2
  refine ⟨cdm gz_c3_O (by omega) fun a1 => cdm2 gz_c3_A (by omega) fun a2 a3 => cdm gz_c3_S ?_ fun _ => rfl, ?_⟩
  · have a3 := Classical.not_not.mp a3
    rw [Mt_busy_x (Pl_J_L hJ) (by omega)]
    constructor
    · rintro ⟨x, x1, x2, x3⟩
      exact ⟨x, x1, by omega, by rw [s5]; exact x3⟩
    · rintro ⟨x, x1, x2, x3⟩
      exact ⟨x, x1, by omega, by rw [s5] at x3; exact x3⟩
  rintro ⟨k1, k2, k3, k4, -⟩
  have k1 := Classical.not_not.mp k1
  have k2 := Classical.not_not.mp k2
  have k3 := Classical.not_not.mp k3
  refine ⟨trivial, RR_tell h0 hj (by decide) ⟨by omega, by omega⟩ ⟨by omega, by omega⟩ ⟨by omega, by omega⟩ z0_1 ?_ ?_ ?_ ?_, rfl⟩
  · exact ⟨hu.1, Aw_add_I hu.2.1 _ _ _, hu.2.2⟩
  · rw [Pl_take_1]
    exact ⟨s1, Lv_R_add s2 k1 (by omega) k3.1 k3.2, s3, s4, s5, s6⟩
  · rw [Pl_take_1]
    exact J_same hJ _ _
  · rw [Pl_take_1]
    exact hW
/-! lend -/
theorem Lo_addM_I {u : LoS} (h : LmI u) (hn : Lo_n u < 20) {m p f t : Int} (hm : zR2 m) (hp : 0 ≤ p ∧ p ≤ 9) (hf : zR f) (ht : zR t) : LmI (Lo_addM u m p f t) := ⟨⟨by have h1 := h.1; show 0 ≤ Lo_n u + 1; omega, by show Lo_n u + 1 ≤ 20; omega⟩, fun k => ⟨zU_all (P := zR2) (fun k => (h.2 k).1) hm k, zU_all (P := fun y => 0 ≤ y ∧ y ≤ 9) (fun k => (h.2 k).2.1) hp k, zU_all (P := zR) (fun k => (h.2 k).2.2.1) hf k, zU_all (P := zR) (fun k => (h.2 k).2.2.2) ht k⟩⟩
theorem st_lend {j : Nat} {r : RiS} {u : MdS} (h : RR j r u) (hj : j < 512) (p0 p1 p2 p3 : Int) : Agd j gz_c3 (cd_lend r p0 p1 p2 p3) (md_lend u p0 p1 p2 p3) True (Ri_tell r 2 p0 p1 p2 p3) (0, Md_now u, Md_aw u, Md_mm u, Lo_addM (Md_lo u) p0 p1 p2 p3, Md_mt u, Md_sw u, Md_bu u) := by
  have h0 := h
  obtain ⟨hr, hu, ⟨s1, s2, s3, s4, s5, s6⟩, hJ, hRP, hW, hTn⟩ := h
  have hnow := hr.1.2.2.2.2.2
  have hn := s3.1
  have hc := hr.1.1.1
  have hl := hr.1.2.1.1
  have hln : Lo_n (Md_lo u) = Lo_n (Pl_lo (Ri_P r)) := by rw [s4]
  refine ⟨cdm2 gz_c3_O (by omega) fun a1 a2 => cdm2 gz_c3_A (by omega) fun a3 a4 => cdm gz_c3_S (by omega) fun _ => rfl, ?_⟩
  rintro ⟨k1, k2, k3, k4, k5, -⟩
  have k1 := Classical.not_not.mp k1
  have k2 := Classical.not_not.mp k2
  have k3 := Classical.not_not.mp k3
  have k4 := Classical.not_not.mp k4
  have k5 := Classical.not_not.mp k5
  refine ⟨trivial, RR_tell h0 hj (by decide) ⟨by omega, by omega⟩ ⟨by omega, by omega⟩ ⟨by omega, by omega⟩ ⟨by omega, by omega⟩ ?_ ?_ ?_ ?_, rfl⟩
  · exact ⟨hu.1, hu.2.1, hu.2.2.1, Lo_addM_I hu.2.2.2.1 (by omega) ⟨by omega, by omega⟩ ⟨by omega, by omega⟩ ⟨by omega, by omega⟩ ⟨by omega, by omega⟩, hu.2.2.2.2⟩
  · rw [Pl_take_2]
    refine ⟨s1, s2, s3, ?_, s5, s6⟩
    show Lo_addM (Md_lo u) p0 p1 p2 p3 = Lo_add (Pl_lo (Ri_P r)) p0 p1 p2 p3
    rw [Lo_add, if_pos k5, s4]
  · rw [Pl_take_2]
    exact J_same hJ _ _
  · rw [Pl_take_2]
    exact hW
/-! breakDown -/
theorem fnd_ru {P : PlS} (h : Pl_RU P) {m : Int} (hm : 0 ≤ m ∧ m < Mc_n (Pl_mc P)) : ∀ N : Nat, (N : Int) ≤ Bu_n (Pl_bu P) → Bu_fndN (Pl_bu P) m N = if 0 ≤ Mc_ru (Pl_mc P) m ∧ Mc_ru (Pl_mc P) m < (N : Int) then Mc_ru (Pl_mc P) m else -1
  | 0, _ => by
    rw [if_neg (by omega)]
    rfl
  | N + 1, hN => by
    have ih := fnd_ru h hm N (by omega)
    have e : Bu_fndN (Pl_bu P) m (N + 1) = if Bu_st (Pl_bu P) (N : Int) = 1 ∧ Bu_ma (Pl_bu P) (N : Int) = m then (N : Int) else Bu_fndN (Pl_bu P) m N := rfl
    rw [e, ih]
    have h2 := h.2 m hm.1 hm.2
    by_cases hc : Bu_st (Pl_bu P) (N : Int) = 1 ∧ Bu_ma (Pl_bu P) (N : Int) = m
    · have h3 := ((h.1 (N : Int) (by omega) (by omega)).2 hc.1).2
      rw [hc.2] at h3
      rw [if_pos hc, if_pos (by omega), h3]
    · rw [if_neg hc]
      have h4 : Mc_ru (Pl_mc P) m ≠ (N : Int) := by
        intro q
        rcases h2 with h2 | ⟨-, h2, h3⟩
        · omega
        · rw [q] at h2 h3
          exact hc ⟨h2, h3⟩
      by_cases h5 : 0 ≤ Mc_ru (Pl_mc P) m ∧ Mc_ru (Pl_mc P) m < (N : Int)
      · rw [if_pos h5, if_pos (by omega)]
      · rw [if_neg h5, if_neg (by omega)]
theorem Sim_fnd {P : PlS} {u : MdS} (hS : Sim P u) (h : Pl_RU P) (hb : 0 ≤ Bu_n (Pl_bu P)) {m : Int} (hm : 0 ≤ m ∧ m < Mc_n (Pl_mc P)) (x : Int) : Md_fnd u m x = if 0 < x then Mc_ru (Pl_mc P) m else -1 := by
  unfold Md_fnd
  rw [hS.2.2.2.2.2, fnd_ru h hm _ (by omega)]
  have h2 := h.2 m hm.1 hm.2
  by_cases hx : 0 < x
  · rw [if_pos hx, if_pos hx]
    by_cases h3 : 0 ≤ Mc_ru (Pl_mc P) m ∧ Mc_ru (Pl_mc P) m < ((Bu_n (Pl_bu P)).toNat : Int)
    · rw [if_pos h3]
    · rw [if_neg h3]
      rcases h2 with h2 | h2
      · exact h2.symm
      · omega
  · rw [if_neg hx, if_neg hx]
theorem Bu_unq_enq {u : BuS} {k : Int} (h : k = -1 ∨ (0 ≤ k ∧ k < Bu_n u)) : Bu_unq u k = Bu_enq u k := by
  rcases h with h | h
  · rw [Bu_unq_n h, Bu_enq, if_neg (by omega)]
  · rw [Bu_unq_y (by omega), Bu_enq, if_pos h]
theorem Mc_R_brk {c : McS} {d : MmS} (h : Mc_R c d) (m w x : Int) (g : Int → Int) : Mc_R (Mc_n c, Mc_fe c, Mc_ow c, zU (Mc_bf c) m w, zU (Mc_bu c) m (w + x), g) (Mm_n d, Mm_fe d, Mm_ow d, zU (Mm_bf d) m w, zU (Mm_bt d) m (w + x - 1)) := by
  obtain ⟨h1, h2, h3, h4, h5⟩ := h
  refine ⟨h1, h2, h3, ?_, fun k k1 k2 => ?_⟩
  · show zU (Mm_bf d) m w = zU (Mc_bf c) m w
    rw [h4]
  · show zU (Mm_bt d) m (w + x - 1) k = zU (Mc_bu c) m (w + x) k - 1
    by_cases hk : k = m
    · rw [hk, zU_s, zU_s]
    · rw [zU_n _ _ hk, zU_n _ _ hk]
      exact h5 k k1 k2
theorem J_bf {P : PlS} (hJ : Pl_J P) (m : Int) (g : Int → Int) : Pl_J ((Mc_n (Pl_mc P), Mc_fe (Pl_mc P), Mc_ow (Pl_mc P), zU (Mc_bf (Pl_mc P)) m (Pl_now P), g, Mc_ru (Pl_mc P)), Pl_lo P, Pl_lv P, Pl_mt P, Pl_bu P, Pl_now P) := by
  obtain ⟨j1, j2, j3, ⟨j4, j5⟩, j6, j7⟩ := hJ
  refine ⟨j1, j2, j3, ⟨j4, j5⟩, j6, fun k g1 g2 => ?_⟩
  show zU (Mc_bf (Pl_mc P)) m (Pl_now P) k ≤ Pl_now P
  by_cases hk : k = m
  · rw [hk, zU_s]
    exact Int.le_refl _
  · rw [zU_n _ _ hk]
    exact j7 k g1 g2
theorem J_brk {P : PlS} (hJ : Pl_J P) {m K : Int} (hm : 0 ≤ m ∧ m < Mc_n (Pl_mc P)) (hK : Mc_ru (Pl_mc P) m = K) (g : Int → Int) : Pl_J ((Mc_n (Pl_mc P), Mc_fe (Pl_mc P), Mc_ow (Pl_mc P), zU (Mc_bf (Pl_mc P)) m (Pl_now P), g, zU (Mc_ru (Pl_mc P)) m (-1)), Pl_lo P, Pl_lv P, Pl_mt P, Bu_enq (Pl_bu P) K, Pl_now P) := by
  have hB := J_bf hJ m g
  obtain ⟨j1, j2, j3, ⟨j4, j5⟩, j6, j7⟩ := hJ
  have e := j5 m hm.1 hm.2
  rw [hK] at e
  rcases e with e | ⟨e1, e2, e3⟩
  · rw [show Bu_enq (Pl_bu P) K = Pl_bu P by rw [Bu_enq, if_neg (by omega)], zU_id (f := Mc_ru (Pl_mc P)) (j := m) (x := -1) (by omega)]
    exact hB
  · rw [Bu_enq, if_pos e1]
    refine ⟨j1, fun k q => ?_, j3, ⟨fun k g1 g2 => ?_, fun m2 g1 g2 => ?_⟩, fun k g1 g2 g3 => ?_, hB.2.2.2.2.2⟩
    · show zU (Bu_st (Pl_bu P)) K 0 k = 0 ∧ Bu_ti (Pl_bu P) k = 0
      have q' : Bu_n (Pl_bu P) ≤ k := q
      rw [zU_n _ _ (by omega)]
      exact j2 k q
    · refine ⟨(j4 k g1 g2).1, ?_⟩
      show zU (Bu_st (Pl_bu P)) K 0 k = 1 → (0 ≤ zU (Bu_ma (Pl_bu P)) K (-1) k ∧ zU (Bu_ma (Pl_bu P)) K (-1) k < Mc_n (Pl_mc P)) ∧ zU (Mc_ru (Pl_mc P)) m (-1) (zU (Bu_ma (Pl_bu P)) K (-1) k) = k
      by_cases hk : k = K
      · rw [hk, zU_s]
        intro q
        exact absurd q (by decide)
      · rw [zU_n _ _ hk, zU_n _ _ hk]
        intro q
        have h2 := (j4 k g1 g2).2 q
        refine ⟨h2.1, ?_⟩
        rw [zU_n _ _ (fun z => by rw [z] at h2; omega)]
        exact h2.2
    · show zU (Mc_ru (Pl_mc P)) m (-1) m2 = -1 ∨ (0 ≤ zU (Mc_ru (Pl_mc P)) m (-1) m2 ∧ zU (Mc_ru (Pl_mc P)) m (-1) m2 < Bu_n (Pl_bu P)) ∧ zU (Bu_st (Pl_bu P)) K 0 (zU (Mc_ru (Pl_mc P)) m (-1) m2) = 1 ∧ zU (Bu_ma (Pl_bu P)) K (-1) (zU (Mc_ru (Pl_mc P)) m (-1) m2) = m2
      by_cases hk : m2 = m
      · rw [hk, zU_s]
        exact Or.inl rfl
      · rw [zU_n _ _ hk]
        rcases j5 m2 g1 g2 with q | ⟨q1, q2, q3⟩
        · exact Or.inl q
        · have hne : Mc_ru (Pl_mc P) m2 ≠ K := fun z => by rw [z] at q3; omega
          rw [zU_n _ _ hne, zU_n _ _ hne]
          exact Or.inr ⟨q1, q2, q3⟩
    · revert g3
      show zU (Bu_st (Pl_bu P)) K 0 k = 1 → zU (Bu_bg (Pl_bu P)) K (-1) k ≤ Pl_now P ∧ Pl_now P < zU (Bu_bg (Pl_bu P)) K (-1) k + Bu_ln (Pl_bu P) k
      by_cases hk : k = K
      · rw [hk, zU_s]
        intro q
        exact absurd q (by decide)
      · rw [zU_n _ _ hk, zU_n _ _ hk]
        exact j6 k g1 g2
theorem Mm_brk_I {d : MmS} (h : MmI d) {m w y : Int} (hw : zR0 w) (hy : zR y) : MmI (Mm_n d, Mm_fe d, Mm_ow d, zU (Mm_bf d) m w, zU (Mm_bt d) m y) := ⟨h.1, fun k => ⟨(h.2 k).1, (h.2 k).2.1, zU_all (P := zR0) (fun k => (h.2 k).2.2.1) hw k, zU_all (P := zR) (fun k => (h.2 k).2.2.2) hy k⟩⟩
theorem st_breakDown {j : Nat} {r : RiS} {u : MdS} (h : RR j r u) (hj : j < 512) (p0 p1 : Int) : Agd j gz_c2 (cd_breakDown r p0 p1) (md_breakDown u p0 p1) ((if 0 < p1 then Mc_ru (Pl_mc (Ri_P r)) p0 else -1) = Md_fnd u p0 p1) (Ri_tell r 3 p0 p1 0 0) (Md_brk u p0 p1) := by
  have h0 := h
  obtain ⟨hr, hu, hS, hJ, hRP, hW, hTn⟩ := h
  obtain ⟨s1, s2, s3, s4, s5, s6⟩ := id hS
  have hnow := hr.1.2.2.2.2.2
  have hn := s3.1
  have hc := hr.1.1.1
  have hb := hr.1.2.2.2.2.1.1
  refine ⟨cdm gz_c2_O (by omega) fun a1 => cdm gz_c2_A Iff.rfl fun _ => rfl, ?_⟩
  rintro ⟨k1, k2, -⟩
  have k1 := Classical.not_not.mp k1
  have k2 := Classical.not_not.mp k2
  have hf := Sim_fnd hS hJ.2.2.2.1 hb.1 k1 p1
  have hv := hJ.2.2.2.1.2 p0 k1.1 k1.2
  have hbn : Bu_n (Md_bu u) = Bu_n (Pl_bu (Ri_P r)) := by rw [s6]
  have hq : Bu_unq (Md_bu u) (Md_fnd u p0 p1) = Bu_enq (Md_bu u) (Md_fnd u p0 p1) := Bu_unq_enq (by
    rw [hf, hbn]
    by_cases hx : 0 < p1
    · rw [if_pos hx]
      rcases hv with hv | hv
      · exact Or.inl hv
      · exact Or.inr hv.1
    · rw [if_neg hx]
      exact Or.inl rfl)
  have eM : Md_brk u p0 p1 = (0, Md_now u, Md_aw u, (Mm_n (Md_mm u), Mm_fe (Md_mm u), Mm_ow (Md_mm u), zU (Mm_bf (Md_mm u)) p0 (Md_now u), zU (Mm_bt (Md_mm u)) p0 (Md_now u + p1 - 1)), Md_lo u, Md_mt u, Md_sw u, Bu_enq (Md_bu u) (Md_fnd u p0 p1)) := by
    show (0, Md_now u, Md_aw u, (_, _, _, _, _), Md_lo u, Md_mt u, Md_sw u, Bu_unq (Md_bu u) (Md_fnd u p0 p1)) = _
    rw [hq]
  rw [eM]
  refine ⟨hf.symm, RR_tell h0 hj (by decide) ⟨by omega, by omega⟩ ⟨by omega, by omega⟩ z0_0 z0_1 ?_ ?_ ?_ ?_, rfl⟩
  · exact ⟨hu.1, hu.2.1, Mm_brk_I hu.2.2.1 ⟨by omega, by omega⟩ ⟨by omega, by omega⟩, hu.2.2.2.1, hu.2.2.2.2.1, hu.2.2.2.2.2.1, Bu_enq_I hu.2.2.2.2.2.2⟩
  · rw [Pl_take_3, Pl_brkn, if_pos k1]
    by_cases hx : 0 < p1
    · rw [if_pos hx]
      rw [if_pos hx] at hf
      refine ⟨s1, s2, ?_, s4, s5, ?_⟩
      · show Mc_R _ (_, _, _, zU (Mm_bf (Md_mm u)) p0 (Md_now u), zU (Mm_bt (Md_mm u)) p0 (Md_now u + p1 - 1))
        rw [s1]
        exact Mc_R_brk s3 _ _ _ _
      · show Bu_enq (Md_bu u) (Md_fnd u p0 p1) = Bu_enq (Pl_bu (Ri_P r)) (Mc_ru (Pl_mc (Ri_P r)) p0)
        rw [hf, s6]
    · rw [if_neg hx]
      rw [if_neg hx] at hf
      refine ⟨s1, s2, ?_, s4, s5, ?_⟩
      · show Mc_R _ (_, _, _, zU (Mm_bf (Md_mm u)) p0 (Md_now u), zU (Mm_bt (Md_mm u)) p0 (Md_now u + p1 - 1))
        rw [s1]
        exact Mc_R_brk s3 _ _ _ _
      · show Bu_enq (Md_bu u) (Md_fnd u p0 p1) = Pl_bu (Ri_P r)
        rw [hf, s6, Bu_enq, if_neg (by omega)]
  · rw [Pl_take_3, Pl_brkn, if_pos k1]
    by_cases hx : 0 < p1
    · rw [if_pos hx]
      exact J_brk hJ k1 rfl _
    · rw [if_neg hx]
      exact J_bf hJ _ _
  · have e : Mt_n (Pl_mt (Pl_take (Ri_P r) 3 p0 p1 0 0)) = Mt_n (Pl_mt (Ri_P r)) := by
      rw [Pl_take_3, Pl_brkn, if_pos k1]
      by_cases hx : 0 < p1
      · rw [if_pos hx]
      · rw [if_neg hx]
    rw [e]
    exact hW
