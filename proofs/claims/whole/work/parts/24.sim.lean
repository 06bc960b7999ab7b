/-! ===== the plan and the model stand alike ===== -/
def Lv_R (f : LvS) (a : Int → Int) : Prop := ∀ q d : Int, 0 ≤ q → q < 10 → 0 ≤ d → d < 50 → ((f q).testBit d.toNat = true ↔ a (50 * q + d) ≠ 0)
def Mc_R (c : McS) (m : MmS) : Prop := Mm_n m = Mc_n c ∧ Mm_fe m = Mc_fe c ∧ Mm_ow m = Mc_ow c ∧ Mm_bf m = Mc_bf c ∧ ∀ k, 0 ≤ k → k < Mc_n c → Mm_bt m k = Mc_bu c k - 1
def Sim (P : PlS) (u : MdS) : Prop := Md_now u = Pl_now P ∧ Lv_R (Pl_lv P) (Md_aw u) ∧ Mc_R (Pl_mc P) (Md_mm u) ∧ Md_lo u = Pl_lo P ∧ Md_mt u = Pl_mt P ∧ Md_bu u = Pl_bu P
/-- meetings' lengths -/
def Mt_L (u : MtS) : Prop := ∀ k, 0 ≤ k → k < Mt_n u → 1 ≤ Mt_ln u k
/-- what runs on a machine, and the machine on which a build runs -/
def Pl_RU (P : PlS) : Prop := (∀ k, 0 ≤ k → k < Bu_n (Pl_bu P) → (1 ≤ Bu_ln (Pl_bu P) k ∧ Bu_ln (Pl_bu P) k ≤ 6) ∧ (Bu_st (Pl_bu P) k = 1 → (0 ≤ Bu_ma (Pl_bu P) k ∧ Bu_ma (Pl_bu P) k < Mc_n (Pl_mc P)) ∧ Mc_ru (Pl_mc P) (Bu_ma (Pl_bu P) k) = k)) ∧
  ∀ m, 0 ≤ m → m < Mc_n (Pl_mc P) → Mc_ru (Pl_mc P) m = -1 ∨ (0 ≤ Mc_ru (Pl_mc P) m ∧ Mc_ru (Pl_mc P) m < Bu_n (Pl_bu P)) ∧ Bu_st (Pl_bu P) (Mc_ru (Pl_mc P) m) = 1 ∧ Bu_ma (Pl_bu P) (Mc_ru (Pl_mc P) m) = m
theorem Sim_off {f : LvS} {a : Int → Int} (h : Lv_R f a) {q s : Int} (hq : 0 ≤ q ∧ q ≤ 9) (hs : 0 ≤ s ∧ s < 400) : Lv_off f q s ↔ Aw_off a q s := by
  have h1 := h q (s / 8) hq.1 (by omega) (by omega) (by omega)
  constructor
  · intro h2
    exact ⟨hs.2, h1.mp h2.2.2⟩
  · intro h2
    exact ⟨hq.1, by omega, h1.mpr h2.2⟩
theorem Sim_brk {c : McS} {m : MmS} (h : Mc_R c m) {k s : Int} (hk : 0 ≤ k ∧ k < Mc_n c) : Mc_brk c k s 1 ↔ Mm_brk m k s := by
  obtain ⟨h1, h2, h3, h4, h5⟩ := h
  have h6 := h5 k hk.1 hk.2
  unfold Mc_brk Mm_brk
  rw [h4, h6]
  constructor
  · rintro ⟨-, h7, h8, h9⟩
    omega
  · intro h7
    exact ⟨hk, by omega, by omega, by omega⟩
theorem Sim_on {P : PlS} (h : Pl_RU P) {m s : Int} (hm : 0 ≤ m ∧ m < Mc_n (Pl_mc P)) : Pl_runs P m s 1 ↔ Bu_on (Pl_bu P) (Bu_n (Pl_bu P)) m s := by
  constructor
  · rintro ⟨-, h1, h2, h3⟩
    rcases h.2 m hm.1 hm.2 with h4 | ⟨h4, h5, h6⟩
    · omega
    · exact ⟨_, h1.1, h1.2, h5, h6, by omega, by omega⟩
  · rintro ⟨k, h1, h2, h3, h4, h5, h6⟩
    have h7 := ((h.1 k h1 h2).2 h3).2
    rw [h4] at h7
    refine ⟨hm, ?_⟩
    rw [h7]
    exact ⟨⟨h1, h2⟩, by omega, by omega⟩
/-- two stretches meet where they share a slot -/
theorem ovl_x {a l s n : Int} (hl : 1 ≤ l) (hn : 1 ≤ n) : ovl a l s n ↔ ∃ x, s ≤ x ∧ x < s + n ∧ ovl a l x 1 := by
  constructor
  · rintro ⟨h1, h2⟩
    by_cases h : a ≤ s
    · exact ⟨s, by omega, by omega, by omega, by omega⟩
    · exact ⟨a, by omega, by omega, by omega, by omega⟩
  · rintro ⟨x, h1, h2, h3, h4⟩
    exact ⟨by omega, by omega⟩
theorem Mt_prom_x {u : MtS} (hL : Mt_L u) {m s n ex : Int} (hn : 1 ≤ n) : Mt_prom u (Mt_n u) m s n ex ↔ ∃ x, s ≤ x ∧ x < s + n ∧ Mt_prom u (Mt_n u) m x 1 ex := by
  constructor
  · rintro ⟨k, h1, h2, h3, h4, h5, h6⟩
    obtain ⟨x, g1, g2, g3⟩ := (ovl_x (hL k h1 h2) hn).mp h6
    exact ⟨x, g1, g2, k, h1, h2, h3, h4, h5, g3⟩
  · rintro ⟨x, g1, g2, k, h1, h2, h3, h4, h5, h6⟩
    exact ⟨k, h1, h2, h3, h4, h5, (ovl_x (hL k h1 h2) hn).mpr ⟨x, g1, g2, h6⟩⟩
theorem Mt_busy_x {u : MtS} (hL : Mt_L u) {q : Nat} {s n ex : Int} (hn : 1 ≤ n) : Mt_busy u (Mt_n u) q s n ex ↔ ∃ x, s ≤ x ∧ x < s + n ∧ Mt_busy u (Mt_n u) q x 1 ex := by
  constructor
  · rintro ⟨k, h1, h2, h3, h4, h5, h6⟩
    obtain ⟨x, g1, g2, g3⟩ := (ovl_x (hL k h1 h2) hn).mp h6
    exact ⟨x, g1, g2, k, h1, h2, h3, h4, h5, g3⟩
  · rintro ⟨x, g1, g2, k, h1, h2, h3, h4, h5, h6⟩
    exact ⟨k, h1, h2, h3, h4, h5, (ovl_x (hL k h1 h2) hn).mpr ⟨x, g1, g2, h6⟩⟩
theorem Pl_runs_x {P : PlS} (h : Pl_RU P) {m s n : Int} (hn : 1 ≤ n) : Pl_runs P m s n ↔ ∃ x, s ≤ x ∧ x < s + n ∧ Pl_runs P m x 1 := by
  constructor
  · rintro ⟨h1, h2, h3⟩
    obtain ⟨x, g1, g2, g3⟩ := (ovl_x (h.1 _ h2.1 h2.2).1.1 hn).mp h3
    exact ⟨x, g1, g2, h1, h2, g3⟩
  · rintro ⟨x, g1, g2, h1, h2, h3⟩
    exact ⟨h1, h2, (ovl_x (h.1 _ h2.1 h2.2).1.1 hn).mpr ⟨x, g1, g2, h3⟩⟩
theorem Mc_brk_x {c : McS} {m s n : Int} (hn : 1 ≤ n) : Mc_brk c m s n ↔ ∃ x, s ≤ x ∧ x < s + n ∧ Mc_brk c m x 1 := by
  constructor
  · rintro ⟨h1, h2, h3, h4⟩
    by_cases h : Mc_bf c m ≤ s
    · exact ⟨s, by omega, by omega, h1, h2, by omega, by omega⟩
    · exact ⟨Mc_bf c m, by omega, by omega, h1, h2, by omega, by omega⟩
  · rintro ⟨x, g1, g2, h1, h2, h3, h4⟩
    exact ⟨h1, h2, by omega, by omega⟩
theorem day_1 {s l : Int} (hs : 0 ≤ s) (hl : 1 ≤ l) : s / 8 = (s + l - 1) / 8 ↔ s % 8 + l ≤ 8 := by omega
theorem Sim_room {P : PlS} {u : MdS} (hS : Sim P u) (hL : Mt_L (Pl_mt P)) (hR : Pl_RU P) {p s l m ex : Int} (hp : 0 ≤ p ∧ p ≤ 1023) (hs : 0 ≤ s ∧ s < 400) (hl : 1 ≤ l) (hd : s % 8 + l ≤ 8) (hm : m = -1 ∨ (0 ≤ m ∧ m < Mc_n (Pl_mc P))) : Pl_room P p s l m ex ↔ Md_can u ex p s (s + l) m := by
  obtain ⟨h1, h2, h3, h4, h5, h6⟩ := hS
  have day : ∀ x, s ≤ x → x < s + l → x / 8 = s / 8 ∧ 0 ≤ x ∧ x < 400 := fun x g1 g2 => ⟨by omega, by omega, by omega⟩
  constructor
  · rintro ⟨g1, g2⟩ x gx gy
    obtain ⟨d1, d2, d3⟩ := day x gx gy
    refine ⟨fun q hq hb => ⟨fun hz => ?_, fun hz => ?_⟩, ?_⟩
    · rw [h5] at hz
      exact g1 q hb (Or.inl ((Mt_busy_x hL hl).mpr ⟨x, gx, gy, hz⟩))
    · have hz2 := (Sim_off h2 (q := (q : Int)) (by omega) ⟨d2, d3⟩).mpr hz
      refine g1 q hb (Or.inr ⟨hz2.1, hz2.2.1, ?_⟩)
      rw [← d1]
      exact hz2.2.2
    · rcases g2 with g2 | ⟨g3, g4, g5⟩
      · exact Or.inl g2
      · rcases hm with hm | hm
        · exact Or.inl hm
        · refine Or.inr ⟨fun hz => ?_, fun hz => ?_, fun hz => ?_⟩
          · rw [h5] at hz
            exact g3 ((Mt_prom_x hL hl).mpr ⟨x, gx, gy, hz⟩)
          · rw [h6] at hz
            exact g4 ((Pl_runs_x hR hl).mpr ⟨x, gx, gy, (Sim_on hR hm).mpr hz⟩)
          · exact g5 ((Mc_brk_x hl).mpr ⟨x, gx, gy, (Sim_brk h3 hm).mpr hz⟩)
  · intro g
    refine ⟨fun q hb hz => ?_, ?_⟩
    · have hq := bit_lt hp hb
      rcases hz with hz | hz
      · obtain ⟨x, gx, gy, hz⟩ := (Mt_busy_x hL hl).mp hz
        rw [← h5] at hz
        exact ((g x gx gy).1 q (by omega) hb).1 hz
      · have hz2 := (Sim_off h2 (q := (q : Int)) (by omega) hs).mp hz
        exact ((g s (Int.le_refl _) (by omega)).1 q (by omega) hb).2 hz2
    · rcases hm with hm | hm
      · exact Or.inl hm
      · have h7 : ∀ x, s ≤ x → x < s + l → ¬ Mt_prom (Md_mt u) (Mt_n (Md_mt u)) m x 1 ex ∧ ¬ Bu_on (Md_bu u) (Bu_n (Md_bu u)) m x ∧ ¬ Mm_brk (Md_mm u) m x := fun x gx gy => by
          rcases (g x gx gy).2 with g2 | g2
          · omega
          · exact g2
        refine Or.inr ⟨fun hz => ?_, fun hz => ?_, fun hz => ?_⟩
        · obtain ⟨x, gx, gy, hz⟩ := (Mt_prom_x hL hl).mp hz
          rw [← h5] at hz
          exact (h7 x gx gy).1 hz
        · obtain ⟨x, gx, gy, hz⟩ := (Pl_runs_x hR hl).mp hz
          have hz2 := (Sim_on hR hm).mp hz
          rw [← h6] at hz2
          exact (h7 x gx gy).2.1 hz2
        · obtain ⟨x, gx, gy, hz⟩ := (Mc_brk_x hl).mp hz
          exact (h7 x gx gy).2.2 ((Sim_brk h3 hm).mp hz)
/-! who has a machine -/
theorem Lo_bor_has {u : LoS} (hu : LmI u) (o m s : Int) : ∀ n : Nat, (Lo_borN u m s n = -1 ∧ Lo_hasN u o m s n = o) ∨ (Lo_borN u m s n ≠ -1 ∧ Lo_hasN u o m s n = Lo_borN u m s n)
  | 0 => Or.inl ⟨rfl, rfl⟩
  | n + 1 => by
    have h := Lo_bor_has hu o m s n
    have h1 := (hu.2 (n : Int)).2.1
    have e1 : Lo_borN u m s (n + 1) = if Lo_ma u (n : Int) = m ∧ Lo_fr u (n : Int) ≤ s ∧ s ≤ Lo_to u (n : Int) then Lo_pe u (n : Int) else Lo_borN u m s n := rfl
    have e2 : Lo_hasN u o m s (n + 1) = if Lo_ma u (n : Int) = m ∧ Lo_fr u (n : Int) ≤ s ∧ s ≤ Lo_to u (n : Int) then Lo_pe u (n : Int) else Lo_hasN u o m s n := rfl
    rw [e1, e2]
    split
    · exact Or.inr ⟨by omega, rfl⟩
    · exact h
theorem Sim_has {P : PlS} {u : MdS} (hS : Sim P u) (hu : MdI u) {m s : Int} (hm : 0 ≤ m ∧ m < Mc_n (Pl_mc P)) : Pl_hold P m s = Md_has u m s := by
  obtain ⟨h1, h2, h3, h4, h5, h6⟩ := hS
  have hl := hu.2.2.2.1
  rw [h4] at hl
  unfold Pl_hold Md_has Lo_bor
  rw [h4, h3.2.2.1]
  rcases Lo_bor_has hl (Mc_ow (Pl_mc P) m) m s (Lo_n (Pl_lo P)).toNat with ⟨g1, g2⟩ | ⟨g1, g2⟩
  · rw [if_pos ⟨g1, hm⟩, g2]
  · rw [if_neg (fun h => g1 h.1), g2]
/-! what a build can run on -/
/-- meetings end on their days, breaks began -/
def Pl_N (P : PlS) : Prop := (∀ k, 0 ≤ k → k < Mt_n (Pl_mt P) → Mt_st (Pl_mt P) k = 0 → Mt_sl (Pl_mt P) k + Mt_ln (Pl_mt P) k ≤ 400) ∧ ∀ m, 0 ≤ m → m < Mc_n (Pl_mc P) → Mc_bf (Pl_mc P) m ≤ Pl_now P
/-- nothing hinders in the slots from now on, up to n of them -/
theorem Pl_freeN_iff (P : PlS) (m : Int) : ∀ (k : Nat), k ≤ 6 → ∀ l : Int, (6 - (k : Int)) < l → l ≤ 6 → (l ≤ Pl_freeN P m k ↔ ∀ i : Int, 6 - (k : Int) ≤ i → i < l → Pl_now P + i < 400 → ¬ Pl_hin P m (Pl_now P + i))
  | 0, _, l, h1, h2 => by omega
  | k + 1, hk, l, h1, h2 => by
    have e : Pl_freeN P m (k + 1) = if Pl_now P + (5 - (k : Int)) < 400 then (if bz (Pl_hin P m (Pl_now P + (5 - (k : Int)))) = 1 then 5 - (k : Int) else Pl_freeN P m k) else 6 := rfl
    rw [e]
    by_cases h3 : Pl_now P + (5 - (k : Int)) < 400
    · rw [if_pos h3]
      by_cases h4 : Pl_hin P m (Pl_now P + (5 - (k : Int)))
      · rw [if_pos (bz_t h4)]
        constructor
        · intro h5
          omega
        · intro h5
          exact absurd h4 (h5 (5 - (k : Int)) (by omega) (by omega) h3)
      · rw [if_neg (by rw [bz_f h4]; decide)]
        by_cases h6 : 6 - (k : Int) < l
        · rw [Pl_freeN_iff P m k (by omega) l h6 h2]
          constructor
          · intro h7 i i1 i2 i3
            by_cases hi : i = 5 - (k : Int)
            · rw [hi]; exact h4
            · exact h7 i (by omega) i2 i3
          · intro h7 i i1 i2 i3
            exact h7 i (by omega) i2 i3
        · constructor
          · intro _ i i1 i2 i3
            rw [show i = 5 - (k : Int) by omega]
            exact h4
          · intro _
            have h8 := Pl_freeN_lo P m k (by omega)
            omega
    · rw [if_neg h3]
      constructor
      · intro _ i i1 i2 i3
        omega
      · intro _
        exact h2
where
  Pl_freeN_lo (P : PlS) (m : Int) : ∀ k : Nat, k ≤ 6 → 6 - (k : Int) ≤ Pl_freeN P m k
    | 0, _ => Int.le_refl _
    | k + 1, hk => by
      have e : Pl_freeN P m (k + 1) = if Pl_now P + (5 - (k : Int)) < 400 then (if bz (Pl_hin P m (Pl_now P + (5 - (k : Int)))) = 1 then 5 - (k : Int) else Pl_freeN P m k) else 6 := rfl
      have h := Pl_freeN_lo P m k (by omega)
      rw [e]
      split
      · split <;> omega
      · omega
theorem Sim_run {P : PlS} {u : MdS} (hS : Sim P u) (hu : MdI u) (hN : Pl_N P) (h4 : Pl_now P < 400) {m k : Int} (hm : 0 ≤ m ∧ m < Mc_n (Pl_mc P)) (hl : 1 ≤ Bu_ln (Pl_bu P) k ∧ Bu_ln (Pl_bu P) k ≤ 6) : Md_run u m k ↔ zdf (Bu_ne (Pl_bu P) k) (Mc_fe (Pl_mc P) m) = 0 ∧ Bu_ln (Pl_bu P) k ≤ Pl_free P m := by
  have hnow := hu.1
  have e0 := Pl_freeN_iff P m 6 (Nat.le_refl _) (Bu_ln (Pl_bu P) k) (by show (6 : Int) - ((6 : Nat) : Int) < _; omega) hl.2
  have hh := fun s => Sim_has hS hu (s := s) hm
  have hr := fun s => Md_has_r hu m s
  obtain ⟨h1, h2, h3, h5, h6, h7⟩ := hS
  show zdf (Bu_ne (Md_bu u) k) (Mm_fe (Md_mm u) m) = 0 ∧ _ ↔ _
  rw [h7, h3.2.1, h1]
  refine and_congr_right fun _ => ?_
  show _ ↔ Bu_ln (Pl_bu P) k ≤ Pl_freeN P m 6
  rw [e0]
  constructor
  · intro g i i1 i2 i3 hz
    obtain ⟨g1, g2, g3⟩ := g (Pl_now P + i) (by omega) (by omega)
    rcases hz with hz | hz | hz
    · exact g1 ((Sim_brk h3 hm).mp hz)
    · rw [hh] at hz
      exact g3 ((Sim_off h2 (hr _) (by omega)).mp hz)
    · rw [h6] at g2
      exact g2 hz
  · intro g x x1 x2
    refine ⟨fun hz => ?_, fun hz => ?_, fun hz => ?_⟩
    · -- broken then: broken now
      have hb := hN.2 m hm.1 hm.2
      have hz2 : Mm_brk (Md_mm u) m (Pl_now P + 0) := ⟨by rw [h3.2.2.2.1]; omega, by have := hz.2; omega⟩
      exact g 0 (by omega) (by omega) (by omega) (Or.inl ((Sim_brk h3 hm).mpr hz2))
    · obtain ⟨j, j1, j2, j3, j4, j5, j6, j7⟩ := hz
      rw [h6] at j2 j4 j5 j6 j7
      have h8 := hN.1 j j1 j2 j5
      refine g (x - Pl_now P) (by omega) (by omega) (by omega) (Or.inr (Or.inr ⟨j, j1, j2, j3, j4, j5, ?_⟩))
      rw [show Pl_now P + (x - Pl_now P) = x by omega]
      exact ⟨j6, j7⟩
    · have hx4 : x < 400 := hz.1
      refine g (x - Pl_now P) (by omega) (by omega) (by omega) (Or.inr (Or.inl ?_))
      rw [show Pl_now P + (x - Pl_now P) = x by omega, hh]
      exact (Sim_off h2 (hr _) (by omega)).mpr hz
