/-! ===== the two objects stand alike ===== -/
def Sw_R (s t : SwS) (n : Int) : Prop := Sw_n t = Sw_n s ∧ Sw_me t = Sw_me s ∧ Sw_mm t = Sw_mm s ∧ Sw_ot t = Sw_ot s ∧ Sw_om t = Sw_om s ∧ Sw_st t = Sw_st s ∧ (∀ k, Sw_st s k = 0 → Sw_ag t k = Sw_ag s k) ∧ (∀ k, Sw_n s ≤ k → Sw_ag s k = 0 ∧ Sw_st s k = 0) ∧ ∀ k, 0 ≤ k → k < Sw_n s → (0 ≤ Sw_me s k ∧ Sw_me s k < n) ∧ (0 ≤ Sw_ot s k ∧ Sw_ot s k < n) ∧ Sw_me s k ≠ Sw_ot s k
def RR (j : Nat) (r : RiS) (u : MdS) : Prop := RiI r ∧ MdI u ∧ Sim (Ri_P r) u ∧ Pl_J (Ri_P r) ∧ Pl_RP (Ri_T r) (Ri_P r) ∧ Sw_R (Ri_S r) (Md_sw u) (Mt_n (Pl_mt (Ri_P r))) ∧ To_n (Ri_T r) ≤ (j : Int)
theorem RR_th {j : Nat} {r : RiS} {u : MdS} (h : RR j r u) (k : Int) : RR (j + 1) r (Md_setTh u k) := ⟨h.1, h.2.1, h.2.2.1, h.2.2.2.1, h.2.2.2.2.1, h.2.2.2.2.2.1, by have := h.2.2.2.2.2.2; omega⟩
theorem Sw_R_n {s t : SwS} {n n2 : Int} (h : Sw_R s t n) (hn : n ≤ n2) : Sw_R s t n2 := by
  obtain ⟨h1, h2, h3, h4, h5, h6, h7, h8, h9⟩ := h
  exact ⟨h1, h2, h3, h4, h5, h6, h7, h8, fun k k1 k2 => ⟨⟨(h9 k k1 k2).1.1, by have := (h9 k k1 k2).1.2; omega⟩, ⟨(h9 k k1 k2).2.1.1, by have := (h9 k k1 k2).2.1.2; omega⟩, (h9 k k1 k2).2.2⟩⟩
theorem RR_tell {j : Nat} {r : RiS} {u u2 : MdS} {k x y z w : Int} (h : RR j r u) (hj : j < 512) (hk : 0 ≤ k ∧ k ≤ 9) (hx : zR2 x) (hy : zR0 y) (hz : zR0 z) (hw : zR w) (h1 : MdI u2) (h2 : Sim (Pl_take (Ri_P r) k x y z w) u2) (h3 : Pl_J (Pl_take (Ri_P r) k x y z w)) (h4 : Sw_R (Ri_S r) (Md_sw u2) (Mt_n (Pl_mt (Pl_take (Ri_P r) k x y z w)))) : RR (j + 1) (Ri_tell r k x y z w) u2 := by
  obtain ⟨g1, g2, g3, g4, g5, g6, g7⟩ := h
  refine ⟨Ri_tell_I g1 hk hx hy hz hw, h1, h2, h3, Pl_RP_tell g1.2.2.1 g5 (by omega) k x y z w, h4, ?_⟩
  show To_n (To_note (Ri_T r) k (Pl_now (Ri_P r)) x y z w) ≤ _
  unfold To_note
  split
  · show To_n (Ri_T r) + 1 ≤ _
    omega
  · omega
/-! codes of exceptions -/
def gz_c3 (E : String) : Int := if E = xIO then 1 else if E = xIA then 2 else 3
def gz_c2 (E : String) : Int := if E = xIO then 1 else 2
def gz_c1 (E : String) : Int := if E = xIA then 1 else 2
theorem gz_c3_O : gz_c3 xIO = 1 := if_pos rfl
theorem gz_c3_A : gz_c3 xIA = 2 := by rw [gz_c3, if_neg (by decide), if_pos rfl]
theorem gz_c3_S : gz_c3 xIS = 3 := by rw [gz_c3, if_neg (by decide), if_neg (by decide)]
theorem gz_c2_O : gz_c2 xIO = 1 := if_pos rfl
theorem gz_c2_S : gz_c2 xIS = 2 := by rw [gz_c2, if_neg (by decide)]
theorem gz_c1_A : gz_c1 xIA = 1 := if_pos rfl
theorem gz_c1_S : gz_c1 xIS = 2 := by rw [gz_c1, if_neg (by decide)]
noncomputable def gz_cd (c : String → Int) : List (Prop × String) → Int
  | [] => 0
  | q :: r => @ite _ q.1 (Classical.propDecidable _) (c q.2) (gz_cd c r)
noncomputable def gz_cm : List (Prop × Int) → Int
  | [] => 0
  | q :: r => @ite _ q.1 (Classical.propDecidable _) q.2 (gz_cm r)
theorem gz_cd_ok {c : String → Int} : ∀ {cs : List (Prop × String)}, gz_ok cs → gz_cd c cs = 0
  | [], _ => rfl
  | q :: r, h => by
    rw [gz_cd, if_neg h.1]
    exact gz_cd_ok h.2
theorem gz_cd_px {c : String → Int} {E : String} : ∀ {cs : List (Prop × String)}, gz_px cs E → gz_cd c cs = c E
  | [], h => h.elim
  | q :: r, h => by
    rw [gz_cd]
    rcases h with ⟨h1, h2⟩ | ⟨h1, h2⟩
    · rw [if_pos h1, h2]
    · rw [if_neg h1]
      exact gz_cd_px h2
theorem gz_kx_cm : ∀ {ms : List (Prop × Int)} {k : Int}, gz_kx ms k → k = gz_cm ms
  | [], k, h => h
  | q :: r, k, h => by
    rw [gz_cm]
    rcases h with ⟨h1, h2⟩ | ⟨h1, h2⟩
    · rw [if_pos h1, h2]
    · rw [if_neg h1]
      exact gz_kx_cm h2
theorem cdm {c : String → Int} {cs : List (Prop × String)} {ms : List (Prop × Int)} {a b : Prop} {E : String} {k : Int} (hk : c E = k) (h : a ↔ b) (ht : ¬ a → gz_cd c cs = gz_cm ms) : gz_cd c ((a, E) :: cs) = gz_cm ((b, k) :: ms) := by
  rw [gz_cd, gz_cm]
  by_cases ha : a
  · rw [if_pos ha, if_pos (h.mp ha), hk]
  · rw [if_neg ha, if_neg (fun q => ha (h.mpr q))]
    exact ht ha
theorem cdm2 {c : String → Int} {cs : List (Prop × String)} {ms : List (Prop × Int)} {a1 a2 b : Prop} {E : String} {k : Int} (hk : c E = k) (h : a1 ∨ (¬ a1 ∧ a2) ↔ b) (ht : ¬ a1 → ¬ a2 → gz_cd c cs = gz_cm ms) : gz_cd c ((a1, E) :: (a2, E) :: cs) = gz_cm ((b, k) :: ms) := by
  rw [gz_cd, gz_cd, gz_cm]
  by_cases h1 : a1
  · rw [if_pos h1, if_pos (h.mp (Or.inl h1)), hk]
  · rw [if_neg h1]
    by_cases h2 : a2
    · rw [if_pos h2, if_pos (h.mp (Or.inr ⟨h1, h2⟩)), hk]
    · rw [if_neg h2, if_neg (fun q => (h.mpr q).elim h1 (fun z => h2 z.2))]
      exact ht h1 h2
theorem cdm3 {c : String → Int} {cs : List (Prop × String)} {ms : List (Prop × Int)} {a1 a2 a3 b : Prop} {E : String} {k : Int} (hk : c E = k) (h : a1 ∨ (¬ a1 ∧ a2) ∨ (¬ a1 ∧ ¬ a2 ∧ a3) ↔ b) (ht : ¬ a1 → ¬ a2 → ¬ a3 → gz_cd c cs = gz_cm ms) : gz_cd c ((a1, E) :: (a2, E) :: (a3, E) :: cs) = gz_cm ((b, k) :: ms) := by
  rw [gz_cd, gz_cd, gz_cd, gz_cm]
  by_cases h1 : a1
  · rw [if_pos h1, if_pos (h.mp (Or.inl h1)), hk]
  · rw [if_neg h1]
    by_cases h2 : a2
    · rw [if_pos h2, if_pos (h.mp (Or.inr (Or.inl ⟨h1, h2⟩))), hk]
    · rw [if_neg h2]
      by_cases h3 : a3
      · rw [if_pos h3, if_pos (h.mp (Or.inr (Or.inr ⟨h1, h2, h3⟩))), hk]
      · rw [if_neg h3, if_neg (fun q => (h.mpr q).elim h1 (fun z => z.elim (fun y => h2 y.2) (fun y => h3 y.2.2)))]
        exact ht h1 h2 h3
theorem cdm4 {c : String → Int} {cs : List (Prop × String)} {ms : List (Prop × Int)} {a1 a2 a3 a4 b : Prop} {E : String} {k : Int} (hk : c E = k) (h : a1 ∨ (¬ a1 ∧ a2) ∨ (¬ a1 ∧ ¬ a2 ∧ a3) ∨ (¬ a1 ∧ ¬ a2 ∧ ¬ a3 ∧ a4) ↔ b) (ht : ¬ a1 → ¬ a2 → ¬ a3 → ¬ a4 → gz_cd c cs = gz_cm ms) : gz_cd c ((a1, E) :: (a2, E) :: (a3, E) :: (a4, E) :: cs) = gz_cm ((b, k) :: ms) := by
  rw [gz_cd, gz_cd, gz_cd, gz_cd, gz_cm]
  by_cases h1 : a1
  · rw [if_pos h1, if_pos (h.mp (Or.inl h1)), hk]
  · rw [if_neg h1]
    by_cases h2 : a2
    · rw [if_pos h2, if_pos (h.mp (Or.inr (Or.inl ⟨h1, h2⟩))), hk]
    · rw [if_neg h2]
      by_cases h3 : a3
      · rw [if_pos h3, if_pos (h.mp (Or.inr (Or.inr (Or.inl ⟨h1, h2, h3⟩)))), hk]
      · rw [if_neg h3]
        by_cases h4 : a4
        · rw [if_pos h4, if_pos (h.mp (Or.inr (Or.inr (Or.inr ⟨h1, h2, h3, h4⟩)))), hk]
        · rw [if_neg h4, if_neg (fun q => (h.mpr q).elim h1 (fun z => z.elim (fun y => h2 y.2) (fun z => z.elim (fun y => h3 y.2.2) (fun y => h4 y.2.2.2))))]
          exact ht h1 h2 h3 h4
theorem RR_0 : RR 0 Ri0 Md0 := by
  have z : ∀ q d : Int, ((fun _ => 0 : LvS) q).testBit d.toNat = true ↔ (fun _ => (0 : Int)) (50 * q + d) ≠ 0 := fun q d => by
    show (0 : Nat).testBit d.toNat = true ↔ (0 : Int) ≠ 0
    rw [Nat.zero_testBit]
    simp
  refine ⟨Ri0_I, ⟨⟨Int.le_refl 0, by decide⟩, fun _ => ⟨Int.le_refl 0, (by decide : (0 : Int) ≤ 1)⟩, ⟨⟨Int.le_refl 0, by decide⟩, fun _ => ⟨z0_2, ⟨Int.le_refl 0, (by decide : (0 : Int) ≤ 9)⟩, z0_0, z0_1⟩⟩, ⟨⟨Int.le_refl 0, by decide⟩, fun _ => ⟨z0_2, ⟨Int.le_refl 0, (by decide : (0 : Int) ≤ 9)⟩, z0_1, z0_1⟩⟩, ⟨Mt0_I, fun _ => (by decide : (-1 : Int) ≤ 0 ∧ (0 : Int) ≤ 5)⟩, ⟨⟨Int.le_refl 0, by decide⟩, fun _ => ⟨(by decide : (0 : Int) ≤ 0 ∧ (0 : Int) ≤ 29), (by decide : (0 : Int) ≤ 0 ∧ (0 : Int) ≤ 29), z0_2, z0_s⟩⟩, Bu0_I⟩, ⟨rfl, fun q d _ _ _ _ => z q d, ⟨rfl, rfl, rfl, rfl, fun k h1 h2 => ?_⟩, rfl, rfl, rfl⟩, ⟨fun _ _ => rfl, fun _ _ => ⟨rfl, rfl⟩, fun k h1 h2 => ?_, ⟨fun k h1 h2 => ?_, fun k h1 h2 => ?_⟩, fun k h1 h2 => ?_, fun k h1 h2 => ?_⟩, Pl_RP_0, ⟨rfl, rfl, rfl, rfl, rfl, rfl, fun _ _ => rfl, fun _ _ => ⟨rfl, rfl⟩, fun k h1 h2 => ?_⟩, Int.le_refl 0⟩
  all_goals exact absurd h2 (Int.not_lt.mpr h1)
