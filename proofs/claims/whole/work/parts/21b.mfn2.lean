/-! ===== the model's passing of a slot, its agreements ===== -/
def Bu_bsy (u : BuS) (n m : Int) : Prop := ∃ k : Int, 0 ≤ k ∧ k < n ∧ Bu_st u k = 1 ∧ Bu_ma u k = m
theorem Bu_bsy_0 (u : BuS) (m : Int) : ¬ Bu_bsy u 0 m := by
  rintro ⟨k, h1, h2, -⟩
  omega
theorem Bu_bsy_up {u : BuS} {i m : Int} (h : Bu_bsy u i m) : Bu_bsy u (i + 1) m := by
  obtain ⟨k, h1, h2, h3⟩ := h
  exact ⟨k, h1, by omega, h3⟩
theorem Bu_bsy_at {u : BuS} {i m : Int} (hi : 0 ≤ i) (h : Bu_st u i = 1) (h2 : Bu_ma u i = m) : Bu_bsy u (i + 1) m := ⟨i, hi, by omega, h, h2⟩
theorem Bu_bsy_nx {u : BuS} {i m : Int} (h : ¬ Bu_bsy u i m) (hx : ¬ (Bu_st u i = 1 ∧ Bu_ma u i = m)) : ¬ Bu_bsy u (i + 1) m := by
  rintro ⟨k, h1, h2, h3⟩
  by_cases hk : k = i
  · subst hk
    exact hx h3
  · exact h ⟨k, h1, by omega, h3⟩
/-- the best of the first k builds for a machine -/
noncomputable def Md_bestN (u : MdS) (m : Int) : Nat → Int
  | 0 => -1
  | k + 1 => @ite _ (Bu_st (Md_bu u) (k : Int) = 0 ∧ (Md_bestN u m k = -1 ∨ Bu_ur (Md_bu u) (Md_bestN u m k) < Bu_ur (Md_bu u) (k : Int)) ∧ Md_run u m (k : Int)) (Classical.propDecidable _) (k : Int) (Md_bestN u m k)
theorem Md_bestN_y {u : MdS} {m i g : Int} (hi : 0 ≤ i) (hg : g = Md_bestN u m i.toNat) (h : Bu_st (Md_bu u) i = 0 ∧ (g = -1 ∨ Bu_ur (Md_bu u) g < Bu_ur (Md_bu u) i) ∧ Md_run u m i) : i = Md_bestN u m (i + 1).toNat := by
  subst hg
  rw [show (i + 1).toNat = i.toNat + 1 by omega, Md_bestN, Int.toNat_of_nonneg hi, if_pos h]
theorem Md_bestN_n {u : MdS} {m i g : Int} (hi : 0 ≤ i) (hg : g = Md_bestN u m i.toNat) (h : ¬ (Bu_st (Md_bu u) i = 0 ∧ (g = -1 ∨ Bu_ur (Md_bu u) g < Bu_ur (Md_bu u) i) ∧ Md_run u m i)) : g = Md_bestN u m (i + 1).toNat := by
  subst hg
  rw [show (i + 1).toNat = i.toNat + 1 by omega, Md_bestN, Int.toNat_of_nonneg hi, if_neg h]
noncomputable def Md_pick (u : MdS) (m : Int) : Int := @ite _ (Bu_bsy (Md_bu u) (Bu_n (Md_bu u)) m) (Classical.propDecidable _) (-1) (Md_bestN u m (Bu_n (Md_bu u)).toNat)
theorem Md_pick_b {u : MdS} {m : Int} (h : Bu_bsy (Md_bu u) (Bu_n (Md_bu u)) m) : Md_pick u m = -1 := by rw [Md_pick, if_pos h]
theorem Md_pick_f {u : MdS} {m : Int} (h : ¬ Bu_bsy (Md_bu u) (Bu_n (Md_bu u)) m) : Md_pick u m = Md_bestN u m (Bu_n (Md_bu u)).toNat := by rw [Md_pick, if_neg h]
theorem Md_bestN_r (u : MdS) (m : Int) : ∀ k : Nat, -1 ≤ Md_bestN u m k ∧ Md_bestN u m k < (k : Int)
  | 0 => ⟨Int.le_refl _, by show (-1 : Int) < ((0 : Nat) : Int); omega⟩
  | k + 1 => by
    have h := Md_bestN_r u m k
    rw [Md_bestN]
    split <;> omega
theorem Md_pick_r {u : MdS} (hu : MdI u) (m : Int) : -1 ≤ Md_pick u m ∧ Md_pick u m < Bu_n (Md_bu u) := by
  have h := Md_bestN_r u m (Bu_n (Md_bu u)).toNat
  have h1 := hu.2.2.2.2.2.2.1
  by_cases hb : Bu_bsy (Md_bu u) (Bu_n (Md_bu u)) m
  · rw [Md_pick_b hb]
    omega
  · rw [Md_pick_f hb]
    omega
abbrev Bu_runM (u : BuS) (k m x : Int) : BuS := (Bu_n u, Bu_ne u, Bu_ur u, Bu_ln u, zU (Bu_st u) k 1, zU (Bu_ma u) k m, zU (Bu_bg u) k x, zU (Bu_ti u) k (Bu_ti u k + 1))
abbrev Md_putBu (u : MdS) (v : BuS) : MdS := (Md_th u, Md_now u, Md_aw u, Md_mm u, Md_lo u, Md_mt u, Md_sw u, v)
abbrev Md_putMt (u : MdS) (v : MtS) : MdS := (Md_th u, Md_now u, Md_aw u, Md_mm u, Md_lo u, v, Md_sw u, Md_bu u)
noncomputable def Md_plan (u : MdS) (m : Int) : MdS := if Md_pick u m = -1 then u else Md_putBu u (Bu_runM (Md_bu u) (Md_pick u m) m (Md_now u))
theorem Md_plan_n {u : MdS} {m : Int} (h : Md_pick u m = -1) : Md_plan u m = u := by rw [Md_plan, if_pos h]
theorem Md_plan_y {u : MdS} {m g : Int} (hg : g = Md_pick u m) (h : ¬ g = -1) : Md_plan u m = Md_putBu u (Bu_runM (Md_bu u) g m (Md_now u)) := by rw [Md_plan, ← hg, if_neg h]
theorem Bu_runM_I {u : BuS} (hu : BuI u) {k m x : Int} (hm : zR m) (hx : zR x) : BuI (Bu_runM u k m x) := ⟨hu.1, fun j => ⟨(hu.2 j).1, (hu.2 j).2.1, (hu.2 j).2.2.1, zU_all (P := fun y => 0 ≤ y ∧ y ≤ 2) (fun k => (hu.2 k).2.2.2.1) (by omega) j, zU_all (P := zR) (fun k => (hu.2 k).2.2.2.2.1) hm j, zU_all (P := zR) (fun k => (hu.2 k).2.2.2.2.2) hx j⟩⟩
theorem Md_putBu_I {u : MdS} (hu : MdI u) {v : BuS} (hv : BuI v) : MdI (Md_putBu u v) := ⟨hu.1, hu.2.1, hu.2.2.1, hu.2.2.2.1, hu.2.2.2.2.1, hu.2.2.2.2.2.1, hv⟩
theorem Md_putMt_I {u : MdS} (hu : MdI u) {v : MtS} (hv : MqI v) : MdI (Md_putMt u v) := ⟨hu.1, hu.2.1, hu.2.2.1, hu.2.2.2.1, hv, hu.2.2.2.2.2.1, hu.2.2.2.2.2.2⟩
theorem Md_plan_I {u : MdS} (hu : MdI u) {m : Int} (hm : 0 ≤ m ∧ m < 6) : MdI (Md_plan u m) := by
  have h1 := hu.1
  unfold Md_plan
  split
  · exact hu
  · exact Md_putBu_I hu (Bu_runM_I hu.2.2.2.2.2.2 (by omega) (by omega))
theorem Md_plan_s (u : MdS) (m : Int) : Md_mm (Md_plan u m) = Md_mm u ∧ Md_now (Md_plan u m) = Md_now u ∧ Bu_n (Md_bu (Md_plan u m)) = Bu_n (Md_bu u) ∧ Md_th (Md_plan u m) = Md_th u := by
  unfold Md_plan
  split <;> exact ⟨rfl, rfl, rfl, rfl⟩
noncomputable def Md_planN (u : MdS) : Nat → MdS
  | 0 => u
  | k + 1 => Md_plan (Md_planN u k) (k : Int)
theorem Md_planN_s {u v : MdS} {k : Int} (hk : 0 ≤ k) (h : v = Md_planN u k.toNat) : Md_plan v k = Md_planN u (k + 1).toNat := by
  rw [show (k + 1).toNat = k.toNat + 1 by omega, Md_planN, Int.toNat_of_nonneg hk, h]
theorem Md_planN_k (u : MdS) : ∀ k : Nat, Md_mm (Md_planN u k) = Md_mm u ∧ Md_now (Md_planN u k) = Md_now u ∧ Md_th (Md_planN u k) = Md_th u
  | 0 => ⟨rfl, rfl, rfl⟩
  | k + 1 => by
    have h := Md_planN_k u k
    have h2 := Md_plan_s (Md_planN u k) (k : Int)
    exact ⟨h2.1.trans h.1, h2.2.1.trans h.2.1, h2.2.2.2.trans h.2.2⟩
theorem Md_planN_I {u : MdS} (hu : MdI u) : ∀ k : Nat, k ≤ 6 → MdI (Md_planN u k)
  | 0, _ => hu
  | k + 1, h => Md_plan_I (Md_planN_I hu k (by omega)) (by omega)
/-- the first i builds: those that ran in the slot x for the last time are built -/
def Bu_endN (u : BuS) (x i : Int) : Int → Int := fun k => if 0 ≤ k ∧ k < i ∧ Bu_st u k = 1 ∧ Bu_bg u k + Bu_ln u k - 1 = x then 2 else Bu_st u k
def Mt_endN (u : MtS) (x i : Int) : Int → Int := fun k => if 0 ≤ k ∧ k < i ∧ Mt_st u k = 0 ∧ Mt_sl u k + Mt_ln u k - 1 = x then 2 else Mt_st u k
theorem Bu_endN_0 (u : BuS) (x : Int) : Bu_endN u x 0 = Bu_st u := by
  funext k
  unfold Bu_endN
  rw [if_neg (by omega)]
theorem Mt_endN_0 (u : MtS) (x : Int) : Mt_endN u x 0 = Mt_st u := by
  funext k
  unfold Mt_endN
  rw [if_neg (by omega)]
theorem Bu_endN_at (u : BuS) (x i : Int) : Bu_endN u x i i = Bu_st u i := by
  unfold Bu_endN
  rw [if_neg (by omega)]
theorem Mt_endN_at (u : MtS) (x i : Int) : Mt_endN u x i i = Mt_st u i := by
  unfold Mt_endN
  rw [if_neg (by omega)]
theorem Bu_endN_y {u : BuS} {x i : Int} (hi : 0 ≤ i) (h : Bu_st u i = 1 ∧ Bu_bg u i + Bu_ln u i - 1 = x) : zU (Bu_endN u x i) i 2 = Bu_endN u x (i + 1) := by
  funext k
  unfold zU Bu_endN
  by_cases hk : k = i
  · subst hk
    rw [if_pos rfl, if_pos (by omega)]
  · rw [if_neg hk]
    by_cases h1 : 0 ≤ k ∧ k < i ∧ Bu_st u k = 1 ∧ Bu_bg u k + Bu_ln u k - 1 = x
    · rw [if_pos h1, if_pos (by omega)]
    · rw [if_neg h1, if_neg (by omega)]
theorem Bu_endN_n {u : BuS} {x i y : Int} (hi : 0 ≤ i) (h : ¬ (Bu_st u i = 1 ∧ Bu_bg u i + Bu_ln u i - 1 = x)) (hy : y = Bu_st u i) : zU (Bu_endN u x i) i y = Bu_endN u x (i + 1) := by
  funext k
  unfold zU Bu_endN
  by_cases hk : k = i
  · subst hk
    rw [if_pos rfl, if_neg (by omega), hy]
  · rw [if_neg hk]
    by_cases h1 : 0 ≤ k ∧ k < i ∧ Bu_st u k = 1 ∧ Bu_bg u k + Bu_ln u k - 1 = x
    · rw [if_pos h1, if_pos (by omega)]
    · rw [if_neg h1, if_neg (by omega)]
theorem Mt_endN_y {u : MtS} {x i : Int} (hi : 0 ≤ i) (h : Mt_st u i = 0 ∧ Mt_sl u i + Mt_ln u i - 1 = x) : zU (Mt_endN u x i) i 2 = Mt_endN u x (i + 1) := by
  funext k
  unfold zU Mt_endN
  by_cases hk : k = i
  · subst hk
    rw [if_pos rfl, if_pos (by omega)]
  · rw [if_neg hk]
    by_cases h1 : 0 ≤ k ∧ k < i ∧ Mt_st u k = 0 ∧ Mt_sl u k + Mt_ln u k - 1 = x
    · rw [if_pos h1, if_pos (by omega)]
    · rw [if_neg h1, if_neg (by omega)]
theorem Mt_endN_n {u : MtS} {x i y : Int} (hi : 0 ≤ i) (h : ¬ (Mt_st u i = 0 ∧ Mt_sl u i + Mt_ln u i - 1 = x)) (hy : y = Mt_st u i) : zU (Mt_endN u x i) i y = Mt_endN u x (i + 1) := by
  funext k
  unfold zU Mt_endN
  by_cases hk : k = i
  · subst hk
    rw [if_pos rfl, if_neg (by omega), hy]
  · rw [if_neg hk]
    by_cases h1 : 0 ≤ k ∧ k < i ∧ Mt_st u k = 0 ∧ Mt_sl u k + Mt_ln u k - 1 = x
    · rw [if_pos h1, if_pos (by omega)]
    · rw [if_neg h1, if_neg (by omega)]
abbrev Bu_setSt (u : BuS) (f : Int → Int) : BuS := (Bu_n u, Bu_ne u, Bu_ur u, Bu_ln u, f, Bu_ma u, Bu_bg u, Bu_ti u)
abbrev Mt_setSt (u : MtS) (f : Int → Int) : MtS := (Mt_n u, Mt_pe u, Mt_sl u, Mt_ln u, Mt_ma u, f, Mt_mv u)
theorem Bu_endN_I {u : BuS} (hu : BuI u) (x i : Int) : BuI (Bu_setSt u (Bu_endN u x i)) := ⟨hu.1, fun j => ⟨(hu.2 j).1, (hu.2 j).2.1, (hu.2 j).2.2.1, by
  have h := (hu.2 j).2.2.2.1
  show 0 ≤ Bu_endN u x i j ∧ Bu_endN u x i j ≤ 2
  unfold Bu_endN
  split <;> omega, (hu.2 j).2.2.2.2⟩⟩
theorem Mt_endN_I {u : MtS} (hu : MqI u) (x i : Int) : MqI (Mt_setSt u (Mt_endN u x i)) := ⟨⟨hu.1.1, fun j => ⟨(hu.1.2 j).1, (hu.1.2 j).2.1, (hu.1.2 j).2.2.1, (hu.1.2 j).2.2.2.1, by
  have h := (hu.1.2 j).2.2.2.2
  show 0 ≤ Mt_endN u x i j ∧ Mt_endN u x i j ≤ 2
  unfold Mt_endN
  split <;> omega⟩⟩, hu.2⟩
/-- behind the builds' beginnings: what ends in a slot -/
def Md_end (u : MdS) : MdS := (Md_th u, Md_now u + 1, Md_aw u, Md_mm u, Md_lo u, Mt_setSt (Md_mt u) (Mt_endN (Md_mt u) (Md_now u) (Mt_n (Md_mt u))), Md_sw u, Bu_setSt (Md_bu u) (Bu_endN (Md_bu u) (Md_now u) (Bu_n (Md_bu u))))
noncomputable def Md_step (u : MdS) : MdS := Md_end (Md_planN u (Mm_n (Md_mm u)).toNat)
noncomputable def Md_iter (u : MdS) : Nat → MdS
  | 0 => u
  | n + 1 => Md_step (Md_iter u n)
theorem Md_step_I {u : MdS} (hu : MdI u) (h4 : Md_now u < 400) : MdI (Md_step u) := by
  have h := hu.1
  have hn := hu.2.2.1.1
  have h2 := Md_planN_I hu (Mm_n (Md_mm u)).toNat (by omega)
  have h3 := (Md_planN_k u (Mm_n (Md_mm u)).toNat).2.1
  exact ⟨by show 0 ≤ Md_now (Md_planN u (Mm_n (Md_mm u)).toNat) + 1 ∧ Md_now (Md_planN u (Mm_n (Md_mm u)).toNat) + 1 ≤ 400; omega, h2.2.1, h2.2.2.1, h2.2.2.2.1, Mt_endN_I h2.2.2.2.2.1 _ _, h2.2.2.2.2.2.1, Bu_endN_I h2.2.2.2.2.2.2 _ _⟩
theorem Md_step_now (u : MdS) : Md_now (Md_step u) = Md_now u + 1 := by
  show Md_now (Md_planN u (Mm_n (Md_mm u)).toNat) + 1 = _
  rw [(Md_planN_k u (Mm_n (Md_mm u)).toNat).2.1]
theorem Md_step_th (u : MdS) : Md_th (Md_step u) = Md_th u := (Md_planN_k u (Mm_n (Md_mm u)).toNat).2.2
theorem Md_iter_k {u : MdS} (hu : MdI u) : ∀ n : Nat, Md_now u + n ≤ 400 → MdI (Md_iter u n) ∧ Md_now (Md_iter u n) = Md_now u + n
  | 0, _ => ⟨hu, by show Md_now u = Md_now u + ((0 : Nat) : Int); omega⟩
  | n + 1, h => by
    have h2 := Md_iter_k hu n (by omega)
    exact ⟨Md_step_I h2.1 (by omega), (Md_step_now _).trans (by omega)⟩
theorem Md_iter_s {u v : MdS} {k : Int} (hk : 0 ≤ k) (h : v = Md_iter u k.toNat) : Md_step v = Md_iter u (k + 1).toNat := by
  rw [show (k + 1).toNat = k.toNat + 1 by omega, Md_iter, h]
/-! agreeing -/
def Md_all (u : MdS) (k : Int) : Int := zor (Mt_pe (Md_mt u) (Sw_me (Md_sw u) k)) (Mt_pe (Md_mt u) (Sw_ot (Md_sw u) k))
abbrev Md_putSw (u : MdS) (v : SwS) : MdS := (0, Md_now u, Md_aw u, Md_mm u, Md_lo u, Md_mt u, v, Md_bu u)
abbrev Md_hld (u : MdS) (k : Int) : Prop := Md_ahd u (Sw_me (Md_sw u) k) ∧ Md_ahd u (Sw_ot (Md_sw u) k) ∧ zI (Mt_mv (Md_mt u) (Sw_me (Md_sw u) k)) = zI (Sw_mm (Md_sw u) k) ∧ zI (Mt_mv (Md_mt u) (Sw_ot (Md_sw u) k)) = zI (Sw_om (Md_sw u) k)
abbrev Sw_stM (u : SwS) (k x : Int) : SwS := (Sw_n u, Sw_me u, Sw_mm u, Sw_ot u, Sw_om u, Sw_ag u, zU (Sw_st u) k x)
abbrev Sw_agM (u : SwS) (p k : Int) : SwS := (Sw_n u, Sw_me u, Sw_mm u, Sw_ot u, Sw_om u, zU (Sw_ag u) k (zor (Sw_ag u k) ((2 ^ p.toNat : Nat) : Int)), Sw_st u)
abbrev Md_ag (u : MdS) (p k : Int) : MdS := Md_putSw u (Sw_agM (Md_sw u) p k)
abbrev Mt_mvM (u : MtS) (k o x : Int) : MtS := (Mt_n u, Mt_pe u, Mt_sl u, Mt_ln u, Mt_ma u, Mt_st u, zU (zU (Mt_mv u) k (Mt_mv u k + x)) o ((zU (Mt_mv u) k (Mt_mv u k + x)) o + x))
theorem Mt_mvM_0 (u : MtS) (k o : Int) : Mt_mvM u k o 0 = u := by
  have h1 : zU (Mt_mv u) k (Mt_mv u k + 0) = Mt_mv u := zU_id (by omega)
  show (Mt_n u, Mt_pe u, Mt_sl u, Mt_ln u, Mt_ma u, Mt_st u, zU (zU (Mt_mv u) k (Mt_mv u k + 0)) o ((zU (Mt_mv u) k (Mt_mv u k + 0)) o + 0)) = u
  rw [h1, zU_id (f := Mt_mv u) (j := o) (by omega)]
/-- four ways of an agreement -/
noncomputable def Md_agr (u : MdS) (p k : Int) : MdS := @ite _ (Md_hld u k) (Classical.propDecidable _)
  (if Sw_ag (Md_sw (Md_ag u p k)) k = Md_all u k then @ite _ (Md_swp (Md_ag u p k) (Sw_me (Md_sw u) k) (Sw_ot (Md_sw u) k)) (Classical.propDecidable _) (0, Md_now u, Md_aw u, Md_mm u, Md_lo u, Mt_mvM (Mt_exM (Md_mt u) (Sw_me (Md_sw u) k) (Sw_ot (Md_sw u) k)) (Sw_me (Md_sw u) k) (Sw_ot (Md_sw u) k) 1, Sw_stM (Sw_agM (Md_sw u) p k) k 1, Md_bu u) (Md_putSw u (Sw_stM (Sw_agM (Md_sw u) p k) k 2)) else Md_ag u p k)
  (Md_putSw u (Sw_stM (Md_sw u) k 2))
theorem Md_agr_0 {u : MdS} {p k : Int} (h : ¬ Md_hld u k) : Md_agr u p k = Md_putSw u (Sw_stM (Md_sw u) k 2) := by rw [Md_agr, if_neg h]
theorem Md_agr_1 {u : MdS} {p k : Int} (h : Md_hld u k) (h2 : ¬ Sw_ag (Md_sw (Md_ag u p k)) k = Md_all u k) : Md_agr u p k = Md_ag u p k := by rw [Md_agr, if_pos h, if_neg h2]
theorem Md_agr_2 {u : MdS} {p k : Int} (h : Md_hld u k) (h2 : Sw_ag (Md_sw (Md_ag u p k)) k = Md_all u k) (h3 : Md_swp (Md_ag u p k) (Sw_me (Md_sw u) k) (Sw_ot (Md_sw u) k)) : Md_agr u p k = (0, Md_now u, Md_aw u, Md_mm u, Md_lo u, Mt_mvM (Mt_exM (Md_mt u) (Sw_me (Md_sw u) k) (Sw_ot (Md_sw u) k)) (Sw_me (Md_sw u) k) (Sw_ot (Md_sw u) k) 1, Sw_stM (Sw_agM (Md_sw u) p k) k 1, Md_bu u) := by rw [Md_agr, if_pos h, if_pos h2, if_pos h3]
theorem Md_agr_3 {u : MdS} {p k : Int} (h : Md_hld u k) (h2 : Sw_ag (Md_sw (Md_ag u p k)) k = Md_all u k) (h3 : ¬ Md_swp (Md_ag u p k) (Sw_me (Md_sw u) k) (Sw_ot (Md_sw u) k)) : Md_agr u p k = Md_putSw u (Sw_stM (Sw_agM (Md_sw u) p k) k 2) := by rw [Md_agr, if_pos h, if_pos h2, if_neg h3]
theorem Md_ag_I {u : MdS} (hu : MdI u) {p k : Int} (hp : 0 ≤ p ∧ p < 10) : MdI (Md_ag u p k) := by
  obtain ⟨h1, h2, h3, h4, h5, h7, h8⟩ := hu
  exact ⟨h1, h2, h3, h4, h5, ⟨h7.1, fun j => ⟨(h7.2 j).1, (h7.2 j).2.1, zU_all (P := zR2) (fun k => (h7.2 k).2.2.1) (zor_r (h7.2 k).2.2.1 (pow_r hp)) j, (h7.2 j).2.2.2⟩⟩, h8⟩
/-! the diary -/
noncomputable def Md_sgn (u : MdS) (m s : Int) : Int := @ite _ (Mt_prom (Md_mt u) (Mt_n (Md_mt u)) m s 1 (-1)) (Classical.propDecidable _) 77 (@ite _ (Bu_on (Md_bu u) (Bu_n (Md_bu u)) m s) (Classical.propDecidable _) 66 (@ite _ (Mm_brk (Md_mm u) m s) (Classical.propDecidable _) 55357 46))
theorem Md_sgn_1 {u : MdS} {m s : Int} (h : Mt_prom (Md_mt u) (Mt_n (Md_mt u)) m s 1 (-1)) : Md_sgn u m s = 77 := by rw [Md_sgn, if_pos h]
theorem Md_sgn_2 {u : MdS} {m s : Int} (h : ¬ Mt_prom (Md_mt u) (Mt_n (Md_mt u)) m s 1 (-1)) (h2 : Bu_on (Md_bu u) (Bu_n (Md_bu u)) m s) : Md_sgn u m s = 66 := by rw [Md_sgn, if_neg h, if_pos h2]
theorem Md_sgn_3 {u : MdS} {m s : Int} (h : ¬ Mt_prom (Md_mt u) (Mt_n (Md_mt u)) m s 1 (-1)) (h2 : ¬ Bu_on (Md_bu u) (Bu_n (Md_bu u)) m s) (h3 : Mm_brk (Md_mm u) m s) : Md_sgn u m s = 55357 := by rw [Md_sgn, if_neg h, if_neg h2, if_pos h3]
theorem Md_sgn_4 {u : MdS} {m s : Int} (h : ¬ Mt_prom (Md_mt u) (Mt_n (Md_mt u)) m s 1 (-1)) (h2 : ¬ Bu_on (Md_bu u) (Bu_n (Md_bu u)) m s) (h3 : ¬ Mm_brk (Md_mm u) m s) : Md_sgn u m s = 46 := by rw [Md_sgn, if_neg h, if_neg h2, if_neg h3]
/-- a slot's sign is one char -/
def Md_pln (u : MdS) (m s : Int) : Prop := Mt_prom (Md_mt u) (Mt_n (Md_mt u)) m s 1 (-1) ∨ Bu_on (Md_bu u) (Bu_n (Md_bu u)) m s ∨ ¬ Mm_brk (Md_mm u) m s
theorem Md_sgn_p {u : MdS} {m s : Int} (h : Md_pln u m s) : Md_sgn u m s ≠ 55357 := by
  by_cases h1 : Mt_prom (Md_mt u) (Mt_n (Md_mt u)) m s 1 (-1)
  · rw [Md_sgn_1 h1]; decide
  · by_cases h2 : Bu_on (Md_bu u) (Bu_n (Md_bu u)) m s
    · rw [Md_sgn_2 h1 h2]; decide
    · rw [Md_sgn_4 h1 h2 ((h.resolve_left h1).resolve_left h2)]; decide
theorem Md_sgn_b {u : MdS} {m s : Int} (h : ¬ Md_pln u m s) : Md_sgn u m s = 55357 := Md_sgn_3 (fun q => h (Or.inl q)) (fun q => h (Or.inr (Or.inl q))) (Classical.byContradiction fun q => h (Or.inr (Or.inr q)))
noncomputable def Md_dy (u : MdS) (m d : Int) : Int → Int := fun k => Md_sgn u m (d * 8 + k)
theorem Md_fnd_e {u : MdS} {m x f i : Int} (hf : f = Bu_fndN (Md_bu u) m i.toNat) (h0 : x ≤ 0 → f = -1) (hi : i = Bu_n (Md_bu u) ∨ x ≤ 0) : f = Md_fnd u m x := by
  unfold Md_fnd
  by_cases h : 0 < x
  · rw [if_pos h, hf, hi.resolve_right (by omega)]
  · rw [if_neg h, h0 (by omega)]
theorem Bu_unq_n {u : BuS} {k : Int} (h : k = -1) : Bu_unq u k = u := by rw [Bu_unq, if_neg (fun q => q h)]
theorem Bu_unq_y {u : BuS} {k : Int} (h : ¬ k = -1) : Bu_unq u k = (Bu_n u, Bu_ne u, Bu_ur u, Bu_ln u, zU (Bu_st u) k 0, zU (Bu_ma u) k (-1), zU (Bu_bg u) k (-1), Bu_ti u) := by rw [Bu_unq, if_pos h]
theorem Md_pick_e {u : MdS} {m g b i : Int} (hb : b = bz (Bu_bsy (Md_bu u) (Bu_n (Md_bu u)) m)) (hi : i = Bu_n (Md_bu u) ∨ b ≠ 0) (hg : g = Md_bestN u m i.toNat) (h0 : b ≠ 0 → g = -1) : g = Md_pick u m := by
  by_cases h : b = 0
  · rw [Md_pick_f (bz_of0 hb h), hg, hi.resolve_right (fun q => q h)]
  · rw [Md_pick_b (bz_of1 hb h), h0 h]
theorem Md_agr_3m {u : MdS} {p k : Int} (h : Md_hld u k) (h2 : Sw_ag (Md_sw (Md_ag u p k)) k = Md_all u k) (h3 : ¬ Md_swp (Md_ag u p k) (Sw_me (Md_sw u) k) (Sw_ot (Md_sw u) k)) : Md_agr u p k = (0, Md_now u, Md_aw u, Md_mm u, Md_lo u, Mt_mvM (Md_mt u) (Sw_me (Md_sw u) k) (Sw_ot (Md_sw u) k) 0, Sw_stM (Sw_agM (Md_sw u) p k) k 2, Md_bu u) := by
  rw [Mt_mvM_0]
  exact Md_agr_3 h h2 h3
theorem Dy_m (sg : Int → Int) (x : Int) {s d rest : Int} (hs : 8 * d ≤ s) : Dy sg x (s - 8 * d + 1).toNat (x - rest) = if rest = 0 then sg (s - 8 * d) else if sg (s - 8 * d) = 55357 then if rest = 1 then 56615 else Dy sg x (s + -1 - 8 * d + 1).toNat (x - (rest - 2)) else Dy sg x (s + -1 - 8 * d + 1).toNat (x - (rest - 1)) := by
  rw [Dy_s sg x (by omega), show s - 8 * d + -1 + 1 = s + -1 - 8 * d + 1 by omega, show x - rest + 1 + 1 = x - (rest - 2) by omega, show x - rest + 1 = x - (rest - 1) by omega]
  by_cases h : rest = 0
  · rw [if_pos (by omega), if_pos h]
  · rw [if_neg (by omega), if_neg h]
    by_cases h2 : sg (s - 8 * d) = 55357
    · rw [if_pos h2, if_pos h2]
      by_cases h3 : rest = 1
      · rw [if_pos (by omega), if_pos h3]
      · rw [if_neg (by omega), if_neg h3]
    · rw [if_neg h2, if_neg h2]
theorem Md_dy_at (u : MdS) (m d s : Int) : Md_dy u m d (s - 8 * d) = Md_sgn u m s := congrArg (Md_sgn u m) (by omega)
