/-! ===== a slot passes ===== -/
def Pl_J (P : PlS) : Prop := (∀ k, Mt_n (Pl_mt P) ≤ k → Mt_mv (Pl_mt P) k = 0) ∧ (∀ k, Bu_n (Pl_bu P) ≤ k → Bu_st (Pl_bu P) k = 0 ∧ Bu_ti (Pl_bu P) k = 0) ∧
  (∀ k, 0 ≤ k → k < Mt_n (Pl_mt P) → 1 ≤ Mt_ln (Pl_mt P) k ∧ (Mt_ma (Pl_mt P) k = -1 ∨ (0 ≤ Mt_ma (Pl_mt P) k ∧ Mt_ma (Pl_mt P) k < Mc_n (Pl_mc P))) ∧ (Mt_st (Pl_mt P) k = 0 → Pl_now P < Mt_sl (Pl_mt P) k + Mt_ln (Pl_mt P) k ∧ Mt_sl (Pl_mt P) k + Mt_ln (Pl_mt P) k ≤ 400)) ∧
  Pl_RU P ∧ (∀ k, 0 ≤ k → k < Bu_n (Pl_bu P) → Bu_st (Pl_bu P) k = 1 → Bu_bg (Pl_bu P) k ≤ Pl_now P ∧ Pl_now P < Bu_bg (Pl_bu P) k + Bu_ln (Pl_bu P) k) ∧ ∀ m, 0 ≤ m → m < Mc_n (Pl_mc P) → Mc_bf (Pl_mc P) m ≤ Pl_now P
theorem Pl_J_L {P : PlS} (h : Pl_J P) : Mt_L (Pl_mt P) := fun k h1 h2 => (h.2.2.1 k h1 h2).1
theorem Pl_J_N {P : PlS} (h : Pl_J P) : Pl_N P := ⟨fun k h1 h2 h3 => ((h.2.2.1 k h1 h2).2.2 h3).2, h.2.2.2.2.2⟩
theorem Bu_best_6 {u : BuS} {f x : Int} (hx : x ≤ 6) : ∀ k : Nat, Bu_bestN u f 6 k = -1 → Bu_bestN u f x k = -1
  | 0, _ => rfl
  | k + 1, h => by
    have e6 : Bu_bestN u f 6 (k + 1) = if Bu_st u (k : Int) = 0 ∧ zdf (Bu_ne u (k : Int)) f = 0 ∧ Bu_ln u (k : Int) ≤ 6 ∧ (Bu_bestN u f 6 k = -1 ∨ Bu_ur u (Bu_bestN u f 6 k) < Bu_ur u (k : Int)) then (k : Int) else Bu_bestN u f 6 k := rfl
    have ex : Bu_bestN u f x (k + 1) = if Bu_st u (k : Int) = 0 ∧ zdf (Bu_ne u (k : Int)) f = 0 ∧ Bu_ln u (k : Int) ≤ x ∧ (Bu_bestN u f x k = -1 ∨ Bu_ur u (Bu_bestN u f x k) < Bu_ur u (k : Int)) then (k : Int) else Bu_bestN u f x k := rfl
    rw [e6] at h
    rw [ex]
    by_cases h6 : Bu_st u (k : Int) = 0 ∧ zdf (Bu_ne u (k : Int)) f = 0 ∧ Bu_ln u (k : Int) ≤ 6 ∧ (Bu_bestN u f 6 k = -1 ∨ Bu_ur u (Bu_bestN u f 6 k) < Bu_ur u (k : Int))
    · rw [if_pos h6] at h
      omega
    · rw [if_neg h6] at h
      have h7 := Bu_best_6 hx k h
      rw [if_neg (fun q => h6 ⟨q.1, q.2.1, by omega, Or.inl h⟩), h7]
theorem Sim_best {P : PlS} {u : MdS} (hS : Sim P u) (hu : MdI u) (hJ : Pl_J P) (h4 : Pl_now P < 400) {m : Int} (hm : 0 ≤ m ∧ m < Mc_n (Pl_mc P)) : ∀ k : Nat, (k : Int) ≤ Bu_n (Pl_bu P) → Md_bestN u m k = Bu_bestN (Pl_bu P) (Mc_fe (Pl_mc P) m) (Pl_free P m) k
  | 0, _ => by rw [Md_bestN]; rfl
  | k + 1, hk => by
    have ih := Sim_best hS hu hJ h4 hm k (by omega)
    have ex : Bu_bestN (Pl_bu P) (Mc_fe (Pl_mc P) m) (Pl_free P m) (k + 1) = if Bu_st (Pl_bu P) (k : Int) = 0 ∧ zdf (Bu_ne (Pl_bu P) (k : Int)) (Mc_fe (Pl_mc P) m) = 0 ∧ Bu_ln (Pl_bu P) (k : Int) ≤ Pl_free P m ∧ (Bu_bestN (Pl_bu P) (Mc_fe (Pl_mc P) m) (Pl_free P m) k = -1 ∨ Bu_ur (Pl_bu P) (Bu_bestN (Pl_bu P) (Mc_fe (Pl_mc P) m) (Pl_free P m) k) < Bu_ur (Pl_bu P) (k : Int)) then (k : Int) else Bu_bestN (Pl_bu P) (Mc_fe (Pl_mc P) m) (Pl_free P m) k := rfl
    have hr := Sim_run hS hu (Pl_J_N hJ) h4 (k := (k : Int)) hm ((hJ.2.2.2.1.1 (k : Int) (by omega) (by omega)).1)
    have hb := hS.2.2.2.2.2
    rw [ex, Md_bestN, ih, hb]
    by_cases h : Bu_st (Pl_bu P) (k : Int) = 0 ∧ zdf (Bu_ne (Pl_bu P) (k : Int)) (Mc_fe (Pl_mc P) m) = 0 ∧ Bu_ln (Pl_bu P) (k : Int) ≤ Pl_free P m ∧ (Bu_bestN (Pl_bu P) (Mc_fe (Pl_mc P) m) (Pl_free P m) k = -1 ∨ Bu_ur (Pl_bu P) (Bu_bestN (Pl_bu P) (Mc_fe (Pl_mc P) m) (Pl_free P m) k) < Bu_ur (Pl_bu P) (k : Int))
    · rw [if_pos h, if_pos ⟨h.1, h.2.2.2, hr.mpr ⟨h.2.1, h.2.2.1⟩⟩]
    · rw [if_neg h, if_neg (fun q => h ⟨q.1, (hr.mp q.2.2).1, (hr.mp q.2.2).2, q.2.1⟩)]
theorem Sim_bsy {P : PlS} (hR : Pl_RU P) {m : Int} (hm : 0 ≤ m ∧ m < Mc_n (Pl_mc P)) : Bu_bsy (Pl_bu P) (Bu_n (Pl_bu P)) m ↔ Mc_ru (Pl_mc P) m ≠ -1 := by
  constructor
  · rintro ⟨k, h1, h2, h3, h4⟩ h5
    have h6 := ((hR.1 k h1 h2).2 h3).2
    rw [h4] at h6
    omega
  · intro h
    rcases hR.2 m hm.1 hm.2 with h1 | ⟨h1, h2, h3⟩
    · exact absurd h1 h
    · exact ⟨_, h1.1, h1.2, h2, h3⟩
theorem Sim_pick {P : PlS} {u : MdS} (hS : Sim P u) (hu : MdI u) (hJ : Pl_J P) (hP : PlI P) (h4 : Pl_now P < 400) {m : Int} (hm : 0 ≤ m ∧ m < Mc_n (Pl_mc P)) : Md_pick u m = Pl_pick P m := by
  have hb := hS.2.2.2.2.2
  have hn := hP.2.2.2.2.1.1
  by_cases h : Mc_ru (Pl_mc P) m = -1
  · rw [Md_pick_f (by rw [hb]; exact fun q => (Sim_bsy hJ.2.2.2.1 hm).mp q h), Sim_best hS hu hJ h4 hm _ (by rw [hb]; omega), hb]
    by_cases h6 : Bu_best (Pl_bu P) (Mc_fe (Pl_mc P) m) 6 = -1
    · rw [Pl_pick_3 h6]
      exact Bu_best_6 (Pl_free_r P m).2 _ h6
    · rw [Pl_pick_4 hm h h6]
      rfl
  · rw [Pl_pick_2 h, Md_pick_b (by rw [hb]; exact (Sim_bsy hJ.2.2.2.1 hm).mpr h)]
theorem Bu_bestN_st {u : BuS} {f x : Int} : ∀ k : Nat, Bu_bestN u f x k = -1 ∨ Bu_st u (Bu_bestN u f x k) = 0
  | 0 => Or.inl rfl
  | k + 1 => by
    have ex : Bu_bestN u f x (k + 1) = if Bu_st u (k : Int) = 0 ∧ zdf (Bu_ne u (k : Int)) f = 0 ∧ Bu_ln u (k : Int) ≤ x ∧ (Bu_bestN u f x k = -1 ∨ Bu_ur u (Bu_bestN u f x k) < Bu_ur u (k : Int)) then (k : Int) else Bu_bestN u f x k := rfl
    rw [ex]
    by_cases h : Bu_st u (k : Int) = 0 ∧ zdf (Bu_ne u (k : Int)) f = 0 ∧ Bu_ln u (k : Int) ≤ x ∧ (Bu_bestN u f x k = -1 ∨ Bu_ur u (Bu_bestN u f x k) < Bu_ur u (k : Int))
    · rw [if_pos h]; exact Or.inr h.1
    · rw [if_neg h]; exact Bu_bestN_st k
theorem Pl_pick_st {P : PlS} {m : Int} (h : Pl_pick P m ≠ -1) : Bu_st (Pl_bu P) (Pl_pick P m) = 0 ∧ Mc_ru (Pl_mc P) m = -1 := by
  unfold Pl_pick at h ⊢
  by_cases h1 : (0 ≤ m ∧ m < Mc_n (Pl_mc P)) ∧ Mc_ru (Pl_mc P) m = -1 ∧ Bu_best (Pl_bu P) (Mc_fe (Pl_mc P) m) 6 ≠ -1
  · rw [if_pos h1] at h ⊢
    exact ⟨(Bu_bestN_st _).resolve_left h, h1.2.1⟩
  · rw [if_neg h1] at h
    exact absurd rfl h
theorem Bu_beg_run {u : BuS} {k m x : Int} (h : 0 ≤ k ∧ k < Bu_n u) : Bu_beg u k m x = Bu_runM u k m x := by rw [Bu_beg, if_pos h]
/-- a build begins -/
theorem Sim_beg {P : PlS} {u : MdS} (hS : Sim P u) (hu : MdI u) (hJ : Pl_J P) (hP : PlI P) (h4 : Pl_now P < 400) {m : Int} (hm : 0 ≤ m ∧ m < Mc_n (Pl_mc P)) : Sim (Pl_beg P m) (Md_plan u m) ∧ Pl_J (Pl_beg P m) := by
  have hp := Sim_pick hS hu hJ hP h4 hm
  have hr := Pl_pick_r hP m
  by_cases h : Pl_pick P m = -1
  · rw [Pl_beg_no h, Md_plan_n (hp.trans h)]
    exact ⟨hS, hJ⟩
  · obtain ⟨h1, h2⟩ := Pl_pick_st h
    rw [Pl_beg_yes rfl h, Md_plan_y hp.symm h]
    generalize Pl_pick P m = b at h h1 hr
    have hk : 0 ≤ b ∧ b < Bu_n (Pl_bu P) := by omega
    rw [Bu_beg_run hk]
    obtain ⟨s1, s2, s3, s4, s5, s6⟩ := hS
    refine ⟨⟨s1, s2, s3, s4, s5, by show Bu_runM (Md_bu u) b m (Md_now u) = _; rw [s6, s1]⟩, ?_⟩
    obtain ⟨j1, j2, j3, ⟨j4, j5⟩, j6, j7⟩ := hJ
    refine ⟨j1, fun k g => ?_, j3, ⟨fun k g1 g2 => ?_, fun m2 g1 g2 => ?_⟩, fun k g1 g2 g3 => ?_, j7⟩
    · show zU (Bu_st (Pl_bu P)) b 1 k = 0 ∧ zU (Bu_ti (Pl_bu P)) b _ k = 0
      have g' : Bu_n (Pl_bu P) ≤ k := g
      rw [zU_n _ _ (by omega), zU_n _ _ (by omega)]
      exact j2 k g
    · refine ⟨(j4 k g1 g2).1, ?_⟩
      show zU (Bu_st (Pl_bu P)) b 1 k = 1 → (0 ≤ zU (Bu_ma (Pl_bu P)) b m k ∧ zU (Bu_ma (Pl_bu P)) b m k < Mc_n (Pl_mc P)) ∧ zU (Mc_ru (Pl_mc P)) m b (zU (Bu_ma (Pl_bu P)) b m k) = k
      by_cases hkb : k = b
      · subst hkb
        rw [zU_s, zU_s, zU_s]
        exact fun _ => ⟨hm, rfl⟩
      · rw [zU_n _ _ hkb, zU_n _ _ hkb]
        intro g3
        have g4 := (j4 k g1 g2).2 g3
        refine ⟨g4.1, ?_⟩
        rw [zU_n _ _ (fun q => by rw [q] at g4; omega)]
        exact g4.2
    · show zU (Mc_ru (Pl_mc P)) m b m2 = -1 ∨ (0 ≤ zU (Mc_ru (Pl_mc P)) m b m2 ∧ zU (Mc_ru (Pl_mc P)) m b m2 < Bu_n (Pl_bu P)) ∧ zU (Bu_st (Pl_bu P)) b 1 (zU (Mc_ru (Pl_mc P)) m b m2) = 1 ∧ zU (Bu_ma (Pl_bu P)) b m (zU (Mc_ru (Pl_mc P)) m b m2) = m2
      by_cases hmm : m2 = m
      · subst hmm
        rw [zU_s, zU_s, zU_s]
        exact Or.inr ⟨hk, rfl, rfl⟩
      · rw [zU_n _ _ hmm]
        rcases j5 m2 g1 g2 with g3 | ⟨g3, g4, g5⟩
        · exact Or.inl g3
        · have hne : Mc_ru (Pl_mc P) m2 ≠ b := fun q => by rw [q] at g4; omega
          rw [zU_n _ _ hne, zU_n _ _ hne]
          exact Or.inr ⟨g3, g4, g5⟩
    · revert g3
      show zU (Bu_st (Pl_bu P)) b 1 k = 1 → zU (Bu_bg (Pl_bu P)) b (Pl_now P) k ≤ Pl_now P ∧ Pl_now P < zU (Bu_bg (Pl_bu P)) b (Pl_now P) k + Bu_ln (Pl_bu P) k
      have g4 := (j4 k g1 g2).1
      by_cases hkb : k = b
      · subst hkb
        rw [zU_s, zU_s]
        exact fun _ => ⟨Int.le_refl _, by omega⟩
      · rw [zU_n _ _ hkb, zU_n _ _ hkb]
        exact j6 k g1 g2
theorem Sim_begN {P : PlS} {u : MdS} (hS : Sim P u) (hu : MdI u) (hJ : Pl_J P) (hP : PlI P) (h4 : Pl_now P < 400) : ∀ k : Nat, (k : Int) ≤ Mc_n (Pl_mc P) → Sim (Pl_begN P k) (Md_planN u k) ∧ Pl_J (Pl_begN P k)
  | 0, _ => ⟨hS, hJ⟩
  | k + 1, hk => by
    have ih := Sim_begN hS hu hJ hP h4 k (by omega)
    have h1 := Pl_begN_n P k
    have hn := hP.1.1
    have h2 := Md_planN_I hu k (by omega)
    exact Sim_beg ih.1 h2 ih.2 (Pl_begN_I hP k (by omega)) (by rw [h1.2]; exact h4) ⟨by omega, by rw [h1.1]; omega⟩
/-! the end of a slot -/
def ru_e (P : PlS) (x : Int) (i : Int) : Int → Int := fun m => if (0 ≤ m ∧ m < i) ∧ (0 ≤ Mc_ru (Pl_mc P) m ∧ Mc_ru (Pl_mc P) m < Bu_n (Pl_bu P)) ∧ Bu_bg (Pl_bu P) (Mc_ru (Pl_mc P) m) + Bu_ln (Pl_bu P) (Mc_ru (Pl_mc P) m) ≤ x then -1 else Mc_ru (Pl_mc P) m
def st_e (P : PlS) (x : Int) (i : Int) : Int → Int := fun k => if (0 ≤ k ∧ k < Bu_n (Pl_bu P)) ∧ Bu_st (Pl_bu P) k = 1 ∧ Bu_ma (Pl_bu P) k < i ∧ Bu_bg (Pl_bu P) k + Bu_ln (Pl_bu P) k ≤ x then 2 else Bu_st (Pl_bu P) k
theorem Pl_eN_is {P : PlS} (hR : Pl_RU P) (x : Int) : ∀ i : Nat, (i : Int) ≤ Mc_n (Pl_mc P) → Pl_eN (Pl_setNow P x) i = (Mc_setR (Pl_mc P) (ru_e P x i), Pl_lo P, Pl_lv P, Pl_mt P, Bu_setSt (Pl_bu P) (st_e P x i), x)
  | 0, _ => by
    have e1 : ru_e P x ((0 : Nat) : Int) = Mc_ru (Pl_mc P) := by
      funext m
      unfold ru_e
      rw [if_neg (by omega)]
    have e2 : st_e P x ((0 : Nat) : Int) = Bu_st (Pl_bu P) := by
      funext k
      unfold st_e
      rw [if_neg]
      rintro ⟨h1, h2, h3, h4⟩
      have h5 := ((hR.1 k h1.1 h1.2).2 h2).1
      omega
    rw [e1, e2]
    rfl
  | i + 1, hi => by
    have ih := Pl_eN_is hR x i (by omega)
    have e : Pl_eN (Pl_setNow P x) (i + 1) = Pl_e1 (Pl_eN (Pl_setNow P x) i) (i : Int) := rfl
    rw [e, ih]
    have ei : ru_e P x (i : Int) (i : Int) = Mc_ru (Pl_mc P) (i : Int) := by
      unfold ru_e
      rw [if_neg (by omega)]
    have hru := hR.2 (i : Int) (by omega) (by omega)
    by_cases h : (0 ≤ Mc_ru (Pl_mc P) (i : Int) ∧ Mc_ru (Pl_mc P) (i : Int) < Bu_n (Pl_bu P)) ∧ Bu_bg (Pl_bu P) (Mc_ru (Pl_mc P) (i : Int)) + Bu_ln (Pl_bu P) (Mc_ru (Pl_mc P) (i : Int)) ≤ x
    · rcases hru with h1 | ⟨h1, h2, h3⟩
      · omega
      have e1 : zU (ru_e P x (i : Int)) (i : Int) (-1) = ru_e P x ((i + 1 : Nat) : Int) := by
        funext m
        unfold zU ru_e
        by_cases hm : m = (i : Int)
        · rw [if_pos hm, if_pos ⟨by omega, by rw [hm]; exact h⟩]
        · rw [if_neg hm]
          by_cases h9 : (0 ≤ m ∧ m < (i : Int)) ∧ (0 ≤ Mc_ru (Pl_mc P) m ∧ Mc_ru (Pl_mc P) m < Bu_n (Pl_bu P)) ∧ Bu_bg (Pl_bu P) (Mc_ru (Pl_mc P) m) + Bu_ln (Pl_bu P) (Mc_ru (Pl_mc P) m) ≤ x
          · rw [if_pos h9, if_pos ⟨by omega, h9.2⟩]
          · rw [if_neg h9, if_neg (fun q => h9 ⟨by omega, q.2⟩)]
      have e2 : zU (st_e P x (i : Int)) (Mc_ru (Pl_mc P) (i : Int)) 2 = st_e P x ((i + 1 : Nat) : Int) := by
        funext k
        unfold zU st_e
        by_cases hk : k = Mc_ru (Pl_mc P) (i : Int)
        · rw [if_pos hk, if_pos]
          rw [hk]
          exact ⟨h1, h2, by omega, h.2⟩
        · rw [if_neg hk]
          by_cases h9 : (0 ≤ k ∧ k < Bu_n (Pl_bu P)) ∧ Bu_st (Pl_bu P) k = 1 ∧ Bu_ma (Pl_bu P) k < (i : Int) ∧ Bu_bg (Pl_bu P) k + Bu_ln (Pl_bu P) k ≤ x
          · rw [if_pos h9, if_pos ⟨h9.1, h9.2.1, by omega, h9.2.2.2⟩]
          · rw [if_neg h9, if_neg]
            rintro ⟨q1, q2, q3, q4⟩
            have q5 := ((hR.1 k q1.1 q1.2).2 q2).2
            by_cases q6 : Bu_ma (Pl_bu P) k = (i : Int)
            · rw [q6] at q5
              exact hk q5.symm
            · exact h9 ⟨q1, q2, by omega, q4⟩
      rw [Pl_e1_yes (u := (Mc_setR (Pl_mc P) (ru_e P x (i : Int)), Pl_lo P, Pl_lv P, Pl_mt P, Bu_setSt (Pl_bu P) (st_e P x (i : Int)), x)) (m := (i : Int)) (by show 0 ≤ ru_e P x (i : Int) (i : Int) ∧ ru_e P x (i : Int) (i : Int) < _; rw [ei]; exact h.1) (by show Bu_bg (Pl_bu P) (ru_e P x (i : Int) (i : Int)) + Bu_ln (Pl_bu P) (ru_e P x (i : Int) (i : Int)) ≤ x; rw [ei]; exact h.2)]
      show (Mc_setR (Pl_mc P) (zU (ru_e P x (i : Int)) (i : Int) (-1)), Pl_lo P, Pl_lv P, Pl_mt P, Bu_setSt (Pl_bu P) (zU (st_e P x (i : Int)) (ru_e P x (i : Int) (i : Int)) 2), x) = _
      rw [ei, e1, e2]
    · have e1 : ru_e P x (i : Int) = ru_e P x ((i + 1 : Nat) : Int) := by
        funext m
        unfold ru_e
        by_cases h9 : (0 ≤ m ∧ m < (i : Int)) ∧ (0 ≤ Mc_ru (Pl_mc P) m ∧ Mc_ru (Pl_mc P) m < Bu_n (Pl_bu P)) ∧ Bu_bg (Pl_bu P) (Mc_ru (Pl_mc P) m) + Bu_ln (Pl_bu P) (Mc_ru (Pl_mc P) m) ≤ x
        · rw [if_pos h9, if_pos ⟨by omega, h9.2⟩]
        · rw [if_neg h9, if_neg]
          rintro ⟨q1, q2, q3⟩
          by_cases q6 : m = (i : Int)
          · rw [q6] at q2 q3
            exact h ⟨q2, q3⟩
          · exact h9 ⟨by omega, q2, q3⟩
      have e2 : st_e P x (i : Int) = st_e P x ((i + 1 : Nat) : Int) := by
        funext k
        unfold st_e
        by_cases h9 : (0 ≤ k ∧ k < Bu_n (Pl_bu P)) ∧ Bu_st (Pl_bu P) k = 1 ∧ Bu_ma (Pl_bu P) k < (i : Int) ∧ Bu_bg (Pl_bu P) k + Bu_ln (Pl_bu P) k ≤ x
        · rw [if_pos h9, if_pos ⟨h9.1, h9.2.1, by omega, h9.2.2.2⟩]
        · rw [if_neg h9, if_neg]
          rintro ⟨q1, q2, q3, q4⟩
          have q5 := ((hR.1 k q1.1 q1.2).2 q2).2
          by_cases q6 : Bu_ma (Pl_bu P) k = (i : Int)
          · rw [q6] at q5
            rw [q5] at h
            exact h ⟨q1, q4⟩
          · exact h9 ⟨q1, q2, by omega, q4⟩
      rw [← e1, ← e2]
      by_cases h8 : 0 ≤ Mc_ru (Pl_mc P) (i : Int) ∧ Mc_ru (Pl_mc P) (i : Int) < Bu_n (Pl_bu P)
      · exact Pl_e1_no2 (u := (Mc_setR (Pl_mc P) (ru_e P x (i : Int)), Pl_lo P, Pl_lv P, Pl_mt P, Bu_setSt (Pl_bu P) (st_e P x (i : Int)), x)) (m := (i : Int)) (by show x < Bu_bg (Pl_bu P) (ru_e P x (i : Int) (i : Int)) + Bu_ln (Pl_bu P) (ru_e P x (i : Int) (i : Int)); rw [ei]; exact Int.not_le.mp (fun q => h ⟨h8, q⟩))
      · exact Pl_e1_no1 (u := (Mc_setR (Pl_mc P) (ru_e P x (i : Int)), Pl_lo P, Pl_lv P, Pl_mt P, Bu_setSt (Pl_bu P) (st_e P x (i : Int)), x)) (m := (i : Int)) (by show ¬ (0 ≤ ru_e P x (i : Int) (i : Int) ∧ ru_e P x (i : Int) (i : Int) < _); rw [ei]; exact h8)
theorem Sim_end {P : PlS} {u : MdS} (hS : Sim P u) (hJ : Pl_J P) (hP : PlI P) : Sim (Pl_end P) (Md_end u) ∧ Pl_J (Pl_end P) := by
  obtain ⟨s1, s2, s3, s4, s5, s6⟩ := hS
  have hn := hP.1.1
  have e := Pl_eN_is hJ.2.2.2.1 (Pl_now P + 1) (Mc_n (Pl_mc P)).toNat (by omega)
  rw [show (((Mc_n (Pl_mc P)).toNat : Nat) : Int) = Mc_n (Pl_mc P) by omega] at e
  obtain ⟨j1, j2, j3, j4, j6, j7⟩ := hJ
  have eB : st_e P (Pl_now P + 1) (Mc_n (Pl_mc P)) = Bu_endN (Pl_bu P) (Pl_now P) (Bu_n (Pl_bu P)) := by
    funext k
    unfold st_e Bu_endN
    by_cases h : 0 ≤ k ∧ k < Bu_n (Pl_bu P) ∧ Bu_st (Pl_bu P) k = 1 ∧ Bu_bg (Pl_bu P) k + Bu_ln (Pl_bu P) k - 1 = Pl_now P
    · have h2 := ((j4.1 k h.1 h.2.1).2 h.2.2.1).1
      rw [if_pos h, if_pos ⟨⟨h.1, h.2.1⟩, h.2.2.1, by omega, by omega⟩]
    · rw [if_neg h, if_neg]
      rintro ⟨q1, q2, q3, q4⟩
      have q5 := j6 k q1.1 q1.2 q2
      exact h ⟨q1.1, q1.2, q2, by omega⟩
  have eM : Mt_over (Pl_mt P) (Pl_now P + 1) (Mt_n (Pl_mt P)) = Mt_endN (Pl_mt P) (Pl_now P) (Mt_n (Pl_mt P)) := by
    funext k
    unfold Mt_over Mt_endN
    by_cases h : 0 ≤ k ∧ k < Mt_n (Pl_mt P) ∧ Mt_st (Pl_mt P) k = 0 ∧ Mt_sl (Pl_mt P) k + Mt_ln (Pl_mt P) k - 1 = Pl_now P
    · rw [if_pos h, if_pos ⟨h.1, h.2.1, h.2.2.1, by omega⟩]
    · rw [if_neg h, if_neg]
      rintro ⟨q1, q2, q3, q4⟩
      have q5 := (j3 k q1 q2).2.2 q3
      exact h ⟨q1, q2, q3, by omega⟩
  have eP : Pl_end P = (Mc_setR (Pl_mc P) (ru_e P (Pl_now P + 1) (Mc_n (Pl_mc P))), Pl_lo P, Pl_lv P, Mt_setSt (Pl_mt P) (Mt_endN (Pl_mt P) (Pl_now P) (Mt_n (Pl_mt P))), Bu_setSt (Pl_bu P) (Bu_endN (Pl_bu P) (Pl_now P) (Bu_n (Pl_bu P))), Pl_now P + 1) := by
    rw [Pl_end, e, eB]
    show (_, _, _, (_, _, _, _, _, Mt_over (Pl_mt P) (Pl_now P + 1) (Mt_n (Pl_mt P)), _), _, _) = _
    rw [eM]
  rw [eP]
  refine ⟨⟨by show Md_now u + 1 = _; rw [s1], s2, s3, s4, by show Mt_setSt (Md_mt u) (Mt_endN (Md_mt u) (Md_now u) _) = _; rw [s5, s1], by show Bu_setSt (Md_bu u) (Bu_endN (Md_bu u) (Md_now u) _) = _; rw [s6, s1]⟩, ?_⟩
  have stB : ∀ k, 0 ≤ k → k < Bu_n (Pl_bu P) → Bu_endN (Pl_bu P) (Pl_now P) (Bu_n (Pl_bu P)) k = 1 → Bu_st (Pl_bu P) k = 1 ∧ Pl_now P + 1 < Bu_bg (Pl_bu P) k + Bu_ln (Pl_bu P) k := by
    intro k h1 h2 h3
    unfold Bu_endN at h3
    by_cases h : 0 ≤ k ∧ k < Bu_n (Pl_bu P) ∧ Bu_st (Pl_bu P) k = 1 ∧ Bu_bg (Pl_bu P) k + Bu_ln (Pl_bu P) k - 1 = Pl_now P
    · rw [if_pos h] at h3
      omega
    · rw [if_neg h] at h3
      have h4 := j6 k h1 h2 h3
      refine ⟨h3, ?_⟩
      have h5 : ¬ Bu_bg (Pl_bu P) k + Bu_ln (Pl_bu P) k - 1 = Pl_now P := fun q => h ⟨h1, h2, h3, q⟩
      omega
  refine ⟨j1, fun k g => ?_, fun k g1 g2 => ⟨(j3 k g1 g2).1, (j3 k g1 g2).2.1, fun g3 => ?_⟩, ⟨fun k g1 g2 => ⟨(j4.1 k g1 g2).1, fun g3 => ?_⟩, fun m g1 g2 => ?_⟩, fun k g1 g2 g3 => ?_, fun m g1 g2 => ?_⟩
  · refine ⟨?_, (j2 k g).2⟩
    show Bu_endN (Pl_bu P) (Pl_now P) (Bu_n (Pl_bu P)) k = 0
    unfold Bu_endN
    have g' : Bu_n (Pl_bu P) ≤ k := g
    rw [if_neg (by omega)]
    exact (j2 k g).1
  · have g4 : Mt_endN (Pl_mt P) (Pl_now P) (Mt_n (Pl_mt P)) k = 0 := g3
    unfold Mt_endN at g4
    by_cases h : 0 ≤ k ∧ k < Mt_n (Pl_mt P) ∧ Mt_st (Pl_mt P) k = 0 ∧ Mt_sl (Pl_mt P) k + Mt_ln (Pl_mt P) k - 1 = Pl_now P
    · rw [if_pos h] at g4
      omega
    · rw [if_neg h] at g4
      have h5 := (j3 k g1 g2).2.2 g4
      have h6 : ¬ Mt_sl (Pl_mt P) k + Mt_ln (Pl_mt P) k - 1 = Pl_now P := fun q => h ⟨g1, g2, g4, q⟩
      refine ⟨?_, h5.2⟩
      show Pl_now P + 1 < Mt_sl (Pl_mt P) k + Mt_ln (Pl_mt P) k
      omega
  · obtain ⟨h1, h2⟩ := stB k g1 g2 g3
    have h3 := (j4.1 k g1 g2).2 h1
    refine ⟨h3.1, ?_⟩
    show ru_e P (Pl_now P + 1) (Mc_n (Pl_mc P)) (Bu_ma (Pl_bu P) k) = k
    unfold ru_e
    rw [if_neg]
    · exact h3.2
    · rintro ⟨-, -, q⟩
      rw [h3.2] at q
      omega
  · show ru_e P (Pl_now P + 1) (Mc_n (Pl_mc P)) m = -1 ∨ (0 ≤ ru_e P (Pl_now P + 1) (Mc_n (Pl_mc P)) m ∧ ru_e P (Pl_now P + 1) (Mc_n (Pl_mc P)) m < Bu_n (Pl_bu P)) ∧ Bu_endN (Pl_bu P) (Pl_now P) (Bu_n (Pl_bu P)) (ru_e P (Pl_now P + 1) (Mc_n (Pl_mc P)) m) = 1 ∧ Bu_ma (Pl_bu P) (ru_e P (Pl_now P + 1) (Mc_n (Pl_mc P)) m) = m
    unfold ru_e
    by_cases h : (0 ≤ m ∧ m < Mc_n (Pl_mc P)) ∧ (0 ≤ Mc_ru (Pl_mc P) m ∧ Mc_ru (Pl_mc P) m < Bu_n (Pl_bu P)) ∧ Bu_bg (Pl_bu P) (Mc_ru (Pl_mc P) m) + Bu_ln (Pl_bu P) (Mc_ru (Pl_mc P) m) ≤ Pl_now P + 1
    · rw [if_pos h]
      exact Or.inl rfl
    · rw [if_neg h]
      rcases j4.2 m g1 g2 with h1 | ⟨h1, h2, h3⟩
      · exact Or.inl h1
      · refine Or.inr ⟨h1, ?_, h3⟩
        unfold Bu_endN
        rw [if_neg]
        · exact h2
        · rintro ⟨-, -, -, q⟩
          exact h ⟨⟨g1, g2⟩, h1, by omega⟩
  · obtain ⟨h1, h2⟩ := stB k g1 g2 g3
    have h3 := j6 k g1 g2 h1
    refine ⟨?_, h2⟩
    show Bu_bg (Pl_bu P) k ≤ Pl_now P + 1
    omega
  · have h1 := j7 m g1 g2
    show Mc_bf (Pl_mc P) m ≤ Pl_now P + 1
    omega
theorem Sim_step {P : PlS} {u : MdS} (hS : Sim P u) (hu : MdI u) (hJ : Pl_J P) (hP : PlI P) (h4 : Pl_now P < 400) : Sim (Pl_step P) (Md_step u) ∧ Pl_J (Pl_step P) := by
  have hn := hP.1.1
  have h := Sim_begN hS hu hJ hP h4 (Mc_n (Pl_mc P)).toNat (by omega)
  have h2 := Sim_end h.1 h.2 (Pl_begN_I hP _ (by omega))
  rw [Pl_step, Md_step, hS.2.2.1.1]
  exact h2
theorem Md_iter_c (u : MdS) : ∀ n : Nat, Md_iter u (n + 1) = Md_iter (Md_step u) n
  | 0 => rfl
  | n + 1 => by
    have h := Md_iter_c u n
    show Md_step (Md_iter u (n + 1)) = Md_step (Md_iter (Md_step u) n)
    rw [h]
theorem Sim_iter : ∀ (n : Nat) {P : PlS} {u : MdS}, Sim P u → MdI u → Pl_J P → PlI P → Pl_now P + n ≤ 400 → Sim (Pl_iter n P) (Md_iter u n) ∧ Pl_J (Pl_iter n P)
  | 0, _, _, hS, _, hJ, _, _ => ⟨hS, hJ⟩
  | n + 1, P, u, hS, hu, hJ, hP, h4 => by
    have h := Sim_step hS hu hJ hP (by omega)
    have h2 := Pl_step_I hP (by omega)
    rw [Md_iter_c]
    exact Sim_iter n h.1 (Md_step_I hu (by rw [hS.1]; omega)) h.2 h2.1 (by rw [h2.2]; omega)
