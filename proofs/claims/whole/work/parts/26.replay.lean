/-! ===== planned once more: equal below the counts ===== -/
def eqb (n : Int) (f g : Int → Int) : Prop := ∀ k, 0 ≤ k → k < n → f k = g k
theorem eqb_r (n : Int) (f : Int → Int) : eqb n f f := fun _ _ _ => rfl
theorem eqb_U {n : Int} {f g : Int → Int} (h : eqb n f g) (j : Int) {x y : Int} (hx : x = y) : eqb n (zU f j x) (zU g j y) := fun k h1 h2 => by
  subst hx
  unfold zU
  by_cases hk : k = j
  · rw [if_pos hk, if_pos hk]
  · rw [if_neg hk, if_neg hk, h k h1 h2]
theorem eqb_A {n : Int} {f g : Int → Int} (h : eqb n f g) (x : Int) : eqb (n + 1) (zU f n x) (zU g n x) := fun k h1 h2 => by
  unfold zU
  by_cases hk : k = n
  · rw [if_pos hk, if_pos hk]
  · rw [if_neg hk, if_neg hk, h k h1 (by omega)]
def Mc_E (a b : McS) : Prop := Mc_n a = Mc_n b ∧ eqb (Mc_n a) (Mc_fe a) (Mc_fe b) ∧ eqb (Mc_n a) (Mc_ow a) (Mc_ow b) ∧ eqb (Mc_n a) (Mc_bf a) (Mc_bf b) ∧ eqb (Mc_n a) (Mc_bu a) (Mc_bu b) ∧ eqb (Mc_n a) (Mc_ru a) (Mc_ru b)
def Lo_E (a b : LoS) : Prop := Lo_n a = Lo_n b ∧ eqb (Lo_n a) (Lo_ma a) (Lo_ma b) ∧ eqb (Lo_n a) (Lo_pe a) (Lo_pe b) ∧ eqb (Lo_n a) (Lo_fr a) (Lo_fr b) ∧ eqb (Lo_n a) (Lo_to a) (Lo_to b)
def Lv_E (a b : LvS) : Prop := ∀ q, 0 ≤ q → q < 10 → a q = b q
def Mt_E (a b : MtS) : Prop := Mt_n a = Mt_n b ∧ eqb (Mt_n a) (Mt_pe a) (Mt_pe b) ∧ eqb (Mt_n a) (Mt_sl a) (Mt_sl b) ∧ eqb (Mt_n a) (Mt_ln a) (Mt_ln b) ∧ eqb (Mt_n a) (Mt_ma a) (Mt_ma b) ∧ eqb (Mt_n a) (Mt_st a) (Mt_st b) ∧ eqb (Mt_n a) (Mt_mv a) (Mt_mv b)
def Bu_E (a b : BuS) : Prop := Bu_n a = Bu_n b ∧ eqb (Bu_n a) (Bu_ne a) (Bu_ne b) ∧ eqb (Bu_n a) (Bu_ur a) (Bu_ur b) ∧ eqb (Bu_n a) (Bu_ln a) (Bu_ln b) ∧ eqb (Bu_n a) (Bu_st a) (Bu_st b) ∧ eqb (Bu_n a) (Bu_ma a) (Bu_ma b) ∧ eqb (Bu_n a) (Bu_bg a) (Bu_bg b) ∧ eqb (Bu_n a) (Bu_ti a) (Bu_ti b)
def Pl_E (u v : PlS) : Prop := Mc_E (Pl_mc u) (Pl_mc v) ∧ Lo_E (Pl_lo u) (Pl_lo v) ∧ Lv_E (Pl_lv u) (Pl_lv v) ∧ Mt_E (Pl_mt u) (Pl_mt v) ∧ Bu_E (Pl_bu u) (Pl_bu v) ∧ Pl_now u = Pl_now v
theorem Mt_prom_E {a b : MtS} (h : Mt_E a b) (m s l ex : Int) : Mt_prom a (Mt_n a) m s l ex ↔ Mt_prom b (Mt_n b) m s l ex := by
  obtain ⟨hn, h1, h2, h3, h4, h5, h6⟩ := h
  constructor
  · rintro ⟨k, k1, k2, k3, k4, k5, k6⟩
    refine ⟨k, k1, by omega, k3, by rw [← h4 k k1 k2]; exact k4, by rw [← h5 k k1 k2]; exact k5, ?_⟩
    rw [← h2 k k1 k2, ← h3 k k1 k2]
    exact k6
  · rintro ⟨k, k1, k2, k3, k4, k5, k6⟩
    have k2' : k < Mt_n a := by omega
    refine ⟨k, k1, k2', k3, by rw [h4 k k1 k2']; exact k4, by rw [h5 k k1 k2']; exact k5, ?_⟩
    rw [h2 k k1 k2', h3 k k1 k2']
    exact k6
theorem Lv_off_E {a b : LvS} (h : Lv_E a b) (q s : Int) : Lv_off a q s ↔ Lv_off b q s := by
  unfold Lv_off
  constructor
  · rintro ⟨h1, h2, h3⟩
    exact ⟨h1, h2, by rw [← h q h1 h2]; exact h3⟩
  · rintro ⟨h1, h2, h3⟩
    exact ⟨h1, h2, by rw [h q h1 h2]; exact h3⟩
theorem Mc_brk_E {a b : McS} (h : Mc_E a b) (m s l : Int) : Mc_brk a m s l ↔ Mc_brk b m s l := by
  obtain ⟨hn, h1, h2, h3, h4, h5⟩ := h
  unfold Mc_brk
  constructor
  · rintro ⟨k, g⟩
    rw [← h3 m k.1 k.2, ← h4 m k.1 k.2, ← hn]
    exact ⟨k, g⟩
  · rintro ⟨k, g⟩
    have k' : 0 ≤ m ∧ m < Mc_n a := by omega
    rw [h3 m k'.1 k'.2, h4 m k'.1 k'.2]
    exact ⟨k', g⟩
theorem Lo_borN_E {a b : LoS} (h : Lo_E a b) (m s : Int) : ∀ n : Nat, (n : Int) ≤ Lo_n a → Lo_borN a m s n = Lo_borN b m s n
  | 0, _ => rfl
  | n + 1, hn => by
    have ih := Lo_borN_E h m s n (by omega)
    have e : ∀ u : LoS, Lo_borN u m s (n + 1) = if Lo_ma u (n : Int) = m ∧ Lo_fr u (n : Int) ≤ s ∧ s ≤ Lo_to u (n : Int) then Lo_pe u (n : Int) else Lo_borN u m s n := fun _ => rfl
    obtain ⟨h0, h1, h2, h3, h4⟩ := h
    rw [e a, e b, h1 n (by omega) (by omega), h2 n (by omega) (by omega), h3 n (by omega) (by omega), h4 n (by omega) (by omega), ih]
theorem Lo_bor_E {a b : LoS} (h : Lo_E a b) (hi : 0 ≤ Lo_n a) (m s : Int) : Lo_bor a m s = Lo_bor b m s := by
  unfold Lo_bor
  rw [← h.1]
  exact Lo_borN_E h m s _ (by omega)
theorem Bu_bestN_E {a b : BuS} (h : Bu_E a b) (f x : Int) : ∀ n : Nat, (n : Int) ≤ Bu_n a → Bu_bestN a f x n = Bu_bestN b f x n
  | 0, _ => rfl
  | n + 1, hn => by
    have ih := Bu_bestN_E h f x n (by omega)
    have e : ∀ u : BuS, Bu_bestN u f x (n + 1) = if Bu_st u (n : Int) = 0 ∧ zdf (Bu_ne u (n : Int)) f = 0 ∧ Bu_ln u (n : Int) ≤ x ∧ (Bu_bestN u f x n = -1 ∨ Bu_ur u (Bu_bestN u f x n) < Bu_ur u (n : Int)) then (n : Int) else Bu_bestN u f x n := fun _ => rfl
    have hr := Bu_bestN_r b f x n
    obtain ⟨h0, h1, h2, h3, h4, h5⟩ := h
    rw [e a, e b, h1 n (by omega) (by omega), h3 n (by omega) (by omega), h4 n (by omega) (by omega), h2 n (by omega) (by omega), ih]
    by_cases hb : Bu_bestN b f x n = -1
    · simp only [hb, true_or]
    · rw [h2 (Bu_bestN b f x n) (by omega) (by omega)]
theorem Bu_best_E {a b : BuS} (h : Bu_E a b) (hi : 0 ≤ Bu_n a) (f x : Int) : Bu_best a f x = Bu_best b f x := by
  unfold Bu_best
  rw [← h.1]
  exact Bu_bestN_E h f x _ (by omega)
theorem Pl_hold_E {u v : PlS} (h : Pl_E u v) (hu : PlI u) (m s : Int) : Pl_hold u m s = Pl_hold v m s := by
  have h1 := Lo_bor_E h.2.1 hu.2.1.1.1 m s
  obtain ⟨hn, k1, k2, -⟩ := h.1
  unfold Pl_hold
  rw [h1, ← hn]
  by_cases hc : Lo_bor (Pl_lo v) m s = -1 ∧ 0 ≤ m ∧ m < Mc_n (Pl_mc u)
  · rw [if_pos hc, if_pos hc, k2 m hc.2.1 hc.2.2]
  · rw [if_neg hc, if_neg hc]
theorem Pl_hin_E {u v : PlS} (h : Pl_E u v) (hu : PlI u) (m s : Int) : Pl_hin u m s ↔ Pl_hin v m s := by
  unfold Pl_hin
  rw [Mc_brk_E h.1, Pl_hold_E h hu, Lv_off_E h.2.2.1, Mt_prom_E h.2.2.2.1]
theorem Pl_free_E {u v : PlS} (h : Pl_E u v) (hu : PlI u) (m : Int) : Pl_free u m = Pl_free v m := by
  have key : ∀ k : Nat, Pl_freeN u m k = Pl_freeN v m k := by
    intro k
    induction k with
    | zero => rfl
    | succ k ih =>
      have e : ∀ w : PlS, Pl_freeN w m (k + 1) = if Pl_now w + (5 - (k : Int)) < 400 then (if bz (Pl_hin w m (Pl_now w + (5 - (k : Int)))) = 1 then 5 - (k : Int) else Pl_freeN w m k) else 6 := fun _ => rfl
      rw [e u, e v, h.2.2.2.2.2, bz_c (Pl_hin_E h hu m _), ih]
  exact key 6
theorem Pl_pick_E {u v : PlS} (h : Pl_E u v) (hu : PlI u) (m : Int) : Pl_pick u m = Pl_pick v m := by
  have hf := Pl_free_E h hu m
  have hb := fun f x => Bu_best_E h.2.2.2.2.1 hu.2.2.2.2.1.1.1 f x
  obtain ⟨hn, k1, k2, k3, k4, k5⟩ := h.1
  unfold Pl_pick
  rw [hf, hb, hb, ← hn]
  by_cases hm : 0 ≤ m ∧ m < Mc_n (Pl_mc u)
  · rw [k1 m hm.1 hm.2, k5 m hm.1 hm.2]
  · rw [if_neg (fun q => hm q.1), if_neg (fun q => hm q.1)]
theorem Bu_beg_E {a b : BuS} (h : Bu_E a b) (k m x : Int) : Bu_E (Bu_beg a k m x) (Bu_beg b k m x) := by
  have h0 := h
  obtain ⟨hn, h1, h2, h3, h4, h5, h6, h7⟩ := h
  unfold Bu_beg
  rw [← hn]
  by_cases hk : 0 ≤ k ∧ k < Bu_n a
  · rw [if_pos hk, if_pos hk]
    exact ⟨rfl, h1, h2, h3, eqb_U h4 k rfl, eqb_U h5 k rfl, eqb_U h6 k rfl, eqb_U h7 k (by rw [h7 k hk.1 hk.2])⟩
  · rw [if_neg hk, if_neg hk]
    exact h0
theorem Pl_beg_E {u v : PlS} (h : Pl_E u v) (hu : PlI u) (m : Int) : Pl_E (Pl_beg u m) (Pl_beg v m) := by
  have hp := Pl_pick_E h hu m
  unfold Pl_beg
  rw [← hp]
  by_cases hk : Pl_pick u m = -1
  · rw [if_pos hk, if_pos hk]
    exact h
  · rw [if_neg hk, if_neg hk]
    obtain ⟨⟨g0, g1, g2, g3, g4, g5⟩, h2, h3, h4, h5, h6⟩ := h
    exact ⟨⟨g0, g1, g2, g3, g4, eqb_U g5 m rfl⟩, h2, h3, h4, by rw [h6]; exact Bu_beg_E h5 _ m _, h6⟩
theorem Pl_begN_E {u v : PlS} (h : Pl_E u v) (hu : PlI u) : ∀ k : Nat, k ≤ 6 → Pl_E (Pl_begN u k) (Pl_begN v k)
  | 0, _ => h
  | k + 1, hk => Pl_beg_E (Pl_begN_E h hu k (by omega)) (Pl_begN_I hu k (by omega)) _
theorem Pl_e1_E {u v : PlS} (h : Pl_E u v) {m : Int} (hm : 0 ≤ m ∧ m < Mc_n (Pl_mc u)) : Pl_E (Pl_e1 u m) (Pl_e1 v m) := by
  have h0 := h
  obtain ⟨⟨g0, g1, g2, g3, g4, g5⟩, h2, h3, h4, ⟨b0, b1, b2, b3, b4, b5, b6, b7⟩, h6⟩ := h
  have hr := g5 m hm.1 hm.2
  by_cases hk : (0 ≤ Mc_ru (Pl_mc u) m ∧ Mc_ru (Pl_mc u) m < Bu_n (Pl_bu u))
  · have e1 := b6 _ hk.1 hk.2
    have e2 := b3 _ hk.1 hk.2
    by_cases hx : Bu_bg (Pl_bu u) (Mc_ru (Pl_mc u) m) + Bu_ln (Pl_bu u) (Mc_ru (Pl_mc u) m) ≤ Pl_now u
    · rw [Pl_e1_yes hk hx, Pl_e1_yes (u := v) (m := m) (by rw [← hr, ← b0]; exact hk) (by rw [← hr, ← e1, ← e2, ← h6]; exact hx)]
      exact ⟨⟨g0, g1, g2, g3, g4, eqb_U g5 m rfl⟩, h2, h3, h4, ⟨b0, b1, b2, b3, by rw [← hr]; exact eqb_U b4 _ rfl, b5, b6, b7⟩, h6⟩
    · rw [Pl_e1_no2 (Int.not_le.mp hx), Pl_e1_no2 (u := v) (m := m) (by rw [← hr, ← e1, ← e2, ← h6]; exact Int.not_le.mp hx)]
      exact h0
  · rw [Pl_e1_no1 hk, Pl_e1_no1 (u := v) (m := m) (by rw [← hr, ← b0]; exact hk)]
    exact h0
theorem Pl_eN_E {u v : PlS} (h : Pl_E u v) : ∀ k : Nat, (k : Int) ≤ Mc_n (Pl_mc u) → Pl_E (Pl_eN u k) (Pl_eN v k)
  | 0, _ => h
  | k + 1, hk => Pl_e1_E (Pl_eN_E h k (by omega)) ⟨by omega, by rw [(Pl_eN_n u k).1]; omega⟩
theorem Mt_endBy_E {a b : MtS} (h : Mt_E a b) (x : Int) : Mt_E (Mt_endBy a x) (Mt_endBy b x) := by
  obtain ⟨hn, h1, h2, h3, h4, h5, h6⟩ := h
  refine ⟨hn, h1, h2, h3, h4, fun k k1 k2 => ?_, h6⟩
  have k2' : k < Mt_n a := k2
  show Mt_over a x (Mt_n a) k = Mt_over b x (Mt_n b) k
  unfold Mt_over
  rw [← hn, h5 k k1 k2', h2 k k1 k2', h3 k k1 k2']
theorem Pl_end_E {u v : PlS} (h : Pl_E u v) (hu : PlI u) : Pl_E (Pl_end u) (Pl_end v) := by
  have hn := hu.1.1
  have e : Pl_E (Pl_setNow u (Pl_now u + 1)) (Pl_setNow v (Pl_now v + 1)) := ⟨h.1, h.2.1, h.2.2.1, h.2.2.2.1, h.2.2.2.2.1, by show Pl_now u + 1 = Pl_now v + 1; rw [h.2.2.2.2.2]⟩
  have h2 := Pl_eN_E e (Mc_n (Pl_mc u)).toNat (by show (((Mc_n (Pl_mc u)).toNat : Nat) : Int) ≤ Mc_n (Pl_mc u); omega)
  unfold Pl_end
  rw [← h.1.1]
  exact ⟨h2.1, h2.2.1, h2.2.2.1, by have e9 := Mt_endBy_E h2.2.2.2.1 (Pl_now (Pl_eN (Pl_setNow v (Pl_now v + 1)) (Mc_n (Pl_mc u)).toNat)); have e8 := h2.2.2.2.2.2; show Mt_E (Mt_endBy _ (Pl_now (Pl_eN (Pl_setNow u (Pl_now u + 1)) (Mc_n (Pl_mc u)).toNat))) _; rw [e8]; exact e9, h2.2.2.2.2.1, h2.2.2.2.2.2⟩
theorem Pl_step_E {u v : PlS} (h : Pl_E u v) (hu : PlI u) : Pl_E (Pl_step u) (Pl_step v) := by
  have hn := hu.1.1
  unfold Pl_step
  rw [← h.1.1]
  exact Pl_end_E (Pl_begN_E h hu _ (by omega)) (Pl_begN_I hu _ (by omega))
theorem Pl_iter_E : ∀ (n : Nat) {u v : PlS}, Pl_E u v → PlI u → Pl_now u + n ≤ 400 → Pl_E (Pl_iter n u) (Pl_iter n v)
  | 0, _, _, h, _, _ => h
  | n + 1, u, v, h, hu, h4 => by
    have h2 := Pl_step_I hu (by omega)
    exact Pl_iter_E n (Pl_step_E h hu) h2.1 (by rw [h2.2]; omega)
theorem Pl_pass_E {u v : PlS} (h : Pl_E u v) (hu : PlI u) (t : Int) : Pl_E (Pl_pass u t) (Pl_pass v t) := by
  have hn := hu.2.2.2.2.2
  unfold Pl_pass
  rw [← h.2.2.2.2.2]
  exact Pl_iter_E _ h hu (by omega)
theorem Bu_enq_E {a b : BuS} (h : Bu_E a b) (k : Int) : Bu_E (Bu_enq a k) (Bu_enq b k) := by
  have h0 := h
  obtain ⟨hn, h1, h2, h3, h4, h5, h6, h7⟩ := h
  unfold Bu_enq
  rw [← hn]
  by_cases hk : 0 ≤ k ∧ k < Bu_n a
  · rw [if_pos hk, if_pos hk]
    exact ⟨rfl, h1, h2, h3, eqb_U h4 k rfl, eqb_U h5 k rfl, eqb_U h6 k rfl, h7⟩
  · rw [if_neg hk, if_neg hk]
    exact h0
theorem Pl_brkn_E {u v : PlS} (h : Pl_E u v) (m x : Int) : Pl_E (Pl_brkn u m x) (Pl_brkn v m x) := by
  have h0 := h
  obtain ⟨⟨g0, g1, g2, g3, g4, g5⟩, h2, h3, h4, h5, h6⟩ := h
  unfold Pl_brkn
  rw [← g0]
  by_cases hm : 0 ≤ m ∧ m < Mc_n (Pl_mc u)
  · rw [if_pos hm, if_pos hm]
    by_cases hx : 0 < x
    · rw [if_pos hx, if_pos hx]
      exact ⟨⟨rfl, g1, g2, eqb_U g3 m h6, eqb_U g4 m (by rw [h6]), eqb_U g5 m rfl⟩, h2, h3, h4, by rw [← g5 m hm.1 hm.2]; exact Bu_enq_E h5 _, h6⟩
    · rw [if_neg hx, if_neg hx]
      exact ⟨⟨rfl, g1, g2, eqb_U g3 m h6, eqb_U g4 m (by rw [h6]), g5⟩, h2, h3, h4, h5, h6⟩
  · rw [if_neg hm, if_neg hm]
    exact h0
theorem Bu_add_y {u : BuS} {x y z : Int} (h : 0 ≤ Bu_n u ∧ Bu_n u < 40) : Bu_add u x y z = (Bu_n u + 1, zU (Bu_ne u) (Bu_n u) x, zU (Bu_ur u) (Bu_n u) y, zU (Bu_ln u) (Bu_n u) z, zU (Bu_st u) (Bu_n u) 0, zU (Bu_ma u) (Bu_n u) (-1), zU (Bu_bg u) (Bu_n u) (-1), zU (Bu_ti u) (Bu_n u) 0) := by
  rw [Bu_add, if_pos h.2, Bu_enq, if_pos (by show 0 ≤ Bu_n u + 1 - 1 ∧ Bu_n u + 1 - 1 < Bu_n u + 1; omega), show Bu_n u + 1 - 1 = Bu_n u by omega]
theorem Pl_take_E {u v : PlS} (h : Pl_E u v) (hi : 0 ≤ Bu_n (Pl_bu u)) (k x y z w : Int) : Pl_E (Pl_take u k x y z w) (Pl_take v k x y z w) := by
  have h0 := h
  obtain ⟨hm, hl, hv, ht, hb, hn⟩ := h
  unfold Pl_take
  by_cases k0 : k = 0
  · rw [if_pos k0, if_pos k0]
    refine ⟨?_, hl, hv, ht, hb, hn⟩
    obtain ⟨g0, g1, g2, g3, g4, g5⟩ := id hm
    show Mc_E (Mc_add (Pl_mc u) x y) (Mc_add (Pl_mc v) x y)
    unfold Mc_add
    rw [← g0]
    by_cases hc : Mc_n (Pl_mc u) < 6
    · rw [if_pos hc, if_pos hc]
      exact ⟨rfl, eqb_A g1 x, eqb_A g2 y, eqb_A g3 0, eqb_A g4 0, eqb_A g5 (-1)⟩
    · rw [if_neg hc, if_neg hc]
      exact hm
  rw [if_neg k0, if_neg k0]
  by_cases k1 : k = 1
  · rw [if_pos k1, if_pos k1]
    refine ⟨hm, hl, ?_, ht, hb, hn⟩
    show Lv_E (Lv_add (Pl_lv u) x y z) (Lv_add (Pl_lv v) x y z)
    unfold Lv_add
    by_cases hc : 0 ≤ x ∧ x < 10
    · rw [if_pos hc, if_pos hc, hv x hc.1 hc.2]
      intro q q1 q2
      unfold Lv_put
      by_cases hq : q = x
      · rw [if_pos hq, if_pos hq]
      · rw [if_neg hq, if_neg hq, hv q q1 q2]
    · rw [if_neg hc, if_neg hc]
      exact hv
  rw [if_neg k1, if_neg k1]
  by_cases k2 : k = 2
  · rw [if_pos k2, if_pos k2]
    refine ⟨hm, ?_, hv, ht, hb, hn⟩
    obtain ⟨g0, g1, g2, g3, g4⟩ := id hl
    show Lo_E (Lo_add (Pl_lo u) x y z w) (Lo_add (Pl_lo v) x y z w)
    unfold Lo_add
    rw [← g0]
    by_cases hc : Lo_n (Pl_lo u) < 20
    · rw [if_pos hc, if_pos hc]
      exact ⟨rfl, eqb_A g1 x, eqb_A g2 y, eqb_A g3 z, eqb_A g4 w⟩
    · rw [if_neg hc, if_neg hc]
      exact hl
  rw [if_neg k2, if_neg k2]
  by_cases k3 : k = 3
  · rw [if_pos k3, if_pos k3]
    exact Pl_brkn_E h0 x y
  rw [if_neg k3, if_neg k3]
  by_cases k4 : k = 4
  · rw [if_pos k4, if_pos k4]
    refine ⟨hm, hl, hv, ?_, hb, hn⟩
    obtain ⟨g0, g1, g2, g3, g4, g5, g6⟩ := id ht
    show Mt_E (Mt_add (Pl_mt u) x y z w) (Mt_add (Pl_mt v) x y z w)
    unfold Mt_add
    rw [← g0]
    by_cases hc : Mt_n (Pl_mt u) < 30
    · rw [if_pos hc, if_pos hc]
      exact ⟨rfl, eqb_A g1 x, eqb_A g2 y, eqb_A g3 z, eqb_A g4 w, eqb_A g5 0, eqb_A g6 0⟩
    · rw [if_neg hc, if_neg hc]
      exact ht
  rw [if_neg k4, if_neg k4]
  by_cases k5 : k = 5
  · rw [if_pos k5, if_pos k5]
    refine ⟨hm, hl, hv, ?_, hb, hn⟩
    obtain ⟨g0, g1, g2, g3, g4, g5, g6⟩ := id ht
    show Mt_E (Mt_place (Pl_mt u) x y) (Mt_place (Pl_mt v) x y)
    unfold Mt_place
    rw [← g0]
    by_cases hc : 0 ≤ x ∧ x < Mt_n (Pl_mt u)
    · rw [if_pos hc, if_pos hc]
      exact ⟨rfl, g1, eqb_U g2 x rfl, g3, g4, g5, eqb_U g6 x (by rw [g6 x hc.1 hc.2])⟩
    · rw [if_neg hc, if_neg hc]
      exact ht
  rw [if_neg k5, if_neg k5]
  by_cases k6 : k = 6
  · rw [if_pos k6, if_pos k6]
    refine ⟨hm, hl, hv, ?_, hb, hn⟩
    obtain ⟨g0, g1, g2, g3, g4, g5, g6⟩ := id ht
    show Mt_E (Mt_callOff (Pl_mt u) x) (Mt_callOff (Pl_mt v) x)
    unfold Mt_callOff
    rw [← g0]
    by_cases hc : 0 ≤ x ∧ x < Mt_n (Pl_mt u)
    · rw [if_pos hc, if_pos hc]
      exact ⟨rfl, g1, g2, g3, g4, eqb_U g5 x rfl, g6⟩
    · rw [if_neg hc, if_neg hc]
      exact ht
  rw [if_neg k6, if_neg k6]
  by_cases k7 : k = 7
  · rw [if_pos k7, if_pos k7]
    refine ⟨hm, hl, hv, ?_, hb, hn⟩
    obtain ⟨g0, g1, g2, g3, g4, g5, g6⟩ := id ht
    show Mt_E (Mt_plsw (Pl_mt u) x y) (Mt_plsw (Pl_mt v) x y)
    unfold Mt_plsw
    rw [← g0]
    by_cases hc : (0 ≤ x ∧ x < Mt_n (Pl_mt u)) ∧ 0 ≤ y ∧ y < Mt_n (Pl_mt u)
    · have hc2 : (0 ≤ x ∧ x < Mt_n (Pl_mt v)) ∧ 0 ≤ y ∧ y < Mt_n (Pl_mt v) := by rw [← g0]; exact hc
      rw [if_pos hc, if_pos hc]
      unfold Mt_exch
      rw [if_pos hc, if_pos hc2]
      have m1 := eqb_U g6 x (x := Mt_mv (Pl_mt u) x + 1) (y := Mt_mv (Pl_mt v) x + 1) (by rw [g6 x hc.1.1 hc.1.2])
      exact ⟨g0, g1, eqb_U (eqb_U g2 x (g2 y hc.2.1 hc.2.2)) y (g2 x hc.1.1 hc.1.2), g3, g4, g5, eqb_U m1 y (congrArg (· + 1) (m1 y hc.2.1 hc.2.2))⟩
    · rw [if_neg hc, if_neg hc]
      exact ht
  rw [if_neg k7, if_neg k7]
  by_cases k8 : k = 8
  · rw [if_pos k8, if_pos k8]
    refine ⟨hm, hl, hv, ht, ?_, hn⟩
    obtain ⟨g0, g1, g2, g3, g4, g5, g6, g7⟩ := id hb
    show Bu_E (Bu_add (Pl_bu u) x y z) (Bu_add (Pl_bu v) x y z)
    by_cases hc : Bu_n (Pl_bu u) < 40
    · rw [Bu_add_y ⟨hi, hc⟩, Bu_add_y (u := Pl_bu v) (by omega), ← g0]
      exact ⟨rfl, eqb_A g1 x, eqb_A g2 y, eqb_A g3 z, eqb_A g4 0, eqb_A g5 (-1), eqb_A g6 (-1), eqb_A g7 0⟩
    · rw [Bu_add, Bu_add, ← g0, if_neg hc, if_neg hc]
      exact hb
  rw [if_neg k8, if_neg k8]
  by_cases k9 : k = 9
  · rw [if_pos k9, if_pos k9]
    refine ⟨hm, hl, hv, ht, ?_, hn⟩
    obtain ⟨g0, g1, g2, g3, g4, g5, g6, g7⟩ := id hb
    show Bu_E (Bu_setU (Pl_bu u) x y) (Bu_setU (Pl_bu v) x y)
    unfold Bu_setU
    rw [← g0]
    by_cases hc : 0 ≤ x ∧ x < Bu_n (Pl_bu u)
    · rw [if_pos hc, if_pos hc]
      exact ⟨rfl, g1, eqb_U g2 x rfl, g3, g4, g5, g6, g7⟩
    · rw [if_neg hc, if_neg hc]
      exact hb
  rw [if_neg k9, if_neg k9]
  exact h0
theorem Pl_take_now (u : PlS) (k x y z w : Int) : Pl_now (Pl_take u k x y z w) = Pl_now u := by
  unfold Pl_take
  by_cases k0 : k = 0
  · rw [if_pos k0]
  rw [if_neg k0]
  by_cases k1 : k = 1
  · rw [if_pos k1]
  rw [if_neg k1]
  by_cases k2 : k = 2
  · rw [if_pos k2]
  rw [if_neg k2]
  by_cases k3 : k = 3
  · rw [if_pos k3]
    unfold Pl_brkn
    split
    · split <;> rfl
    · rfl
  rw [if_neg k3]
  by_cases k4 : k = 4
  · rw [if_pos k4]
  rw [if_neg k4]
  by_cases k5 : k = 5
  · rw [if_pos k5]
  rw [if_neg k5]
  by_cases k6 : k = 6
  · rw [if_pos k6]
  rw [if_neg k6]
  by_cases k7 : k = 7
  · rw [if_pos k7]
  rw [if_neg k7]
  by_cases k8 : k = 8
  · rw [if_pos k8]
  rw [if_neg k8]
  by_cases k9 : k = 9
  · rw [if_pos k9]
  rw [if_neg k9]
theorem Pl_iter_now : ∀ (n : Nat) {u : PlS}, PlI u → Pl_now u + n ≤ 400 → Pl_now (Pl_iter n u) = Pl_now u + n
  | 0, u, _, _ => by show Pl_now u = Pl_now u + ((0 : Nat) : Int); omega
  | n + 1, u, hu, h => by
    have h2 := Pl_step_I hu (by omega)
    have h3 := Pl_iter_now n h2.1 (by rw [h2.2]; omega)
    show Pl_now (Pl_iter n (Pl_step u)) = _
    rw [h3, h2.2]
    omega
theorem Pl_iter_add : ∀ (n k : Nat) (u : PlS), Pl_iter (n + k) u = Pl_iter k (Pl_iter n u)
  | 0, k, u => by rw [Nat.zero_add]; rfl
  | n + 1, k, u => by
    rw [show n + 1 + k = (n + k) + 1 by omega]
    exact Pl_iter_add n k (Pl_step u)
theorem Pl_pass_now {u : PlS} (hu : PlI u) {t : Int} (h1 : Pl_now u ≤ t) (h2 : t ≤ 400) : Pl_now (Pl_pass u t) = t := by
  unfold Pl_pass
  rw [Pl_iter_now _ hu (by omega)]
  omega
theorem Pl_pass_pass {u : PlS} (hu : PlI u) {t t2 : Int} (h1 : Pl_now u ≤ t) (h2 : t ≤ t2) (h3 : t2 ≤ 400) : Pl_pass (Pl_pass u t) t2 = Pl_pass u t2 := by
  have hn := Pl_pass_now hu h1 (by omega)
  have h0 := hu.2.2.2.2.2
  unfold Pl_pass at hn ⊢
  rw [hn, ← Pl_iter_add]
  congr 1
  omega
/-- what was told, planned once more, is what stands -/
def Pl_RP (T : ToS) (P : PlS) : Prop := ∀ A, PlI A → Pl_E (Pl_anew T A (Pl_now P)) P
theorem Pl_rep_I {T : ToS} {u : PlS} (hT : ToI T) (hu : PlI u) : ∀ n : Nat, PlI (Pl_rep T (Pl_clear u) n)
  | 0 => Pl_clear_I hu
  | n + 1 => by
    have h2 := hT.2 (n : Int)
    exact Pl_take_I (Pl_pass_I (Pl_rep_I hT hu n) _) h2.2.2.1 h2.2.2.2.1 h2.2.2.2.2.1 h2.2.2.2.2.2
theorem Pl_rep_note {T : ToS} {k t x y z w : Int} (h : To_n T < 512) (u : PlS) : ∀ n : Nat, (n : Int) ≤ To_n T → Pl_rep (To_note T k t x y z w) u n = Pl_rep T u n
  | 0, _ => rfl
  | n + 1, hn => by
    have ih := Pl_rep_note (k := k) (t := t) (x := x) (y := y) (z := z) (w := w) h u n (by omega)
    have e : ∀ S : ToS, Pl_rep S u (n + 1) = Pl_take (Pl_pass (Pl_rep S u n) (To_at S (n : Int))) (To_ki S (n : Int)) (To_a S (n : Int)) (To_b S (n : Int)) (To_c S (n : Int)) (To_d S (n : Int)) := fun _ => rfl
    rw [e, e, ih, To_note, if_pos h]
    show Pl_take (Pl_pass _ (zU (To_at T) (To_n T) t (n : Int))) (zU (To_ki T) (To_n T) k (n : Int)) (zU (To_a T) (To_n T) x (n : Int)) (zU (To_b T) (To_n T) y (n : Int)) (zU (To_c T) (To_n T) z (n : Int)) (zU (To_d T) (To_n T) w (n : Int)) = _
    rw [zU_n _ _ (by omega), zU_n _ _ (by omega), zU_n _ _ (by omega), zU_n _ _ (by omega), zU_n _ _ (by omega), zU_n _ _ (by omega)]
theorem Pl_RP_tell {T : ToS} {P : PlS} (hT : ToI T) (h : Pl_RP T P) (hn : To_n T < 512) (k x y z w : Int) : Pl_RP (To_note T k (Pl_now P) x y z w) (Pl_take P k x y z w) := by
  intro A hA
  have h1 := h A hA
  have h0 := hT.1
  have hI := Pl_anew_I hT hA (Pl_now P)
  rw [Pl_take_now]
  have e1 : Pl_anew (To_note T k (Pl_now P) x y z w) A (Pl_now P) = Pl_pass (Pl_take (Pl_anew T A (Pl_now P)) k x y z w) (Pl_now P) := by
    unfold Pl_anew
    have en : To_n (To_note T k (Pl_now P) x y z w) = To_n T + 1 := by rw [To_note, if_pos hn]
    rw [en, show (To_n T + 1).toNat = (To_n T).toNat + 1 by omega]
    have e : Pl_rep (To_note T k (Pl_now P) x y z w) (Pl_clear A) ((To_n T).toNat + 1) = Pl_take (Pl_pass (Pl_rep (To_note T k (Pl_now P) x y z w) (Pl_clear A) (To_n T).toNat) (To_at (To_note T k (Pl_now P) x y z w) ((To_n T).toNat : Int))) (To_ki (To_note T k (Pl_now P) x y z w) ((To_n T).toNat : Int)) (To_a (To_note T k (Pl_now P) x y z w) ((To_n T).toNat : Int)) (To_b (To_note T k (Pl_now P) x y z w) ((To_n T).toNat : Int)) (To_c (To_note T k (Pl_now P) x y z w) ((To_n T).toNat : Int)) (To_d (To_note T k (Pl_now P) x y z w) ((To_n T).toNat : Int)) := rfl
    rw [e, Pl_rep_note hn _ _ (by omega), Int.toNat_of_nonneg h0.1, To_note, if_pos hn]
    show Pl_pass (Pl_take (Pl_pass _ (zU (To_at T) (To_n T) (Pl_now P) (To_n T))) (zU (To_ki T) (To_n T) k (To_n T)) (zU (To_a T) (To_n T) x (To_n T)) (zU (To_b T) (To_n T) y (To_n T)) (zU (To_c T) (To_n T) z (To_n T)) (zU (To_d T) (To_n T) w (To_n T))) _ = _
    rw [zU_s, zU_s, zU_s, zU_s, zU_s, zU_s]
  rw [e1, Pl_pass_0 (by rw [Pl_take_now, h1.2.2.2.2.2]; omega)]
  exact Pl_take_E h1 hI.2.2.2.2.1.1.1 k x y z w
theorem Pl_RP_pass {T : ToS} {P : PlS} (hT : ToI T) (hP : PlI P) (h : Pl_RP T P) {t : Int} (h1 : Pl_now P ≤ t) (h2 : t ≤ 400) : Pl_RP T (Pl_pass P t) := by
  intro A hA
  have h3 := h A hA
  have hn := hP.2.2.2.2.2
  rw [Pl_pass_now hP h1 h2]
  have hR := Pl_rep_I hT hA (To_n T).toNat
  have hle : Pl_now (Pl_rep T (Pl_clear A) (To_n T).toNat) ≤ Pl_now P := by
    by_cases hc : Pl_now (Pl_rep T (Pl_clear A) (To_n T).toNat) ≤ Pl_now P
    · exact hc
    · have h4 : Pl_anew T A (Pl_now P) = Pl_rep T (Pl_clear A) (To_n T).toNat := Pl_pass_0 (by omega)
      have h5 := h3.2.2.2.2.2
      rw [h4] at h5
      omega
  have e : Pl_anew T A t = Pl_pass (Pl_anew T A (Pl_now P)) t := (Pl_pass_pass hR hle h1 h2).symm
  rw [e]
  exact Pl_pass_E h3 (Pl_anew_I hT hA _) t
theorem Pl_RP_0 : Pl_RP To0 Pl0 := by
  intro A hA
  have e : Pl_anew To0 A (Pl_now Pl0) = Pl_clear A := Pl_pass_0 (by show ¬ ((0 : Int) < 0 ∧ _); omega)
  rw [e]
  have z : ∀ f g : Int → Int, eqb 0 f g := fun f g k h1 h2 => by omega
  exact ⟨⟨rfl, z _ _, z _ _, z _ _, z _ _, z _ _⟩, ⟨rfl, z _ _, z _ _, z _ _, z _ _⟩, fun q h1 h2 => (by show Lv_clear (Pl_lv A) 10 q = 0; unfold Lv_clear; rw [if_pos ⟨h1, h2⟩]), ⟨rfl, z _ _, z _ _, z _ _, z _ _, z _ _, z _ _⟩, ⟨rfl, z _ _, z _ _, z _ _, z _ _, z _ _, z _ _, z _ _⟩, rfl⟩
