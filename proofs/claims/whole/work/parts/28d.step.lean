/-! ===== builds ===== -/
theorem Bu_add_M {u : BuS} {x y z : Int} (h : 0 ≤ Bu_n u ∧ Bu_n u < 40) (h1 : Bu_st u (Bu_n u) = 0) (h2 : Bu_ti u (Bu_n u) = 0) : Bu_add u x y z = Bu_addM u x y z := by rw [Bu_add_y h, zU_id (f := Bu_st u) (j := Bu_n u) h1, zU_id (f := Bu_ti u) (j := Bu_n u) h2]
theorem Bu_addM_I {u : BuS} (h : BuI u) (hn : Bu_n u < 40) {x y z : Int} (hx : zR2 x) (hy : zR y) (hz : zR0 z) : BuI (Bu_addM u x y z) := ⟨⟨by have h1 := h.1; show 0 ≤ Bu_n u + 1; omega, by show Bu_n u + 1 ≤ 40; omega⟩, fun k => ⟨zU_all (P := zR2) (fun k => (h.2 k).1) hx k, zU_all (P := zR) (fun k => (h.2 k).2.1) hy k, zU_all (P := zR0) (fun k => (h.2 k).2.2.1) hz k, (h.2 k).2.2.2.1, zU_all (P := zR) (fun k => (h.2 k).2.2.2.2.1) (by decide) k, zU_all (P := zR) (fun k => (h.2 k).2.2.2.2.2) (by decide) k⟩⟩
theorem J_build {P : PlS} (hJ : Pl_J P) {x y z : Int} (hz : 1 ≤ z ∧ z ≤ 6) : Pl_J (Pl_mc P, Pl_lo P, Pl_lv P, Pl_mt P, Bu_addM (Pl_bu P) x y z, Pl_now P) := by
  obtain ⟨j1, j2, j3, ⟨j4, j5⟩, j6, j7⟩ := hJ
  have j0 := (j2 (Bu_n (Pl_bu P)) (Int.le_refl _)).1
  refine ⟨j1, fun k g => ?_, j3, ⟨fun k g1 g2 => ?_, fun m g1 g2 => ?_⟩, fun k g1 g2 g3 => ?_, j7⟩
  · have g' : Bu_n (Pl_bu P) + 1 ≤ k := g
    exact j2 k (by omega)
  · have g2' : k < Bu_n (Pl_bu P) + 1 := g2
    show (1 ≤ zU (Bu_ln (Pl_bu P)) (Bu_n (Pl_bu P)) z k ∧ zU (Bu_ln (Pl_bu P)) (Bu_n (Pl_bu P)) z k ≤ 6) ∧ (Bu_st (Pl_bu P) k = 1 → (0 ≤ zU (Bu_ma (Pl_bu P)) (Bu_n (Pl_bu P)) (-1) k ∧ zU (Bu_ma (Pl_bu P)) (Bu_n (Pl_bu P)) (-1) k < Mc_n (Pl_mc P)) ∧ Mc_ru (Pl_mc P) (zU (Bu_ma (Pl_bu P)) (Bu_n (Pl_bu P)) (-1) k) = k)
    by_cases hk : k = Bu_n (Pl_bu P)
    · rw [hk, zU_s, zU_s]
      exact ⟨hz, fun q => by rw [j0] at q; exact absurd q (by decide)⟩
    · rw [zU_n _ _ hk, zU_n _ _ hk]
      exact j4 k g1 (by omega)
  · show Mc_ru (Pl_mc P) m = -1 ∨ (0 ≤ Mc_ru (Pl_mc P) m ∧ Mc_ru (Pl_mc P) m < Bu_n (Pl_bu P) + 1) ∧ Bu_st (Pl_bu P) (Mc_ru (Pl_mc P) m) = 1 ∧ zU (Bu_ma (Pl_bu P)) (Bu_n (Pl_bu P)) (-1) (Mc_ru (Pl_mc P) m) = m
    rcases j5 m g1 g2 with q | ⟨q1, q2, q3⟩
    · exact Or.inl q
    · rw [zU_n _ _ (show Mc_ru (Pl_mc P) m ≠ Bu_n (Pl_bu P) by omega)]
      exact Or.inr ⟨⟨q1.1, by omega⟩, q2, q3⟩
  · have g2' : k < Bu_n (Pl_bu P) + 1 := g2
    revert g3
    show Bu_st (Pl_bu P) k = 1 → zU (Bu_bg (Pl_bu P)) (Bu_n (Pl_bu P)) (-1) k ≤ Pl_now P ∧ Pl_now P < zU (Bu_bg (Pl_bu P)) (Bu_n (Pl_bu P)) (-1) k + zU (Bu_ln (Pl_bu P)) (Bu_n (Pl_bu P)) z k
    intro q
    have hk : k ≠ Bu_n (Pl_bu P) := fun e => by rw [e, j0] at q; exact absurd q (by decide)
    rw [zU_n _ _ hk, zU_n _ _ hk]
    exact j6 k g1 (by omega) q
theorem st_build {j : Nat} {r : RiS} {u : MdS} (h : RR j r u) (hj : j < 512) (p0 p1 p2 : Int) : Agd j gz_c1 (cd_build r p0 p1 p2) (md_build u p0 p1 p2) (Bu_n (Pl_bu (Ri_P r)) = Bu_n (Md_bu u) + 1 - 1) (Ri_tell r 8 p0 p1 p2 0) (0, Md_now u, Md_aw u, Md_mm u, Md_lo u, Md_mt u, Md_sw u, Bu_addM (Md_bu u) p0 p1 p2) := by
  have h0 := h
  obtain ⟨hr, hu, ⟨s1, s2, s3, s4, s5, s6⟩, hJ, hRP, hW, hTn⟩ := h
  have hb := hr.1.2.2.2.2.1.1
  have hbn : Bu_n (Md_bu u) = Bu_n (Pl_bu (Ri_P r)) := by rw [s6]
  refine ⟨cdm3 gz_c1_A or3 fun _ _ _ => cdm gz_c1_S (by omega) fun _ => rfl, ?_⟩
  rintro ⟨k1, k2, k3, k4, -⟩
  have k1 := Classical.not_not.mp k1
  have k2 := Classical.not_not.mp k2
  have k3 := Classical.not_not.mp k3
  have k4 := Classical.not_not.mp k4
  have hz := hJ.2.1 (Bu_n (Pl_bu (Ri_P r))) (Int.le_refl _)
  refine ⟨by omega, RR_tell h0 hj (by decide) ⟨by omega, by omega⟩ ⟨by omega, by omega⟩ ⟨by omega, by omega⟩ z0_1 ?_ ?_ ?_ ?_, rfl⟩
  · exact ⟨hu.1, hu.2.1, hu.2.2.1, hu.2.2.2.1, hu.2.2.2.2.1, hu.2.2.2.2.2.1, Bu_addM_I hu.2.2.2.2.2.2 (by omega) ⟨by omega, by omega⟩ ⟨by omega, by omega⟩ ⟨by omega, by omega⟩⟩
  · rw [Pl_take_8]
    refine ⟨s1, s2, s3, s4, s5, ?_⟩
    show Bu_addM (Md_bu u) p0 p1 p2 = Bu_add (Pl_bu (Ri_P r)) p0 p1 p2
    rw [Bu_add_M ⟨hb.1, k4⟩ hz.1 hz.2, s6]
  · rw [Pl_take_8, Bu_add_M ⟨hb.1, k4⟩ hz.1 hz.2]
    exact J_build hJ k3
  · rw [Pl_take_8]
    exact hW
theorem Bu_setU_y {u : BuS} {k x : Int} (h : 0 ≤ k ∧ k < Bu_n u) : Bu_setU u k x = Bu_urM u k x := by rw [Bu_setU, if_pos h]
theorem Bu_urM_I {u : BuS} (h : BuI u) {k x : Int} (hx : zR x) : BuI (Bu_urM u k x) := ⟨h.1, fun j => ⟨(h.2 j).1, zU_all (P := zR) (fun k => (h.2 k).2.1) hx j, (h.2 j).2.2⟩⟩
theorem st_urge {j : Nat} {r : RiS} {u : MdS} (h : RR j r u) (hj : j < 512) (p0 p1 : Int) : Agd j gz_c3 (cd_urge r p0 p1) (md_urge u p0 p1) (Bu_ur (Pl_bu (Ri_P r)) p0 = Bu_ur (Md_bu u) p0) (Ri_tell r 9 p0 p1 0 0) (0, Md_now u, Md_aw u, Md_mm u, Md_lo u, Md_mt u, Md_sw u, Bu_urM (Md_bu u) p0 p1) := by
  have h0 := h
  obtain ⟨hr, hu, ⟨s1, s2, s3, s4, s5, s6⟩, hJ, hRP, hW, hTn⟩ := h
  have hb := hr.1.2.2.2.2.1.1
  have hbn : Bu_n (Md_bu u) = Bu_n (Pl_bu (Ri_P r)) := by rw [s6]
  refine ⟨cdm gz_c3_O (by omega) fun _ => cdm gz_c3_A Iff.rfl fun _ => cdm gz_c3_S (by rw [s6]) fun _ => rfl, ?_⟩
  rintro ⟨k1, k2, k3, -⟩
  have k1 := Classical.not_not.mp k1
  have k2 := Classical.not_not.mp k2
  refine ⟨by rw [s6], RR_tell h0 hj (by decide) ⟨by omega, by omega⟩ ⟨by omega, by omega⟩ z0_0 z0_1 ?_ ?_ ?_ ?_, rfl⟩
  · exact ⟨hu.1, hu.2.1, hu.2.2.1, hu.2.2.2.1, hu.2.2.2.2.1, hu.2.2.2.2.2.1, Bu_urM_I hu.2.2.2.2.2.2 ⟨by omega, by omega⟩⟩
  · rw [Pl_take_9]
    refine ⟨s1, s2, s3, s4, s5, ?_⟩
    show Bu_urM (Md_bu u) p0 p1 = Bu_setU (Pl_bu (Ri_P r)) p0 p1
    rw [Bu_setU_y k1, s6]
  · rw [Pl_take_9, Bu_setU_y k1]
    obtain ⟨j1, j2, j3, ⟨j4, j5⟩, j6, j7⟩ := hJ
    exact ⟨j1, j2, j3, ⟨j4, j5⟩, j6, j7⟩
  · rw [Pl_take_9]
    exact hW
/-! pass -/
theorem Md_planN_q (u : MdS) : ∀ k : Nat, Md_sw (Md_planN u k) = Md_sw u ∧ Md_mt (Md_planN u k) = Md_mt u
  | 0 => ⟨rfl, rfl⟩
  | k + 1 => by
    have h := Md_planN_q u k
    have e : Md_sw (Md_plan (Md_planN u k) (k : Int)) = Md_sw (Md_planN u k) ∧ Md_mt (Md_plan (Md_planN u k) (k : Int)) = Md_mt (Md_planN u k) := by
      unfold Md_plan
      split <;> exact ⟨rfl, rfl⟩
    exact ⟨e.1.trans h.1, e.2.trans h.2⟩
theorem Md_iter_q (u : MdS) : ∀ n : Nat, Md_sw (Md_iter u n) = Md_sw u ∧ Mt_n (Md_mt (Md_iter u n)) = Mt_n (Md_mt u) ∧ Md_th (Md_iter u n) = Md_th u
  | 0 => ⟨rfl, rfl, rfl⟩
  | n + 1 => by
    have h := Md_iter_q u n
    have q := Md_planN_q (Md_iter u n) (Mm_n (Md_mm (Md_iter u n))).toNat
    have e1 : Md_sw (Md_step (Md_iter u n)) = Md_sw (Md_iter u n) := q.1
    have e2 : Mt_n (Md_mt (Md_step (Md_iter u n))) = Mt_n (Md_mt (Md_iter u n)) := by
      show Mt_n (Md_mt (Md_planN (Md_iter u n) (Mm_n (Md_mm (Md_iter u n))).toNat)) = _
      rw [q.2]
    exact ⟨e1.trans h.1, e2.trans h.2.1, (Md_step_th _).trans h.2.2⟩
theorem st_pass {j : Nat} {r : RiS} {u : MdS} (h : RR j r u) (p0 : Int) : Agd j gz_c1 (cd_pass r p0) (md_pass u p0) (Pl_now (Pl_pass (Ri_P r) (Pl_now (Ri_P r) + p0)) = Md_now (Md_iter (Md_setTh u 0) p0.toNat)) (Pl_pass (Ri_P r) (Pl_now (Ri_P r) + p0), Ri_A r, Ri_T r, Ri_S r) (Md_iter (Md_setTh u 0) p0.toNat) := by
  obtain ⟨hr, hu, ⟨s1, s2, s3, s4, s5, s6⟩, hJ, hRP, hW, hTn⟩ := h
  have hnow := hr.1.2.2.2.2.2
  refine ⟨cdm gz_c1_A Iff.rfl fun _ => cdm gz_c1_S (by omega) fun _ => rfl, ?_⟩
  rintro ⟨k1, k2, -⟩
  have k1 := Classical.not_not.mp k1
  have k2 := Classical.not_not.mp k2
  have hu0 : MdI (Md_setTh u 0) := ⟨hu.1, hu.2.1, hu.2.2.1, hu.2.2.2.1, hu.2.2.2.2.1, hu.2.2.2.2.2.1, hu.2.2.2.2.2.2⟩
  have hS0 : Sim (Ri_P r) (Md_setTh u 0) := ⟨s1, s2, s3, s4, s5, s6⟩
  have hi := Sim_iter p0.toNat hS0 hu0 hJ hr.1 (by omega)
  have hk := Md_iter_k hu0 p0.toNat (by show Md_now u + _ ≤ 400; omega)
  have hq := Md_iter_q (Md_setTh u 0) p0.toNat
  have eP : Pl_pass (Ri_P r) (Pl_now (Ri_P r) + p0) = Pl_iter p0.toNat (Ri_P r) := by
    unfold Pl_pass
    rw [show (min (Pl_now (Ri_P r) + p0) 400 - Pl_now (Ri_P r)).toNat = p0.toNat by omega]
  have hI := Pl_pass_I hr.1 (Pl_now (Ri_P r) + p0)
  have hR := Pl_RP_pass hr.2.2.1 hr.1 hRP (t := Pl_now (Ri_P r) + p0) (by omega) k2
  rw [eP] at hI hR ⊢
  refine ⟨hi.1.1.symm, ⟨⟨hI, hr.2.1, hr.2.2.1, hr.2.2.2⟩, hk.1, hi.1, hi.2, hR, ?_, ?_⟩, hq.2.2⟩
  · have e : Mt_n (Pl_mt (Pl_iter p0.toNat (Ri_P r))) = Mt_n (Pl_mt (Ri_P r)) := by
      rw [← hi.1.2.2.2.2.1, hq.2.1]
      show Mt_n (Md_mt u) = _
      rw [s5]
    show Sw_R (Ri_S r) (Md_sw (Md_iter (Md_setTh u 0) p0.toNat)) (Mt_n (Pl_mt (Pl_iter p0.toNat (Ri_P r))))
    rw [hq.1, e]
    exact hW
  · have h9 : To_n (Ri_T r) ≤ (j : Int) := hTn
    show To_n (Ri_T r) ≤ ((j + 1 : Nat) : Int)
    omega
/-! ===== what only asks ===== -/
theorem st_slot {j : Nat} {r : RiS} {u : MdS} (h : RR j r u) : Pl_now (Ri_P r) = Md_now u ∧ RR (j + 1) r (Md_setTh u 0) := ⟨h.2.2.1.1.symm, RR_th h 0⟩
theorem st_meetingOf {j : Nat} {r : RiS} {u : MdS} (h : RR j r u) (p0 p1 : Int) : Agd j gz_c2 (cd_meetingOf r p0 p1) (md_meetingOf u p0 p1) ((if p1 = 0 then Mt_st (Pl_mt (Ri_P r)) p0 else if p1 = 1 then Mt_sl (Pl_mt (Ri_P r)) p0 else if p1 = 2 then Mt_ln (Pl_mt (Ri_P r)) p0 else if p1 = 3 then Mt_ma (Pl_mt (Ri_P r)) p0 else Mt_pe (Pl_mt (Ri_P r)) p0) = (if p1 = 0 then Mt_st (Md_mt u) p0 else if p1 = 1 then Mt_sl (Md_mt u) p0 else if p1 = 2 then Mt_ln (Md_mt u) p0 else if p1 = 3 then Mt_ma (Md_mt u) p0 else Mt_pe (Md_mt u) p0)) r (Md_setTh u 0) := by
  have s5 := h.2.2.1.2.2.2.2.1
  have hmn : Mt_n (Md_mt u) = Mt_n (Pl_mt (Ri_P r)) := by rw [s5]
  refine ⟨cdm gz_c2_O (by omega) fun _ => cdm gz_c2_A Iff.rfl fun _ => rfl, fun _ => ⟨by rw [s5], RR_th h 0, rfl⟩⟩
theorem st_swapOf {j : Nat} {r : RiS} {u : MdS} (h : RR j r u) (p0 : Int) : Agd j gz_c2 (cd_swapOf r p0) (md_swapOf u p0) (Sw_st (Ri_S r) p0 = Sw_st (Md_sw u) p0) r (Md_setTh u 0) := by
  have hW := h.2.2.2.2.2.1
  have hsn := hW.1
  refine ⟨cdm gz_c2_O (by omega) fun _ => rfl, fun _ => ⟨by rw [hW.2.2.2.2.2.1], RR_th h 0, rfl⟩⟩
theorem st_buildOf {j : Nat} {r : RiS} {u : MdS} (h : RR j r u) (p0 p1 : Int) : Agd j gz_c2 (cd_buildOf r p0 p1) (md_buildOf u p0 p1) ((if p1 = 0 then Bu_st (Pl_bu (Ri_P r)) p0 else if p1 = 1 then Bu_ma (Pl_bu (Ri_P r)) p0 else if p1 = 2 then Bu_bg (Pl_bu (Ri_P r)) p0 else Bu_ti (Pl_bu (Ri_P r)) p0) = (if p1 = 0 then Bu_st (Md_bu u) p0 else if p1 = 1 then Bu_ma (Md_bu u) p0 else if p1 = 2 then Bu_bg (Md_bu u) p0 else Bu_ti (Md_bu u) p0)) r (Md_setTh u 0) := by
  have s6 := h.2.2.1.2.2.2.2.2
  have hbn : Bu_n (Md_bu u) = Bu_n (Pl_bu (Ri_P r)) := by rw [s6]
  refine ⟨cdm gz_c2_O (by omega) fun _ => cdm gz_c2_A Iff.rfl fun _ => rfl, fun _ => ⟨by rw [s6], RR_th h 0, rfl⟩⟩
theorem st_beganAnew {j : Nat} {r : RiS} {u : MdS} (h : RR j r u) (p0 : Int) : Agd j gz_c2 (cd_beganAnew r p0) (md_beganAnew u p0) ((if 0 ≤ p0 ∧ p0 < Bu_n (Pl_bu (Pl_anew (Ri_T r) (Ri_A r) (Pl_now (Ri_P r)))) then Bu_bg (Pl_bu (Pl_anew (Ri_T r) (Ri_A r) (Pl_now (Ri_P r)))) p0 else -1) = Bu_bg (Md_bu u) p0) (Ri_P r, Pl_anew (Ri_T r) (Ri_A r) (Pl_now (Ri_P r)), Ri_T r, Ri_S r) (Md_setTh u 0) := by
  have hT := RR_th h 0
  obtain ⟨hr, hu, ⟨s1, s2, s3, s4, s5, s6⟩, hJ, hRP, hW, hTn⟩ := h
  have hbn : Bu_n (Md_bu u) = Bu_n (Pl_bu (Ri_P r)) := by rw [s6]
  refine ⟨cdm gz_c2_O (by omega) fun _ => rfl, ?_⟩
  rintro ⟨k1, -⟩
  have k1 := Classical.not_not.mp k1
  have e := (hRP (Ri_A r) hr.2.1).2.2.2.2.1
  have e1 := e.1
  have e2 := e.2.2.2.2.2.2.1
  refine ⟨?_, ⟨⟨hr.1, Pl_anew_I hr.2.2.1 hr.2.1 _, hr.2.2.1, hr.2.2.2⟩, hT.2.1, hT.2.2.1, hJ, hRP, hW, hT.2.2.2.2.2.2⟩, rfl⟩
  rw [if_pos (by omega), e2 p0 k1.1 (by omega), s6]
theorem st_has {j : Nat} {r : RiS} {u : MdS} (h : RR j r u) (p0 p1 : Int) : Agd j gz_c2 (cd_has r p0 p1) (md_has u p0 p1) (Pl_hold (Ri_P r) p0 p1 = Md_has u p0 p1) r (Md_setTh u 0) := by
  have hn := h.2.2.1.2.2.1.1
  refine ⟨cdm gz_c2_O (by omega) fun _ => cdm gz_c2_A Iff.rfl fun _ => rfl, ?_⟩
  rintro ⟨k1, -⟩
  exact ⟨Sim_has h.2.2.1 h.2.1 (Classical.not_not.mp k1), RR_th h 0, rfl⟩
theorem st_isFree {j : Nat} {r : RiS} {u : MdS} (h : RR j r u) (p0 p1 : Int) : Agd j gz_c2 (cd_isFree r p0 p1) (md_isFree u p0 p1) (bz (¬ (Mt_busy (Pl_mt (Ri_P r)) (Mt_n (Pl_mt (Ri_P r))) p0.toNat p1 1 (-1) ∨ Lv_off (Pl_lv (Ri_P r)) (p0.toNat : Int) p1)) = bz (¬ (Mt_busy (Md_mt u) (Mt_n (Md_mt u)) p0.toNat p1 1 (-1) ∨ Aw_off (Md_aw u) p0 p1))) r (Md_setTh u 0) := by
  have hS := h.2.2.1
  refine ⟨cdm gz_c2_O (by omega) fun _ => cdm gz_c2_A Iff.rfl fun _ => rfl, ?_⟩
  rintro ⟨k1, k2, -⟩
  have k1 := Classical.not_not.mp k1
  have k2 := Classical.not_not.mp k2
  refine ⟨bz_c (not_congr (or_congr ?_ ?_)), RR_th h 0, rfl⟩
  · rw [hS.2.2.2.2.1]
  · rw [Int.toNat_of_nonneg k1.1]
    exact Sim_off hS.2.1 ⟨k1.1, by omega⟩ ⟨k2.1, by omega⟩
theorem Sim_sgn {P : PlS} {u : MdS} (hS : Sim P u) (hR : Pl_RU P) {m : Int} (hm : 0 ≤ m ∧ m < Mc_n (Pl_mc P)) (s : Int) : Pl_sgn P m s = Md_sgn u m s := by
  have e1 := Sim_on hR hm (s := s)
  have e2 := Sim_brk hS.2.2.1 hm (s := s)
  have s5 := hS.2.2.2.2.1
  have s6 := hS.2.2.2.2.2
  by_cases h1 : Mt_prom (Pl_mt P) (Mt_n (Pl_mt P)) m s 1 (-1)
  · rw [Md_sgn_1 (by rw [s5]; exact h1)]
    unfold Pl_sgn
    rw [if_pos h1]
  · have h1' : ¬ Mt_prom (Md_mt u) (Mt_n (Md_mt u)) m s 1 (-1) := by rw [s5]; exact h1
    by_cases h2 : Pl_runs P m s 1
    · rw [Md_sgn_2 h1' (by rw [s6]; exact e1.mp h2)]
      unfold Pl_sgn
      rw [if_neg h1, if_pos h2]
    · have h2' : ¬ Bu_on (Md_bu u) (Bu_n (Md_bu u)) m s := by rw [s6]; exact fun q => h2 (e1.mpr q)
      by_cases h3 : Mc_brk (Pl_mc P) m s 1
      · rw [Md_sgn_3 h1' h2' (e2.mp h3)]
        unfold Pl_sgn
        rw [if_neg h1, if_neg h2, if_pos h3]
      · rw [Md_sgn_4 h1' h2' (fun q => h3 (e2.mpr q))]
        unfold Pl_sgn
        rw [if_neg h1, if_neg h2, if_neg h3]
theorem st_diary {j : Nat} {r : RiS} {u : MdS} (h : RR j r u) (p0 p1 p2 : Int) : Agd j gz_c2 (cd_diary r p0 p1 p2) (md_diary u p0 p1 p2) (Dy (Ri_dy r p0 p1) p2 8 0 = Dy (Md_dy u p0 p1) p2 8 0) r (Md_setTh u 0) := by
  have hn := h.2.2.1.2.2.1.1
  refine ⟨cdm2 gz_c2_O (by omega) fun _ _ => cdm gz_c2_A Iff.rfl fun _ => rfl, ?_⟩
  rintro ⟨k1, -⟩
  refine ⟨?_, RR_th h 0, rfl⟩
  rw [show Ri_dy r p0 p1 = Md_dy u p0 p1 from funext fun k => Sim_sgn h.2.2.1 h.2.2.2.1.2.2.2.1 (Classical.not_not.mp k1) _]
