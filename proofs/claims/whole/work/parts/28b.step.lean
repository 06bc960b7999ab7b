/-! ===== meetings ===== -/
theorem or2 {a b : Prop} : (¬ a ∨ (¬¬ a ∧ ¬ b)) ↔ ¬ (a ∧ b) := by
  by_cases h1 : a <;> by_cases h2 : b <;> simp [h1, h2]
theorem or4 {a b c d : Prop} : (¬ a ∨ (¬¬ a ∧ ¬ b) ∨ (¬¬ a ∧ ¬¬ b ∧ ¬ c) ∨ (¬¬ a ∧ ¬¬ b ∧ ¬¬ c ∧ ¬ d)) ↔ ¬ (a ∧ b ∧ c ∧ d) := by
  by_cases h1 : a <;> by_cases h2 : b <;> by_cases h3 : c <;> by_cases h4 : d <;> simp [h1, h2, h3, h4]
theorem or3 {a b c : Prop} : (¬ a ∨ (¬¬ a ∧ ¬ b) ∨ (¬¬ a ∧ ¬¬ b ∧ ¬ c)) ↔ ¬ (a ∧ b ∧ c) := by
  by_cases h1 : a <;> by_cases h2 : b <;> by_cases h3 : c <;> simp [h1, h2, h3]
theorem Mt_add_y {u : MtS} {p s l m : Int} (h : Mt_n u < 30) (h0 : Mt_mv u (Mt_n u) = 0) : Mt_add u p s l m = Mt_addM u p s l m := by rw [Mt_add, if_pos h, zU_id (f := Mt_mv u) (j := Mt_n u) h0]
theorem Mt_addM_I {u : MtS} (h : MqI u) (hn : Mt_n u < 30) {p s l m : Int} (hp : zR2 p) (hs : zR0 s) (hl : zR0 l) (hm : -1 ≤ m ∧ m ≤ 5) : MqI (Mt_addM u p s l m) := by
  obtain ⟨h1, h2⟩ := h
  exact ⟨⟨⟨by have h3 := h1.1; show 0 ≤ Mt_n u + 1; omega, by show Mt_n u + 1 ≤ 30; omega⟩, fun k => ⟨zU_all (P := zR2) (fun k => (h1.2 k).1) hp k, zU_all (P := zR0) (fun k => (h1.2 k).2.1) hs k, zU_all (P := zR0) (fun k => (h1.2 k).2.2.1) hl k, zU_all (P := zR) (fun k => (h1.2 k).2.2.2.1) ⟨hm.1, by omega⟩ k, zU_all (P := fun y => 0 ≤ y ∧ y ≤ 2) (fun k => (h1.2 k).2.2.2.2) z0_s k⟩⟩, fun k => zU_all (P := fun y => -1 ≤ y ∧ y ≤ 5) h2 hm k⟩
theorem J_meet {P : PlS} (hJ : Pl_J P) {p s l m : Int} (hs : Pl_now P ≤ s) (hl : 1 ≤ l) (hsl : s + l ≤ 400) (hm : m = -1 ∨ (0 ≤ m ∧ m < Mc_n (Pl_mc P))) : Pl_J (Pl_mc P, Pl_lo P, Pl_lv P, Mt_addM (Pl_mt P) p s l m, Pl_bu P, Pl_now P) := by
  obtain ⟨j1, j2, j3, ⟨j4, j5⟩, j6, j7⟩ := hJ
  refine ⟨fun k g => ?_, j2, fun k g1 g2 => ?_, ⟨j4, j5⟩, j6, j7⟩
  · have g' : Mt_n (Pl_mt P) + 1 ≤ k := g
    exact j1 k (by omega)
  · have g2' : k < Mt_n (Pl_mt P) + 1 := g2
    show 1 ≤ zU (Mt_ln (Pl_mt P)) (Mt_n (Pl_mt P)) l k ∧ (zU (Mt_ma (Pl_mt P)) (Mt_n (Pl_mt P)) m k = -1 ∨ (0 ≤ zU (Mt_ma (Pl_mt P)) (Mt_n (Pl_mt P)) m k ∧ zU (Mt_ma (Pl_mt P)) (Mt_n (Pl_mt P)) m k < Mc_n (Pl_mc P))) ∧ (zU (Mt_st (Pl_mt P)) (Mt_n (Pl_mt P)) 0 k = 0 → Pl_now P < zU (Mt_sl (Pl_mt P)) (Mt_n (Pl_mt P)) s k + zU (Mt_ln (Pl_mt P)) (Mt_n (Pl_mt P)) l k ∧ zU (Mt_sl (Pl_mt P)) (Mt_n (Pl_mt P)) s k + zU (Mt_ln (Pl_mt P)) (Mt_n (Pl_mt P)) l k ≤ 400)
    by_cases hk : k = Mt_n (Pl_mt P)
    · rw [hk, zU_s, zU_s, zU_s, zU_s]
      exact ⟨hl, hm, fun _ => ⟨by omega, hsl⟩⟩
    · rw [zU_n _ _ hk, zU_n _ _ hk, zU_n _ _ hk, zU_n _ _ hk]
      exact j3 k g1 (by omega)
theorem st_meeting {j : Nat} {r : RiS} {u : MdS} (h : RR j r u) (hj : j < 512) (p0 p1 p2 p3 : Int) : Agd j gz_c3 (cd_meeting r p0 p1 p2 p3) (md_meeting u p0 p1 p2 p3) (Mt_n (Pl_mt (Ri_P r)) = Mt_n (Md_mt u) + 1 - 1) (Ri_tell r 4 p0 p1 p2 p3) (0, Md_now u, Md_aw u, Md_mm u, Md_lo u, Mt_addM (Md_mt u) p0 p1 p2 p3, Md_sw u, Md_bu u) := by
  have h0 := h
  obtain ⟨hr, hu, hS, hJ, hRP, hW, hTn⟩ := h
  obtain ⟨s1, s2, s3, s4, s5, s6⟩ := id hS
  have hnow := hr.1.2.2.2.2.2
  have hn := s3.1
  have hc := hr.1.1.1
  have hmt := hr.1.2.2.2.1.1
  have hmn : Mt_n (Md_mt u) = Mt_n (Pl_mt (Ri_P r)) := by rw [s5]
  refine ⟨cdm gz_c3_O (by omega) fun a1 => cdm4 gz_c3_A ?_ fun b1 b2 b3 b4 => cdm2 gz_c3_S ?_ fun _ _ => rfl, ?_⟩
  · refine or4.trans (not_congr ⟨?_, ?_⟩)
    · rintro ⟨z1, z2, z3, z4⟩
      exact ⟨z1, by omega, z3, (day_1 (by omega) z3.1).mp z4⟩
    · rintro ⟨z1, z2, z3, z4⟩
      exact ⟨z1, by omega, z3, (day_1 (by omega) z3.1).mpr z4⟩
  · have b1 := Classical.not_not.mp b1
    have b2 := Classical.not_not.mp b2
    have b3 := Classical.not_not.mp b3
    have b4 := Classical.not_not.mp b4
    exact or2.trans (not_congr (and_congr (by omega) (Sim_room hS (Pl_J_L hJ) hJ.2.2.2.1 ⟨by omega, b1.2⟩ ⟨by omega, by omega⟩ b3.1 ((day_1 (by omega) b3.1).mp b4) (by omega))))
  rintro ⟨k1, k2, k3, k4, k5, k6, k7, -⟩
  have k2 := Classical.not_not.mp k2
  have k3 := Classical.not_not.mp k3
  have k4 := Classical.not_not.mp k4
  have k5 := Classical.not_not.mp k5
  have k6 := Classical.not_not.mp k6
  have k8 := (day_1 (by omega) k4.1).mp k5
  have hm0 := hJ.1 (Mt_n (Pl_mt (Ri_P r))) (Int.le_refl _)
  have hm3 : p3 = -1 ∨ (0 ≤ p3 ∧ p3 < Mc_n (Pl_mc (Ri_P r))) := by omega
  refine ⟨by omega, RR_tell h0 hj (by decide) ⟨by omega, by omega⟩ ⟨by omega, by omega⟩ ⟨by omega, by omega⟩ ⟨by omega, by omega⟩ ?_ ?_ ?_ ?_, rfl⟩
  · exact ⟨hu.1, hu.2.1, hu.2.2.1, hu.2.2.2.1, Mt_addM_I hu.2.2.2.2.1 (by omega) ⟨by omega, by omega⟩ ⟨by omega, by omega⟩ ⟨by omega, by omega⟩ ⟨by omega, by omega⟩, hu.2.2.2.2.2⟩
  · rw [Pl_take_4]
    refine ⟨s1, s2, s3, s4, ?_, s6⟩
    show Mt_addM (Md_mt u) p0 p1 p2 p3 = Mt_add (Pl_mt (Ri_P r)) p0 p1 p2 p3
    rw [Mt_add_y k6 hm0, s5]
  · rw [Pl_take_4, Mt_add_y k6 hm0]
    exact J_meet hJ k3.1 k4.1 (by omega) hm3
  · rw [Pl_take_4, Mt_add_y k6 hm0]
    exact Sw_R_n hW (by show Mt_n (Pl_mt (Ri_P r)) ≤ Mt_n (Pl_mt (Ri_P r)) + 1; omega)
/-! move -/
theorem Mt_place_y {u : MtS} {k x : Int} (h : 0 ≤ k ∧ k < Mt_n u) : Mt_place u k x = Mt_plM u k x := by rw [Mt_place, if_pos h]
theorem J_move {P : PlS} (hJ : Pl_J P) {k0 s : Int} (hk0 : 0 ≤ k0 ∧ k0 < Mt_n (Pl_mt P)) (hs : Pl_now P < s + Mt_ln (Pl_mt P) k0 ∧ s + Mt_ln (Pl_mt P) k0 ≤ 400) : Pl_J (Pl_mc P, Pl_lo P, Pl_lv P, Mt_plM (Pl_mt P) k0 s, Pl_bu P, Pl_now P) := by
  obtain ⟨j1, j2, j3, ⟨j4, j5⟩, j6, j7⟩ := hJ
  refine ⟨fun k g => ?_, j2, fun k g1 g2 => ?_, ⟨j4, j5⟩, j6, j7⟩
  · show zU (Mt_mv (Pl_mt P)) k0 (Mt_mv (Pl_mt P) k0 + 1) k = 0
    have g' : Mt_n (Pl_mt P) ≤ k := g
    rw [zU_n _ _ (by omega)]
    exact j1 k g
  · refine ⟨(j3 k g1 g2).1, (j3 k g1 g2).2.1, ?_⟩
    show Mt_st (Pl_mt P) k = 0 → Pl_now P < zU (Mt_sl (Pl_mt P)) k0 s k + Mt_ln (Pl_mt P) k ∧ zU (Mt_sl (Pl_mt P)) k0 s k + Mt_ln (Pl_mt P) k ≤ 400
    by_cases hk : k = k0
    · rw [hk, zU_s]
      exact fun _ => hs
    · rw [zU_n _ _ hk]
      exact (j3 k g1 g2).2.2
theorem Sim_canE {P : PlS} {u : MdS} (hS : Sim P u) (hL : Mt_L (Pl_mt P)) (hR : Pl_RU P) {k s : Int} (hk : 0 ≤ k ∧ k < Mt_n (Pl_mt P)) (hp : 0 ≤ Mt_pe (Pl_mt P) k ∧ Mt_pe (Pl_mt P) k ≤ 1023) (hm : Mt_ma (Pl_mt P) k = -1 ∨ (0 ≤ Mt_ma (Pl_mt P) k ∧ Mt_ma (Pl_mt P) k < Mc_n (Pl_mc P))) (hs : 0 ≤ s ∧ s < 400) : Pl_can P k s ↔ (s % 8 + Mt_ln (Md_mt u) k ≤ 8 ∧ Md_canM u k s) := by
  have hl := hL k hk.1 hk.2
  have s5 := hS.2.2.2.2.1
  show _ ↔ (s % 8 + Mt_ln (Md_mt u) k ≤ 8 ∧ Md_can u k (Mt_pe (Md_mt u) k) s (s + Mt_ln (Md_mt u) k) (Mt_ma (Md_mt u) k))
  rw [s5]
  constructor
  · rintro ⟨-, d, q⟩
    have d2 := (day_1 hs.1 hl).mp d
    exact ⟨d2, (Sim_room hS hL hR hp hs hl d2 hm).mp q⟩
  · rintro ⟨d2, q⟩
    exact ⟨hk, (day_1 hs.1 hl).mpr d2, (Sim_room hS hL hR hp hs hl d2 hm).mpr q⟩
theorem Sim_can {P : PlS} {u : MdS} (hS : Sim P u) (hJ : Pl_J P) (hP : PlI P) {k s : Int} (hk : 0 ≤ k ∧ k < Mt_n (Pl_mt P)) (hs : 0 ≤ s ∧ s < 400) (hd : s % 8 + Mt_ln (Pl_mt P) k ≤ 8) : Pl_can P k s ↔ Md_canM u k s := by
  have e := Sim_canE hS (Pl_J_L hJ) hJ.2.2.2.1 hk (hP.2.2.2.1.2 k).1 (hJ.2.2.1 k hk.1 hk.2).2.1 hs
  have s5 := hS.2.2.2.2.1
  exact ⟨fun q => (e.mp q).2, fun q => e.mpr ⟨by rw [s5]; exact hd, q⟩⟩
theorem Sim_ahd {P : PlS} {u : MdS} (hS : Sim P u) {k : Int} (hk : 0 ≤ k ∧ k < Mt_n (Pl_mt P)) : Pl_ahead P k ↔ Md_ahd u k := by
  obtain ⟨s1, s2, s3, s4, s5, s6⟩ := hS
  show _ ↔ Mt_st (Md_mt u) k = 0 ∧ Md_now u ≤ Mt_sl (Md_mt u) k
  rw [s5, s1]
  exact ⟨fun q => q.2, fun q => ⟨hk, q⟩⟩
theorem Mt_plM_I {u : MtS} (h : MqI u) {k x : Int} (hx : zR0 x) : MqI (Mt_plM u k x) := ⟨⟨h.1.1, fun j => ⟨(h.1.2 j).1, zU_all (P := zR0) (fun k => (h.1.2 k).2.1) hx j, (h.1.2 j).2.2⟩⟩, h.2⟩
theorem st_move {j : Nat} {r : RiS} {u : MdS} (h : RR j r u) (hj : j < 512) (p0 p1 : Int) : Agd j gz_c3 (cd_move r p0 p1) (md_move u p0 p1) (bz (Pl_can (Ri_P r) p0 p1) = bz (Md_canM u p0 p1)) (@ite _ (Pl_can (Ri_P r) p0 p1) (Classical.propDecidable _) (Ri_tell r 5 p0 p1 0 0) r) (Md_move u p0 p1) := by
  have h0 := h
  obtain ⟨hr, hu, hS, hJ, hRP, hW, hTn⟩ := h
  obtain ⟨s1, s2, s3, s4, s5, s6⟩ := id hS
  have hnow := hr.1.2.2.2.2.2
  have hmt := hr.1.2.2.2.1.1
  have hmn : Mt_n (Md_mt u) = Mt_n (Pl_mt (Ri_P r)) := by rw [s5]
  have hml : Mt_ln (Md_mt u) p0 = Mt_ln (Pl_mt (Ri_P r)) p0 := by rw [s5]
  refine ⟨cdm gz_c3_O (by omega) fun a1 => cdm2 gz_c3_A ?_ fun b1 b2 => cdm gz_c3_S (not_congr (Sim_ahd hS (Classical.not_not.mp a1))) fun _ => rfl, ?_⟩
  · have a1 := Classical.not_not.mp a1
    have hl := Pl_J_L hJ p0 a1.1 a1.2
    refine or2.trans (not_congr ⟨?_, ?_⟩)
    · rintro ⟨z1, z2⟩
      exact ⟨by omega, by rw [hml]; exact (day_1 (by omega) hl).mp z2⟩
    · rintro ⟨z1, z2⟩
      rw [hml] at z2
      exact ⟨by omega, (day_1 (by omega) hl).mpr z2⟩
  rintro ⟨k1, k2, k3, k4, -⟩
  have k1 := Classical.not_not.mp k1
  have k2 := Classical.not_not.mp k2
  have k3 := Classical.not_not.mp k3
  have hl := Pl_J_L hJ p0 k1.1 k1.2
  have hd := (day_1 (by omega) hl).mp k3
  have e := Sim_can hS hJ hr.1 k1 (s := p1) ⟨by omega, by omega⟩ hd
  refine ⟨bz_c e, ?_⟩
  by_cases hc : Pl_can (Ri_P r) p0 p1
  · rw [if_pos hc, Md_move, if_pos (e.mp hc)]
    refine ⟨RR_tell h0 hj (by decide) ⟨by omega, by omega⟩ ⟨by omega, by omega⟩ z0_0 z0_1 ?_ ?_ ?_ ?_, rfl⟩
    · exact ⟨hu.1, hu.2.1, hu.2.2.1, hu.2.2.2.1, Mt_plM_I hu.2.2.2.2.1 ⟨by omega, by omega⟩, hu.2.2.2.2.2⟩
    · rw [Pl_take_5]
      refine ⟨s1, s2, s3, s4, ?_, s6⟩
      show Mt_plM (Md_mt u) p0 p1 = Mt_place (Pl_mt (Ri_P r)) p0 p1
      rw [Mt_place_y k1, s5]
    · rw [Pl_take_5, Mt_place_y k1]
      exact J_move hJ k1 ⟨by omega, by omega⟩
    · rw [Pl_take_5, Mt_place_y k1]
      exact hW
  · rw [if_neg hc, Md_move, if_neg (fun q => hc (e.mpr q))]
    exact ⟨RR_th h0 0, rfl⟩
/-! cancel -/
theorem Mt_callOff_y {u : MtS} {k : Int} (h : 0 ≤ k ∧ k < Mt_n u) : Mt_callOff u k = (Mt_n u, Mt_pe u, Mt_sl u, Mt_ln u, Mt_ma u, zU (Mt_st u) k 1, Mt_mv u) := by rw [Mt_callOff, if_pos h]
theorem J_cancel {P : PlS} (hJ : Pl_J P) (k0 : Int) : Pl_J (Pl_mc P, Pl_lo P, Pl_lv P, (Mt_n (Pl_mt P), Mt_pe (Pl_mt P), Mt_sl (Pl_mt P), Mt_ln (Pl_mt P), Mt_ma (Pl_mt P), zU (Mt_st (Pl_mt P)) k0 1, Mt_mv (Pl_mt P)), Pl_bu P, Pl_now P) := by
  obtain ⟨j1, j2, j3, ⟨j4, j5⟩, j6, j7⟩ := hJ
  refine ⟨j1, j2, fun k g1 g2 => ?_, ⟨j4, j5⟩, j6, j7⟩
  refine ⟨(j3 k g1 g2).1, (j3 k g1 g2).2.1, ?_⟩
  show zU (Mt_st (Pl_mt P)) k0 1 k = 0 → Pl_now P < Mt_sl (Pl_mt P) k + Mt_ln (Pl_mt P) k ∧ Mt_sl (Pl_mt P) k + Mt_ln (Pl_mt P) k ≤ 400
  by_cases hk : k = k0
  · rw [hk, zU_s]
    intro q
    exact absurd q (by decide)
  · rw [zU_n _ _ hk]
    exact (j3 k g1 g2).2.2
theorem st_cancel {j : Nat} {r : RiS} {u : MdS} (h : RR j r u) (hj : j < 512) (p0 : Int) : Agd j gz_c2 (cd_cancel r p0) (md_cancel u p0) True (Ri_tell r 6 p0 0 0 0) (0, Md_now u, Md_aw u, Md_mm u, Md_lo u, (Mt_n (Md_mt u), Mt_pe (Md_mt u), Mt_sl (Md_mt u), Mt_ln (Md_mt u), Mt_ma (Md_mt u), zU (Mt_st (Md_mt u)) p0 1, Mt_mv (Md_mt u)), Md_sw u, Md_bu u) := by
  have h0 := h
  obtain ⟨hr, hu, hS, hJ, hRP, hW, hTn⟩ := h
  obtain ⟨s1, s2, s3, s4, s5, s6⟩ := id hS
  have hmt := hr.1.2.2.2.1.1
  have hmn : Mt_n (Md_mt u) = Mt_n (Pl_mt (Ri_P r)) := by rw [s5]
  refine ⟨cdm gz_c2_O (by omega) fun a1 => cdm gz_c2_S (not_congr (Sim_ahd hS (Classical.not_not.mp a1))) fun _ => rfl, ?_⟩
  rintro ⟨k1, k2, -⟩
  have k1 := Classical.not_not.mp k1
  refine ⟨trivial, RR_tell h0 hj (by decide) ⟨by omega, by omega⟩ z0_0 z0_0 z0_1 ?_ ?_ ?_ ?_, rfl⟩
  · have hq := hu.2.2.2.2.1
    exact ⟨hu.1, hu.2.1, hu.2.2.1, hu.2.2.2.1, ⟨⟨hq.1.1, fun i => ⟨(hq.1.2 i).1, (hq.1.2 i).2.1, (hq.1.2 i).2.2.1, (hq.1.2 i).2.2.2.1, zU_all (P := fun y => 0 ≤ y ∧ y ≤ 2) (fun k => (hq.1.2 k).2.2.2.2) (by decide) i⟩⟩, hq.2⟩, hu.2.2.2.2.2⟩
  · rw [Pl_take_6]
    refine ⟨s1, s2, s3, s4, ?_, s6⟩
    show (Mt_n (Md_mt u), Mt_pe (Md_mt u), Mt_sl (Md_mt u), Mt_ln (Md_mt u), Mt_ma (Md_mt u), zU (Mt_st (Md_mt u)) p0 1, Mt_mv (Md_mt u)) = Mt_callOff (Pl_mt (Ri_P r)) p0
    rw [Mt_callOff_y k1, s5]
  · rw [Pl_take_6, Mt_callOff_y k1]
    exact J_cancel hJ p0
  · rw [Pl_take_6, Mt_callOff_y k1]
    exact hW
/-! swap -/
theorem Sw_add_y {u : SwS} {x y z w : Int} (h : Sw_n u < 20) (h1 : Sw_ag u (Sw_n u) = 0) (h2 : Sw_st u (Sw_n u) = 0) : Sw_add u x y z w = Sw_addM u x y z w := by rw [Sw_add, if_pos h, zU_id (f := Sw_ag u) (j := Sw_n u) h1, zU_id (f := Sw_st u) (j := Sw_n u) h2]
theorem Sw_R_add {s t : SwS} {n : Int} (h : Sw_R s t n) {x y z w : Int} (hx : 0 ≤ x ∧ x < n) (hz : 0 ≤ z ∧ z < n) (hne : x ≠ z) : Sw_R (Sw_addM s x y z w) (Sw_addM t x y z w) n := by
  obtain ⟨h1, h2, h3, h4, h5, h6, h7, h8, h9⟩ := h
  refine ⟨?_, ?_, ?_, ?_, ?_, h6, h7, fun k g => ?_, fun k g1 g2 => ?_⟩
  · show Sw_n t + 1 = Sw_n s + 1
    rw [h1]
  · show zU (Sw_me t) (Sw_n t) x = zU (Sw_me s) (Sw_n s) x
    rw [h1, h2]
  · show zU (Sw_mm t) (Sw_n t) y = zU (Sw_mm s) (Sw_n s) y
    rw [h1, h3]
  · show zU (Sw_ot t) (Sw_n t) z = zU (Sw_ot s) (Sw_n s) z
    rw [h1, h4]
  · show zU (Sw_om t) (Sw_n t) w = zU (Sw_om s) (Sw_n s) w
    rw [h1, h5]
  · have g' : Sw_n s + 1 ≤ k := g
    exact h8 k (by omega)
  · have g2' : k < Sw_n s + 1 := g2
    show (0 ≤ zU (Sw_me s) (Sw_n s) x k ∧ zU (Sw_me s) (Sw_n s) x k < n) ∧ (0 ≤ zU (Sw_ot s) (Sw_n s) z k ∧ zU (Sw_ot s) (Sw_n s) z k < n) ∧ zU (Sw_me s) (Sw_n s) x k ≠ zU (Sw_ot s) (Sw_n s) z k
    by_cases hk : k = Sw_n s
    · rw [hk, zU_s, zU_s]
      exact ⟨hx, hz, hne⟩
    · rw [zU_n _ _ hk, zU_n _ _ hk]
      exact h9 k g1 (by omega)
theorem Sw_addM_I {u : SwS} (h : SwI u) (hn : Sw_n u < 20) {x y z w : Int} (hx : 0 ≤ x ∧ x ≤ 30) (hz : 0 ≤ z ∧ z ≤ 30) : SwI (Sw_addM u x y z w) := ⟨⟨by have h1 := h.1; show 0 ≤ Sw_n u + 1; omega, by show Sw_n u + 1 ≤ 20; omega⟩, fun k => ⟨zU_all (P := fun y => 0 ≤ y ∧ y ≤ 30) (fun k => (h.2 k).1) hx k, zU_all (P := fun y => 0 ≤ y ∧ y ≤ 30) (fun k => (h.2 k).2.1) hz k, (h.2 k).2.2⟩⟩
theorem Sm_addM_I {u : SwS} (h : SmI u) (hn : Sw_n u < 20) {x y z w : Int} (hx : 0 ≤ x ∧ x ≤ 29) (hz : 0 ≤ z ∧ z ≤ 29) : SmI (Sw_addM u x y z w) := ⟨⟨by have h1 := h.1; show 0 ≤ Sw_n u + 1; omega, by show Sw_n u + 1 ≤ 20; omega⟩, fun k => ⟨zU_all (P := fun y => 0 ≤ y ∧ y ≤ 29) (fun k => (h.2 k).1) hx k, zU_all (P := fun y => 0 ≤ y ∧ y ≤ 29) (fun k => (h.2 k).2.1) hz k, (h.2 k).2.2⟩⟩
theorem st_swap {j : Nat} {r : RiS} {u : MdS} (h : RR j r u) (p0 p1 : Int) : Agd j gz_c3 (cd_swap r p0 p1) (md_swap u p0 p1) (Sw_n (Ri_S r) = Sw_n (Md_sw u) + 1 - 1) (Ri_setS r (Sw_add (Ri_S r) p0 (Mt_mv (Pl_mt (Ri_P r)) p0) p1 (Mt_mv (Pl_mt (Ri_P r)) p1))) (0, Md_now u, Md_aw u, Md_mm u, Md_lo u, Md_mt u, Sw_addM (Md_sw u) p0 (Mt_mv (Md_mt u) p0) p1 (Mt_mv (Md_mt u) p1), Md_bu u) := by
  obtain ⟨hr, hu, hS, hJ, hRP, hW, hTn⟩ := h
  obtain ⟨s1, s2, s3, s4, s5, s6⟩ := id hS
  have hmt := hr.1.2.2.2.1.1
  have hsw := hr.2.2.2.1
  have hmn : Mt_n (Md_mt u) = Mt_n (Pl_mt (Ri_P r)) := by rw [s5]
  have hsn := hW.1
  refine ⟨cdm2 gz_c3_O (by omega) fun a1 a2 => cdm gz_c3_A Iff.rfl fun _ => cdm3 gz_c3_S ?_ fun _ _ _ => rfl, ?_⟩
  · have a1 := Classical.not_not.mp a1
    have a2 := Classical.not_not.mp a2
    exact or3.trans (not_congr (and_congr (Sim_ahd hS a1) (and_congr (Sim_ahd hS a2) (by omega))))
  rintro ⟨k1, k2, k3, k4, k5, k6, -⟩
  have k1 := Classical.not_not.mp k1
  have k2 := Classical.not_not.mp k2
  have k6 := Classical.not_not.mp k6
  have hz := hW.2.2.2.2.2.2.2.1 (Sw_n (Ri_S r)) (Int.le_refl _)
  rw [Sw_add_y k6 hz.1 hz.2, s5]
  refine ⟨by omega, ⟨⟨hr.1, hr.2.1, hr.2.2.1, Sw_addM_I hr.2.2.2 k6 ⟨by omega, by omega⟩ ⟨by omega, by omega⟩⟩, ⟨hu.1, hu.2.1, hu.2.2.1, hu.2.2.2.1, ?_, Sm_addM_I hu.2.2.2.2.2.1 (by omega) ⟨by omega, by omega⟩ ⟨by omega, by omega⟩, hu.2.2.2.2.2.2⟩, ⟨s1, s2, s3, s4, rfl, s6⟩, hJ, hRP, Sw_R_add hW k1 k2 k3, by have h9 : To_n (Ri_T r) ≤ (j : Int) := hTn; show To_n (Ri_T r) ≤ ((j + 1 : Nat) : Int); omega⟩, rfl⟩
  have hq := hu.2.2.2.2.1
  rw [s5] at hq
  exact hq
