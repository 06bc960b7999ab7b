/-! ===== agree ===== -/
theorem RR_up {j : Nat} {r : RiS} {u : MdS} (h : RR j r u) : RR (j + 1) r u := ⟨h.1, h.2.1, h.2.2.1, h.2.2.2.1, h.2.2.2.2.1, h.2.2.2.2.2.1, by have h9 := h.2.2.2.2.2.2; show To_n (Ri_T r) ≤ ((j + 1 : Nat) : Int); omega⟩
theorem RR_ag {j : Nat} {r : RiS} {u : MdS} (h : RR j r u) {p k : Int} (hp : 0 ≤ p ∧ p < 10) (hk : 0 ≤ k ∧ k < Sw_n (Ri_S r)) (hs : Sw_st (Ri_S r) k = 0) : RR j (Ri_ag r p k) (Md_ag u p k) := by
  obtain ⟨hr, hu, hS, hJ, hRP, ⟨h1, h2, h3, h4, h5, h6, h7, h8, h9⟩, hTn⟩ := h
  obtain ⟨s1, s2, s3, s4, s5, s6⟩ := hS
  refine ⟨Ri_ag_I hr hp, Md_ag_I hu hp, ⟨s1, s2, s3, s4, s5, s6⟩, hJ, hRP, ⟨h1, h2, h3, h4, h5, h6, fun i g => ?_, fun i g => ?_, h9⟩, hTn⟩
  · show zU (Sw_ag (Md_sw u)) k (zor (Sw_ag (Md_sw u) k) ((2 ^ p.toNat : Nat) : Int)) i = zU (Sw_ag (Ri_S r)) k (zor (Sw_ag (Ri_S r) k) ((2 ^ p.toNat : Nat) : Int)) i
    by_cases hi : i = k
    · rw [hi, zU_s, zU_s, h7 k hs]
    · rw [zU_n _ _ hi, zU_n _ _ hi]
      exact h7 i g
  · show zU (Sw_ag (Ri_S r)) k (zor (Sw_ag (Ri_S r) k) ((2 ^ p.toNat : Nat) : Int)) i = 0 ∧ Sw_st (Ri_S r) i = 0
    have g' : Sw_n (Ri_S r) ≤ i := g
    rw [zU_n _ _ (by omega)]
    exact h8 i g
theorem RR_stg {j : Nat} {r : RiS} {u : MdS} (h : RR j r u) {k x : Int} (hk : 0 ≤ k ∧ k < Sw_n (Ri_S r)) (hx : 0 < x ∧ x ≤ 2) (ag : Int → Int) (hag : ∀ i, zR2 (ag i)) (hne : ∀ i, i ≠ k → ag i = Sw_ag (Ri_S r) i) : RR j (Ri_P r, Ri_A r, Ri_T r, (Sw_n (Ri_S r), Sw_me (Ri_S r), Sw_mm (Ri_S r), Sw_ot (Ri_S r), Sw_om (Ri_S r), ag, zU (Sw_st (Ri_S r)) k x)) (Md_putSw u (Sw_stM (Md_sw u) k x)) := by
  obtain ⟨hr, hu, hS, hJ, hRP, ⟨h1, h2, h3, h4, h5, h6, h7, h8, h9⟩, hTn⟩ := h
  obtain ⟨s1, s2, s3, s4, s5, s6⟩ := hS
  have hw := hr.2.2.2
  have hv := hu.2.2.2.2.2.1
  refine ⟨⟨hr.1, hr.2.1, hr.2.2.1, ⟨hw.1, fun i => ⟨(hw.2 i).1, (hw.2 i).2.1, hag i, zU_all (P := fun y => 0 ≤ y ∧ y ≤ 2) (fun k => (hw.2 k).2.2.2) (by omega) i⟩⟩⟩, ⟨hu.1, hu.2.1, hu.2.2.1, hu.2.2.2.1, hu.2.2.2.2.1, ⟨hv.1, fun i => ⟨(hv.2 i).1, (hv.2 i).2.1, (hv.2 i).2.2.1, zU_all (P := fun y => 0 ≤ y ∧ y ≤ 2) (fun k => (hv.2 k).2.2.2) (by omega) i⟩⟩, hu.2.2.2.2.2.2⟩, ⟨s1, s2, s3, s4, s5, s6⟩, hJ, hRP, ⟨h1, h2, h3, h4, h5, ?_, ?_, ?_, h9⟩, hTn⟩
  · show zU (Sw_st (Md_sw u)) k x = zU (Sw_st (Ri_S r)) k x
    rw [h6]
  · intro i
    show zU (Sw_st (Ri_S r)) k x i = 0 → Sw_ag (Md_sw u) i = ag i
    by_cases hi : i = k
    · rw [hi, zU_s]
      intro q
      omega
    · rw [zU_n _ _ hi, hne i hi]
      exact h7 i
  · intro i g
    show ag i = 0 ∧ zU (Sw_st (Ri_S r)) k x i = 0
    have g' : Sw_n (Ri_S r) ≤ i := g
    have hi : i ≠ k := by omega
    rw [zU_n _ _ hi, hne i hi]
    exact h8 i g
theorem Mt_plsw_y {u : MtS} {k o : Int} (h : (0 ≤ k ∧ k < Mt_n u) ∧ 0 ≤ o ∧ o < Mt_n u) : Mt_plsw u k o = Mt_mvM (Mt_exM u k o) k o 1 := by
  rw [Mt_plsw, if_pos h, Mt_exch, if_pos h]
  rfl
theorem J_swap {P : PlS} (hJ : Pl_J P) {k o : Int} (hk : 0 ≤ k ∧ k < Mt_n (Pl_mt P)) (ho : 0 ≤ o ∧ o < Mt_n (Pl_mt P)) (hne : k ≠ o) (h1 : Pl_now P < Mt_sl (Pl_mt P) o + Mt_ln (Pl_mt P) k ∧ Mt_sl (Pl_mt P) o + Mt_ln (Pl_mt P) k ≤ 400) (h2 : Pl_now P < Mt_sl (Pl_mt P) k + Mt_ln (Pl_mt P) o ∧ Mt_sl (Pl_mt P) k + Mt_ln (Pl_mt P) o ≤ 400) : Pl_J (Pl_mc P, Pl_lo P, Pl_lv P, Mt_mvM (Mt_exM (Pl_mt P) k o) k o 1, Pl_bu P, Pl_now P) := by
  obtain ⟨j1, j2, j3, ⟨j4, j5⟩, j6, j7⟩ := hJ
  refine ⟨fun i g => ?_, j2, fun i g1 g2 => ?_, ⟨j4, j5⟩, j6, j7⟩
  · show zU (zU (Mt_mv (Pl_mt P)) k (Mt_mv (Pl_mt P) k + 1)) o (zU (Mt_mv (Pl_mt P)) k (Mt_mv (Pl_mt P) k + 1) o + 1) i = 0
    have g' : Mt_n (Pl_mt P) ≤ i := g
    rw [zU_n _ _ (show i ≠ o by omega), zU_n _ _ (show i ≠ k by omega)]
    exact j1 i g
  · refine ⟨(j3 i g1 g2).1, (j3 i g1 g2).2.1, ?_⟩
    show Mt_st (Pl_mt P) i = 0 → Pl_now P < zU (zU (Mt_sl (Pl_mt P)) k (Mt_sl (Pl_mt P) o)) o (Mt_sl (Pl_mt P) k) i + Mt_ln (Pl_mt P) i ∧ zU (zU (Mt_sl (Pl_mt P)) k (Mt_sl (Pl_mt P) o)) o (Mt_sl (Pl_mt P) k) i + Mt_ln (Pl_mt P) i ≤ 400
    by_cases hi : i = o
    · rw [hi, zU_s]
      exact fun _ => h2
    · rw [zU_n _ _ hi]
      by_cases hi2 : i = k
      · rw [hi2, zU_s]
        exact fun _ => h1
      · rw [zU_n _ _ hi2]
        exact (j3 i g1 g2).2.2
theorem Sim_swp {P : PlS} {u : MdS} (hS : Sim P u) (hJ : Pl_J P) (hP : PlI P) {k o : Int} (hk : 0 ≤ k ∧ k < Mt_n (Pl_mt P)) (ho : 0 ≤ o ∧ o < Mt_n (Pl_mt P)) (hne : k ≠ o) (ak : Pl_ahead P k) (ao : Pl_ahead P o) : Pl_swp P k o ↔ Md_swp u k o := by
  have e3 : Mt_exch (Pl_mt P) k o = Mt_exM (Pl_mt P) k o := by rw [Mt_exch, if_pos ⟨hk, ho⟩]
  obtain ⟨s1, s2, s3, s4, s5, s6⟩ := id hS
  have e1 : Mt_sl (Mt_exM (Pl_mt P) k o) k = Mt_sl (Md_mt u) o := by
    rw [s5]
    show zU (zU (Mt_sl (Pl_mt P)) k (Mt_sl (Pl_mt P) o)) o (Mt_sl (Pl_mt P) k) k = Mt_sl (Pl_mt P) o
    rw [zU_n _ _ hne, zU_s]
  have e2 : Mt_sl (Mt_exM (Pl_mt P) k o) o = Mt_sl (Md_mt u) k := by
    rw [s5]
    show zU (zU (Mt_sl (Pl_mt P)) k (Mt_sl (Pl_mt P) o)) o (Mt_sl (Pl_mt P) k) o = Mt_sl (Pl_mt P) k
    rw [zU_s]
  have hS' : Sim (Pl_setMt P (Mt_exM (Pl_mt P) k o)) (Md_exM u k o) := ⟨s1, s2, s3, s4, by show Mt_exM (Md_mt u) k o = Mt_exM (Pl_mt P) k o; rw [s5], s6⟩
  have hL' : Mt_L (Pl_mt (Pl_setMt P (Mt_exM (Pl_mt P) k o))) := fun i h1 h2 => (hJ.2.2.1 i h1 h2).1
  have hR' : Pl_RU (Pl_setMt P (Mt_exM (Pl_mt P) k o)) := ⟨hJ.2.2.2.1.1, hJ.2.2.2.1.2⟩
  have bd : ∀ i, 0 ≤ i → i < Mt_n (Pl_mt P) → Pl_ahead P i → 0 ≤ Mt_sl (Md_mt u) i ∧ Mt_sl (Md_mt u) i < 400 := by
    intro i i1 i2 ai
    have h1 := hJ.2.2.1 i i1 i2
    have h2 := h1.2.2 ai.2.1
    have h3 := (hP.2.2.2.1.2 i).2.1
    rw [s5]
    omega
  have c1 : Pl_can (Pl_setMt P (Mt_exM (Pl_mt P) k o)) k (Mt_sl (Md_mt u) o) ↔ (Mt_sl (Md_mt u) o % 8 + Mt_ln (Md_mt u) k ≤ 8 ∧ Md_can (Md_exM u k o) k (Mt_pe (Md_mt u) k) (Mt_sl (Md_mt u) o) (Mt_sl (Md_mt u) o + Mt_ln (Md_mt u) k) (Mt_ma (Md_mt u) k)) := Sim_canE hS' hL' hR' hk (hP.2.2.2.1.2 k).1 (hJ.2.2.1 k hk.1 hk.2).2.1 (bd o ho.1 ho.2 ao)
  have c2 : Pl_can (Pl_setMt P (Mt_exM (Pl_mt P) k o)) o (Mt_sl (Md_mt u) k) ↔ (Mt_sl (Md_mt u) k % 8 + Mt_ln (Md_mt u) o ≤ 8 ∧ Md_can (Md_exM u k o) o (Mt_pe (Md_mt u) o) (Mt_sl (Md_mt u) k) (Mt_sl (Md_mt u) k + Mt_ln (Md_mt u) o) (Mt_ma (Md_mt u) o)) := Sim_canE hS' hL' hR' ho (hP.2.2.2.1.2 o).1 (hJ.2.2.1 o ho.1 ho.2).2.1 (bd k hk.1 hk.2 ak)
  unfold Pl_swp
  rw [e3, e1, e2]
  exact ⟨fun q => ⟨(c1.mp q.2.1).1, (c2.mp q.2.2).1, (c1.mp q.2.1).2, (c2.mp q.2.2).2⟩, fun q => ⟨⟨hk, ho⟩, c1.mpr ⟨q.1, q.2.2.1⟩, c2.mpr ⟨q.2.1, q.2.2.2⟩⟩⟩
theorem st_agree {j : Nat} {r : RiS} {u : MdS} (h : RR j r u) (hj : j < 512) (p0 p1 : Int) : Agd j gz_c2 (cd_agree r p0 p1) (md_agree u p0 p1) (Sw_st (Ri_S (Ri_agr r p0 p1)) p1 = Sw_st (Md_sw (Md_agr u p0 p1)) p1) (Ri_agr r p0 p1) (Md_agr u p0 p1) := by
  have h0 := h
  obtain ⟨hr, hu, hS, hJ, hRP, hW, hTn⟩ := h
  obtain ⟨s1, s2, s3, s4, s5, s6⟩ := id hS
  have hsn := hW.1
  have hsw := hr.2.2.2.1
  have hmt := hr.1.2.2.2.1.1
  have hall : 0 ≤ p1 → p1 < Sw_n (Ri_S r) → Md_all u p1 = Ri_all r p1 := by
    intro g1 g2
    have q := hW.2.2.2.2.2.2.2.2 p1 g1 g2
    unfold Md_all Ri_all Mt_peof
    rw [if_pos q.1, if_pos q.2.1, s5, hW.2.1, hW.2.2.2.1]
  have hst : Sw_st (Md_sw u) p1 = Sw_st (Ri_S r) p1 := by rw [hW.2.2.2.2.2.1]
  refine ⟨cdm2 gz_c2_O (by omega) fun a1 a2 => cdm2 gz_c2_S ?_ fun _ _ => rfl, ?_⟩
  · have a2 := Classical.not_not.mp a2
    refine or2.trans (not_congr ?_)
    rw [hst, hall a2.1 a2.2]
  rintro ⟨k1, k2, k3, k4, -⟩
  have k1 := Classical.not_not.mp k1
  have k2 := Classical.not_not.mp k2
  have k3 := Classical.not_not.mp k3
  have hq := hW.2.2.2.2.2.2.2.2 p1 k2.1 k2.2
  have hA := RR_ag h0 k1 k2 k3
  have hAI := (Ri_ag_I hr (k := p1) k1).2.2.2.2
  have e0 : Ri_holds (Ri_ag r p0 p1) p1 ↔ Md_hld u p1 := by
    have e1 := Sim_ahd hS hq.1
    have e2 := Sim_ahd hS hq.2.1
    show (Pl_ahead (Ri_P r) (Sw_me (Ri_S r) p1) ∧ Pl_ahead (Ri_P r) (Sw_ot (Ri_S r) p1) ∧ zI (Mt_mv (Pl_mt (Ri_P r)) (Sw_me (Ri_S r) p1)) = zI (Sw_mm (Ri_S r) p1) ∧ zI (Mt_mv (Pl_mt (Ri_P r)) (Sw_ot (Ri_S r) p1)) = zI (Sw_om (Ri_S r) p1)) ↔ (Md_ahd u (Sw_me (Md_sw u) p1) ∧ Md_ahd u (Sw_ot (Md_sw u) p1) ∧ zI (Mt_mv (Md_mt u) (Sw_me (Md_sw u) p1)) = zI (Sw_mm (Md_sw u) p1) ∧ zI (Mt_mv (Md_mt u) (Sw_ot (Md_sw u) p1)) = zI (Sw_om (Md_sw u) p1))
    rw [hW.2.1, hW.2.2.1, hW.2.2.2.1, hW.2.2.2.2.1]
    refine and_congr e1 (and_congr e2 ?_)
    rw [s5]
  by_cases c0 : Ri_holds (Ri_ag r p0 p1) p1
  · have c0' := e0.mp c0
    have ea : Sw_ag (Ri_S (Ri_ag r p0 p1)) p1 = Sw_ag (Md_sw (Md_ag u p0 p1)) p1 := (hA.2.2.2.2.2.1.2.2.2.2.2.2.1 p1 k3).symm
    by_cases c1 : Sw_ag (Ri_S (Ri_ag r p0 p1)) p1 = Ri_all r p1
    · have c1' : Sw_ag (Md_sw (Md_ag u p0 p1)) p1 = Md_all u p1 := by rw [hall k2.1 k2.2, ← ea]; exact c1
      rw [Ri_agr_1 c0 c1]
      have hc0 : Pl_ahead (Ri_P r) (Sw_me (Ri_S r) p1) ∧ Pl_ahead (Ri_P r) (Sw_ot (Ri_S r) p1) := ⟨c0.1, c0.2.1⟩
      have eS : Pl_swp (Ri_P (Ri_ag r p0 p1)) (Sw_me (Ri_S (Ri_ag r p0 p1)) p1) (Sw_ot (Ri_S (Ri_ag r p0 p1)) p1) ↔ Md_swp (Md_ag u p0 p1) (Sw_me (Md_sw u) p1) (Sw_ot (Md_sw u) p1) := by
        rw [hW.2.1, hW.2.2.2.1]
        exact Sim_swp hA.2.2.1 hJ hr.1 hq.1 hq.2.1 hq.2.2 hc0.1 hc0.2
      by_cases c2 : Pl_swp (Ri_P (Ri_ag r p0 p1)) (Sw_me (Ri_S (Ri_ag r p0 p1)) p1) (Sw_ot (Ri_S (Ri_ag r p0 p1)) p1)
      · have c2' := eS.mp c2
        rw [Ri_settle_y c2, Md_agr_2 c0' c1' c2']
        have hT : RR (j + 1) (Ri_tell (Ri_ag r p0 p1) 7 (Sw_me (Ri_S r) p1) (Sw_ot (Ri_S r) p1) 0 0) (0, Md_now u, Md_aw u, Md_mm u, Md_lo u, Mt_mvM (Mt_exM (Md_mt u) (Sw_me (Md_sw u) p1) (Sw_ot (Md_sw u) p1)) (Sw_me (Md_sw u) p1) (Sw_ot (Md_sw u) p1) 1, Sw_agM (Md_sw u) p0 p1, Md_bu u) := by
          rw [hW.2.1, hW.2.2.2.1] at c2' ⊢
          have m1 := hJ.2.2.1 _ hq.1.1 hq.1.2
          have m2 := hJ.2.2.1 _ hq.2.1.1 hq.2.1.2
          have d1 := c2'.1
          have d2 := c2'.2.1
          have n1 := hc0.1.2
          have n2 := hc0.2.2
          have m3 := m1.2.2 n1.1
          have m4 := m2.2.2 n2.1
          have d1' : Mt_sl (Pl_mt (Ri_P r)) (Sw_ot (Ri_S r) p1) % 8 + Mt_ln (Pl_mt (Ri_P r)) (Sw_me (Ri_S r) p1) ≤ 8 := by rw [← s5]; exact d1
          have d2' : Mt_sl (Pl_mt (Ri_P r)) (Sw_me (Ri_S r) p1) % 8 + Mt_ln (Pl_mt (Ri_P r)) (Sw_ot (Ri_S r) p1) ≤ 8 := by rw [← s5]; exact d2
          have hz1 := (hr.1.2.2.2.1.2 (Sw_me (Ri_S r) p1)).2.1
          have hz2 := (hr.1.2.2.2.1.2 (Sw_ot (Ri_S r) p1)).2.1
          have hI := (Md_exM_I hu (k := Sw_me (Ri_S r) p1) (o := Sw_ot (Ri_S r) p1)).2.2.2.2.1
          refine RR_tell hA hj (by decide) ⟨by omega, by omega⟩ ⟨by omega, by omega⟩ z0_0 z0_1 ?_ ?_ ?_ ?_
          · exact ⟨hu.1, hu.2.1, hu.2.2.1, hu.2.2.2.1, ⟨⟨hI.1.1, hI.1.2⟩, hI.2⟩, hA.2.1.2.2.2.2.2⟩
          · rw [Pl_take_7]
            refine ⟨s1, s2, s3, s4, ?_, s6⟩
            show Mt_mvM (Mt_exM (Md_mt u) (Sw_me (Ri_S r) p1) (Sw_ot (Ri_S r) p1)) (Sw_me (Ri_S r) p1) (Sw_ot (Ri_S r) p1) 1 = Mt_plsw (Pl_mt (Ri_P r)) (Sw_me (Ri_S r) p1) (Sw_ot (Ri_S r) p1)
            rw [Mt_plsw_y ⟨hq.1, hq.2.1⟩, s5]
          · rw [Pl_take_7]
            show Pl_J (Pl_mc (Ri_P r), Pl_lo (Ri_P r), Pl_lv (Ri_P r), Mt_plsw (Pl_mt (Ri_P r)) (Sw_me (Ri_S r) p1) (Sw_ot (Ri_S r) p1), Pl_bu (Ri_P r), Pl_now (Ri_P r))
            rw [Mt_plsw_y ⟨hq.1, hq.2.1⟩]
            exact J_swap hJ hq.1 hq.2.1 hq.2.2 ⟨by omega, by omega⟩ ⟨by omega, by omega⟩
          · rw [Pl_take_7]
            show Sw_R (Ri_S (Ri_ag r p0 p1)) (Sw_agM (Md_sw u) p0 p1) (Mt_n (Mt_plsw (Pl_mt (Ri_P r)) (Sw_me (Ri_S r) p1) (Sw_ot (Ri_S r) p1)))
            rw [Mt_plsw_y ⟨hq.1, hq.2.1⟩]
            exact hA.2.2.2.2.2.1
        have hZ := RR_stg hT (k := p1) (x := 1) k2 (by decide) (Sw_ag (Ri_S (Ri_ag r p0 p1))) (fun i => (hAI i).2.2.1) (fun i _ => rfl)
        refine ⟨?_, hZ, rfl⟩
        show zU (Sw_st (Ri_S r)) p1 1 p1 = zU (Sw_st (Md_sw u)) p1 1 p1
        rw [zU_s, zU_s]
      · have c2' : ¬ Md_swp (Md_ag u p0 p1) (Sw_me (Md_sw u) p1) (Sw_ot (Md_sw u) p1) := fun q => c2 (eS.mpr q)
        rw [Ri_settle_n c2, Md_agr_3 c0' c1' c2']
        have hZ := RR_stg hA (k := p1) (x := 2) k2 (by decide) (Sw_ag (Ri_S (Ri_ag r p0 p1))) (fun i => (hAI i).2.2.1) (fun i _ => rfl)
        refine ⟨?_, RR_up hZ, rfl⟩
        show zU (Sw_st (Ri_S r)) p1 2 p1 = zU (Sw_st (Md_sw u)) p1 2 p1
        rw [zU_s, zU_s]
    · have c1' : ¬ Sw_ag (Md_sw (Md_ag u p0 p1)) p1 = Md_all u p1 := by rw [hall k2.1 k2.2, ← ea]; exact c1
      rw [Ri_agr_2 c0 c1, Md_agr_1 c0' c1']
      exact ⟨hst.symm, RR_up hA, rfl⟩
  · have c0' : ¬ Md_hld u p1 := fun q => c0 (e0.mpr q)
    rw [Ri_agr_0 c0, Md_agr_0 c0']
    have hZ := RR_stg h0 (k := p1) (x := 2) k2 (by decide) (Sw_ag (Ri_S (Ri_ag r p0 p1))) (fun i => (hAI i).2.2.1) (fun i hi => zU_n _ _ hi)
    refine ⟨?_, RR_up hZ, rfl⟩
    show zU (Sw_st (Ri_S r)) p1 2 p1 = zU (Sw_st (Md_sw u)) p1 2 p1
    rw [zU_s, zU_s]
