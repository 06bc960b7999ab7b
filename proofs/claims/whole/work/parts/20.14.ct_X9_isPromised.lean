/-! ===== laid by wip/whole/gen/md.py ===== -/
theorem hn_X9_isPromised_X9 : ∀ w ∈ u_ws RX9 TX9 35, w ∈ wsX9_isPromised := by decide +kernel
theorem fl_X9_isPromised_106 : Cond.fieldLink RX9 106 (TX9 13).1 (TX9 13).2.1 (TX9 13).2.2.1 ∈ wsX9_isPromised := by decide +kernel
theorem fl_X9_isPromised_50 : Cond.fieldLink RX9 50 (TX9 18).1 (TX9 18).2.1 (TX9 18).2.2.1 ∈ wsX9_isPromised := by decide +kernel
set_option maxHeartbeats 4000000 in
set_option maxRecDepth 100000 in
theorem ct_X9_isPromised (l : Launch) (D : va_G) (cI cJ cZ : ClassId) (a : Nat → Nat) (u : MdS) (p0 p1 p2 : Int) (hu : MdI u) (h0 : -1 ≤ p0 ∧ p0 ≤ 1023) (h1 : -1 ≤ p1 ∧ p1 ≤ 1023) (h2 : -1 ≤ p2 ∧ p2 ≤ 1023) : gz_M l yX9_isPromised wsX9_isPromised { frames := 2, cells := 0, slots := 0, locals := 44 } D cI cJ cZ [.ref (a 0), vI p0, vI p1, vI p2] (MdW cI cZ a u) (gz_pI (MdW cI cZ a u) (fun r => r = bz (Mt_prom (Md_mt u) (Mt_n (Md_mt u)) p0 p1 1 p2))) := by
  refine gz_ofZ (cc := cX9_isPromised) (maxL := 6) (ty := .boolean) (own := RX9) (by decide) rfl rfl (Nat.le_of_ble_eq_true rfl) (lv0 := [(0, .ref (a 0)), (1, vI p0), (2, vI p1), (3, vI p2)]) rfl ?_
  intro p e s m args below meth c A Q F Z
  obtain ⟨hnw, hAw, hMm, hLo, ⟨hMt, hMa⟩, hSw, hBu⟩ := id hu
  have hMmn := hMm.1
  have hLon := hLo.1
  have hMtn := hMt.1
  have hSwn := hSw.1
  have hBun := hBu.1
  have L6 : ∀ (N : Nat) (i : Int) (b : Int), (Mt_n (Md_mt u) - i).toNat < N → (0 ≤ i ∧ i ≤ Mt_n (Md_mt u)) → (b = bz (Mt_prom (Md_mt u) i p0 p1 1 p2)) → gG p l e ({ frames := 2, cells := 0, slots := 0, locals := 44 } : Room) s m args below meth c D A 6 Q 0 0 (MdW cI cZ a u) [(0, .ref (a 0)), (1, vI p0), (2, vI p1), (3, vI p2), (4, vI b), (5, vI i)] [] 6 := by
    intro N
    induction N with
    | zero => intro i b hN; exact absurd hN (Nat.not_lt_zero _)
    | succ N ih6 =>
      intro i b hN hi hb
      have hbr := bz_rb hb
      refine gz_iload (pc := 6) F dX9_isPromised_6 5 rfl ?_
      refine gz_aload_n (pc := 8) F dX9_isPromised_8 rfl 0 rfl ?_
      refine gz_get (pc := 9) (v := vI (Mt_n (Md_mt u))) F hn_X9_isPromised_X9 0 9 rfl rfl 13 (by decide) fl_X9_isPromised_106 rfl dX9_isPromised_9 ?_
      have b9 := hMt.1
      refine gz_icmp_ge (pc := 12) (tgt := 60) F dX9_isPromised_12 (by decide) (by omega) (by omega) (fun c12 => ?_) (fun c12 => ?_)
      · refine gz_iload (pc := 60) F dX9_isPromised_60 4 rfl ?_
        refine Z _ _ 62 _ dX9_isPromised_62 (by rw [hb]; exact bz_nar _) ?_
        exact ⟨rfl, _, rfl, by rw [hb, show i = Mt_n (Md_mt u) by omega]⟩
      · refine gz_iload (pc := 15) F dX9_isPromised_15 4 rfl ?_
        refine gz_if_ne (pc := 17) (tgt := 47) F dX9_isPromised_17 (by decide) (by omega) (fun c17 => ?_) (fun c17 => ?_)
        · refine gz_const (pc := 47) F dX9_isPromised_47 ?_
          refine gz_goto (pc := 48) (tgt := 52) F dX9_isPromised_48 (by decide) ?_
          refine gz_istore (pc := 52) (lv2 := [(4, vI 1), (0, .ref (a 0)), (1, vI p0), (2, vI p1), (3, vI p2), (5, vI i)]) F dX9_isPromised_52 (by decide) rfl ?_
          refine gz_iinc (pc := 54) (lv2 := [(5, vI (i + 1)), (4, vI 1), (0, .ref (a 0)), (1, vI p0), (2, vI p1), (3, vI p2)]) F dX9_isPromised_54 5 rfl (by decide) rfl ?_
          refine gz_goto (pc := 57) (tgt := 6) F dX9_isPromised_57 (by decide) ?_
          refine gz_lv [2, 3, 4, 5, 1, 0] rfl ?_
          exact ih6 (i + 1) 1 (by omega) (by omega) (by first | exact bzT (Mt_prom_up (bz_of1 hb c17)) | exact bzT (Mt_prom_at hi.1 c23 c34 c44))
        · refine gz_iload (pc := 20) F dX9_isPromised_20 5 rfl ?_
          refine gz_iload_n (pc := 22) F dX9_isPromised_22 rfl 3 rfl ?_
          refine gz_icmp_eq (pc := 23) (tgt := 51) F dX9_isPromised_23 (by decide) (by omega) (by omega) (fun c23 => ?_) (fun c23 => ?_)
          · refine gz_const (pc := 51) F dX9_isPromised_51 ?_
            refine gz_istore (pc := 52) (lv2 := [(4, vI 0), (0, .ref (a 0)), (1, vI p0), (2, vI p1), (3, vI p2), (5, vI i)]) F dX9_isPromised_52 (by decide) rfl ?_
            refine gz_iinc (pc := 54) (lv2 := [(5, vI (i + 1)), (4, vI 0), (0, .ref (a 0)), (1, vI p0), (2, vI p1), (3, vI p2)]) F dX9_isPromised_54 5 rfl (by decide) rfl ?_
            refine gz_goto (pc := 57) (tgt := 6) F dX9_isPromised_57 (by decide) ?_
            refine gz_lv [2, 3, 4, 5, 1, 0] rfl ?_
            exact ih6 (i + 1) 0 (by omega) (by omega) (by first | exact bzF (Mt_prom_nx (bz_of0 hb c17) (fun h => h.1 c23)) | exact bzF (Mt_prom_nx (bz_of0 hb c17) (fun h => c34 h.2.1)) | exact bzF (Mt_prom_nx (bz_of0 hb c17) (fun h => c44 h.2.2)))
          · refine gz_aload_n (pc := 26) F dX9_isPromised_26 rfl 0 rfl ?_
            refine gz_get (pc := 27) (v := .ref (a 14)) F hn_X9_isPromised_X9 0 9 rfl rfl 18 (by decide) fl_X9_isPromised_50 rfl dX9_isPromised_27 ?_
            refine gz_iload (pc := 30) F dX9_isPromised_30 5 rfl ?_
            refine gz_iald (pc := 32) (f := Mt_ma (Md_mt u)) F 14 rfl (by omega) (by decide) dX9_isPromised_32 ?_
            have b32 := hMa i
            refine gz_iload_n (pc := 33) F dX9_isPromised_33 rfl 1 rfl ?_
            refine gz_icmp_ne (pc := 34) (tgt := 51) F dX9_isPromised_34 (by decide) (by omega) (by omega) (fun c34 => ?_) (fun c34 => ?_)
            · refine gz_const (pc := 51) F dX9_isPromised_51 ?_
              refine gz_istore (pc := 52) (lv2 := [(4, vI 0), (0, .ref (a 0)), (1, vI p0), (2, vI p1), (3, vI p2), (5, vI i)]) F dX9_isPromised_52 (by decide) rfl ?_
              refine gz_iinc (pc := 54) (lv2 := [(5, vI (i + 1)), (4, vI 0), (0, .ref (a 0)), (1, vI p0), (2, vI p1), (3, vI p2)]) F dX9_isPromised_54 5 rfl (by decide) rfl ?_
              refine gz_goto (pc := 57) (tgt := 6) F dX9_isPromised_57 (by decide) ?_
              refine gz_lv [2, 3, 4, 5, 1, 0] rfl ?_
              exact ih6 (i + 1) 0 (by omega) (by omega) (by first | exact bzF (Mt_prom_nx (bz_of0 hb c17) (fun h => h.1 c23)) | exact bzF (Mt_prom_nx (bz_of0 hb c17) (fun h => c34 h.2.1)) | exact bzF (Mt_prom_nx (bz_of0 hb c17) (fun h => c44 h.2.2)))
            · refine gz_aload_n (pc := 37) F dX9_isPromised_37 rfl 0 rfl ?_
              refine gz_iload (pc := 38) F dX9_isPromised_38 5 rfl ?_
              refine gz_iload_n (pc := 40) F dX9_isPromised_40 rfl 2 rfl ?_
              refine gz_callVb (pc := 41) (n := 2) (As := [vI i, vI p1]) (rest := []) (bytes := cX9_isIn) (maxL := 3) (ret := some .boolean) F (ct_X9_isIn l D cI cJ cZ a u i p1 hu (by omega) (by omega)) gX9_isPromised_X9_isIn rfl ⟨rfl, rfl⟩ (by decide +kernel) ⟨Nat.le_of_ble_eq_true rfl, Nat.le_of_ble_eq_true rfl⟩ rfl [] [] ((List.append_nil _).symm) 9 rfl rfl rfl (Nat.le_of_ble_eq_true rfl) ⟨Nat.zero_le _, Nat.zero_le _⟩ gz_pI_sh dX9_isPromised_41 ?_
              refine gz_kIb ((List.append_nil _).symm).symm (fun r41 h41 => ?_)
              subst h41
              refine gz_if_eqb (pc := 44) (tgt := 51) F dX9_isPromised_44 (by decide) (fun c44 => ?_) (fun c44 => ?_)
              · refine gz_const (pc := 51) F dX9_isPromised_51 ?_
                refine gz_istore (pc := 52) (lv2 := [(4, vI 0), (0, .ref (a 0)), (1, vI p0), (2, vI p1), (3, vI p2), (5, vI i)]) F dX9_isPromised_52 (by decide) rfl ?_
                refine gz_iinc (pc := 54) (lv2 := [(5, vI (i + 1)), (4, vI 0), (0, .ref (a 0)), (1, vI p0), (2, vI p1), (3, vI p2)]) F dX9_isPromised_54 5 rfl (by decide) rfl ?_
                refine gz_goto (pc := 57) (tgt := 6) F dX9_isPromised_57 (by decide) ?_
                refine gz_lv [2, 3, 4, 5, 1, 0] rfl ?_
                exact ih6 (i + 1) 0 (by omega) (by omega) (by first | exact bzF (Mt_prom_nx (bz_of0 hb c17) (fun h => h.1 c23)) | exact bzF (Mt_prom_nx (bz_of0 hb c17) (fun h => c34 h.2.1)) | exact bzF (Mt_prom_nx (bz_of0 hb c17) (fun h => c44 h.2.2)))
              · refine gz_const (pc := 47) F dX9_isPromised_47 ?_
                refine gz_goto (pc := 48) (tgt := 52) F dX9_isPromised_48 (by decide) ?_
                refine gz_istore (pc := 52) (lv2 := [(4, vI 1), (0, .ref (a 0)), (1, vI p0), (2, vI p1), (3, vI p2), (5, vI i)]) F dX9_isPromised_52 (by decide) rfl ?_
                refine gz_iinc (pc := 54) (lv2 := [(5, vI (i + 1)), (4, vI 1), (0, .ref (a 0)), (1, vI p0), (2, vI p1), (3, vI p2)]) F dX9_isPromised_54 5 rfl (by decide) rfl ?_
                refine gz_goto (pc := 57) (tgt := 6) F dX9_isPromised_57 (by decide) ?_
                refine gz_lv [2, 3, 4, 5, 1, 0] rfl ?_
                exact ih6 (i + 1) 1 (by omega) (by omega) (by first | exact bzT (Mt_prom_up (bz_of1 hb c17)) | exact bzT (Mt_prom_at hi.1 c23 c34 c44))
  refine gz_const (pc := 0) F dX9_isPromised_0 ?_
  refine gz_istore (pc := 1) (lv2 := [(4, vI 0), (0, .ref (a 0)), (1, vI p0), (2, vI p1), (3, vI p2)]) F dX9_isPromised_1 (by decide) rfl ?_
  refine gz_const (pc := 3) F dX9_isPromised_3 ?_
  refine gz_istore (pc := 4) (lv2 := [(5, vI 0), (4, vI 0), (0, .ref (a 0)), (1, vI p0), (2, vI p1), (3, vI p2)]) F dX9_isPromised_4 (by decide) rfl ?_
  refine gz_lv [2, 3, 4, 5, 1, 0] rfl ?_
  exact L6 _ 0 0 (Nat.lt_succ_self _) (by omega) (by exact bzF (Mt_prom_0 _ _ _ _ _))
