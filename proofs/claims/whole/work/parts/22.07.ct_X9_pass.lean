/-! ===== laid by wip/whole/gen/md2.py ===== -/
abbrev md_pass (u : MdS) (p0 : Int) : List (Prop × Int) := [(¬ (1 ≤ p0 ∧ p0 ≤ 50), 1), (400 < Md_now u + p0, 2)]
theorem hn_X9_pass_X9 : ∀ w ∈ u_ws RX9 TX9 35, w ∈ wsX9_pass := by decide +kernel
theorem fl_X9_pass_144 : Cond.fieldLink RX9 144 (TX9 1).1 (TX9 1).2.1 (TX9 1).2.2.1 ∈ wsX9_pass := by decide +kernel
set_option maxHeartbeats 4000000 in
set_option maxRecDepth 100000 in
theorem ct_X9_pass (l : Launch) (D : va_G) (cI cJ cZ : ClassId) (a : Nat → Nat) (u : MdS) (p0 : Int) (hu : MdI u) (h0 : -2147483648 ≤ p0 ∧ p0 < 2147483648)  : gz_M l yX9_pass wsX9_pass { frames := 6, cells := 0, slots := 0, locals := 139 } D cI cJ cZ [.ref (a 0), vI p0] (MdW cI cZ a u) (gz_pK (md_pass u p0) (some (vI (Md_now (Md_iter (Md_setTh u 0) p0.toNat)))) (some (vI 0)) (fun k => MdW cI cZ a (Md_setTh u k)) (MdW cI cZ a (Md_iter (Md_setTh u 0) p0.toNat))) := by
  refine gz_ofZ (cc := cX9_pass) (maxL := 3) (ty := .int) (own := RX9) (by decide) rfl rfl (Nat.le_of_ble_eq_true rfl) (lv0 := [(0, .ref (a 0)), (1, vI p0)]) rfl ?_
  intro p e s m args below meth c A Q F Z
  obtain ⟨hnw, hAw, hMm, hLo, ⟨hMt, hMa⟩, hSw, hBu⟩ := id hu
  have hMmn := hMm.1
  have hLon := hLo.1
  have hMtn := hMt.1
  have hSwn := hSw.1
  have hBun := hBu.1
  have L42 : ∀ (N : Nat) (n9 : Int) (v : MdS), (p0 - n9).toNat < N → (gz_kx (md_pass u p0) 0) → (1 ≤ p0 ∧ p0 ≤ 50) → (Md_now u + p0 ≤ 400) → (0 ≤ n9 ∧ n9 ≤ p0) → (v = Md_iter (Md_setTh u 0) n9.toNat) → gG p l e ({ frames := 6, cells := 0, slots := 0, locals := 139 } : Room) s m args below meth c D A 3 Q 0 0 (MdW cI cZ a v) [(0, .ref (a 0)), (1, vI p0), (2, vI n9)] [] 42 := by
    intro N
    induction N with
    | zero => intro n9 v hN; exact absurd hN (Nat.not_lt_zero _)
    | succ N ih42 =>
      intro n9 v hN hk k1 k2 hn hv
      have hI9 := Md_iter_k (u := Md_setTh u 0) hu n9.toNat (by show Md_now u + _ ≤ 400; omega)
      rw [← hv] at hI9
      have hI := hI9.1
      have hN9 : Md_now v = Md_now u + (n9.toNat : Int) := hI9.2
      obtain ⟨hnw, hAw, hMm, hLo, ⟨hMt, hMa⟩, hSw, hBu⟩ := id hI
      have hMmn := hMm.1
      have hLon := hLo.1
      have hMtn := hMt.1
      have hSwn := hSw.1
      have hBun := hBu.1
      refine gz_iload_n (pc := 42) F dX9_pass_42 rfl 2 rfl ?_
      refine gz_iload_n (pc := 43) F dX9_pass_43 rfl 1 rfl ?_
      refine gz_icmp_ge (pc := 44) (tgt := 57) F dX9_pass_44 (by decide) (by omega) (by omega) (fun c44 => ?_) (fun c44 => ?_)
      · refine gz_aload_n (pc := 57) F dX9_pass_57 rfl 0 rfl ?_
        refine gz_get (pc := 58) (v := vI (Md_now v)) F hn_X9_pass_X9 0 9 rfl rfl 1 (by decide) fl_X9_pass_144 rfl dX9_pass_58 ?_
        have b58 := hnw
        refine Z _ _ 61 _ dX9_pass_61 rfl ?_
        exact ⟨0, hk, fun h => absurd rfl h, fun _ => ⟨(by rw [hv, show n9 = p0 by omega]), (by rw [hv, show n9 = p0 by omega])⟩⟩
      · refine gz_aload_n (pc := 47) F dX9_pass_47 rfl 0 rfl ?_
        refine gz_callVb (pc := 48) (n := 0) (As := []) (rest := []) (bytes := cX9_passes) (maxL := 2) (ret := none) F (ct_X9_passes l D cI cJ cZ a v  hI (by omega)) gX9_pass_X9_passes rfl ⟨rfl, rfl⟩ (by decide +kernel) ⟨Nat.le_of_ble_eq_true rfl, Nat.le_of_ble_eq_true rfl⟩ rfl [] [] ((List.append_nil _).symm) 9 rfl rfl rfl (Nat.le_of_ble_eq_true rfl) ⟨Nat.zero_le _, Nat.zero_le _⟩ (gz_pE_sh rfl) dX9_pass_48 ?_
        refine gz_kEb (ws2 := MdW cI cZ a (Md_step v)) ((List.append_nil _).symm).symm ?_
        refine gz_iinc (pc := 51) (lv2 := [(2, vI (n9 + 1)), (0, .ref (a 0)), (1, vI p0)]) F dX9_pass_51 2 rfl (by decide) rfl ?_
        refine gz_goto (pc := 54) (tgt := 42) F dX9_pass_54 (by decide) ?_
        refine gz_lv [1, 2, 0] rfl ?_
        exact ih42 (n9 + 1) (Md_step v) (by omega) (by exact hk) (by first | exact c8 | exact k1) (by omega) (by omega) (by first | rfl | exact Md_iter_s hn.1 hv)
  refine gz_aload_n (pc := 0) F dX9_pass_0 rfl 0 rfl ?_
  refine gz_iload_n (pc := 1) F dX9_pass_1 rfl 1 rfl ?_
  refine gz_const (pc := 2) F dX9_pass_2 ?_
  refine gz_bipush (pc := 3) F dX9_pass_3 (by decide) ?_
  refine gz_callS (pc := 5) (n := 3) (As := [vI p0, vI 1, vI 50]) (rest := [.ref (a 0)]) (bytes := cX9_in) (maxL := 3) (ret := some .boolean) F (ct_X9_in l D cI cJ cZ p0 1 50 (by omega) (by omega) (by omega)) gX9_pass_X9_in rfl ⟨rfl, rfl⟩ (by decide +kernel) ⟨Nat.le_of_ble_eq_true rfl, Nat.le_of_ble_eq_true rfl⟩ rfl [] rfl (by decide) rfl (Nat.le_of_ble_eq_true rfl) ⟨Nat.zero_le _, Nat.zero_le _⟩ gz_pI_sh dX9_pass_5 ?_
  refine gz_kI rfl (fun r5 h5 => ?_)
  subst h5
  refine gz_if_neb (pc := 8) (tgt := 15) F dX9_pass_8 (by decide) (fun c8 => ?_) (fun c8 => ?_)
  · refine gz_aload_n (pc := 15) F dX9_pass_15 rfl 0 rfl ?_
    refine gz_get (pc := 16) (v := vI (Md_now u)) F hn_X9_pass_X9 0 9 rfl rfl 1 (by decide) fl_X9_pass_144 rfl dX9_pass_16 ?_
    have b16 := hnw
    refine gz_iload_n (pc := 19) F dX9_pass_19 rfl 1 rfl ?_
    refine gz_iadd (pc := 20) F dX9_pass_20 ?_
    refine gz_sipush (pc := 21) F dX9_pass_21 (by decide) ?_
    refine gz_icmp_le (pc := 24) (tgt := 31) F dX9_pass_24 (by decide) (by omega) (by omega) (fun c24 => ?_) (fun c24 => ?_)
    · refine gz_const (pc := 31) F dX9_pass_31 ?_
      refine gz_callVb (pc := 32) (n := 1) (As := [vI 0]) (rest := []) (bytes := cX9_refused) (maxL := 2) (ret := some .boolean) F (ct_X9_refused_0 l D cI cJ cZ a u hu) gX9_pass_X9_refused rfl ⟨rfl, rfl⟩ (by decide +kernel) ⟨Nat.le_of_ble_eq_true rfl, Nat.le_of_ble_eq_true rfl⟩ rfl [] [] ((List.append_nil _).symm) 9 rfl rfl rfl (Nat.le_of_ble_eq_true rfl) ⟨Nat.zero_le _, Nat.zero_le _⟩ (gz_pV_sh rfl) dX9_pass_32 ?_
      refine gz_kVb (r := 0) (ws2 := MdW cI cZ a (0, Md_now u, Md_aw u, Md_mm u, Md_lo u, Md_mt u, Md_sw u, Md_bu u)) ((List.append_nil _).symm).symm ?_
      refine gz_if_eq (pc := 35) (tgt := 40) F dX9_pass_35 (by decide) (by omega) (fun c35 => ?_) (fun c35 => ?_)
      · refine gz_const (pc := 40) F dX9_pass_40 ?_
        refine gz_istore_n (pc := 41) (lv2 := [(2, vI 0), (0, .ref (a 0)), (1, vI p0)]) F dX9_pass_41 rfl (by decide) rfl ?_
        refine gz_lv [1, 2, 0] rfl ?_
        exact L42 _ 0 (0, Md_now u, Md_aw u, Md_mm u, Md_lo u, Md_mt u, Md_sw u, Md_bu u) (Nat.lt_succ_self _) (by exact Or.inr ⟨not_not_intro c8, Or.inr ⟨(Int.not_lt.mpr c24), rfl⟩⟩) (by first | exact c8 | exact k1) (by omega) (by omega) (by first | rfl | exact Md_iter_s hn.1 hv)
      · exact absurd c35 (by decide)
    · refine gz_const (pc := 27) F dX9_pass_27 ?_
      refine gz_goto (pc := 28) (tgt := 32) F dX9_pass_28 (by decide) ?_
      refine gz_callVb (pc := 32) (n := 1) (As := [vI 2]) (rest := []) (bytes := cX9_refused) (maxL := 2) (ret := some .boolean) F (ct_X9_refused_2 l D cI cJ cZ a u hu) gX9_pass_X9_refused rfl ⟨rfl, rfl⟩ (by decide +kernel) ⟨Nat.le_of_ble_eq_true rfl, Nat.le_of_ble_eq_true rfl⟩ rfl [] [] ((List.append_nil _).symm) 9 rfl rfl rfl (Nat.le_of_ble_eq_true rfl) ⟨Nat.zero_le _, Nat.zero_le _⟩ (gz_pV_sh rfl) dX9_pass_32 ?_
      refine gz_kVb (r := 1) (ws2 := MdW cI cZ a (2, Md_now u, Md_aw u, Md_mm u, Md_lo u, Md_mt u, Md_sw u, Md_bu u)) ((List.append_nil _).symm).symm ?_
      refine gz_if_eq (pc := 35) (tgt := 40) F dX9_pass_35 (by decide) (by omega) (fun c35 => ?_) (fun c35 => ?_)
      · exact absurd c35 (by decide)
      · refine gz_const (pc := 38) F dX9_pass_38 ?_
        refine Z _ _ 39 _ dX9_pass_39 rfl ?_
        exact ⟨2, Or.inr ⟨not_not_intro c8, Or.inl ⟨c24, rfl⟩⟩, fun _ => ⟨rfl, rfl⟩, fun h => absurd h (by decide)⟩
  · refine gz_const (pc := 11) F dX9_pass_11 ?_
    refine gz_goto (pc := 12) (tgt := 32) F dX9_pass_12 (by decide) ?_
    refine gz_callVb (pc := 32) (n := 1) (As := [vI 1]) (rest := []) (bytes := cX9_refused) (maxL := 2) (ret := some .boolean) F (ct_X9_refused_1 l D cI cJ cZ a u hu) gX9_pass_X9_refused rfl ⟨rfl, rfl⟩ (by decide +kernel) ⟨Nat.le_of_ble_eq_true rfl, Nat.le_of_ble_eq_true rfl⟩ rfl [] [] ((List.append_nil _).symm) 9 rfl rfl rfl (Nat.le_of_ble_eq_true rfl) ⟨Nat.zero_le _, Nat.zero_le _⟩ (gz_pV_sh rfl) dX9_pass_32 ?_
    refine gz_kVb (r := 1) (ws2 := MdW cI cZ a (1, Md_now u, Md_aw u, Md_mm u, Md_lo u, Md_mt u, Md_sw u, Md_bu u)) ((List.append_nil _).symm).symm ?_
    refine gz_if_eq (pc := 35) (tgt := 40) F dX9_pass_35 (by decide) (by omega) (fun c35 => ?_) (fun c35 => ?_)
    · exact absurd c35 (by decide)
    · refine gz_const (pc := 38) F dX9_pass_38 ?_
      refine Z _ _ 39 _ dX9_pass_39 rfl ?_
      exact ⟨1, Or.inl ⟨c8, rfl⟩, fun _ => ⟨rfl, rfl⟩, fun h => absurd h (by decide)⟩
