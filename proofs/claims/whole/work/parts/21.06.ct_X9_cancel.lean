/-! ===== laid by wip/whole/gen/md.py ===== -/
abbrev md_cancel (u : MdS) (p0 : Int) : List (Prop × Int) := [(¬ (0 ≤ p0 ∧ p0 ≤ Mt_n (Md_mt u) - 1), 1), (¬ Md_ahd u p0, 2)]
theorem hn_X9_cancel_X9 : ∀ w ∈ u_ws RX9 TX9 35, w ∈ wsX9_cancel := by decide +kernel
theorem fl_X9_cancel_38 : Cond.fieldLink RX9 38 (TX9 14).1 (TX9 14).2.1 (TX9 14).2.2.1 ∈ wsX9_cancel := by decide +kernel
set_option maxHeartbeats 4000000 in
set_option maxRecDepth 100000 in
theorem ct_X9_cancel (l : Launch) (D : va_G) (cI cJ cZ : ClassId) (a : Nat → Nat) (u : MdS) (p0 : Int) (hu : MdI u) (h0 : -2147483648 ≤ p0 ∧ p0 < 2147483648)  : gz_M l yX9_cancel wsX9_cancel { frames := 2, cells := 0, slots := 0, locals := 43 } D cI cJ cZ [.ref (a 0), vI p0] (MdW cI cZ a u) (gz_pK (md_cancel u p0) none none (fun k => MdW cI cZ a (Md_setTh u k)) (MdW cI cZ a ((0, Md_now u, Md_aw u, Md_mm u, Md_lo u, (Mt_n (Md_mt u), Mt_pe (Md_mt u), Mt_sl (Md_mt u), Mt_ln (Md_mt u), Mt_ma (Md_mt u), zU (Mt_st (Md_mt u)) p0 1, Mt_mv (Md_mt u)), Md_sw u, Md_bu u)))) := by
  refine gz_ofV (cc := cX9_cancel) (maxL := 3) (own := RX9) (by decide) rfl rfl (Nat.le_of_ble_eq_true rfl) (lv0 := [(0, .ref (a 0)), (1, vI p0)]) rfl ?_
  intro p e s m args below meth c A Q F Z
  obtain ⟨hnw, hAw, hMm, hLo, ⟨hMt, hMa⟩, hSw, hBu⟩ := id hu
  have hMmn := hMm.1
  have hLon := hLo.1
  have hMtn := hMt.1
  have hSwn := hSw.1
  have hBun := hBu.1
  refine gz_aload_n (pc := 0) F dX9_cancel_0 rfl 0 rfl ?_
  refine gz_iload_n (pc := 1) F dX9_cancel_1 rfl 1 rfl ?_
  refine gz_callVb (pc := 2) (n := 1) (As := [vI p0]) (rest := []) (bytes := cX9_isMeeting) (maxL := 2) (ret := some .boolean) F (ct_X9_isMeeting l D cI cJ cZ a u p0 hu (by omega)) gX9_cancel_X9_isMeeting rfl ⟨rfl, rfl⟩ (by decide +kernel) ⟨Nat.le_of_ble_eq_true rfl, Nat.le_of_ble_eq_true rfl⟩ rfl [] [] ((List.append_nil _).symm) 9 rfl rfl rfl (Nat.le_of_ble_eq_true rfl) ⟨Nat.zero_le _, Nat.zero_le _⟩ gz_pI_sh dX9_cancel_2 ?_
  refine gz_kIb ((List.append_nil _).symm).symm (fun r2 h2 => ?_)
  subst h2
  refine gz_istore_n (pc := 5) (lv2 := [(2, vI (bz (0 ≤ p0 ∧ p0 ≤ Mt_n (Md_mt u) - 1))), (0, .ref (a 0)), (1, vI p0)]) F dX9_cancel_5 rfl (by decide) rfl ?_
  refine gz_aload_n (pc := 6) F dX9_cancel_6 rfl 1 rfl ?_
  refine gz_iload_n (pc := 7) F dX9_cancel_7 rfl 0 rfl ?_
  refine gz_if_neb (pc := 8) (tgt := 15) F dX9_cancel_8 (by decide) (fun c8 => ?_) (fun c8 => ?_)
  · refine gz_aload_n (pc := 15) F dX9_cancel_15 rfl 1 rfl ?_
    refine gz_iload_n (pc := 16) F dX9_cancel_16 rfl 2 rfl ?_
    refine gz_callVb (pc := 17) (n := 1) (As := [vI p0]) (rest := [.ref (a 0)]) (bytes := cX9_isAhead) (maxL := 2) (ret := some .boolean) F (ct_X9_isAhead l D cI cJ cZ a u p0 hu (by omega)) gX9_cancel_X9_isAhead rfl ⟨rfl, rfl⟩ (by decide +kernel) ⟨Nat.le_of_ble_eq_true rfl, Nat.le_of_ble_eq_true rfl⟩ rfl [] [] ((List.append_nil _).symm) 9 rfl rfl rfl (Nat.le_of_ble_eq_true rfl) ⟨Nat.zero_le _, Nat.zero_le _⟩ gz_pI_sh dX9_cancel_17 ?_
    refine gz_kIb ((List.append_nil _).symm).symm (fun r17 h17 => ?_)
    subst h17
    refine gz_if_neb (pc := 20) (tgt := 27) F dX9_cancel_20 (by decide) (fun c20 => ?_) (fun c20 => ?_)
    · refine gz_const (pc := 27) F dX9_cancel_27 ?_
      refine gz_callVb (pc := 28) (n := 1) (As := [vI 0]) (rest := []) (bytes := cX9_refused) (maxL := 2) (ret := some .boolean) F (ct_X9_refused_0 l D cI cJ cZ a u hu) gX9_cancel_X9_refused rfl ⟨rfl, rfl⟩ (by decide +kernel) ⟨Nat.le_of_ble_eq_true rfl, Nat.le_of_ble_eq_true rfl⟩ rfl [] [] ((List.append_nil _).symm) 9 rfl rfl rfl (Nat.le_of_ble_eq_true rfl) ⟨Nat.zero_le _, Nat.zero_le _⟩ (gz_pV_sh rfl) dX9_cancel_28 ?_
      refine gz_kVb (r := 0) (ws2 := MdW cI cZ a (0, Md_now u, Md_aw u, Md_mm u, Md_lo u, Md_mt u, Md_sw u, Md_bu u)) ((List.append_nil _).symm).symm ?_
      refine gz_if_eq (pc := 31) (tgt := 35) F dX9_cancel_31 (by decide) (by omega) (fun c31 => ?_) (fun c31 => ?_)
      · refine gz_aload_n (pc := 35) F dX9_cancel_35 rfl 1 rfl ?_
        refine gz_get (pc := 36) (v := .ref (a 10)) F hn_X9_cancel_X9 0 9 rfl rfl 14 (by decide) fl_X9_cancel_38 rfl dX9_cancel_36 ?_
        refine gz_iload_n (pc := 39) F dX9_cancel_39 rfl 2 rfl ?_
        refine gz_const (pc := 40) F dX9_cancel_40 ?_
        refine gz_iast (pc := 41) (f := Mt_st (Md_mt u)) (ws2 := MdW cI cZ a ((0, Md_now u, Md_aw u, Md_mm u, Md_lo u, (Mt_n (Md_mt u), Mt_pe (Md_mt u), Mt_sl (Md_mt u), Mt_ln (Md_mt u), Mt_ma (Md_mt u), zU (Mt_st (Md_mt u)) p0 1, Mt_mv (Md_mt u)), Md_sw u, Md_bu u))) F 10 rfl (by omega) (by decide) rfl dX9_cancel_41 ?_
        refine Z _ _ 42 dX9_cancel_42 ?_
        exact ⟨0, Or.inr ⟨not_not_intro c8, Or.inr ⟨not_not_intro c20, rfl⟩⟩, fun h => absurd rfl h, fun _ => ⟨rfl, rfl⟩⟩
      · exact absurd c31 (by decide)
    · refine gz_const (pc := 23) F dX9_cancel_23 ?_
      refine gz_goto (pc := 24) (tgt := 28) F dX9_cancel_24 (by decide) ?_
      refine gz_callVb (pc := 28) (n := 1) (As := [vI 2]) (rest := []) (bytes := cX9_refused) (maxL := 2) (ret := some .boolean) F (ct_X9_refused_2 l D cI cJ cZ a u hu) gX9_cancel_X9_refused rfl ⟨rfl, rfl⟩ (by decide +kernel) ⟨Nat.le_of_ble_eq_true rfl, Nat.le_of_ble_eq_true rfl⟩ rfl [] [] ((List.append_nil _).symm) 9 rfl rfl rfl (Nat.le_of_ble_eq_true rfl) ⟨Nat.zero_le _, Nat.zero_le _⟩ (gz_pV_sh rfl) dX9_cancel_28 ?_
      refine gz_kVb (r := 1) (ws2 := MdW cI cZ a (2, Md_now u, Md_aw u, Md_mm u, Md_lo u, Md_mt u, Md_sw u, Md_bu u)) ((List.append_nil _).symm).symm ?_
      refine gz_if_eq (pc := 31) (tgt := 35) F dX9_cancel_31 (by decide) (by omega) (fun c31 => ?_) (fun c31 => ?_)
      · exact absurd c31 (by decide)
      · refine Z _ _ 34 dX9_cancel_34 ?_
        exact ⟨2, Or.inr ⟨not_not_intro c8, Or.inl ⟨c20, rfl⟩⟩, fun _ => ⟨rfl, rfl⟩, fun h => absurd h (by decide)⟩
  · refine gz_const (pc := 11) F dX9_cancel_11 ?_
    refine gz_goto (pc := 12) (tgt := 28) F dX9_cancel_12 (by decide) ?_
    refine gz_callVb (pc := 28) (n := 1) (As := [vI 1]) (rest := []) (bytes := cX9_refused) (maxL := 2) (ret := some .boolean) F (ct_X9_refused_1 l D cI cJ cZ a u hu) gX9_cancel_X9_refused rfl ⟨rfl, rfl⟩ (by decide +kernel) ⟨Nat.le_of_ble_eq_true rfl, Nat.le_of_ble_eq_true rfl⟩ rfl [] [] ((List.append_nil _).symm) 9 rfl rfl rfl (Nat.le_of_ble_eq_true rfl) ⟨Nat.zero_le _, Nat.zero_le _⟩ (gz_pV_sh rfl) dX9_cancel_28 ?_
    refine gz_kVb (r := 1) (ws2 := MdW cI cZ a (1, Md_now u, Md_aw u, Md_mm u, Md_lo u, Md_mt u, Md_sw u, Md_bu u)) ((List.append_nil _).symm).symm ?_
    refine gz_if_eq (pc := 31) (tgt := 35) F dX9_cancel_31 (by decide) (by omega) (fun c31 => ?_) (fun c31 => ?_)
    · exact absurd c31 (by decide)
    · refine Z _ _ 34 dX9_cancel_34 ?_
      exact ⟨1, Or.inl ⟨c8, rfl⟩, fun _ => ⟨rfl, rfl⟩, fun h => absurd h (by decide)⟩
