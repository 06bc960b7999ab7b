/-! ===== laid by wip/whole/gen/md2.py ===== -/
abbrev md_has (u : MdS) (p0 p1 : Int) : List (Prop × Int) := [(¬ (0 ≤ p0 ∧ p0 ≤ Mm_n (Md_mm u) - 1), 1), (¬ (0 ≤ p1 ∧ p1 ≤ 399), 2)]
set_option maxHeartbeats 4000000 in
set_option maxRecDepth 100000 in
theorem ct_X9_has (l : Launch) (D : va_G) (cI cJ cZ : ClassId) (a : Nat → Nat) (u : MdS) (p0 p1 : Int) (hu : MdI u) (h0 : -2147483648 ≤ p0 ∧ p0 < 2147483648) (h1 : -2147483648 ≤ p1 ∧ p1 < 2147483648)  : gz_M l yX9_has wsX9_has { frames := 2, cells := 0, slots := 0, locals := 46 } D cI cJ cZ [.ref (a 0), vI p0, vI p1] (MdW cI cZ a u) (gz_pK (md_has u p0 p1) (some (vI (Md_has u p0 p1))) (some (vI 0)) (fun k => MdW cI cZ a (Md_setTh u k)) (MdW cI cZ a (Md_setTh u 0))) := by
  refine gz_ofZ (cc := cX9_has) (maxL := 3) (ty := .int) (own := RX9) (by decide) rfl rfl (Nat.le_of_ble_eq_true rfl) (lv0 := [(0, .ref (a 0)), (1, vI p0), (2, vI p1)]) rfl ?_
  intro p e s m args below meth c A Q F Z
  obtain ⟨hnw, hAw, hMm, hLo, ⟨hMt, hMa⟩, hSw, hBu⟩ := id hu
  have hMmn := hMm.1
  have hLon := hLo.1
  have hMtn := hMt.1
  have hSwn := hSw.1
  have hBun := hBu.1
  refine gz_aload_n (pc := 0) F dX9_has_0 rfl 0 rfl ?_
  refine gz_aload_n (pc := 1) F dX9_has_1 rfl 0 rfl ?_
  refine gz_iload_n (pc := 2) F dX9_has_2 rfl 1 rfl ?_
  refine gz_callVb (pc := 3) (n := 1) (As := [vI p0]) (rest := [.ref (a 0)]) (bytes := cX9_isMachine) (maxL := 2) (ret := some .boolean) F (ct_X9_isMachine l D cI cJ cZ a u p0 hu (by omega)) gX9_has_X9_isMachine rfl ⟨rfl, rfl⟩ (by decide +kernel) ⟨Nat.le_of_ble_eq_true rfl, Nat.le_of_ble_eq_true rfl⟩ rfl [] [] ((List.append_nil _).symm) 9 rfl rfl rfl (Nat.le_of_ble_eq_true rfl) ⟨Nat.zero_le _, Nat.zero_le _⟩ gz_pI_sh dX9_has_3 ?_
  refine gz_kIb ((List.append_nil _).symm).symm (fun r3 h3 => ?_)
  subst h3
  refine gz_if_neb (pc := 6) (tgt := 13) F dX9_has_6 (by decide) (fun c6 => ?_) (fun c6 => ?_)
  · refine gz_iload_n (pc := 13) F dX9_has_13 rfl 2 rfl ?_
    refine gz_const (pc := 14) F dX9_has_14 ?_
    refine gz_sipush (pc := 15) F dX9_has_15 (by decide) ?_
    refine gz_callS (pc := 18) (n := 3) (As := [vI p1, vI 0, vI 399]) (rest := [.ref (a 0)]) (bytes := cX9_in) (maxL := 3) (ret := some .boolean) F (ct_X9_in l D cI cJ cZ p1 0 399 (by omega) (by omega) (by omega)) gX9_has_X9_in rfl ⟨rfl, rfl⟩ (by decide +kernel) ⟨Nat.le_of_ble_eq_true rfl, Nat.le_of_ble_eq_true rfl⟩ rfl [] rfl (by decide) rfl (Nat.le_of_ble_eq_true rfl) ⟨Nat.zero_le _, Nat.zero_le _⟩ gz_pI_sh dX9_has_18 ?_
    refine gz_kI rfl (fun r18 h18 => ?_)
    subst h18
    refine gz_if_neb (pc := 21) (tgt := 28) F dX9_has_21 (by decide) (fun c21 => ?_) (fun c21 => ?_)
    · refine gz_const (pc := 28) F dX9_has_28 ?_
      refine gz_callVb (pc := 29) (n := 1) (As := [vI 0]) (rest := []) (bytes := cX9_refused) (maxL := 2) (ret := some .boolean) F (ct_X9_refused_0 l D cI cJ cZ a u hu) gX9_has_X9_refused rfl ⟨rfl, rfl⟩ (by decide +kernel) ⟨Nat.le_of_ble_eq_true rfl, Nat.le_of_ble_eq_true rfl⟩ rfl [] [] ((List.append_nil _).symm) 9 rfl rfl rfl (Nat.le_of_ble_eq_true rfl) ⟨Nat.zero_le _, Nat.zero_le _⟩ (gz_pV_sh rfl) dX9_has_29 ?_
      refine gz_kVb (r := 0) (ws2 := MdW cI cZ a (0, Md_now u, Md_aw u, Md_mm u, Md_lo u, Md_mt u, Md_sw u, Md_bu u)) ((List.append_nil _).symm).symm ?_
      refine gz_if_eq (pc := 32) (tgt := 39) F dX9_has_32 (by decide) (by omega) (fun c32 => ?_) (fun c32 => ?_)
      · refine gz_aload_n (pc := 39) F dX9_has_39 rfl 0 rfl ?_
        refine gz_iload_n (pc := 40) F dX9_has_40 rfl 1 rfl ?_
        refine gz_iload_n (pc := 41) F dX9_has_41 rfl 2 rfl ?_
        refine gz_callVb (pc := 42) (n := 2) (As := [vI p0, vI p1]) (rest := []) (bytes := cX9_hasIn) (maxL := 5) (ret := some .int) F (ct_X9_hasIn l D cI cJ cZ a (0, Md_now u, Md_aw u, Md_mm u, Md_lo u, Md_mt u, Md_sw u, Md_bu u) p0 p1 hu (by omega) (by omega)) gX9_has_X9_hasIn rfl ⟨rfl, rfl⟩ (by decide +kernel) ⟨Nat.le_of_ble_eq_true rfl, Nat.le_of_ble_eq_true rfl⟩ rfl [] [] ((List.append_nil _).symm) 9 rfl rfl rfl (Nat.le_of_ble_eq_true rfl) ⟨Nat.zero_le _, Nat.zero_le _⟩ gz_pI_sh dX9_has_42 ?_
        refine gz_kIb ((List.append_nil _).symm).symm (fun r42 h42 => ?_)
        subst h42
        have b42 := Md_has_r hu p0 p1
        refine Z _ _ 45 _ dX9_has_45 rfl ?_
        exact ⟨0, Or.inr ⟨not_not_intro c6, Or.inr ⟨not_not_intro c21, rfl⟩⟩, fun h => absurd rfl h, fun _ => ⟨rfl, rfl⟩⟩
      · exact absurd c32 (by decide)
    · refine gz_const (pc := 24) F dX9_has_24 ?_
      refine gz_goto (pc := 25) (tgt := 29) F dX9_has_25 (by decide) ?_
      refine gz_callVb (pc := 29) (n := 1) (As := [vI 2]) (rest := []) (bytes := cX9_refused) (maxL := 2) (ret := some .boolean) F (ct_X9_refused_2 l D cI cJ cZ a u hu) gX9_has_X9_refused rfl ⟨rfl, rfl⟩ (by decide +kernel) ⟨Nat.le_of_ble_eq_true rfl, Nat.le_of_ble_eq_true rfl⟩ rfl [] [] ((List.append_nil _).symm) 9 rfl rfl rfl (Nat.le_of_ble_eq_true rfl) ⟨Nat.zero_le _, Nat.zero_le _⟩ (gz_pV_sh rfl) dX9_has_29 ?_
      refine gz_kVb (r := 1) (ws2 := MdW cI cZ a (2, Md_now u, Md_aw u, Md_mm u, Md_lo u, Md_mt u, Md_sw u, Md_bu u)) ((List.append_nil _).symm).symm ?_
      refine gz_if_eq (pc := 32) (tgt := 39) F dX9_has_32 (by decide) (by omega) (fun c32 => ?_) (fun c32 => ?_)
      · exact absurd c32 (by decide)
      · refine gz_const (pc := 35) F dX9_has_35 ?_
        refine gz_goto (pc := 36) (tgt := 45) F dX9_has_36 (by decide) ?_
        refine Z _ _ 45 _ dX9_has_45 rfl ?_
        exact ⟨2, Or.inr ⟨not_not_intro c6, Or.inl ⟨c21, rfl⟩⟩, fun _ => ⟨rfl, rfl⟩, fun h => absurd h (by decide)⟩
  · refine gz_const (pc := 9) F dX9_has_9 ?_
    refine gz_goto (pc := 10) (tgt := 29) F dX9_has_10 (by decide) ?_
    refine gz_callVb (pc := 29) (n := 1) (As := [vI 1]) (rest := []) (bytes := cX9_refused) (maxL := 2) (ret := some .boolean) F (ct_X9_refused_1 l D cI cJ cZ a u hu) gX9_has_X9_refused rfl ⟨rfl, rfl⟩ (by decide +kernel) ⟨Nat.le_of_ble_eq_true rfl, Nat.le_of_ble_eq_true rfl⟩ rfl [] [] ((List.append_nil _).symm) 9 rfl rfl rfl (Nat.le_of_ble_eq_true rfl) ⟨Nat.zero_le _, Nat.zero_le _⟩ (gz_pV_sh rfl) dX9_has_29 ?_
    refine gz_kVb (r := 1) (ws2 := MdW cI cZ a (1, Md_now u, Md_aw u, Md_mm u, Md_lo u, Md_mt u, Md_sw u, Md_bu u)) ((List.append_nil _).symm).symm ?_
    refine gz_if_eq (pc := 32) (tgt := 39) F dX9_has_32 (by decide) (by omega) (fun c32 => ?_) (fun c32 => ?_)
    · exact absurd c32 (by decide)
    · refine gz_const (pc := 35) F dX9_has_35 ?_
      refine gz_goto (pc := 36) (tgt := 45) F dX9_has_36 (by decide) ?_
      refine Z _ _ 45 _ dX9_has_45 rfl ?_
      exact ⟨1, Or.inl ⟨c6, rfl⟩, fun _ => ⟨rfl, rfl⟩, fun h => absurd h (by decide)⟩
