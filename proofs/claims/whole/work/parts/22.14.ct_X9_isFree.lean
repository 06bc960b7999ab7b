/-! ===== laid by wip/whole/gen/md2.py ===== -/
abbrev md_isFree (u : MdS) (p0 p1 : Int) : List (Prop × Int) := [(¬ (0 ≤ p0 ∧ p0 ≤ 9), 1), (¬ (0 ≤ p1 ∧ p1 ≤ 399), 2)]
set_option maxHeartbeats 4000000 in
set_option maxRecDepth 100000 in
theorem ct_X9_isFree (l : Launch) (D : va_G) (cI cJ cZ : ClassId) (a : Nat → Nat) (u : MdS) (p0 p1 : Int) (hu : MdI u) (h0 : -2147483648 ≤ p0 ∧ p0 < 2147483648) (h1 : -2147483648 ≤ p1 ∧ p1 < 2147483648)  : gz_M l yX9_isFree wsX9_isFree { frames := 3, cells := 0, slots := 0, locals := 69 } D cI cJ cZ [.ref (a 0), vI p0, vI p1] (MdW cI cZ a u) (gz_pK (md_isFree u p0 p1) (some (vI (bz (¬ (Mt_busy (Md_mt u) (Mt_n (Md_mt u)) p0.toNat p1 1 (-1) ∨ Aw_off (Md_aw u) p0 p1))))) (some (vI 0)) (fun k => MdW cI cZ a (Md_setTh u k)) (MdW cI cZ a (Md_setTh u 0))) := by
  refine gz_ofZ (cc := cX9_isFree) (maxL := 3) (ty := .boolean) (own := RX9) (by decide) rfl rfl (Nat.le_of_ble_eq_true rfl) (lv0 := [(0, .ref (a 0)), (1, vI p0), (2, vI p1)]) rfl ?_
  intro p e s m args below meth c A Q F Z
  obtain ⟨hnw, hAw, hMm, hLo, ⟨hMt, hMa⟩, hSw, hBu⟩ := id hu
  have hMmn := hMm.1
  have hLon := hLo.1
  have hMtn := hMt.1
  have hSwn := hSw.1
  have hBun := hBu.1
  refine gz_aload_n (pc := 0) F dX9_isFree_0 rfl 0 rfl ?_
  refine gz_iload_n (pc := 1) F dX9_isFree_1 rfl 1 rfl ?_
  refine gz_callS (pc := 2) (n := 1) (As := [vI p0]) (rest := [.ref (a 0)]) (bytes := cX9_isPerson) (maxL := 1) (ret := some .boolean) F (ct_X9_isPerson l D cI cJ cZ p0 (by omega)) gX9_isFree_X9_isPerson rfl ⟨rfl, rfl⟩ (by decide +kernel) ⟨Nat.le_of_ble_eq_true rfl, Nat.le_of_ble_eq_true rfl⟩ rfl [] rfl (by decide) rfl (Nat.le_of_ble_eq_true rfl) ⟨Nat.zero_le _, Nat.zero_le _⟩ gz_pI_sh dX9_isFree_2 ?_
  refine gz_kI rfl (fun r2 h2 => ?_)
  subst h2
  refine gz_if_neb (pc := 5) (tgt := 12) F dX9_isFree_5 (by decide) (fun c5 => ?_) (fun c5 => ?_)
  · refine gz_iload_n (pc := 12) F dX9_isFree_12 rfl 2 rfl ?_
    refine gz_const (pc := 13) F dX9_isFree_13 ?_
    refine gz_sipush (pc := 14) F dX9_isFree_14 (by decide) ?_
    refine gz_callS (pc := 17) (n := 3) (As := [vI p1, vI 0, vI 399]) (rest := [.ref (a 0)]) (bytes := cX9_in) (maxL := 3) (ret := some .boolean) F (ct_X9_in l D cI cJ cZ p1 0 399 (by omega) (by omega) (by omega)) gX9_isFree_X9_in rfl ⟨rfl, rfl⟩ (by decide +kernel) ⟨Nat.le_of_ble_eq_true rfl, Nat.le_of_ble_eq_true rfl⟩ rfl [] rfl (by decide) rfl (Nat.le_of_ble_eq_true rfl) ⟨Nat.zero_le _, Nat.zero_le _⟩ gz_pI_sh dX9_isFree_17 ?_
    refine gz_kI rfl (fun r17 h17 => ?_)
    subst h17
    refine gz_if_neb (pc := 20) (tgt := 27) F dX9_isFree_20 (by decide) (fun c20 => ?_) (fun c20 => ?_)
    · refine gz_const (pc := 27) F dX9_isFree_27 ?_
      refine gz_callVb (pc := 28) (n := 1) (As := [vI 0]) (rest := []) (bytes := cX9_refused) (maxL := 2) (ret := some .boolean) F (ct_X9_refused_0 l D cI cJ cZ a u hu) gX9_isFree_X9_refused rfl ⟨rfl, rfl⟩ (by decide +kernel) ⟨Nat.le_of_ble_eq_true rfl, Nat.le_of_ble_eq_true rfl⟩ rfl [] [] ((List.append_nil _).symm) 9 rfl rfl rfl (Nat.le_of_ble_eq_true rfl) ⟨Nat.zero_le _, Nat.zero_le _⟩ (gz_pV_sh rfl) dX9_isFree_28 ?_
      refine gz_kVb (r := 0) (ws2 := MdW cI cZ a (0, Md_now u, Md_aw u, Md_mm u, Md_lo u, Md_mt u, Md_sw u, Md_bu u)) ((List.append_nil _).symm).symm ?_
      refine gz_if_eq (pc := 31) (tgt := 36) F dX9_isFree_31 (by decide) (by omega) (fun c31 => ?_) (fun c31 => ?_)
      · refine gz_aload_n (pc := 36) F dX9_isFree_36 rfl 0 rfl ?_
        refine gz_iload_n (pc := 37) F dX9_isFree_37 rfl 1 rfl ?_
        refine gz_iload_n (pc := 38) F dX9_isFree_38 rfl 2 rfl ?_
        refine gz_const (pc := 39) F dX9_isFree_39 ?_
        refine gz_callVb (pc := 40) (n := 3) (As := [vI p0, vI p1, vI (-1)]) (rest := []) (bytes := cX9_hasMeeting) (maxL := 6) (ret := some .boolean) F (ct_X9_hasMeeting l D cI cJ cZ a (0, Md_now u, Md_aw u, Md_mm u, Md_lo u, Md_mt u, Md_sw u, Md_bu u) p0 p1 (-1) hu (by omega) (by omega) (by omega)) gX9_isFree_X9_hasMeeting rfl ⟨rfl, rfl⟩ (by decide +kernel) ⟨Nat.le_of_ble_eq_true rfl, Nat.le_of_ble_eq_true rfl⟩ rfl [] [] ((List.append_nil _).symm) 9 rfl rfl rfl (Nat.le_of_ble_eq_true rfl) ⟨Nat.zero_le _, Nat.zero_le _⟩ gz_pI_sh dX9_isFree_40 ?_
        refine gz_kIb ((List.append_nil _).symm).symm (fun r40 h40 => ?_)
        subst h40
        refine gz_if_neb (pc := 43) (tgt := 59) F dX9_isFree_43 (by decide) (fun c43 => ?_) (fun c43 => ?_)
        · refine gz_const (pc := 59) F dX9_isFree_59 ?_
          refine Z _ _ 60 _ dX9_isFree_60 rfl ?_
          exact ⟨0, Or.inr ⟨not_not_intro c5, Or.inr ⟨not_not_intro c20, rfl⟩⟩, fun h => absurd rfl h, fun _ => ⟨(congrArg (fun x => some (vI x)) (bzF (by first | exact (fun h => h (Or.inr c52)) | exact (fun h => h (Or.inl c43))))), rfl⟩⟩
        · refine gz_aload_n (pc := 46) F dX9_isFree_46 rfl 0 rfl ?_
          refine gz_iload_n (pc := 47) F dX9_isFree_47 rfl 1 rfl ?_
          refine gz_iload_n (pc := 48) F dX9_isFree_48 rfl 2 rfl ?_
          refine gz_callVb (pc := 49) (n := 2) (As := [vI p0, vI p1]) (rest := []) (bytes := cX9_isOnLeave) (maxL := 3) (ret := some .boolean) F (ct_X9_isOnLeave l D cI cJ cZ a (0, Md_now u, Md_aw u, Md_mm u, Md_lo u, Md_mt u, Md_sw u, Md_bu u) p0 p1 hu (by omega) (by omega)) gX9_isFree_X9_isOnLeave rfl ⟨rfl, rfl⟩ (by decide +kernel) ⟨Nat.le_of_ble_eq_true rfl, Nat.le_of_ble_eq_true rfl⟩ rfl [] [] ((List.append_nil _).symm) 9 rfl rfl rfl (Nat.le_of_ble_eq_true rfl) ⟨Nat.zero_le _, Nat.zero_le _⟩ gz_pI_sh dX9_isFree_49 ?_
          refine gz_kIb ((List.append_nil _).symm).symm (fun r49 h49 => ?_)
          subst h49
          refine gz_if_neb (pc := 52) (tgt := 59) F dX9_isFree_52 (by decide) (fun c52 => ?_) (fun c52 => ?_)
          · refine gz_const (pc := 59) F dX9_isFree_59 ?_
            refine Z _ _ 60 _ dX9_isFree_60 rfl ?_
            exact ⟨0, Or.inr ⟨not_not_intro c5, Or.inr ⟨not_not_intro c20, rfl⟩⟩, fun h => absurd rfl h, fun _ => ⟨(congrArg (fun x => some (vI x)) (bzF (by first | exact (fun h => h (Or.inr c52)) | exact (fun h => h (Or.inl c43))))), rfl⟩⟩
          · refine gz_const (pc := 55) F dX9_isFree_55 ?_
            refine gz_goto (pc := 56) (tgt := 60) F dX9_isFree_56 (by decide) ?_
            refine Z _ _ 60 _ dX9_isFree_60 rfl ?_
            exact ⟨0, Or.inr ⟨not_not_intro c5, Or.inr ⟨not_not_intro c20, rfl⟩⟩, fun h => absurd rfl h, fun _ => ⟨(congrArg (fun x => some (vI x)) (bzT (fun h => h.elim c43 c52))), rfl⟩⟩
      · exact absurd c31 (by decide)
    · refine gz_const (pc := 23) F dX9_isFree_23 ?_
      refine gz_goto (pc := 24) (tgt := 28) F dX9_isFree_24 (by decide) ?_
      refine gz_callVb (pc := 28) (n := 1) (As := [vI 2]) (rest := []) (bytes := cX9_refused) (maxL := 2) (ret := some .boolean) F (ct_X9_refused_2 l D cI cJ cZ a u hu) gX9_isFree_X9_refused rfl ⟨rfl, rfl⟩ (by decide +kernel) ⟨Nat.le_of_ble_eq_true rfl, Nat.le_of_ble_eq_true rfl⟩ rfl [] [] ((List.append_nil _).symm) 9 rfl rfl rfl (Nat.le_of_ble_eq_true rfl) ⟨Nat.zero_le _, Nat.zero_le _⟩ (gz_pV_sh rfl) dX9_isFree_28 ?_
      refine gz_kVb (r := 1) (ws2 := MdW cI cZ a (2, Md_now u, Md_aw u, Md_mm u, Md_lo u, Md_mt u, Md_sw u, Md_bu u)) ((List.append_nil _).symm).symm ?_
      refine gz_if_eq (pc := 31) (tgt := 36) F dX9_isFree_31 (by decide) (by omega) (fun c31 => ?_) (fun c31 => ?_)
      · exact absurd c31 (by decide)
      · refine gz_const (pc := 34) F dX9_isFree_34 ?_
        refine Z _ _ 35 _ dX9_isFree_35 rfl ?_
        exact ⟨2, Or.inr ⟨not_not_intro c5, Or.inl ⟨c20, rfl⟩⟩, fun _ => ⟨rfl, rfl⟩, fun h => absurd h (by decide)⟩
  · refine gz_const (pc := 8) F dX9_isFree_8 ?_
    refine gz_goto (pc := 9) (tgt := 28) F dX9_isFree_9 (by decide) ?_
    refine gz_callVb (pc := 28) (n := 1) (As := [vI 1]) (rest := []) (bytes := cX9_refused) (maxL := 2) (ret := some .boolean) F (ct_X9_refused_1 l D cI cJ cZ a u hu) gX9_isFree_X9_refused rfl ⟨rfl, rfl⟩ (by decide +kernel) ⟨Nat.le_of_ble_eq_true rfl, Nat.le_of_ble_eq_true rfl⟩ rfl [] [] ((List.append_nil _).symm) 9 rfl rfl rfl (Nat.le_of_ble_eq_true rfl) ⟨Nat.zero_le _, Nat.zero_le _⟩ (gz_pV_sh rfl) dX9_isFree_28 ?_
    refine gz_kVb (r := 1) (ws2 := MdW cI cZ a (1, Md_now u, Md_aw u, Md_mm u, Md_lo u, Md_mt u, Md_sw u, Md_bu u)) ((List.append_nil _).symm).symm ?_
    refine gz_if_eq (pc := 31) (tgt := 36) F dX9_isFree_31 (by decide) (by omega) (fun c31 => ?_) (fun c31 => ?_)
    · exact absurd c31 (by decide)
    · refine gz_const (pc := 34) F dX9_isFree_34 ?_
      refine Z _ _ 35 _ dX9_isFree_35 rfl ?_
      exact ⟨1, Or.inl ⟨c5, rfl⟩, fun _ => ⟨rfl, rfl⟩, fun h => absurd h (by decide)⟩
