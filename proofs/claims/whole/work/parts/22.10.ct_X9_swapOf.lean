/-! ===== laid by wip/whole/gen/md2.py ===== -/
abbrev md_swapOf (u : MdS) (p0 : Int) : List (Prop × Int) := [(¬ (0 ≤ p0 ∧ p0 ≤ Sw_n (Md_sw u) - 1), 1)]
theorem hn_X9_swapOf_X9 : ∀ w ∈ u_ws RX9 TX9 35, w ∈ wsX9_swapOf := by decide +kernel
theorem fl_X9_swapOf_56 : Cond.fieldLink RX9 56 (TX9 21).1 (TX9 21).2.1 (TX9 21).2.2.1 ∈ wsX9_swapOf := by decide +kernel
set_option maxHeartbeats 4000000 in
set_option maxRecDepth 100000 in
theorem ct_X9_swapOf (l : Launch) (D : va_G) (cI cJ cZ : ClassId) (a : Nat → Nat) (u : MdS) (p0 : Int) (hu : MdI u) (h0 : -2147483648 ≤ p0 ∧ p0 < 2147483648)  : gz_M l yX9_swapOf wsX9_swapOf { frames := 2, cells := 0, slots := 0, locals := 43 } D cI cJ cZ [.ref (a 0), vI p0] (MdW cI cZ a u) (gz_pK (md_swapOf u p0) (some (vI (Sw_st (Md_sw u) p0))) (some (vI 0)) (fun k => MdW cI cZ a (Md_setTh u k)) (MdW cI cZ a (Md_setTh u 0))) := by
  refine gz_ofZ (cc := cX9_swapOf) (maxL := 2) (ty := .int) (own := RX9) (by decide) rfl rfl (Nat.le_of_ble_eq_true rfl) (lv0 := [(0, .ref (a 0)), (1, vI p0)]) rfl ?_
  intro p e s m args below meth c A Q F Z
  obtain ⟨hnw, hAw, hMm, hLo, ⟨hMt, hMa⟩, hSw, hBu⟩ := id hu
  have hMmn := hMm.1
  have hLon := hLo.1
  have hMtn := hMt.1
  have hSwn := hSw.1
  have hBun := hBu.1
  refine gz_aload_n (pc := 0) F dX9_swapOf_0 rfl 0 rfl ?_
  refine gz_aload_n (pc := 1) F dX9_swapOf_1 rfl 0 rfl ?_
  refine gz_iload_n (pc := 2) F dX9_swapOf_2 rfl 1 rfl ?_
  refine gz_callVb (pc := 3) (n := 1) (As := [vI p0]) (rest := [.ref (a 0)]) (bytes := cX9_isSwap) (maxL := 2) (ret := some .boolean) F (ct_X9_isSwap l D cI cJ cZ a u p0 hu (by omega)) gX9_swapOf_X9_isSwap rfl ⟨rfl, rfl⟩ (by decide +kernel) ⟨Nat.le_of_ble_eq_true rfl, Nat.le_of_ble_eq_true rfl⟩ rfl [] [] ((List.append_nil _).symm) 9 rfl rfl rfl (Nat.le_of_ble_eq_true rfl) ⟨Nat.zero_le _, Nat.zero_le _⟩ gz_pI_sh dX9_swapOf_3 ?_
  refine gz_kIb ((List.append_nil _).symm).symm (fun r3 h3 => ?_)
  subst h3
  refine gz_if_eqb (pc := 6) (tgt := 13) F dX9_swapOf_6 (by decide) (fun c6 => ?_) (fun c6 => ?_)
  · refine gz_const (pc := 13) F dX9_swapOf_13 ?_
    refine gz_callVb (pc := 14) (n := 1) (As := [vI 1]) (rest := []) (bytes := cX9_refused) (maxL := 2) (ret := some .boolean) F (ct_X9_refused_1 l D cI cJ cZ a u hu) gX9_swapOf_X9_refused rfl ⟨rfl, rfl⟩ (by decide +kernel) ⟨Nat.le_of_ble_eq_true rfl, Nat.le_of_ble_eq_true rfl⟩ rfl [] [] ((List.append_nil _).symm) 9 rfl rfl rfl (Nat.le_of_ble_eq_true rfl) ⟨Nat.zero_le _, Nat.zero_le _⟩ (gz_pV_sh rfl) dX9_swapOf_14 ?_
    refine gz_kVb (r := 1) (ws2 := MdW cI cZ a (1, Md_now u, Md_aw u, Md_mm u, Md_lo u, Md_mt u, Md_sw u, Md_bu u)) ((List.append_nil _).symm).symm ?_
    refine gz_if_eq (pc := 17) (tgt := 24) F dX9_swapOf_17 (by decide) (by omega) (fun c17 => ?_) (fun c17 => ?_)
    · exact absurd c17 (by decide)
    · refine gz_const (pc := 20) F dX9_swapOf_20 ?_
      refine gz_goto (pc := 21) (tgt := 30) F dX9_swapOf_21 (by decide) ?_
      refine Z _ _ 30 _ dX9_swapOf_30 rfl ?_
      exact ⟨1, Or.inl ⟨c6, rfl⟩, fun _ => ⟨rfl, rfl⟩, fun h => absurd h (by decide)⟩
  · refine gz_const (pc := 9) F dX9_swapOf_9 ?_
    refine gz_goto (pc := 10) (tgt := 14) F dX9_swapOf_10 (by decide) ?_
    refine gz_callVb (pc := 14) (n := 1) (As := [vI 0]) (rest := []) (bytes := cX9_refused) (maxL := 2) (ret := some .boolean) F (ct_X9_refused_0 l D cI cJ cZ a u hu) gX9_swapOf_X9_refused rfl ⟨rfl, rfl⟩ (by decide +kernel) ⟨Nat.le_of_ble_eq_true rfl, Nat.le_of_ble_eq_true rfl⟩ rfl [] [] ((List.append_nil _).symm) 9 rfl rfl rfl (Nat.le_of_ble_eq_true rfl) ⟨Nat.zero_le _, Nat.zero_le _⟩ (gz_pV_sh rfl) dX9_swapOf_14 ?_
    refine gz_kVb (r := 0) (ws2 := MdW cI cZ a (0, Md_now u, Md_aw u, Md_mm u, Md_lo u, Md_mt u, Md_sw u, Md_bu u)) ((List.append_nil _).symm).symm ?_
    refine gz_if_eq (pc := 17) (tgt := 24) F dX9_swapOf_17 (by decide) (by omega) (fun c17 => ?_) (fun c17 => ?_)
    · refine gz_aload_n (pc := 24) F dX9_swapOf_24 rfl 0 rfl ?_
      refine gz_get (pc := 25) (v := .ref (a 16)) F hn_X9_swapOf_X9 0 9 rfl rfl 21 (by decide) fl_X9_swapOf_56 rfl dX9_swapOf_25 ?_
      refine gz_iload_n (pc := 28) F dX9_swapOf_28 rfl 1 rfl ?_
      refine gz_iald (pc := 29) (f := Sw_st (Md_sw u)) F 16 rfl (by omega) (by decide) dX9_swapOf_29 ?_
      have b29 := (hSw.2 p0).2.2.2
      refine Z _ _ 30 _ dX9_swapOf_30 rfl ?_
      exact ⟨0, Or.inr ⟨not_not_intro c6, rfl⟩, fun h => absurd rfl h, fun _ => ⟨rfl, rfl⟩⟩
    · exact absurd c17 (by decide)
