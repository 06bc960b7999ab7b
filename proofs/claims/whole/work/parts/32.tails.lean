/-! ===== the ends of the law's cases, laid by wip/whole/gen/law.py ===== -/
abbrev lvS (bs a0 b0 o : Nat) (i : Int) : List (Nat × Value) := [(0, .ref bs), (1, .ref a0), (2, .ref b0), (3, .ref o), (4, vI i)]
theorem bz_or (P : Prop) : bz P = 0 ∨ bz P = 1 := by
  rcases bz_01 P with ⟨-, h⟩ | ⟨-, h⟩
  · exact Or.inr h
  · exact Or.inl h
section GZT2
variable {p : Program} {l : Launch} {e : Env} {s : State} {m : MethodId} {args : Array Value} {below : List Frame} {meth : Method} {c : Code} {D : va_G} {A : Nat → Prop} {Q : State → Prop} {cells slots : Nat}
variable {cI cJ cZ : ClassId}
set_option maxHeartbeats 4000000 in
set_option maxRecDepth 100000 in
theorem gz_tailI (F : gF p s m args c cL_law 7 RL wsL_law D cI cJ cZ A) {bs : Nat} {a b : Nat → Nat} {o : Nat} {r1 : RiS} {u3 : MdS} {f1 : Nat → Int64} {i K B off : Int} (t : Nat) (hu : MdI u3) (hth : Md_th u3 = K) (hK : 0 ≤ K ∧ K ≤ 3) (hans : K = 0 → f1 0 = (zI B).toInt64) (hcs : cells ≤ 1139 ∧ slots ≤ 13920) (d0 : decode cL_law t = .ok (.aload_n 2, 1)) (d1 : decode cL_law (t + 1) = .ok (.invokevirtual 91, 3)) (d4 : decode cL_law (t + 4) = .ok (.iload 5, 2)) (d6 : decode cL_law (t + 6) = .ok (.if_icmp .eq 5, 3)) (d11 : decode cL_law (t + 11) = .ok (.iload 5, 2)) (d13 : decode cL_law (t + 13) = .ok (.ifCond .ne 15, 3)) (d16 : decode cL_law (t + 16) = .ok (.aload_n 3, 1)) (d17 : decode cL_law (t + 17) = .ok (.iconst 0, 1)) (d18 : decode cL_law (t + 18) = .ok (.laload, 1)) (d19 : decode cL_law (t + 19) = .ok (.iload 6, 2)) (d21 : decode cL_law (t + 21) = .ok (.i2l, 1)) (d22 : decode cL_law (t + 22) = .ok (.lcmp, 1)) (d23 : decode cL_law (t + 23) = .ok (.ifCond .eq 5, 3)) (d28 : decode cL_law (t + 28) = .ok (.goto off, 3)) (hoff : ((t + 28 : Nat) : Int) + off = 1427) (kk : gG p l e room_1 s m args below meth c D A 7 Q cells slots (LwW cI cJ cZ a b o r1 u3 f1) (lvS bs (a 0) (b 0) o i) [] 1427) : gG p l e room_1 s m args below meth c D A 7 Q cells slots (LwW cI cJ cZ a b o r1 u3 f1) ((6, vI B) :: (5, vI K) :: lvS bs (a 0) (b 0) o i) [] t := by
  have kz : gG p l e room_1 s m args below meth c D A 7 Q cells slots (LwW cI cJ cZ a b o r1 u3 f1) ((6, vI B) :: (5, vI K) :: lvS bs (a 0) (b 0) o i) [] (t + 28) := gz_goto (pc := t + 28) (tgt := 1427) F d28 hoff (gz_lv [2, 3, 4, 5, 6] rfl kk)
  refine gz_aload_n (pc := t) F d0 rfl 4 rfl ?_
  refine gz_callVb (pc := t + 1) (n := 0) (As := []) (rest := []) (bytes := cX9_thrown) (maxL := 1) (ret := some .int) F (ct_X9_thrown l D cI cJ cZ b u3 hu) gL_law_X9_thrown rfl ⟨rfl, rfl⟩ (by decide +kernel) ⟨Nat.le_of_ble_eq_true rfl, Nat.le_of_ble_eq_true rfl⟩ rfl [] (RiW cI cJ a r1 ++ [OuC cJ o f1]) rfl 9 rfl rfl rfl (Nat.le_of_ble_eq_true rfl) hcs gz_pI_sh d1 ?_
  refine gz_kIb (ws := LwW cI cJ cZ a b o r1 u3 f1) rfl (fun q hq => ?_)
  refine gz_iload (pc := t + 4) F d4 1 rfl ?_
  refine gz_icmp_eq (pc := t + 6) (tgt := t + 11) F d6 (by omega) (by omega) (by omega) (fun _ => ?_) (fun e1 => absurd (hq.trans hth) e1)
  refine gz_iload (pc := t + 11) F d11 1 rfl ?_
  refine gz_if_ne (pc := t + 13) (tgt := t + 28) F d13 (by omega) (by omega) (fun _ => kz) (fun hz => ?_)
  refine gz_aload_n (pc := t + 16) F d16 rfl 5 rfl ?_
  refine gz_const (pc := t + 17) F d17 ?_
  refine gz_lald (pc := t + 18) (j := 0) F 102 (LwW_out _ _ _ _ _ _ _ _) (by decide) (by decide) d18 ?_
  refine gz_iload (pc := t + 19) F d19 0 rfl ?_
  refine gz_i2l (pc := t + 21) (v := (zI B).toInt64) F d21 rfl ?_
  refine gz_lcmp (pc := t + 22) (v := 0) F d22 (by rw [show f1 (Int.toNat 0) = (zI B).toInt64 from hans hz]; exact lg_cmp_same _) ?_
  exact gz_if_eq (pc := t + 23) (tgt := t + 28) F d23 (by omega) (by decide) (fun _ => kz) (fun q => absurd rfl q)
set_option maxHeartbeats 4000000 in
set_option maxRecDepth 100000 in
theorem gz_tailB (F : gF p s m args c cL_law 7 RL wsL_law D cI cJ cZ A) {bs : Nat} {a b : Nat → Nat} {o : Nat} {r1 : RiS} {u3 : MdS} {f1 : Nat → Int64} {i K B off : Int} (t : Nat) (hu : MdI u3) (hth : Md_th u3 = K) (hK : 0 ≤ K ∧ K ≤ 3) (hans : K = 0 → f1 0 = (zI B).toInt64) (hB : K = 0 → B = 0 ∨ B = 1) (hcs : cells ≤ 1139 ∧ slots ≤ 13920) (d0 : decode cL_law t = .ok (.aload_n 2, 1)) (d1 : decode cL_law (t + 1) = .ok (.invokevirtual 91, 3)) (d4 : decode cL_law (t + 4) = .ok (.iload 5, 2)) (d6 : decode cL_law (t + 6) = .ok (.if_icmp .eq 5, 3)) (d11 : decode cL_law (t + 11) = .ok (.iload 5, 2)) (d13 : decode cL_law (t + 13) = .ok (.ifCond .ne 22, 3)) (d16 : decode cL_law (t + 16) = .ok (.aload_n 3, 1)) (d17 : decode cL_law (t + 17) = .ok (.iconst 0, 1)) (d18 : decode cL_law (t + 18) = .ok (.laload, 1)) (d19 : decode cL_law (t + 19) = .ok (.iload 6, 2)) (d21 : decode cL_law (t + 21) = .ok (.ifCond .eq 7, 3)) (d24 : decode cL_law (t + 24) = .ok (.lconst 1, 1)) (d25 : decode cL_law (t + 25) = .ok (.goto 4, 3)) (d28 : decode cL_law (t + 28) = .ok (.lconst 0, 1)) (d29 : decode cL_law (t + 29) = .ok (.lcmp, 1)) (d30 : decode cL_law (t + 30) = .ok (.ifCond .eq 5, 3)) (d35 : decode cL_law (t + 35) = .ok (.goto off, 3)) (hoff : ((t + 35 : Nat) : Int) + off = 1427) (kk : gG p l e room_1 s m args below meth c D A 7 Q cells slots (LwW cI cJ cZ a b o r1 u3 f1) (lvS bs (a 0) (b 0) o i) [] 1427) : gG p l e room_1 s m args below meth c D A 7 Q cells slots (LwW cI cJ cZ a b o r1 u3 f1) ((6, vI B) :: (5, vI K) :: lvS bs (a 0) (b 0) o i) [] t := by
  have kz : gG p l e room_1 s m args below meth c D A 7 Q cells slots (LwW cI cJ cZ a b o r1 u3 f1) ((6, vI B) :: (5, vI K) :: lvS bs (a 0) (b 0) o i) [] (t + 35) := gz_goto (pc := t + 35) (tgt := 1427) F d35 hoff (gz_lv [2, 3, 4, 5, 6] rfl kk)
  refine gz_aload_n (pc := t) F d0 rfl 4 rfl ?_
  refine gz_callVb (pc := t + 1) (n := 0) (As := []) (rest := []) (bytes := cX9_thrown) (maxL := 1) (ret := some .int) F (ct_X9_thrown l D cI cJ cZ b u3 hu) gL_law_X9_thrown rfl ⟨rfl, rfl⟩ (by decide +kernel) ⟨Nat.le_of_ble_eq_true rfl, Nat.le_of_ble_eq_true rfl⟩ rfl [] (RiW cI cJ a r1 ++ [OuC cJ o f1]) rfl 9 rfl rfl rfl (Nat.le_of_ble_eq_true rfl) hcs gz_pI_sh d1 ?_
  refine gz_kIb (ws := LwW cI cJ cZ a b o r1 u3 f1) rfl (fun q hq => ?_)
  refine gz_iload (pc := t + 4) F d4 1 rfl ?_
  refine gz_icmp_eq (pc := t + 6) (tgt := t + 11) F d6 (by omega) (by omega) (by omega) (fun _ => ?_) (fun e1 => absurd (hq.trans hth) e1)
  refine gz_iload (pc := t + 11) F d11 1 rfl ?_
  refine gz_if_ne (pc := t + 13) (tgt := t + 35) F d13 (by omega) (by omega) (fun _ => kz) (fun hz => ?_)
  refine gz_aload_n (pc := t + 16) F d16 rfl 5 rfl ?_
  refine gz_const (pc := t + 17) F d17 ?_
  refine gz_lald (pc := t + 18) (j := 0) F 102 (LwW_out _ _ _ _ _ _ _ _) (by decide) (by decide) d18 ?_
  refine gz_iload (pc := t + 19) F d19 0 rfl ?_
  have kl : gG p l e room_1 s m args below meth c D A 7 Q cells slots (LwW cI cJ cZ a b o r1 u3 f1) ((6, vI B) :: (5, vI K) :: lvS bs (a 0) (b 0) o i) [.long (zI B).toInt64, .long (f1 (Int.toNat 0))] (t + 29) := gz_lcmp (pc := t + 29) (v := 0) F d29 (by rw [show f1 (Int.toNat 0) = (zI B).toInt64 from hans hz]; exact lg_cmp_same _) (gz_if_eq (pc := t + 30) (tgt := t + 35) F d30 (by omega) (by decide) (fun _ => kz) (fun q => absurd rfl q))
  have hb := hB hz
  refine gz_if_eq (pc := t + 21) (tgt := t + 28) F d21 (by omega) (by omega) (fun q => ?_) (fun q => ?_)
  · exact gz_lconst (pc := t + 28) (v := (zI B).toInt64) F d28 (by rw [q]; decide) kl
  · refine gz_lconst (pc := t + 24) (v := (zI B).toInt64) F d24 (by rw [hb.resolve_left q]; decide) ?_
    exact gz_goto (pc := t + 25) (tgt := t + 29) F d25 (by omega) kl
set_option maxHeartbeats 4000000 in
set_option maxRecDepth 100000 in
theorem gz_tailV (F : gF p s m args c cL_law 7 RL wsL_law D cI cJ cZ A) {bs : Nat} {a b : Nat → Nat} {o : Nat} {r1 : RiS} {u3 : MdS} {f1 : Nat → Int64} {i K off : Int} (t : Nat) (hu : MdI u3) (hth : Md_th u3 = K) (hK : 0 ≤ K ∧ K ≤ 3) (hcs : cells ≤ 1139 ∧ slots ≤ 13920) (d0 : decode cL_law t = .ok (.aload_n 2, 1)) (d1 : decode cL_law (t + 1) = .ok (.invokevirtual 91, 3)) (d4 : decode cL_law (t + 4) = .ok (.iload 5, 2)) (d6 : decode cL_law (t + 6) = .ok (.if_icmp .eq 5, 3)) (d11 : decode cL_law (t + 11) = .ok (.goto off, 3)) (hoff : ((t + 11 : Nat) : Int) + off = 1427) (kk : gG p l e room_1 s m args below meth c D A 7 Q cells slots (LwW cI cJ cZ a b o r1 u3 f1) (lvS bs (a 0) (b 0) o i) [] 1427) : gG p l e room_1 s m args below meth c D A 7 Q cells slots (LwW cI cJ cZ a b o r1 u3 f1) ((5, vI K) :: lvS bs (a 0) (b 0) o i) [] t := by
  have kz : gG p l e room_1 s m args below meth c D A 7 Q cells slots (LwW cI cJ cZ a b o r1 u3 f1) ((5, vI K) :: lvS bs (a 0) (b 0) o i) [] (t + 11) := gz_goto (pc := t + 11) (tgt := 1427) F d11 hoff (gz_lv [1, 2, 3, 4, 5] rfl kk)
  refine gz_aload_n (pc := t) F d0 rfl 3 rfl ?_
  refine gz_callVb (pc := t + 1) (n := 0) (As := []) (rest := []) (bytes := cX9_thrown) (maxL := 1) (ret := some .int) F (ct_X9_thrown l D cI cJ cZ b u3 hu) gL_law_X9_thrown rfl ⟨rfl, rfl⟩ (by decide +kernel) ⟨Nat.le_of_ble_eq_true rfl, Nat.le_of_ble_eq_true rfl⟩ rfl [] (RiW cI cJ a r1 ++ [OuC cJ o f1]) rfl 9 rfl rfl rfl (Nat.le_of_ble_eq_true rfl) hcs gz_pI_sh d1 ?_
  refine gz_kIb (ws := LwW cI cJ cZ a b o r1 u3 f1) rfl (fun q hq => ?_)
  refine gz_iload (pc := t + 4) F d4 0 rfl ?_
  exact gz_icmp_eq (pc := t + 6) (tgt := t + 11) F d6 (by omega) (by omega) (by omega) (fun _ => kz) (fun e1 => absurd (hq.trans hth) e1)
end GZT2
