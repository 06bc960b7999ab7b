/-! ===== the law's cases, laid by wip/whole/gen/law.py ===== -/
section GZKb
variable {p : Program} {l : Launch} {e : Env} {s : State} {m : MethodId} {args : Array Value} {below : List Frame} {meth : Method} {c : Code} {D : va_G} {A : Nat → Prop} {Q : State → Prop} {cells slots : Nat}
variable {cI cJ cZ : ClassId}
set_option maxHeartbeats 4000000 in
set_option maxRecDepth 100000 in
theorem law_k7 (hfl : l.stackTraces = false) (F : gF p s m args c cL_law 7 RL wsL_law D cI cJ cZ A) (FX : gFX l s A) (NC : gz_NC s) {bs L : Nat} {xs : Nat → Int32} (hX : va_X bs L xs s s.heap) (hbl : bs < s.heap.size) (hbA : ¬ A bs) (hL : L < 2147483648) {a b : Nat → Nat} {o : Nat} {r : RiS} {u : MdS} {f : Nat → Int64} {j : Nat} {i : Int} (h : RR j r u) (hj : j < 512) (hi : 0 ≤ i ∧ i + 5 ≤ (L : Int)) (hcs : cells + 1 ≤ 1139 ∧ slots + 6 ≤ 13920) (kk : ∀ (r2 : RiS) (u2 : MdS) (f2 : Nat → Int64), RR (j + 1) r2 u2 → gG p l e room_1 s m args below meth c D A 7 Q (cells + 1) (slots + 6) (LwW cI cJ cZ a b o r2 u2 f2) (lvS bs (a 0) (b 0) o i) [] 1427) : gG p l e room_1 s m args below meth c D A 7 Q cells slots (LwW cI cJ cZ a b o r u f) (lvS bs (a 0) (b 0) o i) [] 603 := by
  refine gz_aload_n (pc := 603) F dL_law_603 rfl 1 rfl ?_
  refine gz_arg (pc := 604) (k := 1) F hX hbl hbA ⟨by omega, by omega⟩ hL 0 4 rfl rfl dL_law_604 dL_law_605 dL_law_607 dL_law_608 dL_law_609 ?_
  refine gz_arg (pc := 610) (k := 2) F hX hbl hbA ⟨by omega, by omega⟩ hL 0 4 rfl rfl dL_law_610 dL_law_611 dL_law_613 dL_law_614 dL_law_615 ?_
  refine gz_aload_n (pc := 616) F dL_law_616 rfl 3 rfl ?_
  refine gz_callSY (pc := 617) (n := 4) (As := [.ref (a 0), vI (sv xs (i + 1)), vI (sv xs (i + 2)), .ref o]) (rest := []) (bytes := cL_swap) (maxL := 5) (ret := some .int) (hh := [(0, 10, 13, 13), (0, 10, 17, 15), (0, 10, 21, 17)]) F FX NC (ctL_swap l hfl D cI cJ cZ a r o f (sv xs (i + 1)) (sv xs (i + 2)) h.1 (sv_r _ _) (sv_r _ _)) gL_law_L_swap rfl ⟨rfl, rfl⟩ (by decide +kernel) ⟨Nat.le_of_ble_eq_true rfl, Nat.le_of_ble_eq_true rfl⟩ rfl (MdW cI cZ b u) [] (by rw [List.append_nil]) rfl (Nat.le_of_ble_eq_true rfl) hcs (gz_pW_sh (RiO_sh _ _)) dL_law_617 (fun v W1 hv => ?_)
  obtain ⟨r1, f1, K, rfl, rfl, hK, hKr, h0, h1⟩ := pW_out gz_c3_r hv
  refine gz_eqw (ws2 := LwW cI cJ cZ a b o r1 u f1) (by rw [List.append_nil]) ?_
  refine gz_istore (pc := 620) (lv2 := (5, vI K) :: lvS bs (a 0) (b 0) o i) F dL_law_620 (by decide) rfl ?_
  refine gz_aload_n (pc := 622) F dL_law_622 rfl 3 rfl ?_
  refine gz_arg (pc := 623) (k := 1) F hX hbl hbA ⟨by omega, by omega⟩ hL 1 5 rfl rfl dL_law_623 dL_law_624 dL_law_626 dL_law_627 dL_law_628 ?_
  refine gz_arg (pc := 629) (k := 2) F hX hbl hbA ⟨by omega, by omega⟩ hL 1 5 rfl rfl dL_law_629 dL_law_630 dL_law_632 dL_law_633 dL_law_634 ?_
  refine gz_callVb (pc := 635) (n := 2) (As := [vI (sv xs (i + 1)), vI (sv xs (i + 2))]) (rest := []) (bytes := cX9_swap) (maxL := 4) (ret := some .int) F (ct_X9_swap l D cI cJ cZ b u (sv xs (i + 1)) (sv xs (i + 2)) h.2.1 (sv_r _ _) (sv_r _ _)) gL_law_X9_swap rfl ⟨rfl, rfl⟩ (by decide +kernel) ⟨Nat.le_of_ble_eq_true rfl, Nat.le_of_ble_eq_true rfl⟩ rfl [] (RiW cI cJ a r1 ++ [OuC cJ o f1]) rfl 9 rfl rfl rfl (Nat.le_of_ble_eq_true rfl) hcs (gz_pK_sh (MdW_sh _ _) (fun k => MdW_sh _ _)) dL_law_635 (fun v W1 hv => ?_)
  obtain ⟨u3, B, rfl, rfl, hth, hR, hB⟩ := pK_out h (st_swap h (sv xs (i + 1)) (sv xs (i + 2))) hK h0 h1 hv
  refine gz_istore (pc := 638) (lv2 := (6, vI B) :: (5, vI K) :: lvS bs (a 0) (b 0) o i) F dL_law_638 (by decide) rfl ?_
  refine gz_eqw (ws2 := LwW cI cJ cZ a b o r1 u3 f1) rfl ?_
  exact gz_tailI F 640 hR.2.1 hth hKr (fun q => (hB q).1) hcs dL_law_640 dL_law_641 dL_law_644 dL_law_646 dL_law_651 dL_law_653 dL_law_656 dL_law_657 dL_law_658 dL_law_659 dL_law_661 dL_law_662 dL_law_663 dL_law_668 (by decide) (kk r1 u3 f1 hR)

set_option maxHeartbeats 4000000 in
set_option maxRecDepth 100000 in
theorem law_k8 (hfl : l.stackTraces = false) (F : gF p s m args c cL_law 7 RL wsL_law D cI cJ cZ A) (FX : gFX l s A) (NC : gz_NC s) {bs L : Nat} {xs : Nat → Int32} (hX : va_X bs L xs s s.heap) (hbl : bs < s.heap.size) (hbA : ¬ A bs) (hL : L < 2147483648) {a b : Nat → Nat} {o : Nat} {r : RiS} {u : MdS} {f : Nat → Int64} {j : Nat} {i : Int} (h : RR j r u) (hj : j < 512) (hi : 0 ≤ i ∧ i + 5 ≤ (L : Int)) (hcs : cells + 1 ≤ 1139 ∧ slots + 6 ≤ 13920) (kk : ∀ (r2 : RiS) (u2 : MdS) (f2 : Nat → Int64), RR (j + 1) r2 u2 → gG p l e room_1 s m args below meth c D A 7 Q (cells + 1) (slots + 6) (LwW cI cJ cZ a b o r2 u2 f2) (lvS bs (a 0) (b 0) o i) [] 1427) : gG p l e room_1 s m args below meth c D A 7 Q cells slots (LwW cI cJ cZ a b o r u f) (lvS bs (a 0) (b 0) o i) [] 671 := by
  refine gz_aload_n (pc := 671) F dL_law_671 rfl 1 rfl ?_
  refine gz_arg (pc := 672) (k := 1) F hX hbl hbA ⟨by omega, by omega⟩ hL 0 4 rfl rfl dL_law_672 dL_law_673 dL_law_675 dL_law_676 dL_law_677 ?_
  refine gz_arg (pc := 678) (k := 2) F hX hbl hbA ⟨by omega, by omega⟩ hL 0 4 rfl rfl dL_law_678 dL_law_679 dL_law_681 dL_law_682 dL_law_683 ?_
  refine gz_aload_n (pc := 684) F dL_law_684 rfl 3 rfl ?_
  refine gz_callSY (pc := 685) (n := 4) (As := [.ref (a 0), vI (sv xs (i + 1)), vI (sv xs (i + 2)), .ref o]) (rest := []) (bytes := cL_agree) (maxL := 5) (ret := some .int) (hh := [(0, 10, 13, 13), (0, 10, 17, 17)]) F FX NC (ctL_agree l hfl D cI cJ cZ a r o f (sv xs (i + 1)) (sv xs (i + 2)) h.1 (sv_r _ _) (sv_r _ _) (Pl_J_L h.2.2.2.1)) gL_law_L_agree rfl ⟨rfl, rfl⟩ (by decide +kernel) ⟨Nat.le_of_ble_eq_true rfl, Nat.le_of_ble_eq_true rfl⟩ rfl (MdW cI cZ b u) [] (by rw [List.append_nil]) rfl (Nat.le_of_ble_eq_true rfl) hcs (gz_pW_sh (RiO_sh _ _)) dL_law_685 (fun v W1 hv => ?_)
  obtain ⟨r1, f1, K, rfl, rfl, hK, hKr, h0, h1⟩ := pW_out gz_c2_r hv
  refine gz_eqw (ws2 := LwW cI cJ cZ a b o r1 u f1) (by rw [List.append_nil]) ?_
  refine gz_istore (pc := 688) (lv2 := (5, vI K) :: lvS bs (a 0) (b 0) o i) F dL_law_688 (by decide) rfl ?_
  refine gz_aload_n (pc := 690) F dL_law_690 rfl 3 rfl ?_
  refine gz_arg (pc := 691) (k := 1) F hX hbl hbA ⟨by omega, by omega⟩ hL 1 5 rfl rfl dL_law_691 dL_law_692 dL_law_694 dL_law_695 dL_law_696 ?_
  refine gz_arg (pc := 697) (k := 2) F hX hbl hbA ⟨by omega, by omega⟩ hL 1 5 rfl rfl dL_law_697 dL_law_698 dL_law_700 dL_law_701 dL_law_702 ?_
  refine gz_callVb (pc := 703) (n := 2) (As := [vI (sv xs (i + 1)), vI (sv xs (i + 2))]) (rest := []) (bytes := cX9_agree) (maxL := 7) (ret := some .int) F (ct_X9_agree l D cI cJ cZ b u (sv xs (i + 1)) (sv xs (i + 2)) h.2.1 (sv_r _ _) (sv_r _ _)) gL_law_X9_agree rfl ⟨rfl, rfl⟩ (by decide +kernel) ⟨Nat.le_of_ble_eq_true rfl, Nat.le_of_ble_eq_true rfl⟩ rfl [] (RiW cI cJ a r1 ++ [OuC cJ o f1]) rfl 9 rfl rfl rfl (Nat.le_of_ble_eq_true rfl) hcs (gz_pK_sh (MdW_sh _ _) (fun k => MdW_sh _ _)) dL_law_703 (fun v W1 hv => ?_)
  obtain ⟨u3, B, rfl, rfl, hth, hR, hB⟩ := pK_out h (st_agree h hj (sv xs (i + 1)) (sv xs (i + 2))) hK h0 h1 hv
  refine gz_istore (pc := 706) (lv2 := (6, vI B) :: (5, vI K) :: lvS bs (a 0) (b 0) o i) F dL_law_706 (by decide) rfl ?_
  refine gz_eqw (ws2 := LwW cI cJ cZ a b o r1 u3 f1) rfl ?_
  exact gz_tailI F 708 hR.2.1 hth hKr (fun q => (hB q).1) hcs dL_law_708 dL_law_709 dL_law_712 dL_law_714 dL_law_719 dL_law_721 dL_law_724 dL_law_725 dL_law_726 dL_law_727 dL_law_729 dL_law_730 dL_law_731 dL_law_736 (by decide) (kk r1 u3 f1 hR)

set_option maxHeartbeats 4000000 in
set_option maxRecDepth 100000 in
theorem law_k9 (hfl : l.stackTraces = false) (F : gF p s m args c cL_law 7 RL wsL_law D cI cJ cZ A) (FX : gFX l s A) (NC : gz_NC s) {bs L : Nat} {xs : Nat → Int32} (hX : va_X bs L xs s s.heap) (hbl : bs < s.heap.size) (hbA : ¬ A bs) (hL : L < 2147483648) {a b : Nat → Nat} {o : Nat} {r : RiS} {u : MdS} {f : Nat → Int64} {j : Nat} {i : Int} (h : RR j r u) (hj : j < 512) (hi : 0 ≤ i ∧ i + 5 ≤ (L : Int)) (hcs : cells + 1 ≤ 1139 ∧ slots + 6 ≤ 13920) (kk : ∀ (r2 : RiS) (u2 : MdS) (f2 : Nat → Int64), RR (j + 1) r2 u2 → gG p l e room_1 s m args below meth c D A 7 Q (cells + 1) (slots + 6) (LwW cI cJ cZ a b o r2 u2 f2) (lvS bs (a 0) (b 0) o i) [] 1427) : gG p l e room_1 s m args below meth c D A 7 Q cells slots (LwW cI cJ cZ a b o r u f) (lvS bs (a 0) (b 0) o i) [] 739 := by
  refine gz_aload_n (pc := 739) F dL_law_739 rfl 1 rfl ?_
  refine gz_arg (pc := 740) (k := 1) F hX hbl hbA ⟨by omega, by omega⟩ hL 0 4 rfl rfl dL_law_740 dL_law_741 dL_law_743 dL_law_744 dL_law_745 ?_
  refine gz_arg (pc := 746) (k := 2) F hX hbl hbA ⟨by omega, by omega⟩ hL 0 4 rfl rfl dL_law_746 dL_law_747 dL_law_749 dL_law_750 dL_law_751 ?_
  refine gz_arg (pc := 752) (k := 3) F hX hbl hbA ⟨by omega, by omega⟩ hL 0 4 rfl rfl dL_law_752 dL_law_753 dL_law_755 dL_law_756 dL_law_757 ?_
  refine gz_aload_n (pc := 758) F dL_law_758 rfl 3 rfl ?_
  refine gz_callSY (pc := 759) (n := 5) (As := [.ref (a 0), vI (sv xs (i + 1)), vI (sv xs (i + 2)), vI (sv xs (i + 3)), .ref o]) (rest := []) (bytes := cL_build) (maxL := 6) (ret := some .int) (hh := [(0, 12, 15, 15), (0, 12, 19, 17)]) F FX NC (ctL_build l hfl D cI cJ cZ a r o f (sv xs (i + 1)) (sv xs (i + 2)) (sv xs (i + 3)) h.1 (sv_r _ _) (sv_r _ _) (sv_r _ _)) gL_law_L_build rfl ⟨rfl, rfl⟩ (by decide +kernel) ⟨Nat.le_of_ble_eq_true rfl, Nat.le_of_ble_eq_true rfl⟩ rfl (MdW cI cZ b u) [] (by rw [List.append_nil]) rfl (Nat.le_of_ble_eq_true rfl) hcs (gz_pW_sh (RiO_sh _ _)) dL_law_759 (fun v W1 hv => ?_)
  obtain ⟨r1, f1, K, rfl, rfl, hK, hKr, h0, h1⟩ := pW_out gz_c1_r hv
  refine gz_eqw (ws2 := LwW cI cJ cZ a b o r1 u f1) (by rw [List.append_nil]) ?_
  refine gz_istore (pc := 762) (lv2 := (5, vI K) :: lvS bs (a 0) (b 0) o i) F dL_law_762 (by decide) rfl ?_
  refine gz_aload_n (pc := 764) F dL_law_764 rfl 3 rfl ?_
  refine gz_arg (pc := 765) (k := 1) F hX hbl hbA ⟨by omega, by omega⟩ hL 1 5 rfl rfl dL_law_765 dL_law_766 dL_law_768 dL_law_769 dL_law_770 ?_
  refine gz_arg (pc := 771) (k := 2) F hX hbl hbA ⟨by omega, by omega⟩ hL 1 5 rfl rfl dL_law_771 dL_law_772 dL_law_774 dL_law_775 dL_law_776 ?_
  refine gz_arg (pc := 777) (k := 3) F hX hbl hbA ⟨by omega, by omega⟩ hL 1 5 rfl rfl dL_law_777 dL_law_778 dL_law_780 dL_law_781 dL_law_782 ?_
  refine gz_callVb (pc := 783) (n := 3) (As := [vI (sv xs (i + 1)), vI (sv xs (i + 2)), vI (sv xs (i + 3))]) (rest := []) (bytes := cX9_build) (maxL := 5) (ret := some .int) F (ct_X9_build l D cI cJ cZ b u (sv xs (i + 1)) (sv xs (i + 2)) (sv xs (i + 3)) h.2.1 (sv_r _ _) (sv_r _ _) (sv_r _ _)) gL_law_X9_build rfl ⟨rfl, rfl⟩ (by decide +kernel) ⟨Nat.le_of_ble_eq_true rfl, Nat.le_of_ble_eq_true rfl⟩ rfl [] (RiW cI cJ a r1 ++ [OuC cJ o f1]) rfl 9 rfl rfl rfl (Nat.le_of_ble_eq_true rfl) hcs (gz_pK_sh (MdW_sh _ _) (fun k => MdW_sh _ _)) dL_law_783 (fun v W1 hv => ?_)
  obtain ⟨u3, B, rfl, rfl, hth, hR, hB⟩ := pK_out h (st_build h hj (sv xs (i + 1)) (sv xs (i + 2)) (sv xs (i + 3))) hK h0 h1 hv
  refine gz_istore (pc := 786) (lv2 := (6, vI B) :: (5, vI K) :: lvS bs (a 0) (b 0) o i) F dL_law_786 (by decide) rfl ?_
  refine gz_eqw (ws2 := LwW cI cJ cZ a b o r1 u3 f1) rfl ?_
  exact gz_tailI F 788 hR.2.1 hth hKr (fun q => (hB q).1) hcs dL_law_788 dL_law_789 dL_law_792 dL_law_794 dL_law_799 dL_law_801 dL_law_804 dL_law_805 dL_law_806 dL_law_807 dL_law_809 dL_law_810 dL_law_811 dL_law_816 (by decide) (kk r1 u3 f1 hR)

set_option maxHeartbeats 4000000 in
set_option maxRecDepth 100000 in
theorem law_k10 (hfl : l.stackTraces = false) (F : gF p s m args c cL_law 7 RL wsL_law D cI cJ cZ A) (FX : gFX l s A) (NC : gz_NC s) {bs L : Nat} {xs : Nat → Int32} (hX : va_X bs L xs s s.heap) (hbl : bs < s.heap.size) (hbA : ¬ A bs) (hL : L < 2147483648) {a b : Nat → Nat} {o : Nat} {r : RiS} {u : MdS} {f : Nat → Int64} {j : Nat} {i : Int} (h : RR j r u) (hj : j < 512) (hi : 0 ≤ i ∧ i + 5 ≤ (L : Int)) (hcs : cells + 1 ≤ 1139 ∧ slots + 6 ≤ 13920) (kk : ∀ (r2 : RiS) (u2 : MdS) (f2 : Nat → Int64), RR (j + 1) r2 u2 → gG p l e room_1 s m args below meth c D A 7 Q (cells + 1) (slots + 6) (LwW cI cJ cZ a b o r2 u2 f2) (lvS bs (a 0) (b 0) o i) [] 1427) : gG p l e room_1 s m args below meth c D A 7 Q cells slots (LwW cI cJ cZ a b o r u f) (lvS bs (a 0) (b 0) o i) [] 819 := by
  refine gz_aload_n (pc := 819) F dL_law_819 rfl 1 rfl ?_
  refine gz_arg (pc := 820) (k := 1) F hX hbl hbA ⟨by omega, by omega⟩ hL 0 4 rfl rfl dL_law_820 dL_law_821 dL_law_823 dL_law_824 dL_law_825 ?_
  refine gz_arg (pc := 826) (k := 2) F hX hbl hbA ⟨by omega, by omega⟩ hL 0 4 rfl rfl dL_law_826 dL_law_827 dL_law_829 dL_law_830 dL_law_831 ?_
  refine gz_aload_n (pc := 832) F dL_law_832 rfl 3 rfl ?_
  refine gz_callSY (pc := 833) (n := 4) (As := [.ref (a 0), vI (sv xs (i + 1)), vI (sv xs (i + 2)), .ref o]) (rest := []) (bytes := cL_urge) (maxL := 5) (ret := some .int) (hh := [(0, 10, 13, 13), (0, 10, 17, 15), (0, 10, 21, 17)]) F FX NC (ctL_urge l hfl D cI cJ cZ a r o f (sv xs (i + 1)) (sv xs (i + 2)) h.1 (sv_r _ _) (sv_r _ _)) gL_law_L_urge rfl ⟨rfl, rfl⟩ (by decide +kernel) ⟨Nat.le_of_ble_eq_true rfl, Nat.le_of_ble_eq_true rfl⟩ rfl (MdW cI cZ b u) [] (by rw [List.append_nil]) rfl (Nat.le_of_ble_eq_true rfl) hcs (gz_pW_sh (RiO_sh _ _)) dL_law_833 (fun v W1 hv => ?_)
  obtain ⟨r1, f1, K, rfl, rfl, hK, hKr, h0, h1⟩ := pW_out gz_c3_r hv
  refine gz_eqw (ws2 := LwW cI cJ cZ a b o r1 u f1) (by rw [List.append_nil]) ?_
  refine gz_istore (pc := 836) (lv2 := (5, vI K) :: lvS bs (a 0) (b 0) o i) F dL_law_836 (by decide) rfl ?_
  refine gz_aload_n (pc := 838) F dL_law_838 rfl 3 rfl ?_
  refine gz_arg (pc := 839) (k := 1) F hX hbl hbA ⟨by omega, by omega⟩ hL 1 5 rfl rfl dL_law_839 dL_law_840 dL_law_842 dL_law_843 dL_law_844 ?_
  refine gz_arg (pc := 845) (k := 2) F hX hbl hbA ⟨by omega, by omega⟩ hL 1 5 rfl rfl dL_law_845 dL_law_846 dL_law_848 dL_law_849 dL_law_850 ?_
  refine gz_callVb (pc := 851) (n := 2) (As := [vI (sv xs (i + 1)), vI (sv xs (i + 2))]) (rest := []) (bytes := cX9_urge) (maxL := 5) (ret := some .int) F (ct_X9_urge l D cI cJ cZ b u (sv xs (i + 1)) (sv xs (i + 2)) h.2.1 (sv_r _ _) (sv_r _ _)) gL_law_X9_urge rfl ⟨rfl, rfl⟩ (by decide +kernel) ⟨Nat.le_of_ble_eq_true rfl, Nat.le_of_ble_eq_true rfl⟩ rfl [] (RiW cI cJ a r1 ++ [OuC cJ o f1]) rfl 9 rfl rfl rfl (Nat.le_of_ble_eq_true rfl) hcs (gz_pK_sh (MdW_sh _ _) (fun k => MdW_sh _ _)) dL_law_851 (fun v W1 hv => ?_)
  obtain ⟨u3, B, rfl, rfl, hth, hR, hB⟩ := pK_out h (st_urge h hj (sv xs (i + 1)) (sv xs (i + 2))) hK h0 h1 hv
  refine gz_istore (pc := 854) (lv2 := (6, vI B) :: (5, vI K) :: lvS bs (a 0) (b 0) o i) F dL_law_854 (by decide) rfl ?_
  refine gz_eqw (ws2 := LwW cI cJ cZ a b o r1 u3 f1) rfl ?_
  exact gz_tailI F 856 hR.2.1 hth hKr (fun q => (hB q).1) hcs dL_law_856 dL_law_857 dL_law_860 dL_law_862 dL_law_867 dL_law_869 dL_law_872 dL_law_873 dL_law_874 dL_law_875 dL_law_877 dL_law_878 dL_law_879 dL_law_884 (by decide) (kk r1 u3 f1 hR)

set_option maxHeartbeats 4000000 in
set_option maxRecDepth 100000 in
theorem law_k11 (hfl : l.stackTraces = false) (F : gF p s m args c cL_law 7 RL wsL_law D cI cJ cZ A) (FX : gFX l s A) (NC : gz_NC s) {bs L : Nat} {xs : Nat → Int32} (hX : va_X bs L xs s s.heap) (hbl : bs < s.heap.size) (hbA : ¬ A bs) (hL : L < 2147483648) {a b : Nat → Nat} {o : Nat} {r : RiS} {u : MdS} {f : Nat → Int64} {j : Nat} {i : Int} (h : RR j r u) (hj : j < 512) (hi : 0 ≤ i ∧ i + 5 ≤ (L : Int)) (hcs : cells + 1 ≤ 1139 ∧ slots + 6 ≤ 13920) (kk : ∀ (r2 : RiS) (u2 : MdS) (f2 : Nat → Int64), RR (j + 1) r2 u2 → gG p l e room_1 s m args below meth c D A 7 Q (cells + 1) (slots + 6) (LwW cI cJ cZ a b o r2 u2 f2) (lvS bs (a 0) (b 0) o i) [] 1427) : gG p l e room_1 s m args below meth c D A 7 Q cells slots (LwW cI cJ cZ a b o r u f) (lvS bs (a 0) (b 0) o i) [] 887 := by
  refine gz_aload_n (pc := 887) F dL_law_887 rfl 1 rfl ?_
  refine gz_arg (pc := 888) (k := 1) F hX hbl hbA ⟨by omega, by omega⟩ hL 0 4 rfl rfl dL_law_888 dL_law_889 dL_law_891 dL_law_892 dL_law_893 ?_
  refine gz_aload_n (pc := 894) F dL_law_894 rfl 3 rfl ?_
  refine gz_callSY (pc := 895) (n := 3) (As := [.ref (a 0), vI (sv xs (i + 1)), .ref o]) (rest := []) (bytes := cL_pass) (maxL := 4) (ret := some .int) (hh := [(0, 9, 12, 15), (0, 9, 15, 17)]) F FX NC (ctL_pass l hfl D cI cJ cZ a r o f (sv xs (i + 1)) h.1 (sv_r _ _)) gL_law_L_pass rfl ⟨rfl, rfl⟩ (by decide +kernel) ⟨Nat.le_of_ble_eq_true rfl, Nat.le_of_ble_eq_true rfl⟩ rfl (MdW cI cZ b u) [] (by rw [List.append_nil]) rfl (Nat.le_of_ble_eq_true rfl) hcs (gz_pW_sh (RiO_sh _ _)) dL_law_895 (fun v W1 hv => ?_)
  obtain ⟨r1, f1, K, rfl, rfl, hK, hKr, h0, h1⟩ := pW_out gz_c1_r hv
  refine gz_eqw (ws2 := LwW cI cJ cZ a b o r1 u f1) (by rw [List.append_nil]) ?_
  refine gz_istore (pc := 898) (lv2 := (5, vI K) :: lvS bs (a 0) (b 0) o i) F dL_law_898 (by decide) rfl ?_
  refine gz_aload_n (pc := 900) F dL_law_900 rfl 3 rfl ?_
  refine gz_arg (pc := 901) (k := 1) F hX hbl hbA ⟨by omega, by omega⟩ hL 1 5 rfl rfl dL_law_901 dL_law_902 dL_law_904 dL_law_905 dL_law_906 ?_
  refine gz_callVb (pc := 907) (n := 1) (As := [vI (sv xs (i + 1))]) (rest := []) (bytes := cX9_pass) (maxL := 3) (ret := some .int) F (ct_X9_pass l D cI cJ cZ b u (sv xs (i + 1)) h.2.1 (sv_r _ _)) gL_law_X9_pass rfl ⟨rfl, rfl⟩ (by decide +kernel) ⟨Nat.le_of_ble_eq_true rfl, Nat.le_of_ble_eq_true rfl⟩ rfl [] (RiW cI cJ a r1 ++ [OuC cJ o f1]) rfl 9 rfl rfl rfl (Nat.le_of_ble_eq_true rfl) hcs (gz_pK_sh (MdW_sh _ _) (fun k => MdW_sh _ _)) dL_law_907 (fun v W1 hv => ?_)
  obtain ⟨u3, B, rfl, rfl, hth, hR, hB⟩ := pK_out h (st_pass h (sv xs (i + 1))) hK h0 h1 hv
  refine gz_istore (pc := 910) (lv2 := (6, vI B) :: (5, vI K) :: lvS bs (a 0) (b 0) o i) F dL_law_910 (by decide) rfl ?_
  refine gz_eqw (ws2 := LwW cI cJ cZ a b o r1 u3 f1) rfl ?_
  exact gz_tailI F 912 hR.2.1 hth hKr (fun q => (hB q).1) hcs dL_law_912 dL_law_913 dL_law_916 dL_law_918 dL_law_923 dL_law_925 dL_law_928 dL_law_929 dL_law_930 dL_law_931 dL_law_933 dL_law_934 dL_law_935 dL_law_940 (by decide) (kk r1 u3 f1 hR)

set_option maxHeartbeats 4000000 in
set_option maxRecDepth 100000 in
theorem law_k12 (hfl : l.stackTraces = false) (F : gF p s m args c cL_law 7 RL wsL_law D cI cJ cZ A) (FX : gFX l s A) (NC : gz_NC s) {bs L : Nat} {xs : Nat → Int32} (hX : va_X bs L xs s s.heap) (hbl : bs < s.heap.size) (hbA : ¬ A bs) (hL : L < 2147483648) {a b : Nat → Nat} {o : Nat} {r : RiS} {u : MdS} {f : Nat → Int64} {j : Nat} {i : Int} (h : RR j r u) (hj : j < 512) (hi : 0 ≤ i ∧ i + 5 ≤ (L : Int)) (hcs : cells + 1 ≤ 1139 ∧ slots + 6 ≤ 13920) (kk : ∀ (r2 : RiS) (u2 : MdS) (f2 : Nat → Int64), RR (j + 1) r2 u2 → gG p l e room_1 s m args below meth c D A 7 Q (cells + 1) (slots + 6) (LwW cI cJ cZ a b o r2 u2 f2) (lvS bs (a 0) (b 0) o i) [] 1427) : gG p l e room_1 s m args below meth c D A 7 Q cells slots (LwW cI cJ cZ a b o r u f) (lvS bs (a 0) (b 0) o i) [] 943 := by
  refine gz_aload_n (pc := 943) F dL_law_943 rfl 1 rfl ?_
  refine gz_callVb (pc := 944) (n := 0) (As := []) (rest := []) (bytes := cX8_slot) (maxL := 1) (ret := some .int) F (ct_X8_slot l D cI cJ cZ a r h.1) gL_law_X8_slot rfl ⟨rfl, rfl⟩ (by decide +kernel) ⟨Nat.le_of_ble_eq_true rfl, Nat.le_of_ble_eq_true rfl⟩ rfl (MdW cI cZ b u) [OuC cJ o f] rfl 8 rfl rfl rfl (Nat.le_of_ble_eq_true rfl) ⟨by show cells ≤ 1139; omega, by show slots ≤ 13920; omega⟩ gz_pI_sh dL_law_944 ?_
  refine gz_kIb (ws := LwW cI cJ cZ a b o r u f) rfl (fun q hq => ?_)
  refine gz_aload_n (pc := 947) F dL_law_947 rfl 2 rfl ?_
  refine gz_callVb (pc := 948) (n := 0) (As := []) (rest := [vI q]) (bytes := cX9_slot) (maxL := 1) (ret := some .int) F (ct_X9_slot l D cI cJ cZ b u h.2.1) gL_law_X9_slot rfl ⟨rfl, rfl⟩ (by decide +kernel) ⟨Nat.le_of_ble_eq_true rfl, Nat.le_of_ble_eq_true rfl⟩ rfl [] (RiW cI cJ a r ++ [OuC cJ o f]) rfl 9 rfl rfl rfl (Nat.le_of_ble_eq_true rfl) ⟨by show cells ≤ 1139; omega, by show slots ≤ 13920; omega⟩ (gz_pV_sh (MdW_sh _ _)) dL_law_948 ?_
  refine gz_kVb (ws2 := LwW cI cJ cZ a b o r (Md_setTh u 0) f) rfl ?_
  have hs := st_slot h
  have hn := h.2.1.1
  have hs1 := hs.1
  exact gz_icmp_eq (pc := 951) (tgt := 1427) F dL_law_951 (by decide) (by omega) (by omega) (fun _ => gz_widen (Nat.le_add_right _ _) (Nat.le_add_right _ _) (kk r (Md_setTh u 0) f hs.2)) (fun q => absurd (hq.trans hs.1) q)

set_option maxHeartbeats 4000000 in
set_option maxRecDepth 100000 in
theorem law_k13 (hfl : l.stackTraces = false) (F : gF p s m args c cL_law 7 RL wsL_law D cI cJ cZ A) (FX : gFX l s A) (NC : gz_NC s) {bs L : Nat} {xs : Nat → Int32} (hX : va_X bs L xs s s.heap) (hbl : bs < s.heap.size) (hbA : ¬ A bs) (hL : L < 2147483648) {a b : Nat → Nat} {o : Nat} {r : RiS} {u : MdS} {f : Nat → Int64} {j : Nat} {i : Int} (h : RR j r u) (hj : j < 512) (hi : 0 ≤ i ∧ i + 5 ≤ (L : Int)) (hcs : cells + 1 ≤ 1139 ∧ slots + 6 ≤ 13920) (kk : ∀ (r2 : RiS) (u2 : MdS) (f2 : Nat → Int64), RR (j + 1) r2 u2 → gG p l e room_1 s m args below meth c D A 7 Q (cells + 1) (slots + 6) (LwW cI cJ cZ a b o r2 u2 f2) (lvS bs (a 0) (b 0) o i) [] 1427) : gG p l e room_1 s m args below meth c D A 7 Q cells slots (LwW cI cJ cZ a b o r u f) (lvS bs (a 0) (b 0) o i) [] 956 := by
  refine gz_aload_n (pc := 956) F dL_law_956 rfl 1 rfl ?_
  refine gz_arg (pc := 957) (k := 1) F hX hbl hbA ⟨by omega, by omega⟩ hL 0 4 rfl rfl dL_law_957 dL_law_958 dL_law_960 dL_law_961 dL_law_962 ?_
  refine gz_arg (pc := 963) (k := 2) F hX hbl hbA ⟨by omega, by omega⟩ hL 0 4 rfl rfl dL_law_963 dL_law_964 dL_law_966 dL_law_967 dL_law_968 ?_
  refine gz_aload_n (pc := 969) F dL_law_969 rfl 3 rfl ?_
  refine gz_callSY (pc := 970) (n := 4) (As := [.ref (a 0), vI (sv xs (i + 1)), vI (sv xs (i + 2)), .ref o]) (rest := []) (bytes := cL_meetingOf) (maxL := 5) (ret := some .int) (hh := [(0, 10, 13, 13), (0, 10, 17, 15)]) F FX NC (ctL_meetingOf l hfl D cI cJ cZ a r o f (sv xs (i + 1)) (sv xs (i + 2)) h.1 (sv_r _ _) (sv_r _ _)) gL_law_L_meetingOf rfl ⟨rfl, rfl⟩ (by decide +kernel) ⟨Nat.le_of_ble_eq_true rfl, Nat.le_of_ble_eq_true rfl⟩ rfl (MdW cI cZ b u) [] (by rw [List.append_nil]) rfl (Nat.le_of_ble_eq_true rfl) hcs (gz_pW_sh (RiO_sh _ _)) dL_law_970 (fun v W1 hv => ?_)
  obtain ⟨r1, f1, K, rfl, rfl, hK, hKr, h0, h1⟩ := pW_out gz_c2_r hv
  refine gz_eqw (ws2 := LwW cI cJ cZ a b o r1 u f1) (by rw [List.append_nil]) ?_
  refine gz_istore (pc := 973) (lv2 := (5, vI K) :: lvS bs (a 0) (b 0) o i) F dL_law_973 (by decide) rfl ?_
  refine gz_aload_n (pc := 975) F dL_law_975 rfl 3 rfl ?_
  refine gz_arg (pc := 976) (k := 1) F hX hbl hbA ⟨by omega, by omega⟩ hL 1 5 rfl rfl dL_law_976 dL_law_977 dL_law_979 dL_law_980 dL_law_981 ?_
  refine gz_arg (pc := 982) (k := 2) F hX hbl hbA ⟨by omega, by omega⟩ hL 1 5 rfl rfl dL_law_982 dL_law_983 dL_law_985 dL_law_986 dL_law_987 ?_
  refine gz_callVb (pc := 988) (n := 2) (As := [vI (sv xs (i + 1)), vI (sv xs (i + 2))]) (rest := []) (bytes := cX9_meetingOf) (maxL := 3) (ret := some .int) F (ct_X9_meetingOf l D cI cJ cZ b u (sv xs (i + 1)) (sv xs (i + 2)) h.2.1 (sv_r _ _) (sv_r _ _)) gL_law_X9_meetingOf rfl ⟨rfl, rfl⟩ (by decide +kernel) ⟨Nat.le_of_ble_eq_true rfl, Nat.le_of_ble_eq_true rfl⟩ rfl [] (RiW cI cJ a r1 ++ [OuC cJ o f1]) rfl 9 rfl rfl rfl (Nat.le_of_ble_eq_true rfl) hcs (gz_pK_sh (MdW_sh _ _) (fun k => MdW_sh _ _)) dL_law_988 (fun v W1 hv => ?_)
  obtain ⟨u3, B, rfl, rfl, hth, hR, hB⟩ := pK_out h (st_meetingOf h (sv xs (i + 1)) (sv xs (i + 2))) hK h0 h1 hv
  refine gz_istore (pc := 991) (lv2 := (6, vI B) :: (5, vI K) :: lvS bs (a 0) (b 0) o i) F dL_law_991 (by decide) rfl ?_
  refine gz_eqw (ws2 := LwW cI cJ cZ a b o r1 u3 f1) rfl ?_
  exact gz_tailI F 993 hR.2.1 hth hKr (fun q => (hB q).1) hcs dL_law_993 dL_law_994 dL_law_997 dL_law_999 dL_law_1004 dL_law_1006 dL_law_1009 dL_law_1010 dL_law_1011 dL_law_1012 dL_law_1014 dL_law_1015 dL_law_1016 dL_law_1021 (by decide) (kk r1 u3 f1 hR)
end GZKb
