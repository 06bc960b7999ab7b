/-! ===== the law's loop: its kit ===== -/
/-- the script's ints as whole numbers -/
abbrev sv (xs : Nat → Int32) (j : Int) : Int := (xs j.toNat).toInt
theorem sv_r (xs : Nat → Int32) (j : Int) : -2147483648 ≤ sv xs j ∧ sv xs j < 2147483648 := zI_rng _
theorem lg_cmp_same (x : Int64) : lg_cmp x x = zI 0 := by rw [zI_0]; exact (lg_cmp_eq x x).mpr rfl
theorem gz_c3_r (E : String) : 1 ≤ gz_c3 E ∧ gz_c3 E ≤ 3 := by unfold gz_c3; split <;> (try split) <;> decide
theorem gz_c2_r (E : String) : 1 ≤ gz_c2 E ∧ gz_c2 E ≤ 3 := by unfold gz_c2; split <;> decide
theorem gz_c1_r (E : String) : 1 ≤ gz_c1 E ∧ gz_c1 E ≤ 3 := by unfold gz_c1; split <;> decide
theorem MdW_sh {cI cZ : ClassId} {b : Nat → Nat} (u u2 : MdS) : (MdW cI cZ b u).map Prod.fst = (MdW cI cZ b u2).map Prod.fst := rfl
theorem RiO_sh {cI cJ : ClassId} {a : Nat → Nat} {o : Nat} {f f2 : Nat → Int64} (r r2 : RiS) : (RiW cI cJ a r ++ [OuC cJ o f]).map Prod.fst = (RiW cI cJ a r2 ++ [OuC cJ o f2]).map Prod.fst := by
  rw [List.map_append, List.map_append, RiW_sh r r2]
  rfl
theorem gz_pK_sh {ms : List (Prop × Int)} {v0 vz : Option Value} {W0 : Int → va_W} {W2 W : va_W} (h2 : W2.map Prod.fst = W.map Prod.fst) (h0 : ∀ k, (W0 k).map Prod.fst = W.map Prod.fst) : ∀ v W1, gz_pK ms v0 vz W0 W2 v W1 → W1.map Prod.fst = W.map Prod.fst := fun v W1 q => by
  obtain ⟨k, -, h3, h4⟩ := q
  by_cases hk : k = 0
  · rw [(h4 hk).2]; exact h2
  · rw [(h3 hk).2]; exact h0 k
/-- the law's world: the model, the class, the answer's row -/
abbrev LwW (cI cJ cZ : ClassId) (a b : Nat → Nat) (o : Nat) (r : RiS) (u : MdS) (f : Nat → Int64) : va_W := MdW cI cZ b u ++ (RiW cI cJ a r ++ [OuC cJ o f])
theorem LwW_out (cI cJ cZ : ClassId) (a b : Nat → Nat) (r : RiS) (u : MdS) (x : Nat × va_E) : (MdW cI cZ b u ++ (RiW cI cJ a r ++ [x]))[102]? = some x := rfl
/-! what a call of the class, and then one of the model, leave -/
theorem pW_out {cI cJ : ClassId} {a : Nat → Nat} {o : Nat} {f : Nat → Int64} {k : String → Int} {cs : List (Prop × String)} {r r2 : RiS} {x : Int64} {v : Option Value} {W1 : va_W} (hk : ∀ E, 1 ≤ k E ∧ k E ≤ 3) (h : gz_pW k cs (RiW cI cJ a r2 ++ [OuC cJ o (vp_updL f 0 x)]) (RiW cI cJ a r ++ [OuC cJ o f]) v W1) :
    ∃ (r1 : RiS) (f1 : Nat → Int64) (K : Int), v = some (vI K) ∧ W1 = RiW cI cJ a r1 ++ [OuC cJ o f1] ∧ K = gz_cd k cs ∧ (0 ≤ K ∧ K ≤ 3) ∧ (K = 0 → gz_ok cs ∧ r1 = r2 ∧ f1 0 = x) ∧ (K ≠ 0 → r1 = r) := by
  obtain ⟨hv, hW⟩ := h
  rcases hW with ⟨hok, hW⟩ | ⟨⟨E, hE⟩, hW⟩
  · have e := gz_cd_ok (c := k) hok
    exact ⟨r2, _, gz_cd k cs, hv, hW, rfl, by rw [e]; decide, fun _ => ⟨hok, rfl, pk_uLs⟩, fun q => absurd e q⟩
  · have e := gz_cd_px (c := k) hE
    have h2 := hk E
    exact ⟨r, f, gz_cd k cs, hv, hW, rfl, by omega, fun q => by omega, fun _ => rfl⟩
theorem pW_void {cI cJ : ClassId} {a : Nat → Nat} {k : String → Int} {cs : List (Prop × String)} {r r2 : RiS} {v : Option Value} {W1 : va_W} (hk : ∀ E, 1 ≤ k E ∧ k E ≤ 3) (h : gz_pW k cs (RiW cI cJ a r2) (RiW cI cJ a r) v W1) :
    ∃ (r1 : RiS) (K : Int), v = some (vI K) ∧ W1 = RiW cI cJ a r1 ∧ K = gz_cd k cs ∧ (0 ≤ K ∧ K ≤ 3) ∧ (K = 0 → gz_ok cs ∧ r1 = r2) ∧ (K ≠ 0 → r1 = r) := by
  obtain ⟨hv, hW⟩ := h
  rcases hW with ⟨hok, hW⟩ | ⟨⟨E, hE⟩, hW⟩
  · have e := gz_cd_ok (c := k) hok
    exact ⟨r2, gz_cd k cs, hv, hW, rfl, by rw [e]; decide, fun _ => ⟨hok, rfl⟩, fun q => absurd e q⟩
  · have e := gz_cd_px (c := k) hE
    have h2 := hk E
    exact ⟨r, gz_cd k cs, hv, hW, rfl, by omega, fun q => by omega, fun _ => rfl⟩
theorem pK_out {cI cZ : ClassId} {b : Nat → Nat} {j : Nat} {k : String → Int} {cs : List (Prop × String)} {ms : List (Prop × Int)} {V B K : Int} {r r1 r2 : RiS} {u u2 : MdS} {f1 : Nat → Int64} {v : Option Value} {W1 : va_W} (h : RR j r u) (hA : Agd j k cs ms (V = B) r2 u2) (hK : K = gz_cd k cs) (h0 : K = 0 → gz_ok cs ∧ r1 = r2 ∧ f1 0 = (zI V).toInt64) (h1 : K ≠ 0 → r1 = r)
    (hm : gz_pK ms (some (vI B)) (some (vI 0)) (fun k => MdW cI cZ b (Md_setTh u k)) (MdW cI cZ b u2) v W1) :
    ∃ (u3 : MdS) (B3 : Int), v = some (vI B3) ∧ W1 = MdW cI cZ b u3 ∧ Md_th u3 = K ∧ RR (j + 1) r1 u3 ∧ (K = 0 → f1 0 = (zI B3).toInt64 ∧ B3 = B) := by
  obtain ⟨K2, g1, g2, g3⟩ := hm
  have e : K2 = K := (gz_kx_cm g1).trans (hA.1.symm.trans hK.symm)
  subst e
  by_cases hz : K2 = 0
  · obtain ⟨k1, k2, k3⟩ := h0 hz
    obtain ⟨k4, k5⟩ := g3 hz
    obtain ⟨k6, k7, k8⟩ := hA.2 k1
    exact ⟨u2, B, k4, k5, k8.trans hz.symm, by rw [k2]; exact k7, fun _ => ⟨by rw [k3, k6], rfl⟩⟩
  · obtain ⟨k4, k5⟩ := g2 hz
    exact ⟨Md_setTh u K2, 0, k4, k5, rfl, by rw [h1 hz]; exact RR_th h K2, fun q => absurd q hz⟩
theorem pK_void {cI cZ : ClassId} {b : Nat → Nat} {j : Nat} {k : String → Int} {cs : List (Prop × String)} {ms : List (Prop × Int)} {K : Int} {r r1 r2 : RiS} {u u2 : MdS} {v : Option Value} {W1 : va_W} (h : RR j r u) (hA : Agd j k cs ms True r2 u2) (hK : K = gz_cd k cs) (h0 : K = 0 → gz_ok cs ∧ r1 = r2) (h1 : K ≠ 0 → r1 = r)
    (hm : gz_pK ms none none (fun k => MdW cI cZ b (Md_setTh u k)) (MdW cI cZ b u2) v W1) :
    ∃ (u3 : MdS), v = none ∧ W1 = MdW cI cZ b u3 ∧ Md_th u3 = K ∧ RR (j + 1) r1 u3 := by
  obtain ⟨K2, g1, g2, g3⟩ := hm
  have e : K2 = K := (gz_kx_cm g1).trans (hA.1.symm.trans hK.symm)
  subst e
  by_cases hz : K2 = 0
  · obtain ⟨k1, k2⟩ := h0 hz
    obtain ⟨k4, k5⟩ := g3 hz
    obtain ⟨k6, k7, k8⟩ := hA.2 k1
    exact ⟨u2, k4, k5, k8.trans hz.symm, by rw [k2]; exact k7⟩
  · obtain ⟨k4, k5⟩ := g2 hz
    exact ⟨Md_setTh u K2, k4, k5, rfl, by rw [h1 hz]; exact RR_th h K2⟩
section GZW
variable {p : Program} {l : Launch} {e : Env} {R : Room} {s : State} {m : MethodId} {args : Array Value} {below : List Frame} {meth : Method} {c : Code} {D : va_G} {A : Nat → Prop} {nL : Nat} {Q : State → Prop} {cells slots : Nat}
variable {cc : ByteArray} {own : String} {Ts : List Cond} {cI cJ cZ : ClassId} {ws : va_W} {lv : List (Nat × Value)} {st : List Value} {pc : Nat}
theorem gz_sld (F : gF p s m args c cc nL own Ts D cI cJ cZ A) {bs L : Nat} {xs : Nat → Int32} (hX : va_X bs L xs s s.heap) (hbl : bs < s.heap.size) (hbA : ¬ A bs) {j : Int} (hj : 0 ≤ j ∧ j < (L : Int)) (hL : L < 2147483648) (d : decode cc pc = .ok (.iaload, 1)) (kk : gG p l e R s m args below meth c D A nL Q cells slots ws lv (vI (sv xs j) :: st) (pc + 1)) : gG p l e R s m args below meth c D A nL Q cells slots ws lv (vI j :: .ref bs :: st) pc :=
  fun H locs ls hP hD hS hl => va_sld F.1 F.2.1 hX hbl hbA hS (zI_in hj hL) d (by
    rw [zI_cl ⟨by omega, by omega⟩, ← zI_of (xs j.toNat)]
    exact kk H locs ls hP hD hS hl)
theorem gz_slen (F : gF p s m args c cc nL own Ts D cI cJ cZ A) {bs L : Nat} {xs : Nat → Int32} (hX : va_X bs L xs s s.heap) (hbl : bs < s.heap.size) (hbA : ¬ A bs) (d : decode cc pc = .ok (.arraylength, 1)) (kk : gG p l e R s m args below meth c D A nL Q cells slots ws lv (vI (L : Int) :: st) (pc + 1)) : gG p l e R s m args below meth c D A nL Q cells slots ws lv (.ref bs :: st) pc :=
  fun H locs ls hP hD hS hl => va_slen F.1 F.2.1 hX hbl hbA hS d (by
    rw [show Int32.ofNat L = zI (L : Int) from (zI_nI L).symm]
    exact kk H locs ls hP hD hS hl)
/-- a place of the script behind the place i -/
theorem gz_arg (F : gF p s m args c cc nL own Ts D cI cJ cZ A) {bs L : Nat} {xs : Nat → Int32} (hX : va_X bs L xs s s.heap) (hbl : bs < s.heap.size) (hbA : ¬ A bs) {i k : Int} (hj : 0 ≤ i + k ∧ i + k < (L : Int)) (hL : L < 2147483648) (k0 k4 : Nat) (h0 : lv[k0]? = some (0, .ref bs)) (h4 : lv[k4]? = some (4, vI i)) (d0 : decode cc pc = .ok (.aload_n 0, 1)) (d1 : decode cc (pc + 1) = .ok (.iload 4, 2)) (d2 : decode cc (pc + 3) = .ok (.iconst k, 1)) (d3 : decode cc (pc + 4) = .ok (.iadd, 1)) (d4 : decode cc (pc + 5) = .ok (.iaload, 1))
    (kk : gG p l e R s m args below meth c D A nL Q cells slots ws lv (vI (sv xs (i + k)) :: st) (pc + 6)) : gG p l e R s m args below meth c D A nL Q cells slots ws lv st pc :=
  gz_aload_n F d0 rfl k0 h0 (gz_iload F d1 k4 h4 (gz_const F d2 (gz_iadd F d3 (gz_sld F hX hbl hbA hj hL d4 kk))))
end GZW
