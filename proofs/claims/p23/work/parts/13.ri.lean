/-! ===== the class whole: the plan, the plan once more, what was told, the swaps ===== -/
abbrev RiS : Type := PlS × PlS × ToS × SwS
abbrev Ri_P (r : RiS) : PlS := r.1
abbrev Ri_A (r : RiS) : PlS := r.2.1
abbrev Ri_T (r : RiS) : ToS := r.2.2.1
abbrev Ri_S (r : RiS) : SwS := r.2.2.2
abbrev RiO (a : Nat → Nat) : Nat × va_E := (a 0, .inr (8, [.ref (a 1), .ref (a 30), .ref (a 59), .ref (a 66)]))
def RiW (cI cJ : ClassId) (a : Nat → Nat) (r : RiS) : va_W := RiO a :: (PlW cI cJ (fun i => a (i + 1)) (Ri_P r) ++ (PlW cI cJ (fun i => a (i + 30)) (Ri_A r) ++ (ToW cI (fun i => a (i + 59)) (Ri_T r) ++ SwW cI (fun i => a (i + 66)) (Ri_S r))))
def RiI (r : RiS) : Prop := PlI (Ri_P r) ∧ PlI (Ri_A r) ∧ ToI (Ri_T r) ∧ SwI (Ri_S r)
theorem RiW_P (cI cJ : ClassId) (a : Nat → Nat) (P A : PlS) (T : ToS) (S : SwS) : RiW cI cJ a (P, A, T, S) = [RiO a] ++ (PlW cI cJ (fun i => a (i + 1)) P ++ (PlW cI cJ (fun i => a (i + 30)) A ++ (ToW cI (fun i => a (i + 59)) T ++ SwW cI (fun i => a (i + 66)) S))) := rfl
theorem RiW_A (cI cJ : ClassId) (a : Nat → Nat) (P A : PlS) (T : ToS) (S : SwS) : RiW cI cJ a (P, A, T, S) = (RiO a :: PlW cI cJ (fun i => a (i + 1)) P) ++ (PlW cI cJ (fun i => a (i + 30)) A ++ (ToW cI (fun i => a (i + 59)) T ++ SwW cI (fun i => a (i + 66)) S)) := rfl
theorem RiW_T (cI cJ : ClassId) (a : Nat → Nat) (P A : PlS) (T : ToS) (S : SwS) : RiW cI cJ a (P, A, T, S) = (RiO a :: (PlW cI cJ (fun i => a (i + 1)) P ++ PlW cI cJ (fun i => a (i + 30)) A)) ++ (ToW cI (fun i => a (i + 59)) T ++ SwW cI (fun i => a (i + 66)) S) := by
  rw [List.cons_append, List.append_assoc]
  rfl
theorem RiW_S (cI cJ : ClassId) (a : Nat → Nat) (P A : PlS) (T : ToS) (S : SwS) : RiW cI cJ a (P, A, T, S) = (RiO a :: (PlW cI cJ (fun i => a (i + 1)) P ++ (PlW cI cJ (fun i => a (i + 30)) A ++ ToW cI (fun i => a (i + 59)) T))) ++ (SwW cI (fun i => a (i + 66)) S ++ []) := by
  rw [List.cons_append, List.append_assoc, List.append_assoc, List.append_nil]
  rfl
/-- what is told is taken by the plan, and kept -/
def Ri_tell (r : RiS) (k x y z w : Int) : RiS := (Pl_take (Ri_P r) k x y z w, Ri_A r, To_note (Ri_T r) k (Pl_now (Ri_P r)) x y z w, Ri_S r)
/-- the first k things told, taken once more -/
noncomputable def Pl_rep (T : ToS) (u : PlS) : Nat → PlS
  | 0 => u
  | k + 1 => Pl_take (Pl_pass (Pl_rep T u k) (To_at T (k : Int))) (To_ki T (k : Int)) (To_a T (k : Int)) (To_b T (k : Int)) (To_c T (k : Int)) (To_d T (k : Int))
noncomputable def Pl_anew (T : ToS) (u : PlS) (t : Int) : PlS := Pl_pass (Pl_rep T (Pl_clear u) (To_n T).toNat) t
theorem Pl_rep_s {T : ToS} {u v : PlS} {k : Int} (hk : 0 ≤ k) (h : v = Pl_rep T u k.toNat) : Pl_take (Pl_pass v (To_at T k)) (To_ki T k) (To_a T k) (To_b T k) (To_c T k) (To_d T k) = Pl_rep T u (k + 1).toNat := by
  rw [show (k + 1).toNat = k.toNat + 1 by omega]
  show _ = Pl_take _ _ _ _ _ _
  rw [h, Int.toNat_of_nonneg hk]
theorem Pl_pass_I {u : PlS} (hu : PlI u) (t : Int) : PlI (Pl_pass u t) := by
  have h : ∀ (n : Nat) (u : PlS), PlI u → Pl_now u + n ≤ 400 → PlI (Pl_iter n u) := by
    intro n
    induction n with
    | zero => intro u hu _; exact hu
    | succ n ih =>
      intro u hu h
      have h2 := Pl_step_I hu (by omega)
      exact ih _ h2.1 (by rw [h2.2]; omega)
  have h3 := hu.2.2.2.2.2
  exact h _ u hu (by omega)
theorem Pl_clear_I {u : PlS} (hu : PlI u) : PlI (Pl_clear u) := ⟨⟨(show (0:Int) ≤ 0 ∧ (0:Int) ≤ 6 by decide), hu.1.2⟩, ⟨(show (0:Int) ≤ 0 ∧ (0:Int) ≤ 20 by decide), hu.2.1.2⟩, Lv_clear_I hu.2.2.1, ⟨(show (0:Int) ≤ 0 ∧ (0:Int) ≤ 30 by decide), hu.2.2.2.1.2⟩, ⟨(show (0:Int) ≤ 0 ∧ (0:Int) ≤ 40 by decide), hu.2.2.2.2.1.2⟩, (show (0:Int) ≤ 0 ∧ (0:Int) ≤ 400 by decide)⟩
theorem To_note_I {u : ToS} {k t x y z w : Int} (hu : ToI u) (h1 : 0 ≤ k ∧ k ≤ 9) (h2 : 0 ≤ t ∧ t ≤ 400) (hx : zR2 x) (hy : zR0 y) (hz : zR0 z) (hw : zR w) : ToI (To_note u k t x y z w) := by
  unfold To_note
  split
  · exact ⟨⟨by have h := hu.1; show 0 ≤ To_n u + 1; omega, by show To_n u + 1 ≤ 512; omega⟩, fun j => ⟨zU_all (P := fun y => 0 ≤ y ∧ y ≤ 9) (fun k => (hu.2 k).1) h1 j, zU_all (P := fun y => 0 ≤ y ∧ y ≤ 400) (fun k => (hu.2 k).2.1) h2 j, zU_all (P := zR2) (fun k => (hu.2 k).2.2.1) hx j, zU_all (P := zR0) (fun k => (hu.2 k).2.2.2.1) hy j, zU_all (P := zR0) (fun k => (hu.2 k).2.2.2.2.1) hz j, zU_all (P := zR) (fun k => (hu.2 k).2.2.2.2.2) hw j⟩⟩
  · exact hu
theorem Ri_tell_I {r : RiS} {k x y z w : Int} (hr : RiI r) (h1 : 0 ≤ k ∧ k ≤ 9) (hx : zR2 x) (hy : zR0 y) (hz : zR0 z) (hw : zR w) : RiI (Ri_tell r k x y z w) := ⟨Pl_take_I hr.1 hx hy hz hw, hr.2.1, To_note_I hr.2.2.1 h1 hr.1.2.2.2.2.2 hx hy hz hw, hr.2.2.2⟩
theorem Pl_anew_I {T : ToS} {u : PlS} (hT : ToI T) (hu : PlI u) (t : Int) : PlI (Pl_anew T u t) := by
  have h : ∀ n : Nat, PlI (Pl_rep T (Pl_clear u) n) := by
    intro n
    induction n with
    | zero => exact Pl_clear_I hu
    | succ n ih =>
      have h2 := hT.2 (n : Int)
      exact Pl_take_I (Pl_pass_I ih _) h2.2.2.1 h2.2.2.2.1 h2.2.2.2.2.1 h2.2.2.2.2.2
  exact Pl_pass_I (h _) t
/-! which exception: the conditions in their order -/
def gz_px : List (Prop × String) → String → Prop
  | [], _ => False
  | q :: r, E => (q.1 ∧ E = q.2) ∨ (¬ q.1 ∧ gz_px r E)
def gz_ok : List (Prop × String) → Prop
  | [] => True
  | q :: r => ¬ q.1 ∧ gz_ok r
abbrev xIO : String := "java/lang/IndexOutOfBoundsException"
abbrev xIA : String := "java/lang/IllegalArgumentException"
abbrev xIS : String := "java/lang/IllegalStateException"
theorem gx_bad_IA : ∀ w ∈ (vx_atS RX8 116 xIA gz_names).filter (fun w => !goodWord w), w ∈ gz_bad xIA := by decide +kernel
theorem gx_bad_IS : ∀ w ∈ (vx_atS RX8 230 xIS gz_names).filter (fun w => !goodWord w), w ∈ gz_bad xIS := by decide +kernel
theorem gx_bad_IO : ∀ w ∈ (vx_atS RX8 212 xIO gz_names).filter (fun w => !goodWord w), w ∈ gz_bad xIO := by decide +kernel
theorem gx_ot_IA : ∀ w ∈ Cond.classLink RX8 112 xIA :: Cond.initialized xIA :: vx_atS RX8 116 xIA gz_names, vx_ot w = true := by decide +kernel
theorem gx_ot_IS : ∀ w ∈ Cond.classLink RX8 226 xIS :: Cond.initialized xIS :: vx_atS RX8 230 xIS gz_names, vx_ot w = true := by decide +kernel
theorem gx_ot_IO : ∀ w ∈ Cond.classLink RX8 208 xIO :: Cond.initialized xIO :: vx_atS RX8 212 xIO gz_names, vx_ot w = true := by decide +kernel
def Ri_holds (r : RiS) (k : Int) : Prop := Pl_ahead (Ri_P r) (Sw_me (Ri_S r) k) ∧ Pl_ahead (Ri_P r) (Sw_ot (Ri_S r) k) ∧ zI (Mt_mv (Pl_mt (Ri_P r)) (Sw_me (Ri_S r) k)) = zI (Sw_mm (Ri_S r) k) ∧ zI (Mt_mv (Pl_mt (Ri_P r)) (Sw_ot (Ri_S r) k)) = zI (Sw_om (Ri_S r) k)
abbrev Sw_setSt (u : SwS) (f : Int → Int) : SwS := (Sw_n u, Sw_me u, Sw_mm u, Sw_ot u, Sw_om u, Sw_ag u, f)
