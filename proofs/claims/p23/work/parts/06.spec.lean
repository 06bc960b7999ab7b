/-! ===== what a state of the class is: tuples of whole numbers and of functions ===== -/
abbrev McS : Type := Int × (Int → Int) × (Int → Int) × (Int → Int) × (Int → Int) × (Int → Int)
abbrev LoS : Type := Int × (Int → Int) × (Int → Int) × (Int → Int) × (Int → Int)
abbrev LvS : Type := Int → Nat
abbrev MtS : Type := Int × (Int → Int) × (Int → Int) × (Int → Int) × (Int → Int) × (Int → Int) × (Int → Int)
abbrev BuS : Type := Int × (Int → Int) × (Int → Int) × (Int → Int) × (Int → Int) × (Int → Int) × (Int → Int) × (Int → Int)
abbrev SwS : Type := Int × (Int → Int) × (Int → Int) × (Int → Int) × (Int → Int) × (Int → Int) × (Int → Int)
abbrev ToS : Type := Int × (Int → Int) × (Int → Int) × (Int → Int) × (Int → Int) × (Int → Int) × (Int → Int)
abbrev PlS : Type := McS × LoS × LvS × MtS × BuS × Int
-- machines: how many, features, owner, broken from, the first slot behind, what runs
abbrev Mc_n (u : McS) : Int := u.1
abbrev Mc_fe (u : McS) : Int → Int := u.2.1
abbrev Mc_ow (u : McS) : Int → Int := u.2.2.1
abbrev Mc_bf (u : McS) : Int → Int := u.2.2.2.1
abbrev Mc_bu (u : McS) : Int → Int := u.2.2.2.2.1
abbrev Mc_ru (u : McS) : Int → Int := u.2.2.2.2.2
-- loans
abbrev Lo_n (u : LoS) : Int := u.1
abbrev Lo_ma (u : LoS) : Int → Int := u.2.1
abbrev Lo_pe (u : LoS) : Int → Int := u.2.2.1
abbrev Lo_fr (u : LoS) : Int → Int := u.2.2.2.1
abbrev Lo_to (u : LoS) : Int → Int := u.2.2.2.2
abbrev Lv_dy (u : LvS) : Int → Nat := u
-- meetings: how many, people, slot, length, machine, state, moves
abbrev Mt_n (u : MtS) : Int := u.1
abbrev Mt_pe (u : MtS) : Int → Int := u.2.1
abbrev Mt_sl (u : MtS) : Int → Int := u.2.2.1
abbrev Mt_ln (u : MtS) : Int → Int := u.2.2.2.1
abbrev Mt_ma (u : MtS) : Int → Int := u.2.2.2.2.1
abbrev Mt_st (u : MtS) : Int → Int := u.2.2.2.2.2.1
abbrev Mt_mv (u : MtS) : Int → Int := u.2.2.2.2.2.2
-- builds: how many, needs, urgency, length, state, machine, began, times
abbrev Bu_n (u : BuS) : Int := u.1
abbrev Bu_ne (u : BuS) : Int → Int := u.2.1
abbrev Bu_ur (u : BuS) : Int → Int := u.2.2.1
abbrev Bu_ln (u : BuS) : Int → Int := u.2.2.2.1
abbrev Bu_st (u : BuS) : Int → Int := u.2.2.2.2.1
abbrev Bu_ma (u : BuS) : Int → Int := u.2.2.2.2.2.1
abbrev Bu_bg (u : BuS) : Int → Int := u.2.2.2.2.2.2.1
abbrev Bu_ti (u : BuS) : Int → Int := u.2.2.2.2.2.2.2
-- swaps: how many, meeting, its moves, other, its moves, agreed, state
abbrev Sw_n (u : SwS) : Int := u.1
abbrev Sw_me (u : SwS) : Int → Int := u.2.1
abbrev Sw_mm (u : SwS) : Int → Int := u.2.2.1
abbrev Sw_ot (u : SwS) : Int → Int := u.2.2.2.1
abbrev Sw_om (u : SwS) : Int → Int := u.2.2.2.2.1
abbrev Sw_ag (u : SwS) : Int → Int := u.2.2.2.2.2.1
abbrev Sw_st (u : SwS) : Int → Int := u.2.2.2.2.2.2
-- what was told
abbrev To_n (u : ToS) : Int := u.1
abbrev To_ki (u : ToS) : Int → Int := u.2.1
abbrev To_at (u : ToS) : Int → Int := u.2.2.1
abbrev To_a (u : ToS) : Int → Int := u.2.2.2.1
abbrev To_b (u : ToS) : Int → Int := u.2.2.2.2.1
abbrev To_c (u : ToS) : Int → Int := u.2.2.2.2.2.1
abbrev To_d (u : ToS) : Int → Int := u.2.2.2.2.2.2
-- a plan
abbrev Pl_mc (u : PlS) : McS := u.1
abbrev Pl_lo (u : PlS) : LoS := u.2.1
abbrev Pl_lv (u : PlS) : LvS := u.2.2.1
abbrev Pl_mt (u : PlS) : MtS := u.2.2.2.1
abbrev Pl_bu (u : PlS) : BuS := u.2.2.2.2.1
abbrev Pl_now (u : PlS) : Int := u.2.2.2.2.2
/-! its cells -/
abbrev aI (cI : ClassId) (n : Nat) (f : Int → Int) : va_E := .inl (cI, n, .inl (zA f))
def zB (f : Int → Nat) : Nat → Int64 := fun k => lN (f (k : Int))
def McW (cI : ClassId) (a : Nat → Nat) (u : McS) : va_W := [(a 0, .inr (3, [.ref (a 1), .ref (a 2), .ref (a 3), .ref (a 4), .ref (a 5), vI (Mc_n u)])), (a 1, aI cI 6 (Mc_fe u)), (a 2, aI cI 6 (Mc_ow u)), (a 3, aI cI 6 (Mc_bf u)), (a 4, aI cI 6 (Mc_bu u)), (a 5, aI cI 6 (Mc_ru u))]
def LoW (cI : ClassId) (a : Nat → Nat) (u : LoS) : va_W := [(a 0, .inr (2, [.ref (a 1), .ref (a 2), .ref (a 3), .ref (a 4), vI (Lo_n u)])), (a 1, aI cI 20 (Lo_ma u)), (a 2, aI cI 20 (Lo_pe u)), (a 3, aI cI 20 (Lo_fr u)), (a 4, aI cI 20 (Lo_to u))]
def LvW (cJ : ClassId) (a : Nat → Nat) (u : LvS) : va_W := [(a 0, .inr (1, [.ref (a 1)])), (a 1, .inl (cJ, 10, .inr (.inl (zB u))))]
def MtW (cI : ClassId) (a : Nat → Nat) (u : MtS) : va_W := [(a 0, .inr (4, [.ref (a 1), .ref (a 2), .ref (a 3), .ref (a 4), .ref (a 5), .ref (a 6), vI (Mt_n u)])), (a 1, aI cI 30 (Mt_pe u)), (a 2, aI cI 30 (Mt_sl u)), (a 3, aI cI 30 (Mt_ln u)), (a 4, aI cI 30 (Mt_ma u)), (a 5, aI cI 30 (Mt_st u)), (a 6, aI cI 30 (Mt_mv u))]
def BuW (cI : ClassId) (a : Nat → Nat) (u : BuS) : va_W := [(a 0, .inr (0, [.ref (a 1), .ref (a 2), .ref (a 3), .ref (a 4), .ref (a 5), .ref (a 6), .ref (a 7), vI (Bu_n u)])), (a 1, aI cI 40 (Bu_ne u)), (a 2, aI cI 40 (Bu_ur u)), (a 3, aI cI 40 (Bu_ln u)), (a 4, aI cI 40 (Bu_st u)), (a 5, aI cI 40 (Bu_ma u)), (a 6, aI cI 40 (Bu_bg u)), (a 7, aI cI 40 (Bu_ti u))]
def SwW (cI : ClassId) (a : Nat → Nat) (u : SwS) : va_W := [(a 0, .inr (6, [.ref (a 1), .ref (a 2), .ref (a 3), .ref (a 4), .ref (a 5), .ref (a 6), vI (Sw_n u)])), (a 1, aI cI 20 (Sw_me u)), (a 2, aI cI 20 (Sw_mm u)), (a 3, aI cI 20 (Sw_ot u)), (a 4, aI cI 20 (Sw_om u)), (a 5, aI cI 20 (Sw_ag u)), (a 6, aI cI 20 (Sw_st u))]
def ToW (cI : ClassId) (a : Nat → Nat) (u : ToS) : va_W := [(a 0, .inr (7, [.ref (a 1), .ref (a 2), .ref (a 3), .ref (a 4), .ref (a 5), .ref (a 6), vI (To_n u)])), (a 1, aI cI 512 (To_ki u)), (a 2, aI cI 512 (To_at u)), (a 3, aI cI 512 (To_a u)), (a 4, aI cI 512 (To_b u)), (a 5, aI cI 512 (To_c u)), (a 6, aI cI 512 (To_d u))]
def PlW (cI cJ : ClassId) (a : Nat → Nat) (u : PlS) : va_W := (a 0, .inr (5, [.ref (a 1), .ref (a 7), .ref (a 12), .ref (a 14), .ref (a 21), vI (Pl_now u)])) :: (McW cI (fun i => a (i + 1)) (Pl_mc u) ++ (LoW cI (fun i => a (i + 7)) (Pl_lo u) ++ (LvW cJ (fun i => a (i + 12)) (Pl_lv u) ++ (MtW cI (fun i => a (i + 14)) (Pl_mt u) ++ BuW cI (fun i => a (i + 21)) (Pl_bu u)))))
/-! the room of its numbers -/
abbrev zR (x : Int) : Prop := -1 ≤ x ∧ x ≤ 511
abbrev zR0 (x : Int) : Prop := 0 ≤ x ∧ x ≤ 511
abbrev zR2 (x : Int) : Prop := 0 ≤ x ∧ x ≤ 1023
def McI (u : McS) : Prop := (0 ≤ Mc_n u ∧ Mc_n u ≤ 6) ∧ ∀ k, zR2 (Mc_fe u k) ∧ zR (Mc_ow u k) ∧ zR0 (Mc_bf u k) ∧ zR2 (Mc_bu u k) ∧ (-1 ≤ Mc_ru u k ∧ Mc_ru u k ≤ 40)
def LoI (u : LoS) : Prop := (0 ≤ Lo_n u ∧ Lo_n u ≤ 20) ∧ ∀ k, zR2 (Lo_ma u k) ∧ zR (Lo_pe u k) ∧ zR (Lo_fr u k) ∧ zR (Lo_to u k)
def LvI (u : LvS) : Prop := ∀ k, u k < 2 ^ 50
def MtI (u : MtS) : Prop := (0 ≤ Mt_n u ∧ Mt_n u ≤ 30) ∧ ∀ k, zR2 (Mt_pe u k) ∧ zR0 (Mt_sl u k) ∧ zR0 (Mt_ln u k) ∧ zR (Mt_ma u k) ∧ (0 ≤ Mt_st u k ∧ Mt_st u k ≤ 2)
def BuI (u : BuS) : Prop := (0 ≤ Bu_n u ∧ Bu_n u ≤ 40) ∧ ∀ k, zR2 (Bu_ne u k) ∧ zR (Bu_ur u k) ∧ zR0 (Bu_ln u k) ∧ (0 ≤ Bu_st u k ∧ Bu_st u k ≤ 2) ∧ zR (Bu_ma u k) ∧ zR (Bu_bg u k)
def PlI (u : PlS) : Prop := McI (Pl_mc u) ∧ LoI (Pl_lo u) ∧ LvI (Pl_lv u) ∧ MtI (Pl_mt u) ∧ BuI (Pl_bu u) ∧ (0 ≤ Pl_now u ∧ Pl_now u ≤ 400)
/-! what is asked of it -/
abbrev ovl (s1 l1 s2 l2 : Int) : Prop := s1 < s2 + l2 ∧ s2 < s1 + l1
abbrev bit (x : Int) (p : Nat) : Prop := x.toNat.testBit p = true
def Mt_at (u : MtS) (k s l : Int) : Prop := Mt_st u k = 0 ∧ ovl (Mt_sl u k) (Mt_ln u k) s l
def Mt_busy (u : MtS) (n : Int) (q : Nat) (s l ex : Int) : Prop := ∃ k : Int, 0 ≤ k ∧ k < n ∧ k ≠ ex ∧ bit (Mt_pe u k) q ∧ Mt_at u k s l
def Mt_prom (u : MtS) (n : Int) (m s l ex : Int) : Prop := ∃ k : Int, 0 ≤ k ∧ k < n ∧ k ≠ ex ∧ Mt_ma u k = m ∧ Mt_at u k s l
/-- an or of two ints that aren't below 0 -/
def zor (x y : Int) : Int := ((x.toNat ||| y.toNat : Nat) : Int)
def zand (x y : Int) : Int := ((x.toNat &&& y.toNat : Nat) : Int)
