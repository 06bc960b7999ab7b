/-! THE CLAIM OUT OF ONE WALK OF THE LAW'S BODY. Your part is whole_start (and what it stands on); all else here is the same for every law, but numbers. -/
def R_law : String := "RigdiaryLaw"
def lw_P (b : Addr) (xs : List Int32) (args : Array Value) (s : State) : Prop := args = #[.ref b] ∧ s.IntsAt b xs ∧ xs.length ≤ 2560 ∧ (Jvm.Cond.and given_1 narrow_1).before args s = true
def lw_Q (_ : Array Value) (s : State) (o : Outcome) (t : State) : Prop := o = .returned (some (.int 1)) ∧ Framed s o t [] 1139 13920
def lw_Z (below : List Frame) (a : Array Value) (s : State) : State → Prop := fun t => ∃ o, t.status = .running ∧ Ended t below o ∧ lw_Q a s o t
/-- the law's own end, with 1 on the stack, nothing written that was there before, its room as the claim has it -/
theorem lw_ret {p : Program} {l : Launch} {e : Env} {s : State} {m : MethodId} {below : List Frame} {meth : Method} {c : Code} {b : Nat} (hx : p.tables.exec = Jvm.exec) (hb : c.code = code) (hr : meth.sig.returnType = ret) (hlocks : meth.locks = false) {pc : Nat} {H : Heap} {ls : Array Slot} (hdg : decode code pc = .ok (.ireturn, 1)) : W p l e room_1 s m #[Value.ref b] below meth c H [] 1139 13920 (lw_Z below #[Value.ref b] s) (F0 m pc ls [.int 1]) := by
  intro T hT X
  obtain ⟨fs, hret, hrun, hended, hW, hframe⟩ := X.leave (v := some (.int 1)) (hlocks := hlocks) (fun h => by rw [hr] at h; cases h)
  have hmeth' : T.vm.method? m = some meth := X.method'
  refine ⟨T.setFrames fs, ?_, .returned (some (.int 1)), hrun, hended, rfl, ⟨_, rfl⟩, hW, hframe⟩
  jvm_step X.here [X.here.top, hx, hb, hdg, hmeth', hr, ret, narrow_b1]
  (try refine ⟨rfl, ?_⟩); (try refine ⟨rfl, ?_⟩)
  first | (intro acts; rw [hret _ acts rfl rfl rfl]) | rw [hret _ _ rfl rfl rfl]
  exact Steps.refl _
/-- what holds at the law's entry: the machine, the code, the tables' words (any of lw_tbl by 'hts w (by decide +kernel)'), the script of L ints xs at the cell b, what the Statement gives of the start (any of its parts by flat_of_before) -/
def lw_At (p : Program) (s : State) (m : MethodId) (meth : Method) (c : Code) (b L : Nat) (xs : Nat → Int32) : Prop :=
  p.tables.exec = Jvm.exec ∧ c.code = code ∧ meth.sig.returnType = ret ∧ c.maxLocals = 7 ∧ s.vm.findClass R_law = some m.cls ∧ (∀ w ∈ lw_tbl, w.before #[Value.ref b] s = true) ∧ va_X b L xs s s.heap ∧ b < s.heap.size ∧ meth.locks = false ∧ (Jvm.Cond.and given_1 narrow_1).before #[Value.ref b] s = true
set_option maxHeartbeats 4000000 in
set_option maxRecDepth 100000 in
theorem whole_start {p : Program} {e : Env} {s : State} {m : MethodId} {below : List Frame} {meth : Method} {c : Code} (l : Launch) (hflags : l.flags = flags0) {b L : Nat} {xs : Nat → Int32} (hL : L ≤ 2560) (C0 : lw_At p s m meth c b L xs) : W p l e room_1 s m #[Value.ref b] below meth c s.heap [] 0 0 (lw_Z below #[Value.ref b] s) (entryFrame m ([Value.ref b] : List Value).toArray 7) := by
  obtain ⟨hx, hb, hr, hml, hown, hts, hX, hbl, hlocks, hgv⟩ := id C0
  have hfl : l.stackTraces = false := by
    unfold Launch.stackTraces
    rw [hflags]
    decide
  have hgs := flat_of_before _ hgv
  have hts2 : ∀ w ∈ wsL_law, w.before #[Value.ref b] s = true := fun w h => hts w (wsL_law_in w h)
  obtain ⟨c0, i0, k0⟩ := u_known (C := RX0) (T := TX0) (N := 8) (n := 8) hts inX0 (hts _ tw_142)
  obtain ⟨c1, i1, k1⟩ := u_known (C := RX1) (T := TX1) (N := 1) (n := 1) hts inX1 (hts _ tw_90)
  obtain ⟨c2, i2, k2⟩ := u_known (C := RX2) (T := TX2) (N := 5) (n := 5) hts inX2 (hts _ tw_66)
  obtain ⟨c3, i3, k3⟩ := u_known (C := RX3) (T := TX3) (N := 6) (n := 6) hts inX3 (hts _ tw_32)
  obtain ⟨c4, i4, k4⟩ := u_known (C := RX4) (T := TX4) (N := 7) (n := 7) hts inX4 (hts _ tw_101)
  obtain ⟨c5, i5, k5⟩ := u_known (C := RX5) (T := TX5) (N := 6) (n := 6) hts inX5 (hts _ tw_26)
  obtain ⟨c6, i6, k6⟩ := u_known (C := RX6) (T := TX6) (N := 7) (n := 7) hts inX6 (hts _ tw_243)
  obtain ⟨c7, i7, k7⟩ := u_known (C := RX7) (T := TX7) (N := 7) (n := 7) hts inX7 (hts _ tw_208)
  obtain ⟨c8, i8, k8⟩ := u_known (C := RX8) (T := TX8) (N := 4) (n := 4) hts inX8 (hts _ tw_18)
  obtain ⟨c9, i9, k9⟩ := u_known (C := RX9) (T := TX9) (N := 35) (n := 35) hts inX9 (hts _ tw_777)
  obtain ⟨dC, dI, hKc⟩ : ∃ (dC : Nat → ClassId) (dI : Nat → Nat → Nat), ∀ (k : Nat) (q : vw_C), vwCl[k]? = some q → u_Kn s q.1 q.2.1 q.2.2 (dC k) (dI k) := by
    refine ⟨fun k => ([c0, c1, c2, c3, c4, c5, c6, c7, c8, c9] : List ClassId).getD k c0, fun k => ([i0, i1, i2, i3, i4, i5, i6, i7, i8, i9] : List (Nat → Nat)).getD k i0, ?_⟩
    intro k q hq
    match k, hq with
    | 0, hq => cases hq; exact k0
    | 1, hq => cases hq; exact k1
    | 2, hq => cases hq; exact k2
    | 3, hq => cases hq; exact k3
    | 4, hq => cases hq; exact k4
    | 5, hq => cases hq; exact k5
    | 6, hq => cases hq; exact k6
    | 7, hq => cases hq; exact k7
    | 8, hq => cases hq; exact k8
    | 9, hq => cases hq; exact k9
    | k + 10, hq => simp [vwCl] at hq
  obtain ⟨cI, aI1, aI2⟩ := arr_K (hts _ tw_64)
  obtain ⟨cJ, aJ1, aJ2⟩ := arr_K (hts _ tw_99)
  obtain ⟨cZ, aZ1, aZ2⟩ := arr_K (hts _ tw_888)
  have hK : va_K (dC, dI) vwCl (gz_tys cI cJ cZ) s := ⟨hKc, fun k q h => by
    match k, h with
    | 0, h => cases h; exact ⟨aI1, aI2⟩
    | 1, h => cases h; exact ⟨aJ1, aJ2⟩
    | 2, h => cases h; exact ⟨aZ1, aZ2⟩
    | k + 3, h => simp at h⟩
  have hN : gz_N s := by
    unfold gz_N gz_nest
    refine List.forall_mem_cons.mpr ⟨va_Nw.of rfl (hts _ tw_27), ?_⟩
    refine List.forall_mem_cons.mpr ⟨va_Nw.of rfl (hts _ tw_209), ?_⟩
    refine List.forall_mem_cons.mpr ⟨va_Nw.of rfl (hts _ tw_244), ?_⟩
    refine List.forall_mem_cons.mpr ⟨va_Nw.of rfl (hts _ tw_565), ?_⟩
    refine List.forall_mem_cons.mpr ⟨va_Nw.of rfl (hts _ tw_497), ?_⟩
    refine List.forall_mem_cons.mpr ⟨va_Nw.of rfl (hts _ tw_33), ?_⟩
    refine List.forall_mem_cons.mpr ⟨va_Nw.of rfl (hts _ tw_67), ?_⟩
    refine List.forall_mem_cons.mpr ⟨va_Nw.of rfl (hts _ tw_91), ?_⟩
    refine List.forall_mem_cons.mpr ⟨va_Nw.of rfl (hts _ tw_102), ?_⟩
    refine List.forall_mem_cons.mpr ⟨va_Nw.of rfl (hts _ tw_143), ?_⟩
    refine List.forall_mem_cons.mpr ⟨va_Nw.of rfl (hts _ tw_559), ?_⟩
    refine List.forall_mem_cons.mpr ⟨va_Nw.of rfl (hts _ tw_588), ?_⟩
    exact fun _ h => absurd h List.not_mem_nil
  have hB : gz_XB s := by
    refine ⟨?_, ?_, ?_⟩
    · unfold gz_decl
      refine List.forall_mem_cons.mpr ⟨va_Nw.of rfl (hts _ tw_311), ?_⟩
      refine List.forall_mem_cons.mpr ⟨va_Nw.of rfl (hts _ tw_313), ?_⟩
      refine List.forall_mem_cons.mpr ⟨va_Nw.of rfl (hts _ tw_315), ?_⟩
      exact fun _ h => absurd h List.not_mem_nil
    · unfold gz_exc
      refine List.forall_mem_cons.mpr ⟨va_Nw.of rfl (hts _ tw_309), ?_⟩
      refine List.forall_mem_cons.mpr ⟨va_Nw.of rfl (hts _ tw_380), ?_⟩
      refine List.forall_mem_cons.mpr ⟨va_Nw.of rfl (hts _ tw_399), ?_⟩
      exact fun _ h => absurd h List.not_mem_nil
    · unfold gz_strs
      refine List.forall_mem_cons.mpr ⟨str_R k8.2.1 (hts _ tw_604), ?_⟩
      refine List.forall_mem_cons.mpr ⟨str_R k8.2.1 (hts _ tw_710), ?_⟩
      refine List.forall_mem_cons.mpr ⟨str_R k8.2.1 (hts _ tw_725), ?_⟩
      refine List.forall_mem_cons.mpr ⟨str_R k8.2.1 (hts _ tw_768), ?_⟩
      refine List.forall_mem_cons.mpr ⟨str_R k8.2.1 (hts _ tw_387), ?_⟩
      refine List.forall_mem_cons.mpr ⟨str_R k8.2.1 (hts _ tw_536), ?_⟩
      refine List.forall_mem_cons.mpr ⟨str_R k8.2.1 (hts _ tw_406), ?_⟩
      refine List.forall_mem_cons.mpr ⟨str_R k8.2.1 (hts _ tw_348), ?_⟩
      refine List.forall_mem_cons.mpr ⟨str_R k8.2.1 (hts _ tw_515), ?_⟩
      refine List.forall_mem_cons.mpr ⟨str_R k8.2.1 (hts _ tw_578), ?_⟩
      refine List.forall_mem_cons.mpr ⟨str_R k8.2.1 (hts _ tw_620), ?_⟩
      refine List.forall_mem_cons.mpr ⟨str_R k8.2.1 (hts _ tw_658), ?_⟩
      exact fun _ h => absurd h List.not_mem_nil
  have hZ : gz_Z (fun q : Nat => s.heap.size ≤ q) s s.heap := ⟨vx_Zqof (hts _ tw_334) (hts _ tw_11) (hgs _ (by decide +kernel)) (fun a h => Nat.not_le.mpr h), vx_Zqof (hts _ tw_336) (hts _ tw_11) (hgs _ (by decide +kernel)) (fun a h => Nat.not_le.mpr h)⟩
  have hNC : gz_NC s := by
    unfold gz_NC gz_ncs
    refine List.forall_mem_cons.mpr ⟨va_Nc.of (hgs _ (by decide +kernel)), ?_⟩
    refine List.forall_mem_cons.mpr ⟨va_Nc.of (hgs _ (by decide +kernel)), ?_⟩
    refine List.forall_mem_cons.mpr ⟨va_Nc.of (hgs _ (by decide +kernel)), ?_⟩
    exact fun _ h => absurd h List.not_mem_nil
  have F : gF p s m #[Value.ref b] c cL_law 7 RL wsL_law (dC, dI) cI cJ cZ (fun q : Nat => s.heap.size ≤ q) := ⟨hx, hb, hml, hown, hts2, hK, hN, fun _ h => h⟩
  have FX : gFX l s (fun q : Nat => s.heap.size ≤ q) := ⟨hfl, hB, hZ⟩
  have kx : ∀ (cells slots : Nat) (ws : va_W) (lv : List (Nat × Value)), cells ≤ 1139 → slots ≤ 13920 → gG p l e room_1 s m #[Value.ref b] below meth c (dC, dI) (fun q : Nat => s.heap.size ≤ q) 7 (lw_Z below #[Value.ref b] s) cells slots ws lv [] 1433 := fun cells slots ws lv h1 h2 H locs ls hP hD hS hl =>
    lv_iconst (v := 1) hx hb dL_law_1433 (by decide) (va_forget (fun q hq => hS.2.2 q hq) (W.widen (k := 1139) (n := 13920) h1 h2 (lw_ret hx hb hr hlocks dL_law_1434)))
  suffices G : gG p l e room_1 s m #[Value.ref b] below meth c (dC, dI) (fun q : Nat => s.heap.size ≤ q) 7 (lw_Z below #[Value.ref b] s) 0 0 [] [(0, .ref b)] [] 0 by
    have hl := lv_entry ([.ref b]) (n := 7) (Nat.le_of_ble_eq_true rfl)
    rw [lg_entry_eq]
    exact G s.heap [] _ (fun k q h => by simp at h) ⟨fun i j p q h => by simp at h, fun k q h => by simp at h⟩ va_S.rf hl
  refine gz_new (pc := 0) F inlX8 tyX8 tyX8_ok lwn_0 lwn_1 lwn_2 8 rfl (fs := [.null, .null, .null, .null]) (fun j hj => by rcases (show j = 0 ∨ j = 1 ∨ j = 2 ∨ j = 3 by omega) with rfl | rfl | rfl | rfl <;> rfl) ⟨Nat.le_of_ble_eq_true rfl, Nat.le_of_ble_eq_true rfl⟩ dL_law_0 (fun qx => ?_)
  refine gz_dup (pc := 3) F dL_law_3 rfl ?_
  refine gz_callCI (pc := 4) (rest := [.ref qx]) (bytes := cX8_init) (maxL := 1) F (cC_X8 l (dC, dI) cI cJ cZ qx) gL_law_X8_init rfl ⟨rfl, rfl⟩ lwn_7 lwn_2 lwn_8 rfl (by decide +kernel) ⟨Nat.le_of_ble_eq_true rfl, Nat.le_of_ble_eq_true rfl⟩ [] rfl (Nat.le_of_ble_eq_true rfl) ⟨Nat.le_of_ble_eq_true rfl, Nat.le_of_ble_eq_true rfl⟩ dL_law_4 (fun a ha => ?_)
  refine gz_eqw (ws2 := RiW cI cJ a Ri0) rfl ?_
  refine gz_astore_n (pc := 7) (lv2 := [(1, .ref qx), (0, .ref b)]) F dL_law_7 rfl (by decide) rfl ?_
  refine gz_new (pc := 8) F inlX9 tyX9 tyX9_ok lwn_3 lwn_4 lwn_5 9 rfl (fs := [vI 0, vI 0, .null, vI 0, .null, .null, .null, .null, vI 0, .null, .null, .null, .null, vI 0, .null, .null, .null, .null, .null, .null, vI 0, .null, .null, .null, .null, .null, .null, vI 0, .null, .null, .null, .null, .null, .null, .null]) (fun j hj => by rcases (show j = 0 ∨ j = 1 ∨ j = 2 ∨ j = 3 ∨ j = 4 ∨ j = 5 ∨ j = 6 ∨ j = 7 ∨ j = 8 ∨ j = 9 ∨ j = 10 ∨ j = 11 ∨ j = 12 ∨ j = 13 ∨ j = 14 ∨ j = 15 ∨ j = 16 ∨ j = 17 ∨ j = 18 ∨ j = 19 ∨ j = 20 ∨ j = 21 ∨ j = 22 ∨ j = 23 ∨ j = 24 ∨ j = 25 ∨ j = 26 ∨ j = 27 ∨ j = 28 ∨ j = 29 ∨ j = 30 ∨ j = 31 ∨ j = 32 ∨ j = 33 ∨ j = 34 by omega) with rfl | rfl | rfl | rfl | rfl | rfl | rfl | rfl | rfl | rfl | rfl | rfl | rfl | rfl | rfl | rfl | rfl | rfl | rfl | rfl | rfl | rfl | rfl | rfl | rfl | rfl | rfl | rfl | rfl | rfl | rfl | rfl | rfl | rfl | rfl <;> rfl) ⟨Nat.le_of_ble_eq_true rfl, Nat.le_of_ble_eq_true rfl⟩ dL_law_8 (fun qm => ?_)
  refine gz_dup (pc := 11) F dL_law_11 rfl ?_
  refine gz_callCI (pc := 12) (rest := [.ref qm]) (bytes := cX9_init) (maxL := 1) F (cC_X9 l (dC, dI) cI cJ cZ qm) gL_law_X9_init rfl ⟨rfl, rfl⟩ lwn_113 lwn_5 lwn_114 rfl (by decide +kernel) ⟨Nat.le_of_ble_eq_true rfl, Nat.le_of_ble_eq_true rfl⟩ (RiW cI cJ a Ri0) rfl (Nat.le_of_ble_eq_true rfl) ⟨Nat.le_of_ble_eq_true rfl, Nat.le_of_ble_eq_true rfl⟩ dL_law_12 (fun bm hbm => ?_)
  refine gz_astore_n (pc := 15) (lv2 := [(2, .ref qm), (1, .ref qx), (0, .ref b)]) F dL_law_15 rfl (by decide) rfl ?_
  refine gz_const (pc := 16) F dL_law_16 ?_
  refine gz_newJ (pc := 17) F 1 lwn_6 (by decide) ⟨Nat.le_of_ble_eq_true rfl, Nat.le_of_ble_eq_true rfl⟩ dL_law_17 (fun qo => ?_)
  refine gz_astore_n (pc := 19) (lv2 := [(3, .ref qo), (2, .ref qm), (1, .ref qx), (0, .ref b)]) F dL_law_19 rfl (by decide) rfl ?_
  refine gz_const (pc := 20) F dL_law_20 ?_
  refine gz_istore (pc := 21) (lv2 := [(4, vI 0), (3, .ref qo), (2, .ref qm), (1, .ref qx), (0, .ref b)]) F dL_law_21 (by decide) rfl ?_
  refine gz_rot ?_
  rw [← ha, ← hbm]
  refine gz_lv (lv2 := lvS b (a 0) (bm 0) qo 0) [4, 3, 2, 1, 0] rfl ?_
  exact law_loop hfl F FX hNC hX hbl (Nat.not_le.mpr hbl) hL (c0 := 103) (s0 := 5656) (by decide) (by decide) kx 512 0 0 Ri0 Md0 _ (by decide) (by decide) (by decide) RR_0
