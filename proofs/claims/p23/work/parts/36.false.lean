/-! ===== the claim is false: its room is too small for its own law; laid by wip/p23/gen/false23.py ===== -/
/-- so many different numbers between lo and hi -/
theorem nd_len : ∀ (hi lo : Nat) (l : List Nat), l.Nodup → (∀ x ∈ l, lo ≤ x ∧ x < hi) → l.length ≤ hi - lo
  | 0, lo, l, hn, h => by
    cases l with
    | nil => simp
    | cons x t =>
      have h1 := h x List.mem_cons_self
      omega
  | hi + 1, lo, l, hn, h => by
    have h1 : (l.erase hi).Nodup := hn.erase hi
    have h2 : ∀ x ∈ l.erase hi, lo ≤ x ∧ x < hi := fun x hx => by
      have h3 := hn.mem_erase_iff.mp hx
      have h4 := h x h3.2
      have h5 := h3.1
      omega
    have h3 := nd_len hi lo (l.erase hi) h1 h2
    by_cases hm : hi ∈ l
    · have h4 := List.length_erase_of_mem hm
      have h5 := h hi hm
      have h6 := List.length_pos_of_mem hm
      omega
    · rw [List.erase_of_not_mem hm] at h3
      omega
section GHF
variable {p : Program} {l : Launch} {e : Env} {s : State} {m : MethodId} {args : Array Value} {below : List Frame} {meth : Method} {c : Code} {D : va_G} {A : Nat → Prop} {Q : State → Prop} {R : Room} {nL cells slots : Nat}
variable {cI cJ cZ : ClassId}
variable {ws : va_W} {lv : List (Nat × Value)} {st : List Value} {pc : Nat}
/-- a world of n cells that weren't there: so much the heap has grown -/
theorem gh_count {n : Nat} (hn : ws.length = n) (hA2 : ∀ q, A q → s.heap.size ≤ q) (k : gH n p l e R s m args below meth c D A nL Q cells slots ws lv st pc) : gG p l e R s m args below meth c D A nL Q cells slots ws lv st pc := by
  intro H locs ls hP hD hS hl
  have h1 : (ws.map Prod.fst).Nodup := by
    refine List.pairwise_iff_getElem.mpr (fun i j hi hj hij he => ?_)
    rw [List.length_map] at hi hj
    rw [List.getElem_map, List.getElem_map] at he
    have h2 := hD.1 i j _ _ (List.getElem?_eq_getElem hi) (List.getElem?_eq_getElem hj) he
    omega
  have h2 := nd_len H.size s.heap.size _ h1 (fun x hx => by
    obtain ⟨q, hq, rfl⟩ := List.mem_map.mp hx
    obtain ⟨i, hi⟩ := List.getElem?_of_mem hq
    exact ⟨hA2 _ (hD.2 i q hi), (hP i q hi).lt⟩)
  rw [List.length_map, hn] at h2
  have h3 := hS.1
  exact k H locs ls (by omega) hP hD hS hl
end GHF
def R_law : String := "RigdiaryLaw"
def lw_P (b : Addr) (xs : List Int32) (args : Array Value) (s : State) : Prop := args = #[.ref b] ∧ s.IntsAt b xs ∧ xs.length ≤ 260 ∧ (Jvm.Cond.and given_1 narrow_1).before args s = true
/-- what holds at the law's entry: the machine, the code, the tables' words (any of lw_tbl by 'hts w (by decide +kernel)'), the script of L ints xs at the cell b, what the Statement gives of the start (any of its parts by flat_of_before) -/
def lw_At (p : Program) (s : State) (m : MethodId) (meth : Method) (c : Code) (b L : Nat) (xs : Nat → Int32) : Prop :=
  p.tables.exec = Jvm.exec ∧ c.code = code ∧ meth.sig.returnType = ret ∧ c.maxLocals = 11 ∧ s.vm.findClass R_law = some m.cls ∧ (∀ w ∈ lw_tbl, w.before #[Value.ref b] s = true) ∧ va_X b L xs s s.heap ∧ b < s.heap.size ∧ meth.locks = false ∧ (Jvm.Cond.and given_1 narrow_1).before #[Value.ref b] s = true
theorem lw_pre_spec {args : Array Value} {s : State} (h : (Jvm.Cond.and given_1 narrow_1).before args s = true) (hr : rest_1_c.before args s = true) : ∃ (b : Addr) (xs : List Int32), lw_P b xs args s := by
  have hs := flat_of_before _ h
  have hq := flat_of_before _ hr
  have hc : (Cond.count 1).before args s = true := hs _ (by decide +kernel)
  have harr : (Cond.arrayOf (.arg 0) .int).before args s = true := hs _ (by decide +kernel)
  have hle : (Cond.le (.length (.arg 0)) (.int 260)).before args s = true := hs _ (by decide +kernel)
  have hlen : (Cond.isInt (.length (.arg 0))).before args s = true := hq _ (by decide +kernel)
  have hall : (Cond.all (.arg 0) (.isInt (.elem (.arg 0) (.index 0)))).before args s = true := hq _ (by decide +kernel)
  obtain ⟨b, xs, hb, hx⟩ := State.ints_of_pre rfl harr hlen hall
  have hsm : xs.length < 2 ^ 31 := hx.choose_spec.2.2.2
  have hev : (Term.length (.arg 0)).eval args s none [] s = some (.int xs.length.toInt32) := hx.length_eval hb
  have hv := Cond.le_ints hev (show (Term.int 260).eval args s none [] s = some (.int 260) from rfl)
  have hd : xs.length.toInt32 ≤ 260 := by
    simpa [Cond.before, Cond.holds, hv] using hle
  have hN : xs.length ≤ 260 := (Int32.ofNat_le_ofNat hsm (by decide)).mp (show Int32.ofNat xs.length ≤ Int32.ofNat 260 from hd)
  exact ⟨b, xs, Cond.one_arg hc (show args[0]? = some (.ref b) from hb), hx, hN, h⟩
theorem arr_K {s : State} {args : Array Value} {ty : FieldType} (h : (Cond.arrayClass ty).before args s = true) : ∃ cA : ClassId, ArrOfT s cA ty ∧ s.vm.findClass ("[" ++ ty.toString) = some cA := by
  obtain ⟨cA, kA, comp, h1, h2, h3⟩ := Cond.arrayClass_spec h
  exact ⟨cA, fun n z => ⟨fun k h => (by cases h), kA, h2, comp, h3⟩, h1⟩
theorem str_R {s : State} {args : Array Value} {k : Nat} {tx : String} {cur : ClassId} (hc : s.vm.findClass RX8 = some cur) (h : (Cond.stringRef RX8 k tx).before args s = true) : ∃ sa, vk_R RX8 k tx sa s := by
  obtain ⟨-, -, -, sa, -, -, -, -, -, hev⟩ := Cond.stringRef_spec hc h
  exact ⟨sa, vk_R.of h hev⟩
set_option maxHeartbeats 8000000 in
set_option maxRecDepth 100000 in
/-- from the law's entry, in a room that is roomy enough: 264 cells more -/
theorem far_start {p : Program} {e : Env} {s : State} {m : MethodId} {below : List Frame} {meth : Method} {c : Code} (l : Launch) (hflags : l.flags = flags0) {b L : Nat} {xs : Nat → Int32} (hL : L ≤ 260) (C0 : lw_At p s m meth c b L xs) : W p l e bigR s m #[Value.ref b] below meth c s.heap [] 0 0 (fun t => s.heap.size + 264 ≤ t.heap.size) (entryFrame m ([Value.ref b] : List Value).toArray 11) := by
  obtain ⟨hx, hb, hr, hml, hown, hts, hX, hbl, hlocks, hgv⟩ := id C0
  have hfl : l.stackTraces = false := by
    unfold Launch.stackTraces
    rw [hflags]
    decide
  have hgs := flat_of_before _ hgv
  obtain ⟨c0, i0, k0⟩ := u_known (C := RX0) (T := TX0) (N := 8) (n := 8) hts inX0 (hts _ tw_i0)
  obtain ⟨c1, i1, k1⟩ := u_known (C := RX1) (T := TX1) (N := 1) (n := 1) hts inX1 (hts _ tw_i1)
  obtain ⟨c2, i2, k2⟩ := u_known (C := RX2) (T := TX2) (N := 5) (n := 5) hts inX2 (hts _ tw_i2)
  obtain ⟨c3, i3, k3⟩ := u_known (C := RX3) (T := TX3) (N := 6) (n := 6) hts inX3 (hts _ tw_i3)
  obtain ⟨c4, i4, k4⟩ := u_known (C := RX4) (T := TX4) (N := 7) (n := 7) hts inX4 (hts _ tw_i4)
  obtain ⟨c5, i5, k5⟩ := u_known (C := RX5) (T := TX5) (N := 6) (n := 6) hts inX5 (hts _ tw_i5)
  obtain ⟨c6, i6, k6⟩ := u_known (C := RX6) (T := TX6) (N := 7) (n := 7) hts inX6 (hts _ tw_i6)
  obtain ⟨c7, i7, k7⟩ := u_known (C := RX7) (T := TX7) (N := 7) (n := 7) hts inX7 (hts _ tw_i7)
  obtain ⟨c8, i8, k8⟩ := u_known (C := RX8) (T := TX8) (N := 4) (n := 4) hts inX8 (hts _ tw_i8)
  obtain ⟨dC, dI, hKc⟩ : ∃ (dC : Nat → ClassId) (dI : Nat → Nat → Nat), ∀ (k : Nat) (q : vw_C), vwCl[k]? = some q → u_Kn s q.1 q.2.1 q.2.2 (dC k) (dI k) := by
    refine ⟨fun k => ([c0, c1, c2, c3, c4, c5, c6, c7, c8] : List ClassId).getD k c0, fun k => ([i0, i1, i2, i3, i4, i5, i6, i7, i8] : List (Nat → Nat)).getD k i0, ?_⟩
    intro k q hq
    match k, hq with
    | 0, hq => cases hq; exact k0
    | 1, hq => cases hq; exact k1
    | 2, hq => cases hq; exact k2
    | 3, hq => cases hq; exact k3
    | 4, hq => cases hq; exact k4
    | 5, hq => cases hq; exact k5
    | 6, hq => cases hq; exact k6
    | 7, hq => cases hq; exact k7
    | 8, hq => cases hq; exact k8
    | k + 9, hq => simp [vwCl] at hq
  obtain ⟨cI, aI1, aI2⟩ := arr_K (hts _ tw_a_int)
  obtain ⟨cJ, aJ1, aJ2⟩ := arr_K (hts _ tw_a_long)
  obtain ⟨cZ, aZ1, aZ2⟩ := arr_K (hts _ tw_a_byte)
  have hK : va_K (dC, dI) vwCl (gz_tys cI cJ cZ) s := ⟨hKc, fun k q h => by
    match k, h with
    | 0, h => cases h; exact ⟨aI1, aI2⟩
    | 1, h => cases h; exact ⟨aJ1, aJ2⟩
    | 2, h => cases h; exact ⟨aZ1, aZ2⟩
    | k + 3, h => simp at h⟩
  have hN : gz_N s := by
    unfold gz_N gz_nest
    refine List.forall_mem_cons.mpr ⟨va_Nw.of rfl (hts _ tw_n0), ?_⟩
    refine List.forall_mem_cons.mpr ⟨va_Nw.of rfl (hts _ tw_n1), ?_⟩
    refine List.forall_mem_cons.mpr ⟨va_Nw.of rfl (hts _ tw_n2), ?_⟩
    refine List.forall_mem_cons.mpr ⟨va_Nw.of rfl (hts _ tw_n3), ?_⟩
    refine List.forall_mem_cons.mpr ⟨va_Nw.of rfl (hts _ tw_n4), ?_⟩
    refine List.forall_mem_cons.mpr ⟨va_Nw.of rfl (hts _ tw_n5), ?_⟩
    refine List.forall_mem_cons.mpr ⟨va_Nw.of rfl (hts _ tw_n6), ?_⟩
    refine List.forall_mem_cons.mpr ⟨va_Nw.of rfl (hts _ tw_n7), ?_⟩
    refine List.forall_mem_cons.mpr ⟨va_Nw.of rfl (hts _ tw_n8), ?_⟩
    refine List.forall_mem_cons.mpr ⟨va_Nw.of rfl (hts _ tw_n9), ?_⟩
    refine List.forall_mem_cons.mpr ⟨va_Nw.of rfl (hts _ tw_n10), ?_⟩
    refine List.forall_mem_cons.mpr ⟨va_Nw.of rfl (hts _ tw_n11), ?_⟩
    exact fun _ h => absurd h List.not_mem_nil
  have hB : gz_XB s := by
    refine ⟨?_, ?_, ?_⟩
    · unfold gz_decl
      refine List.forall_mem_cons.mpr ⟨va_Nw.of rfl (hts _ tw_d0), ?_⟩
      refine List.forall_mem_cons.mpr ⟨va_Nw.of rfl (hts _ tw_d1), ?_⟩
      refine List.forall_mem_cons.mpr ⟨va_Nw.of rfl (hts _ tw_d2), ?_⟩
      exact fun _ h => absurd h List.not_mem_nil
    · unfold gz_exc
      refine List.forall_mem_cons.mpr ⟨va_Nw.of rfl (hts _ tw_c_xIO), ?_⟩
      refine List.forall_mem_cons.mpr ⟨va_Nw.of rfl (hts _ tw_c_xIA), ?_⟩
      refine List.forall_mem_cons.mpr ⟨va_Nw.of rfl (hts _ tw_c_xIS), ?_⟩
      exact fun _ h => absurd h List.not_mem_nil
    · unfold gz_strs
      refine List.forall_mem_cons.mpr ⟨str_R k8.2.1 (hts _ tw_s114), ?_⟩
      refine List.forall_mem_cons.mpr ⟨str_R k8.2.1 (hts _ tw_s178), ?_⟩
      refine List.forall_mem_cons.mpr ⟨str_R k8.2.1 (hts _ tw_s187), ?_⟩
      refine List.forall_mem_cons.mpr ⟨str_R k8.2.1 (hts _ tw_s210), ?_⟩
      refine List.forall_mem_cons.mpr ⟨str_R k8.2.1 (hts _ tw_s219), ?_⟩
      refine List.forall_mem_cons.mpr ⟨str_R k8.2.1 (hts _ tw_s224), ?_⟩
      refine List.forall_mem_cons.mpr ⟨str_R k8.2.1 (hts _ tw_s228), ?_⟩
      refine List.forall_mem_cons.mpr ⟨str_R k8.2.1 (hts _ tw_s231), ?_⟩
      refine List.forall_mem_cons.mpr ⟨str_R k8.2.1 (hts _ tw_s234), ?_⟩
      refine List.forall_mem_cons.mpr ⟨str_R k8.2.1 (hts _ tw_s237), ?_⟩
      refine List.forall_mem_cons.mpr ⟨str_R k8.2.1 (hts _ tw_s239), ?_⟩
      refine List.forall_mem_cons.mpr ⟨str_R k8.2.1 (hts _ tw_s241), ?_⟩
      exact fun _ h => absurd h List.not_mem_nil
  have hZ : gz_Z (fun q : Nat => s.heap.size ≤ q) s s.heap := ⟨vx_Zqof (hts _ tw_l0) (hts _ tw_t) (hgs _ (by decide +kernel)) (fun a h => Nat.not_le.mpr h), vx_Zqof (hts _ tw_l1) (hts _ tw_t) (hgs _ (by decide +kernel)) (fun a h => Nat.not_le.mpr h)⟩
  have hNC : gz_NC s := by
    unfold gz_NC gz_ncs
    refine List.forall_mem_cons.mpr ⟨va_Nc.of (hgs _ (by decide +kernel)), ?_⟩
    refine List.forall_mem_cons.mpr ⟨va_Nc.of (hgs _ (by decide +kernel)), ?_⟩
    refine List.forall_mem_cons.mpr ⟨va_Nc.of (hgs _ (by decide +kernel)), ?_⟩
    exact fun _ h => absurd h List.not_mem_nil
  have F : gF p s m #[Value.ref b] c cL_law 11 RL lw_tbl (dC, dI) cI cJ cZ (fun q : Nat => s.heap.size ≤ q) := ⟨hx, hb, hml, hown, hts, hK, hN, fun _ h => h⟩
  have FX : gFX l s (fun q : Nat => s.heap.size ≤ q) := ⟨hfl, hB, hZ⟩
  suffices G : gG p l e bigR s m #[Value.ref b] below meth c (dC, dI) (fun q : Nat => s.heap.size ≤ q) 11 (fun t : State => s.heap.size + 264 ≤ t.heap.size) 0 0 [] [(0, .ref b)] [] 0 by
    have hl := lv_entry ([.ref b]) (n := 11) (Nat.le_of_ble_eq_true rfl)
    rw [lg_entry_eq]
    exact G s.heap [] _ (fun k q h => by simp at h) ⟨fun i j p q h => by simp at h, fun k q h => by simp at h⟩ va_S.rf hl
  refine gz_new (pc := 0) F inX8 tyX8 tyX8_ok lwn_cl lwn_ins lwn_ini 8 rfl (fs := [.null, .null, .null, .null]) (fun j hj => by rcases (show j = 0 ∨ j = 1 ∨ j = 2 ∨ j = 3 by omega) with rfl | rfl | rfl | rfl <;> rfl) ⟨Nat.le_of_ble_eq_true rfl, Nat.le_of_ble_eq_true rfl⟩ dL_law_0 (fun qx => ?_)
  refine gz_dup (pc := 3) F dL_law_3 rfl ?_
  refine gz_callCI (pc := 4) (rest := [.ref qx]) (bytes := cX8_init) (maxL := 1) F (cC_X8 l (dC, dI) cI cJ cZ qx) (goodIn_up wsL_law_in gL_law_X8_init) rfl ⟨rfl, rfl⟩ lwn_ml lwn_ini lwn_im rfl (by decide +kernel) ⟨Nat.le_of_ble_eq_true rfl, Nat.le_of_ble_eq_true rfl⟩ [] rfl (Nat.le_of_ble_eq_true rfl) ⟨Nat.le_of_ble_eq_true rfl, Nat.le_of_ble_eq_true rfl⟩ dL_law_4 (fun a ha => ?_)
  refine gz_eqw (ws2 := RiW cI cJ a Ri0) rfl ?_
  refine gz_astore_n (pc := 7) (lv2 := [(1, .ref qx), (0, .ref b)]) F dL_law_7 rfl (by decide) rfl ?_
  refine gz_new (pc := 8) F inX8 tyX8 tyX8_ok lwn_cl lwn_ins lwn_ini 8 rfl (fs := [.null, .null, .null, .null]) (fun j hj => by rcases (show j = 0 ∨ j = 1 ∨ j = 2 ∨ j = 3 by omega) with rfl | rfl | rfl | rfl <;> rfl) ⟨Nat.le_of_ble_eq_true rfl, Nat.le_of_ble_eq_true rfl⟩ dL_law_8 (fun qm => ?_)
  refine gz_dup (pc := 11) F dL_law_11 rfl ?_
  refine gz_callCI (pc := 12) (rest := [.ref qm]) (bytes := cX8_init) (maxL := 1) F (cC_X8 l (dC, dI) cI cJ cZ qm) (goodIn_up wsL_law_in gL_law_X8_init) rfl ⟨rfl, rfl⟩ lwn_ml lwn_ini lwn_im rfl (by decide +kernel) ⟨Nat.le_of_ble_eq_true rfl, Nat.le_of_ble_eq_true rfl⟩ (RiW cI cJ a Ri0) rfl (Nat.le_of_ble_eq_true rfl) ⟨Nat.le_of_ble_eq_true rfl, Nat.le_of_ble_eq_true rfl⟩ dL_law_12 (fun b2 hb2 => ?_)
  refine gz_astore_n (pc := 15) (lv2 := [(2, .ref qm), (1, .ref qx), (0, .ref b)]) F dL_law_15 rfl (by decide) rfl ?_
  refine gz_const (pc := 16) F dL_law_16 ?_
  refine gz_newI (pc := 17) F 4 lwn_arr (by decide) ⟨Nat.le_of_ble_eq_true rfl, Nat.le_of_ble_eq_true rfl⟩ dL_law_17 (fun qo => ?_)
  refine gz_astore_n (pc := 19) (lv2 := [(3, .ref qo), (2, .ref qm), (1, .ref qx), (0, .ref b)]) F dL_law_19 rfl (by decide) rfl ?_
  refine gz_eqw (ws2 := RiW cI cJ a Ri0 ++ (RiW cI cJ b2 Ri0 ++ [NA cI qo (fun _ => 0)])) (List.append_assoc _ _ _) ?_
  rw [← ha, ← hb2]
  refine gh_count (n := 147) rfl (fun _ h => h) ?_
  exact law_far hfl F FX hNC hX hbl (Nat.not_le.mpr hbl) (by omega) (fun t h => h)
/-- the method's frame is laid, and from there the walk goes on (as the library's MetFree.of_bodySF, but to a state on the way) -/
theorem far_of_body {l : Launch} {x : MethodName} {S : Spec} {P : Array Value → State → Prop} {Q : Array Value → State → State → Prop} {code : ByteArray} {maxLocals : Nat} {ret : Option FieldType} (hx : plainFor x = true)
    (his : ∀ args (s : State) m, S.pre.before args s = true → s.methodNamed? x = some m → ∃ meth c, s.vm.method? m = some meth ∧ meth.code = some c ∧ c.code = code ∧ c.maxLocals = maxLocals ∧ meth.sig.returnType = ret ∧ meth.locks = false)
    (body : ∀ p e s m args below meth c s₁, BodyLoose p l x S code maxLocals ret e s m args below meth c s₁ → c.maxLocals = maxLocals → P args s → ∃ s₂, Steps p.tables e below (s₁.setTop (entryFrame m args maxLocals)) s₂ ∧ Q args s s₂) :
    ∀ (p : Program) (e : Env), l.admits e → FairCas e.choices → FairClock e.choices → ∀ (s : State) (m : MethodId) (args : Array Value) (below : List Frame), s.frames = .invoking m args :: below → S.appliesLoose x e.platform s = true → P args s → ∃ s₂, Steps p.tables e below s s₂ ∧ Q args s s₂ := by
  intro p e ha hc hk s m args below hf happ hP
  obtain ⟨hrun, hable, halone, hname, hhears, hinit, hroom, hpre⟩ := (Spec.appliesLoose_iff hf).mp happ
  obtain ⟨meth, c, hmeth, hcode, hbytes, hlocals, hret, hlocks⟩ := his args s m hpre hname
  have hcur := State.cur_lt_of_frames hf
  have hf1 : (s.setFrames (.java (entryFrame m args maxLocals) :: below)).frames = .java (entryFrame m args maxLocals) :: below :=
    State.frames_setFrames _ hcur
  have ht1 := State.topJava?_of_frames hf1
  have hplain : (s.setFrames (.java (entryFrame m args maxLocals) :: below)).plainMethod m := State.plainMethod.of_named (s := s) hx hname hmeth
  have hAt : At (s.setFrames (.java (entryFrame m args maxLocals) :: below)) m c below :=
    ⟨by rw [ht1]; rfl, ⟨[], by rw [hf1]; rfl⟩, hrun, by simpa using hable, by simpa using halone,
      by rw [State.code?_eq]; simp [State.setFrames, hmeth, hcode], hplain⟩
  have hstep : (stepThread p.tables e s).1 = (s.setFrames (.java (entryFrame m args maxLocals) :: below)).setTop (entryFrame m args maxLocals) := by
    have hfull : e.platform.stackFull (s.setFrames below).me (s.setFrames below).frames c.maxLocals = false := by
      obtain ⟨-, h1, -, h2⟩ := State.hasRoom_stack hroom
      rw [hf, List.length_cons] at h1
      rw [State.localsInUse_invoking hf hmeth hcode] at h2
      have hw := stackUse_le_stackWeight below
      rw [State.frames_setFrames _ hcur]
      exact Platform.stackFull_eq_false (by rw [State.stackLimits_setFrames]; omega) (by rw [State.stackLimits_setFrames]; omega)
    rw [stepThread_invoking hf, (doInvoke_java (s := s.setFrames below) (e := e) (meth := meth) (code := c) hmeth hcode hlocks hfull).1, State.setTop_self ht1]
    simp only [State.pushFrame, State.frames_setFrames _ hcur, State.setFrames_setFrames, hlocals, entryFrame]
  obtain ⟨s₂, hs, hq⟩ := body p e s m args below meth c _
    ⟨ha, hc, hk, by cases p <;> rfl, hf, hname, hhears, hinit, hroom, hpre, hmeth, hret, hlocks, hbytes, rfl, hAt⟩ hlocals hP
  exact ⟨s₂, Steps.head (tb := p.tables) (e := e) ⟨hrun, hable, halone⟩ ⟨[.invoking m args], hf, by simp, by simp⟩ (hstep ▸ hs), hq⟩
set_option maxHeartbeats 4000000 in
theorem far_walk (l : Launch) (hflags : l.flags = flags0) (b : Addr) (xs : List Int32) : ∀ (p : Program) (e : Env), l.admits e → FairCas e.choices → FairClock e.choices → ∀ (s : State) (m : MethodId) (args : Array Value) (below : List Frame), s.frames = .invoking m args :: below → (headSpec (Jvm.Cond.code x code maxLocals ret :: tables_1) bigR).appliesLoose x e.platform s = true → lw_P b xs args s → ∃ s₂, Steps p.tables e below s s₂ ∧ s.heap.size + 264 ≤ s₂.heap.size := by
  refine far_of_body (Q := fun _ s t => s.heap.size + 264 ≤ t.heap.size) (code := code) (maxLocals := maxLocals) (ret := ret) (plainFor_of_name (by decide)) ?_ ?_
  · intro args s m h hn
    obtain ⟨meth, c, h1, h2, h3, h4, h5, h6, -, -⟩ := Cond.code_spec hn (atoms_spec (ws := Jvm.Cond.code x code maxLocals ret :: tables_1) h _ List.mem_cons_self)
    exact ⟨meth, c, h1, h2, h3, h4, h5, h6⟩
  · intro p e s m args below meth c s₁ B hml0 hP
    obtain ⟨rfl, hx, hbd, hgv⟩ := hP
    obtain ⟨scr, harrAt, hlist, hof, hsmall⟩ := hx
    obtain ⟨hcb, hkn, -, -⟩ := State.arrayAt?_spec harrAt
    have hown : s.vm.findClass R_law = some m.cls := findClass_of_methodNamed B.named
    have hts0 : ∀ c ∈ (Jvm.Cond.code x code maxLocals ret :: tables_1), c.before #[Value.ref b] s = true := atoms_spec (ws := Jvm.Cond.code x code maxLocals ret :: tables_1) B.pre
    have hts : ∀ w ∈ lw_tbl, w.before #[Value.ref b] s = true := k2_hts_sels lw_privs (fun w hw => hts0 w (List.mem_cons_of_mem _ hw)) lw_privs_ok
    have hml : c.maxLocals = 11 := B.maxLocals_eq (hts0 _ List.mem_cons_self)
    have X₀ : Stand p l e bigR s m #[Value.ref b] below meth c s₁ [] 0 0 := Stand.of_body B
    have hh0 : s₁.heap = s.heap := by rw [B.state]; rfl
    have hsz : scr.slots.size = xs.length := by rw [← Array.length_toList, hlist, List.length_map]
    have hval : ∀ j : Nat, j < xs.length → scr.slots[j]? = some (.int (xs.getD j 0)) := fun j hj => by
      rw [← Array.getElem?_toList, hlist]
      simp [hj]
    have hbl : b < s.heap.size := (Array.getElem?_eq_some_iff.mp hcb).1
    have hX : va_X b xs.length (fun j => xs.getD j 0) s s.heap := ⟨scr, hcb, hof, hkn, hsz, hval⟩
    have K : W p l e bigR s m #[Value.ref b] below meth c s₁.heap [] 0 0 (fun t => s.heap.size + 264 ≤ t.heap.size) (entryFrame m ([Value.ref b] : List Value).toArray 11) := by
      rw [hh0]
      exact far_start l hflags hbd ⟨B.exec, B.bytes, B.returns, hml, hown, hts, hX, hbl, B.notSynchronized, hgv⟩
    obtain ⟨t, a1, b1⟩ := K s₁ rfl X₀
    exact ⟨t, a1, b1⟩
/-- FALSE: at every start that the Statement allows, on a machine with the room that the law really takes, the law doesn't end within the room that is claimed -/
theorem p23_false_at {l : Launch} {p : Program} {e : Env} {s : State} {m : MethodId} {args : Array Value} {below : List Frame} (hflags : l.flags = flags0) (hA : AtStart classFile x code maxLocals ret World_1 tables_1 room_1 Calls_1 rest_1 Pre_1 l p e s m args below) (hroom : s.hasRoom e.platform bigR = true) : ¬ Claimed_1_1 := by
  intro hC
  obtain ⟨hLi, hW, ha, -, hc, hk, hf, hfit, hheap, happ, hcalls, hrest, hPre⟩ := hA
  obtain ⟨b, xs, hP⟩ := lw_pre_spec hPre hrest
  have h1 := ((Spec.applies_iff_loose hf).mp happ).1
  obtain ⟨g1, g2, g3, g4, g5, g6, -, g8⟩ := (Spec.appliesLoose_iff hf).mp h1
  have h2 : (headSpec (Jvm.Cond.code x code maxLocals ret :: tables_1) bigR).appliesLoose x e.platform s = true := (Spec.appliesLoose_iff hf).mpr ⟨g1, g2, g3, g4, g5, g6, hroom, g8⟩
  obtain ⟨t, ⟨n, hn, hw⟩, ht⟩ := far_walk l hflags b xs p e ha hc hk s m args below hf h2 hP
  obtain ⟨k, o, w1, w2, w3, -, -, -, hsame⟩ := hC l hflags hLi hW p e ha hc hk s m args below hf hfit hheap happ ⟨hcalls, hrest, hPre⟩
  have hnk : n ≤ k := Nat.le_of_not_lt fun h => w3.not_within (hw k h)
  have h3 : (stepsAlone p.tables e k s).heap.size ≤ s.heap.size + 263 := hsame.2.2.1
  have h4 := stepsAlone_heap_le p.tables e (k - n) (stepsAlone p.tables e n s)
  rw [← stepsAlone_add, Nat.add_sub_cancel' hnk, hn] at h4
  omega
/-- THE CLAIM IS FALSE: shown at the printed witness's own start -/
theorem p23_false : ¬ (Claimed_1_1 ∧ Claimed_1_2) := fun h =>
  p23_false_at (l := launch0) rfl start1.atStart (launch0.hasRoom_least _ bigR (by decide +kernel) (by decide +kernel) (by decide +kernel) (by decide +kernel) (by decide +kernel) (by decide +kernel)) h.1
