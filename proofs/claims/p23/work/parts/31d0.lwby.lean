/-! ===== the law's words among the tables', by their places; laid by wip/p23/gen/lwin23.py ===== -/
/-- a word of the tables, by its list and its place there -/
def lw_get (q : Nat × Nat) : Option Cond := match q.1 with
  | 0 => (k2_sels lw_privs)[q.2]?
  | 1 => tables_1_1[q.2]?
  | 2 => tables_1_2[q.2]?
  | 3 => tables_1_3[q.2]?
  | _ => tables_1_4[q.2]?
theorem lw_get_in {q : Nat × Nat} {w : Cond} (h : lw_get q = some w) : w ∈ lw_tbl := by
  unfold lw_get at h
  have e : tables_1 = tables_1_1 ++ (tables_1_2 ++ (tables_1_3 ++ tables_1_4)) := rfl
  unfold lw_tbl
  rw [e]
  split at h
  · exact List.mem_append_left _ (List.mem_of_getElem? h)
  · exact List.mem_append_right _ (List.mem_append_left _ (List.mem_of_getElem? h))
  · exact List.mem_append_right _ (List.mem_append_right _ (List.mem_append_left _ (List.mem_of_getElem? h)))
  · exact List.mem_append_right _ (List.mem_append_right _ (List.mem_append_right _ (List.mem_append_left _ (List.mem_of_getElem? h))))
  · exact List.mem_append_right _ (List.mem_append_right _ (List.mem_append_right _ (List.mem_append_right _ (List.mem_of_getElem? h))))
theorem lw_by {ws : List Cond} (ps : List (Nat × Nat)) (hp : ws = ps.filterMap lw_get) : ∀ w ∈ ws, w ∈ lw_tbl := by
  intro w hw
  rw [hp] at hw
  obtain ⟨q, -, hq⟩ := List.mem_filterMap.mp hw
  exact lw_get_in hq
theorem goodIn_by (ws : List Cond) (ps : List (Nat × Nat)) (hp : ws = ps.filterMap lw_get) (h : ws.all goodWord = true) : GoodIn lw_tbl ws := fun w hw => ⟨lw_by ps hp w hw, good_of_word (List.all_eq_true.mp h w hw)⟩
