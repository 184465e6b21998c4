/-! the good words of the tables; the others, that premises carry -/
def WS : List Cond := lw_tbl.filter goodWord
theorem ws_t (i : Nat) {w : Cond} (h : tables_1[i]? = some w) (g : goodWord w = true) : w ∈ WS := List.mem_filter.mpr ⟨List.mem_append_right _ (List.mem_of_getElem? h), g⟩
theorem ws_p (i : Nat) {w : Cond} (h : (k2_sels lw_privs)[i]? = some w) (g : goodWord w = true) : w ∈ WS := List.mem_filter.mpr ⟨List.mem_append_left _ (List.mem_of_getElem? h), g⟩
theorem ws_good {w : Cond} (h : w ∈ WS) : goodWord w = true := (List.mem_filter.mp h).2
theorem ws_in {w : Cond} (h : w ∈ WS) : w ∈ lw_tbl := (List.mem_filter.mp h).1
/-- a class's fields among the words, by their places -/
theorem ws_us (C : String) (T : u_T) (N : Nat) (ps : List Nat) (h : (List.range N).map (fun k => some (u_lay C T k)) = ps.map (fun i => tables_1[i]?)) (g : ((List.range N).all (fun k => goodWord (u_lay C T k))) = true) : ∀ w ∈ u_ws C T N, w ∈ WS := by
  intro w hw
  obtain ⟨k, hk, rfl⟩ := List.mem_map.mp hw
  have hg := List.all_eq_true.mp g k hk
  have h1 : some (u_lay C T k) ∈ ps.map (fun i => tables_1[i]?) := by
    rw [← h]; exact List.mem_map.mpr ⟨k, hk, rfl⟩
  obtain ⟨i, -, hi⟩ := List.mem_map.mp h1
  exact ws_t i hi hg
