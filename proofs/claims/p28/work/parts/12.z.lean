/-! the tables' words -/
theorem ip_lw_all : lw_tbl = (ip_LT.flatten).map ip_lw := by
  show k2_sels lw_privs ++ tables_1 = _
  rw [kt0, kt1, ← List.map_append, List.take_append_drop]
theorem ip_tbl : ∀ p, ip_et p = (99, 9999, 0, 0, 0) ∨ ip_lw (ip_et p) ∈ lw_tbl := by
  intro p
  unfold ip_et
  rw [List.getD_eq_getElem?_getD]
  cases h : (ip_LT.getD (p / 32) [])[p % 32]? with
  | none => exact Or.inl rfl
  | some e =>
    refine Or.inr ?_
    rw [ip_lw_all]
    refine List.mem_map.mpr ⟨e, ?_, rfl⟩
    rw [List.getD_eq_getElem?_getD] at h
    cases h2 : ip_LT[p / 32]? with
    | none => rw [h2] at h; simp at h
    | some c =>
      rw [h2] at h
      exact List.mem_flatten.mpr ⟨c, List.mem_of_getElem? h2, List.mem_of_getElem? h⟩
theorem ip_Wof {pos : Nat} {e : Nat × Nat × Nat × Nat × Nat} (he : ip_et pos = e) (hg : goodWord (ip_lw e) = true) (hne : ¬ e = (99, 9999, 0, 0, 0)) : ip_lw e ∈ ip_W := by
  refine List.mem_filter.mpr ⟨?_, hg⟩
  rcases ip_tbl pos with h | h
  · rw [he] at h; exact absurd h hne
  · rw [he] at h; exact h
theorem ip_uws {ci N : Nat} {ps : List Nat} (h1 : (List.range N).all (fun k => decide (ip_et (ps.getD k 9999) = (14, ci, k, 0, 0))) = true) (h2 : (List.range N).all (fun k => goodWord (u_lay (ip_CN ci) (ip_FT ci) k)) = true) : ∀ w ∈ u_ws (ip_CN ci) (ip_FT ci) N, w ∈ ip_W := by
  intro w hw
  obtain ⟨k, hk, rfl⟩ := List.mem_map.mp hw
  have g1 := List.all_eq_true.mp h1 k hk
  have g2 := List.all_eq_true.mp h2 k hk
  simp only [decide_eq_true_eq] at g1
  exact ip_Wof (e := (14, ci, k, 0, 0)) g1 g2 (by simp)
