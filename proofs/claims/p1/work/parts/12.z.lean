theorem ip_tbl : ∀ p, ip_et p = (99, 9999, 0, 0, 0) ∨ ip_lw (ip_et p) ∈ lw_tbl := sorry
theorem ip_arrw {ty : FieldType} (h : ty = .int ∨ ty = .boolean) : Jvm.Cond.arrayClass ty ∈ ip_W := sorry
