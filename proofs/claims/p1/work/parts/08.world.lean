section SPW
variable {d n : Nat} {S : ip_S} {R : ip_R} {L : ip_S} {Q : Option Value → Nat → ip_S → ip_R → ip_S → Prop}
theorem p_isIn {v b : Int} (hv : ip_w v = v) (hb : ip_w b = b) : ip_wc (d + 1) 45 [vi v, vi b] n S R L Q = Q (some (vi (if 0 ≤ v ∧ v < b then 1 else 0))) n S R L := by
  simp only [c45, s45_0, s45_1, s45_2, s45_3, s45_4, s45_5, s45_6, s45_7, s45_8, ip_rfS, true_and, and_true, Option.toList_some, Option.toList_none, List.cons_append, List.nil_append, ip_fxn, ip_fxi, ip_fxr, ip_fxl, ip_wid, hv, hb]
  by_cases h1 : v < 0
  · rw [if_pos h1, if_neg (by omega)]; simp (disch := omega) [ip_wid]
  · rw [if_neg h1]
    by_cases h2 : v < b
    · rw [if_pos h2, if_pos (by omega)]; simp (disch := omega) [ip_wid]
    · rw [if_neg h2, if_neg (by omega)]; simp (disch := omega) [ip_wid]
/-- a world stands at w: its rows of roads and of least miles -/
def ip_wld (n : Nat) (R : ip_R) (w : Nat) : Prop := w + 7 < n ∧ ip_isO n w 1 ∧ R w 0 = some (w + 1) ∧ R w 1 = some (w + 2) ∧ (∀ z, ip_isA n (w + 1) 0 z = (0 ≤ z ∧ z < 64)) ∧ (∀ z, ip_isA n (w + 2) 0 z = (0 ≤ z ∧ z < 64)) ∧ ip_kd (w + 1) = (0, 64) ∧ ip_kd (w + 2) = (0, 64)
theorem p_least {w : Nat} {x y : Int} (hW : ip_wld n R w) (hx : 0 ≤ x ∧ x < 8) (hy : 0 ≤ y ∧ y < 8) : ip_wc (d + 1) 3 [.ref w, vi x, vi y] n S R L Q = Q (some (vi (S (w + 2) (x * 8 + y)))) n S R L := by
  obtain ⟨h0, h1, h2, h3, h4, h5, h6, h7⟩ := hW
  have h8 : ¬ w = 998 := by unfold ip_isO ip_kd at h1; intro h; subst h; simp [ip_SH] at h1
  simp (disch := omega) only [c3, s3_0, s3_1, s3_2, s3_3, s3_4, s3_5, s3_6, s3_7, s3_8, ip_rfS, true_and, and_true, Option.toList_some, Option.toList_none, List.cons_append, List.nil_append, ip_fxn, ip_fxi, ip_fxr, ip_fxl, ip_wid, h1, h3, h5, h8, not_false_eq_true]
  have e : (0 ≤ x * 8 + y ∧ x * 8 + y < 64) = True := eq_true ⟨by omega, by omega⟩
  rw [e, true_and]
end SPW
