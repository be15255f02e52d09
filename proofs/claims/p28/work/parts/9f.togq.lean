/-! together in the reference -/
def t_tog (W : w_T) (a w0 : Int) (p : Nat) : Int := if w0 = 0 then (t_al (t_V W a) (2 ^ p - 1)).2 else (t_al (t_V W a) (2 ^ p - 1)).1
theorem t_fsh : ∀ p : Nat, p < 7 → ip_shl 1 p = ((2 ^ p : Nat) : Int) ∧ ip_w (ip_shl 1 p - 1) = ((2 ^ p - 1 : Nat) : Int) ∧ ip_shl 1 p - 1 = ((2 ^ p - 1 : Nat) : Int) ∧ 2 ^ p - 1 < 64 ∧ 2 ^ p - 1 < 2 ^ p := by decide +kernel
section TGQ
variable {d : Nat} {S : ip_S} {R : ip_R} {L : ip_S} {W : w_T}
theorem y209r {p : Nat} {a w0 : Int} (hM : x_RM R) (hW : w_ok W) (hR : y_R W (p : Int) S) (hG : w_gd W) (hm : S 62 11 = (p : Int)) (ha : 0 ≤ a ∧ a < 8) (hw0 : 0 ≤ w0 ∧ w0 < 2) :
    ∃ S' w', y_h S S' ∧ ∀ Q, ip_wp (d + 49) 209 11 [some (.ref 62), some (vi a), some (vi w0), none, none] [] 79 S R L Q = Q (some (vi (t_tog W a w0 p))) 79 S' R (ip_up L 62 24 w') := by
  have hm6 := hR.1
  obtain ⟨S1, w1, v1, h1, F1, k1⟩ := y209i (d := d) (L := L) (w0 := w0) (p := p) hM hW hR hG hm ha p 0 (L 62 24) none S (by omega) y_h_r (fun i' j' a1 a2 a3 => absurd a3 (by omega))
  rw [ip_upself, Int.cast_ofNat_Int] at k1
  have e1 : S1 62 11 = (p : Int) := by rw [h1.2.1 11 (by unfold y_s2; omega)]; exact hm
  obtain ⟨f1, f2, f3, f4, f5⟩ := t_fsh p (by omega)
  have hV : ∀ i j, 0 ≤ t_V W a i j ∧ t_V W a i j ≤ 3960 := fun i j => (w_rzr (W := W) (f := (i : Int)) (b := (j : Int)) (a := a) (w_okr hW) ha).2.2.1
  have k2 := y210 (d := d + 39) (S := S1) (R := R) (L := ip_up L 62 24 w1) (V := t_V W a) (p := p) hM hV (by omega) (fun i j a1 a2 => F1 i j a1 a2 (by omega)) 6 (2 ^ p - 1) f4 f5 (t_pc6 _ f4)
  have P3 : t_pc (2 ^ p - 1) / 2 ≤ 3 := by have := t_pc6 _ f4; omega
  have k3 := k2 0 0 (-1, 0) (by omega) (by have := t_pw _ P3; omega) (by omega) (by omega) (by unfold t_sr; decide)
  have e2 : ip_up (ip_up S1 62 33 (-1)) 62 34 0 = m_st S1 (-1, 0) := rfl
  have e3 : t_lk (-1, 0) (0 * 100 ^ (t_pc (2 ^ p - 1) / 2) + (t_al (t_V W a) (2 ^ p - 1)).2) (0 + (t_al (t_V W a) (2 ^ p - 1)).1) = ((t_al (t_V W a) (2 ^ p - 1)).2, (t_al (t_V W a) (2 ^ p - 1)).1) := by
    rw [Int.zero_mul, Int.zero_add, Int.zero_add]
    rfl
  rw [e3, show d + 39 + 6 + 4 = d + 49 by omega] at k3
  have hal := t_alb hV 64 (2 ^ p - 1) f4 f4
  have e4 : ip_up (ip_up S1 62 33 (-1)) 62 34 0 62 11 = (p : Int) := by rw [ip_upk (by omega), ip_upk (by omega)]; exact e1
  generalize hS2 : m_st S1 ((t_al (t_V W a) (2 ^ p - 1)).2, (t_al (t_V W a) (2 ^ p - 1)).1) = S2 at *
  have e5 : S2 62 33 = (t_al (t_V W a) (2 ^ p - 1)).2 := by rw [← hS2]; unfold m_st; rw [ip_upk (by omega), ip_ups]
  have e6 : S2 62 34 = (t_al (t_V W a) (2 ^ p - 1)).1 := by rw [← hS2]; unfold m_st; rw [ip_ups]
  refine ⟨S2, w1, ?_, fun Q => ?_⟩
  · rw [← hS2]
    exact y_h_s2 (y_h_s2 h1 (by unfold y_s2; omega)) (by unfold y_s2; omega)
  · rw [s209_11]
    simp (disch := omega) only [s209_12, ↓reduceIte, Bool.true_eq_false, Bool.false_eq_true, ip_rfS, true_or, or_true, true_and, and_true, Option.toList_some, Option.toList_none, List.cons_append, List.nil_append, ip_fxn, ip_fxi, ip_fxr, ip_fxl, ip_wid, ip_n998, ip_lt900, k1]
    have k4 : ∀ Q', ip_wp (d + 49) 209 42 [some (.ref 62), some (vi a), some (vi w0), some (vi (p : Int)), v1] [] 79 S1 R (ip_up L 62 24 w1) Q' = ip_wp (d + 49) 209 58 [some (.ref 62), some (vi a), some (vi w0), some (vi (p : Int)), v1] [] 79 S2 R (ip_up L 62 24 w1) Q' := fun Q' => by
      rw [← e2] at k3
      rw [s209_42]
      simp (disch := omega) only [s209_43, s209_44, s209_45, s209_46, s209_47, s209_48, s209_49, s209_50, s209_51, s209_52, s209_53, s209_54, s209_55, s209_56, s209_57, ↓reduceIte, Bool.true_eq_false, Bool.false_eq_true, ip_rfS, true_or, or_true, true_and, and_true, Option.toList_some, Option.toList_none, List.cons_append, List.nil_append, ip_fxn, ip_fxi, ip_fxr, ip_fxl, ip_wid, ip_n998, ip_lt900, iO0, iO1, iA2, iA3, iA4, iA5, iA6, iA7, iA8, iO9, iA10, iA11, iA12, iA13, iA14, iA15, iA16, iO17, iA18, iO19, iA20, iA21, iA22, iA23, iO24, iA25, iO26, iA27, iA28, iO29, iA30, iA31, iO32, iA33, iA34, iO35, iA36, iA37, iO38, iA39, iA40, iO41, iA42, iA43, iO44, iA45, iA46, iA47, iA48, iA49, iA50, iA51, iA52, iA53, iO54, iA55, iO56, iA57, iO58, iA59, iO60, iA61, iO62, iA63, iA64, iA65, iA66, iA67, iA68, iA69, iA70, iA71, iA72, iA73, iA74, iA75, iA76, iA77, iA78, iOT, iAT1, iAT2, iOS, iAS, ↓yfm1 hM, ↓yfm2 hM, ↓yfm5 hM, ↓yfm8 hM, ↓yfm9 hM, ↓yfm10 hM, ↓yfm12 hM, ↓yfm28 hM, ↓yfm32 hM, ↓yfm35 hM, ↓yfm36 hM, ↓yfm37 hM, ↓yfm41 hM, ↓yfm42 hM, ↓yfm43 hM, ↓yfm44 hM, rm1 hM, rm2 hM, rm5 hM, rm8 hM, rm9 hM, rm10 hM, rm12 hM, rm28 hM, rm32 hM, rm35 hM, rm36 hM, rm37 hM, rm41 hM, rm42 hM, rm43 hM, rm44 hM, p128r, p187r, p215r, k_n1, k_n0, k_n2, ip_r0, ip_r1, e4, f3, k3]
    rw [k4]
    unfold t_tog
    by_cases c : w0 = 0
    · rw [if_pos c]
      simp (disch := omega) only [s209_58, s209_59, s209_60, s209_61, s209_62, s209_63, s209_64, s209_65, ↓reduceIte, Bool.true_eq_false, Bool.false_eq_true, ip_rfS, true_or, or_true, true_and, and_true, Option.toList_some, Option.toList_none, List.cons_append, List.nil_append, ip_fxn, ip_fxi, ip_fxr, ip_fxl, ip_wid, ip_n998, ip_lt900, iO0, iO1, iA2, iA3, iA4, iA5, iA6, iA7, iA8, iO9, iA10, iA11, iA12, iA13, iA14, iA15, iA16, iO17, iA18, iO19, iA20, iA21, iA22, iA23, iO24, iA25, iO26, iA27, iA28, iO29, iA30, iA31, iO32, iA33, iA34, iO35, iA36, iA37, iO38, iA39, iA40, iO41, iA42, iA43, iO44, iA45, iA46, iA47, iA48, iA49, iA50, iA51, iA52, iA53, iO54, iA55, iO56, iA57, iO58, iA59, iO60, iA61, iO62, iA63, iA64, iA65, iA66, iA67, iA68, iA69, iA70, iA71, iA72, iA73, iA74, iA75, iA76, iA77, iA78, iOT, iAT1, iAT2, iOS, iAS, ↓yfm1 hM, ↓yfm2 hM, ↓yfm5 hM, ↓yfm8 hM, ↓yfm9 hM, ↓yfm10 hM, ↓yfm12 hM, ↓yfm28 hM, ↓yfm32 hM, ↓yfm35 hM, ↓yfm36 hM, ↓yfm37 hM, ↓yfm41 hM, ↓yfm42 hM, ↓yfm43 hM, ↓yfm44 hM, rm1 hM, rm2 hM, rm5 hM, rm8 hM, rm9 hM, rm10 hM, rm12 hM, rm28 hM, rm32 hM, rm35 hM, rm36 hM, rm37 hM, rm41 hM, rm42 hM, rm43 hM, rm44 hM, p128r, p187r, p215r, k_n1, k_n0, k_n2, ip_r0, ip_r1, eq_true c, e5]
    · rw [if_neg c]
      simp (disch := omega) only [s209_58, s209_59, s209_60, s209_61, s209_62, s209_63, s209_64, s209_65, ↓reduceIte, Bool.true_eq_false, Bool.false_eq_true, ip_rfS, true_or, or_true, true_and, and_true, Option.toList_some, Option.toList_none, List.cons_append, List.nil_append, ip_fxn, ip_fxi, ip_fxr, ip_fxl, ip_wid, ip_n998, ip_lt900, iO0, iO1, iA2, iA3, iA4, iA5, iA6, iA7, iA8, iO9, iA10, iA11, iA12, iA13, iA14, iA15, iA16, iO17, iA18, iO19, iA20, iA21, iA22, iA23, iO24, iA25, iO26, iA27, iA28, iO29, iA30, iA31, iO32, iA33, iA34, iO35, iA36, iA37, iO38, iA39, iA40, iO41, iA42, iA43, iO44, iA45, iA46, iA47, iA48, iA49, iA50, iA51, iA52, iA53, iO54, iA55, iO56, iA57, iO58, iA59, iO60, iA61, iO62, iA63, iA64, iA65, iA66, iA67, iA68, iA69, iA70, iA71, iA72, iA73, iA74, iA75, iA76, iA77, iA78, iOT, iAT1, iAT2, iOS, iAS, ↓yfm1 hM, ↓yfm2 hM, ↓yfm5 hM, ↓yfm8 hM, ↓yfm9 hM, ↓yfm10 hM, ↓yfm12 hM, ↓yfm28 hM, ↓yfm32 hM, ↓yfm35 hM, ↓yfm36 hM, ↓yfm37 hM, ↓yfm41 hM, ↓yfm42 hM, ↓yfm43 hM, ↓yfm44 hM, rm1 hM, rm2 hM, rm5 hM, rm8 hM, rm9 hM, rm10 hM, rm12 hM, rm28 hM, rm32 hM, rm35 hM, rm36 hM, rm37 hM, rm41 hM, rm42 hM, rm43 hM, rm44 hM, p128r, p187r, p215r, k_n1, k_n0, k_n2, ip_r0, ip_r1, c, e6]
end TGQ
