/-! goes in the reference -/
def y_rd (S : ip_S) : Prop := ∀ p, 0 ≤ p → p < 6 → 0 ≤ S 68 (3 * p + 2) ∧ S 68 (3 * p + 2) ≤ 99999
def y_h (S S' : ip_S) : Prop := (∀ b : Nat, b ≠ 62 → b ≠ 68 → b ≠ 70 → b ≠ 71 → S' b = S b) ∧ (∀ k, ¬ y_s2 k → S' 62 k = S 62 k) ∧ (∀ p, 0 ≤ p → p < 6 → S' 68 (3 * p) = S 68 (3 * p) ∧ S' 68 (3 * p + 1) = S 68 (3 * p + 1)) ∧ (y_rd S → y_rd S')
theorem y_h_f {S S' : ip_S} (h : y_g S S') : y_h S S' := by
  have e := h.1 68 (by omega) (by omega) (by omega)
  refine ⟨fun b a1 _ a2 _ => h.1 b a1 a2 a2, h.2, fun p _ _ => by rw [e]; exact ⟨rfl, rfl⟩, fun z => ?_⟩
  unfold y_rd
  rw [e]
  exact z
theorem y_h_t {S S1 S2 : ip_S} (h1 : y_h S S1) (h2 : y_h S1 S2) : y_h S S2 := ⟨fun b a1 a2 a3 a4 => (h2.1 b a1 a2 a3 a4).trans (h1.1 b a1 a2 a3 a4), fun k hk => (h2.2.1 k hk).trans (h1.2.1 k hk), fun p p0 p1 => ⟨((h2.2.2.1 p p0 p1).1).trans (h1.2.2.1 p p0 p1).1, ((h2.2.2.1 p p0 p1).2).trans (h1.2.2.1 p p0 p1).2⟩, fun z => h2.2.2.2 (h1.2.2.2 z)⟩
theorem y_h_up {S S1 : ip_S} {p v : Int} (h : y_h S S1) (hv : 0 ≤ v ∧ v ≤ 99999) : y_h S (ip_up S1 68 (3 * p + 2) v) := ⟨fun b a1 a2 a3 a4 => (ip_upc a2).trans (h.1 b a1 a2 a3 a4), fun k hk => by
    rw [ip_upc (by omega)]
    exact h.2.1 k hk, fun q q0 q1 => by
    rw [ip_upk (by omega), ip_upk (by omega)]
    exact h.2.2.1 q q0 q1, fun z q q0 q1 => by
    by_cases e : q = p
    · subst e
      rw [ip_ups]
      exact hv
    · rw [ip_upk (by omega)]
      exact h.2.2.2 z q q0 q1⟩
theorem y_h_R {W : w_T} {m : Int} {S S1 : ip_S} (h : y_h S S1) (hR : y_R W m S) : y_R W m S1 := by
  have n7 : ¬ y_s2 7 := by unfold y_s2; omega
  have n4 : ¬ y_s2 4 := by unfold y_s2; omega
  unfold y_R y_tx at *
  rw [h.1 67 (by omega) (by omega) (by omega) (by omega), h.1 66 (by omega) (by omega) (by omega) (by omega), h.1 69 (by omega) (by omega) (by omega) (by omega), h.1 63 (by omega) (by omega) (by omega) (by omega), h.1 64 (by omega) (by omega) (by omega) (by omega), h.2.1 7 n7, h.2.1 4 n4]
  refine ⟨hR.1, fun p p0 p1 => ?_, hR.2.2⟩
  have e := h.2.2.1 p p0 (by have := hR.1; omega)
  rw [e.1, e.2]
  exact hR.2.1 p p0 p1
section GOM
variable {d : Nat} {S : ip_S} {R : ip_R} {L : ip_S} {W : w_T} {m : Int}
theorem y203r {f b a : Int} (hM : x_RM R) (hW : w_ok W) (hR : y_R W m S) (hG : w_gd W) (h7 : y_rd S) (hf : 0 ≤ f ∧ f < m) (hb : 0 ≤ b ∧ b < m) (ha : 0 ≤ a ∧ a < 8) :
    ∃ S' w', y_h S S' ∧ ∀ Q, ip_wp (d + 49) 203 10 [some (.ref 62), some (vi f), some (vi b), some (vi a), none] [] 79 S R L Q = Q (some (vi (w_rz W f b a).2.2.1)) 79 S' R (ip_up L 62 24 w') := by
  have hm6 := hR.1
  obtain ⟨S1, w1, f1, z1, k1⟩ := y204 (d := d) (L := L) (f := f) (b := b) (a := a) hM hW hR hG hf hb ha
  have r3 := (w_rzr (W := W) (f := f) (b := b) (a := a) (w_okr hW) ha).2.2.1
  generalize (w_rz W f b a).2.2.1 = v at *
  have g1 := y_h_f f1
  have u1 := g1.2.2.2 h7 f hf.1 (by omega)
  have g2 : y_h S (ip_up S1 68 (3 * f + 2) (if S1 68 (3 * f + 2) + v < 0 then 0 else if 99999 < S1 68 (3 * f + 2) + v then 99999 else S1 68 (3 * f + 2) + v)) := y_h_up g1 (by repeat' split <;> omega)
  have u2 := g2.2.2.2 h7 b hb.1 (by omega)
  generalize hS2 : ip_up S1 68 (3 * f + 2) (if S1 68 (3 * f + 2) + v < 0 then 0 else if 99999 < S1 68 (3 * f + 2) + v then 99999 else S1 68 (3 * f + 2) + v) = S2 at *
  have g3 : y_h S (ip_up S2 68 (3 * b + 2) (if S2 68 (3 * b + 2) + v < 0 then 0 else if 99999 < S2 68 (3 * b + 2) + v then 99999 else S2 68 (3 * b + 2) + v)) := y_h_up g2 (by repeat' split <;> omega)
  refine ⟨_, w1, g3, fun Q => ?_⟩
  have k183 := fun Q => p183 (d := d + 48) (n := 79) (S := S1) (R := R) (L := ip_up L 62 24 w1) (v := S1 68 (3 * f + 2) + v) (lo := 0) (hi := 99999) (Q := Q) (ip_wid (by omega) (by omega)) (ip_wid (by omega) (by omega)) (ip_wid (by omega) (by omega))
  have k183b := fun Q => p183 (d := d + 48) (n := 79) (S := S2) (R := R) (L := ip_up L 62 24 w1) (v := S2 68 (3 * b + 2) + v) (lo := 0) (hi := 99999) (Q := Q) (ip_wid (by omega) (by omega)) (ip_wid (by omega) (by omega)) (ip_wid (by omega) (by omega))
  simp (disch := omega) only [s203_0, s203_1, s203_2, s203_3, s203_4, s203_5, s203_6, s203_7, s203_8, s203_9, s203_10, s203_11, s203_12, s203_13, s203_14, s203_15, s203_16, s203_17, s203_18, s203_19, s203_20, s203_21, s203_22, s203_23, s203_24, s203_25, s203_26, s203_27, s203_28, s203_29, s203_30, s203_31, s203_32, s203_33, s203_34, s203_35, s203_36, s203_37, s203_38, s203_39, s203_40, s203_41, s203_42, s203_43, s203_44, s203_45, s203_46, s203_47, s203_48, s203_49, s203_50, s203_51, s203_52, s203_53, s203_54, s203_55, s203_56, s203_57, s203_58, s203_59, ↓reduceIte, Bool.true_eq_false, Bool.false_eq_true, ip_rfS, true_or, or_true, true_and, and_true, Option.toList_some, Option.toList_none, List.cons_append, List.nil_append, ip_fxn, ip_fxi, ip_fxr, ip_fxl, ip_wid, ip_n998, ip_lt900, iO0, iO1, iA2, iA3, iA4, iA5, iA6, iA7, iA8, iO9, iA10, iA11, iA12, iA13, iA14, iA15, iA16, iO17, iA18, iO19, iA20, iA21, iA22, iA23, iO24, iA25, iO26, iA27, iA28, iO29, iA30, iA31, iO32, iA33, iA34, iO35, iA36, iA37, iO38, iA39, iA40, iO41, iA42, iA43, iO44, iA45, iA46, iA47, iA48, iA49, iA50, iA51, iA52, iA53, iO54, iA55, iO56, iA57, iO58, iA59, iO60, iA61, iO62, iA63, iA64, iA65, iA66, iA67, iA68, iA69, iA70, iA71, iA72, iA73, iA74, iA75, iA76, iA77, iA78, iOT, iAT1, iAT2, iOS, iAS, ↓yfm1 hM, ↓yfm2 hM, ↓yfm5 hM, ↓yfm8 hM, ↓yfm9 hM, ↓yfm10 hM, ↓yfm12 hM, ↓yfm28 hM, ↓yfm32 hM, ↓yfm35 hM, ↓yfm36 hM, ↓yfm37 hM, ↓yfm41 hM, ↓yfm42 hM, ↓yfm43 hM, ↓yfm44 hM, rm1 hM, rm2 hM, rm5 hM, rm8 hM, rm9 hM, rm10 hM, rm12 hM, rm28 hM, rm32 hM, rm35 hM, rm36 hM, rm37 hM, rm41 hM, rm42 hM, rm43 hM, rm44 hM, p128r, p187r, p215r, k_n1, k_n0, k_n2, ip_r0, ip_r1, k1, k183, k183b, hS2]
end GOM
