/-! together in the reference: its measuring, and the whole -/
def t_V (W : w_T) (a : Int) (i j : Nat) : Int := (w_rz W i j a).2.2.1
def y_fl (W : w_T) (a : Int) (p : Nat) (S : ip_S) (i j : Nat) : Prop := ∀ i' j' : Nat, i' < j' → j' < p → (i' < i ∨ i' = i ∧ j' < j) → S 71 (6 * (i' : Int) + (j' : Int)) = t_V W a i' j'
theorem y_h_71 {S S1 : ip_S} {i v : Int} (h : y_h S S1) : y_h S (ip_up S1 71 i v) := ⟨fun b a1 a2 a3 a4 => (ip_upc a4).trans (h.1 b a1 a2 a3 a4), fun k hk => by
    rw [ip_upc (by omega)]
    exact h.2.1 k hk, fun q q0 q1 => by
    rw [ip_upc (by omega)]
    exact h.2.2.1 q q0 q1, fun z => by
    have := h.2.2.2 z
    unfold y_rd at *
    rw [ip_upc (by omega)]
    exact this⟩
theorem y_h_s2 {S S1 : ip_S} {i v : Int} (h : y_h S S1) (hi : y_s2 i) : y_h S (ip_up S1 62 i v) := ⟨fun b a1 a2 a3 a4 => (ip_upc a1).trans (h.1 b a1 a2 a3 a4), fun k hk => by
    rw [← h.2.1 k hk]
    have : ¬ k = i := fun e => hk (e ▸ hi)
    rw [ip_upk this], fun q q0 q1 => by
    rw [ip_upc (by omega)]
    exact h.2.2.1 q q0 q1, fun z => by
    have := h.2.2.2 z
    unfold y_rd at *
    rw [ip_upc (by omega)]
    exact this⟩
theorem y_h_r {S : ip_S} : y_h S S := y_h_f y_g_r
section TGP
variable {d : Nat} {S : ip_S} {R : ip_R} {L : ip_S} {W : w_T}
theorem y209j {p : Nat} {a w0 : Int} (hM : x_RM R) (hW : w_ok W) (hR : y_R W (p : Int) S) (hG : w_gd W) (hm : S 62 11 = (p : Int)) (ha : 0 ≤ a ∧ a < 8) {i : Nat} (hi : i < p) : ∀ (k j : Nat) (w : Int) (S1 : ip_S), j + k = p → i < j → y_h S S1 → y_fl W a p S1 i j →
    ∃ S' w', y_h S S' ∧ y_fl W a p S' (i + 1) 0 ∧ ∀ Q, ip_wp (d + 49) 209 21 [some (.ref 62), some (vi a), some (vi w0), some (vi (i : Int)), some (vi (j : Int))] [] 79 S1 R (ip_up L 62 24 w) Q = ip_wp (d + 49) 209 40 [some (.ref 62), some (vi a), some (vi w0), some (vi (i : Int)), some (vi (p : Int))] [] 79 S' R (ip_up L 62 24 w') Q
  | 0, j, w, S1, h, hij, h1, hF => by
    have hm6 := hR.1
    have e1 : S1 62 11 = (p : Int) := by rw [h1.2.1 11 (by unfold y_s2; omega)]; exact hm
    obtain rfl : j = p := by omega
    refine ⟨S1, w, h1, fun i' j' a1 a2 a3 => hF i' j' a1 a2 (by omega), fun Q => ?_⟩
    rw [s209_21]
    simp (disch := omega) only [s209_22, s209_23, s209_24, s209_25, s209_26, s209_27, s209_28, s209_29, s209_30, s209_31, s209_32, s209_33, s209_34, s209_35, s209_36, s209_37, s209_38, s209_39, ↓reduceIte, Bool.true_eq_false, Bool.false_eq_true, ip_rfS, true_or, or_true, true_and, and_true, Option.toList_some, Option.toList_none, List.cons_append, List.nil_append, ip_fxn, ip_fxi, ip_fxr, ip_fxl, ip_wid, ip_n998, ip_lt900, iO0, iO1, iA2, iA3, iA4, iA5, iA6, iA7, iA8, iO9, iA10, iA11, iA12, iA13, iA14, iA15, iA16, iO17, iA18, iO19, iA20, iA21, iA22, iA23, iO24, iA25, iO26, iA27, iA28, iO29, iA30, iA31, iO32, iA33, iA34, iO35, iA36, iA37, iO38, iA39, iA40, iO41, iA42, iA43, iO44, iA45, iA46, iA47, iA48, iA49, iA50, iA51, iA52, iA53, iO54, iA55, iO56, iA57, iO58, iA59, iO60, iA61, iO62, iA63, iA64, iA65, iA66, iA67, iA68, iA69, iA70, iA71, iA72, iA73, iA74, iA75, iA76, iA77, iA78, iOT, iAT1, iAT2, iOS, iAS, ↓yfm1 hM, ↓yfm2 hM, ↓yfm5 hM, ↓yfm8 hM, ↓yfm9 hM, ↓yfm10 hM, ↓yfm12 hM, ↓yfm28 hM, ↓yfm32 hM, ↓yfm35 hM, ↓yfm36 hM, ↓yfm37 hM, ↓yfm41 hM, ↓yfm42 hM, ↓yfm43 hM, ↓yfm44 hM, rm1 hM, rm2 hM, rm5 hM, rm8 hM, rm9 hM, rm10 hM, rm12 hM, rm28 hM, rm32 hM, rm35 hM, rm36 hM, rm37 hM, rm41 hM, rm42 hM, rm43 hM, rm44 hM, p128r, p187r, p215r, k_n1, k_n0, k_n2, ip_r0, ip_r1, e1, Int.lt_irrefl]
  | k + 1, j, w, S1, h, hij, h1, hF => by
    have hm6 := hR.1
    have e1 : S1 62 11 = (p : Int) := by rw [h1.2.1 11 (by unfold y_s2; omega)]; exact hm
    obtain ⟨S2, w2, f2, -, k2⟩ := y204 (d := d) (L := ip_up L 62 24 w) (f := (i : Int)) (b := (j : Int)) (a := a) hM hW (y_h_R h1 hR) hG (by omega) (by omega) ha
    simp only [ip_upup] at k2
    have r3 := (w_rzr (W := W) (f := (i : Int)) (b := (j : Int)) (a := a) (w_okr hW) ha).2.2.1
    have g2 : y_h S (ip_up S2 71 (6 * (i : Int) + (j : Int)) (w_rz W i j a).2.2.1) := y_h_71 (y_h_t h1 (y_h_f f2))
    obtain ⟨S', w', i1, i2, i3⟩ := y209j hM hW hR hG hm ha hi k (j + 1) w2 _ (by omega) (by omega) g2 (fun i' j' a1 a2 a3 => by
      by_cases c : i' = i ∧ j' = j
      · rw [c.1, c.2, ip_ups]
        rfl
      · rw [ip_upk (by omega), f2.1 71 (by omega) (by omega) (by omega)]
        exact hF i' j' a1 a2 (by omega))
    refine ⟨S', w', i1, i2, fun Q => ?_⟩
    rw [← i3 Q, s209_21]
    simp (disch := omega) only [s209_22, s209_23, s209_24, s209_25, s209_26, s209_27, s209_28, s209_29, s209_30, s209_31, s209_32, s209_33, s209_34, s209_35, s209_36, s209_37, s209_38, s209_39, ↓reduceIte, Bool.true_eq_false, Bool.false_eq_true, ip_rfS, true_or, or_true, true_and, and_true, Option.toList_some, Option.toList_none, List.cons_append, List.nil_append, ip_fxn, ip_fxi, ip_fxr, ip_fxl, ip_wid, ip_n998, ip_lt900, iO0, iO1, iA2, iA3, iA4, iA5, iA6, iA7, iA8, iO9, iA10, iA11, iA12, iA13, iA14, iA15, iA16, iO17, iA18, iO19, iA20, iA21, iA22, iA23, iO24, iA25, iO26, iA27, iA28, iO29, iA30, iA31, iO32, iA33, iA34, iO35, iA36, iA37, iO38, iA39, iA40, iO41, iA42, iA43, iO44, iA45, iA46, iA47, iA48, iA49, iA50, iA51, iA52, iA53, iO54, iA55, iO56, iA57, iO58, iA59, iO60, iA61, iO62, iA63, iA64, iA65, iA66, iA67, iA68, iA69, iA70, iA71, iA72, iA73, iA74, iA75, iA76, iA77, iA78, iOT, iAT1, iAT2, iOS, iAS, ↓yfm1 hM, ↓yfm2 hM, ↓yfm5 hM, ↓yfm8 hM, ↓yfm9 hM, ↓yfm10 hM, ↓yfm12 hM, ↓yfm28 hM, ↓yfm32 hM, ↓yfm35 hM, ↓yfm36 hM, ↓yfm37 hM, ↓yfm41 hM, ↓yfm42 hM, ↓yfm43 hM, ↓yfm44 hM, rm1 hM, rm2 hM, rm5 hM, rm8 hM, rm9 hM, rm10 hM, rm12 hM, rm28 hM, rm32 hM, rm35 hM, rm36 hM, rm37 hM, rm41 hM, rm42 hM, rm43 hM, rm44 hM, p128r, p187r, p215r, k_n1, k_n0, k_n2, ip_r0, ip_r1, e1, show (j : Int) < (p : Int) by omega, k2, Int.natCast_add, Int.cast_ofNat_Int]
theorem y209i {p : Nat} {a w0 : Int} (hM : x_RM R) (hW : w_ok W) (hR : y_R W (p : Int) S) (hG : w_gd W) (hm : S 62 11 = (p : Int)) (ha : 0 ≤ a ∧ a < 8) : ∀ (k i : Nat) (w : Int) (v4 : Option Value) (S1 : ip_S), i + k = p → y_h S S1 → y_fl W a p S1 i 0 →
    ∃ S' w' v', y_h S S' ∧ y_fl W a p S' p 0 ∧ ∀ Q, ip_wp (d + 49) 209 13 [some (.ref 62), some (vi a), some (vi w0), some (vi (i : Int)), v4] [] 79 S1 R (ip_up L 62 24 w) Q = ip_wp (d + 49) 209 42 [some (.ref 62), some (vi a), some (vi w0), some (vi (p : Int)), v'] [] 79 S' R (ip_up L 62 24 w') Q
  | 0, i, w, v4, S1, h, h1, hF => by
    have hm6 := hR.1
    have e1 : S1 62 11 = (p : Int) := by rw [h1.2.1 11 (by unfold y_s2; omega)]; exact hm
    obtain rfl : i = p := by omega
    refine ⟨S1, w, v4, h1, hF, fun Q => ?_⟩
    rw [s209_13]
    simp (disch := omega) only [s209_14, s209_15, s209_16, s209_17, s209_18, s209_19, s209_20, ↓reduceIte, Bool.true_eq_false, Bool.false_eq_true, ip_rfS, true_or, or_true, true_and, and_true, Option.toList_some, Option.toList_none, List.cons_append, List.nil_append, ip_fxn, ip_fxi, ip_fxr, ip_fxl, ip_wid, ip_n998, ip_lt900, iO0, iO1, iA2, iA3, iA4, iA5, iA6, iA7, iA8, iO9, iA10, iA11, iA12, iA13, iA14, iA15, iA16, iO17, iA18, iO19, iA20, iA21, iA22, iA23, iO24, iA25, iO26, iA27, iA28, iO29, iA30, iA31, iO32, iA33, iA34, iO35, iA36, iA37, iO38, iA39, iA40, iO41, iA42, iA43, iO44, iA45, iA46, iA47, iA48, iA49, iA50, iA51, iA52, iA53, iO54, iA55, iO56, iA57, iO58, iA59, iO60, iA61, iO62, iA63, iA64, iA65, iA66, iA67, iA68, iA69, iA70, iA71, iA72, iA73, iA74, iA75, iA76, iA77, iA78, iOT, iAT1, iAT2, iOS, iAS, ↓yfm1 hM, ↓yfm2 hM, ↓yfm5 hM, ↓yfm8 hM, ↓yfm9 hM, ↓yfm10 hM, ↓yfm12 hM, ↓yfm28 hM, ↓yfm32 hM, ↓yfm35 hM, ↓yfm36 hM, ↓yfm37 hM, ↓yfm41 hM, ↓yfm42 hM, ↓yfm43 hM, ↓yfm44 hM, rm1 hM, rm2 hM, rm5 hM, rm8 hM, rm9 hM, rm10 hM, rm12 hM, rm28 hM, rm32 hM, rm35 hM, rm36 hM, rm37 hM, rm41 hM, rm42 hM, rm43 hM, rm44 hM, p128r, p187r, p215r, k_n1, k_n0, k_n2, ip_r0, ip_r1, e1, Int.lt_irrefl]
  | k + 1, i, w, v4, S1, h, h1, hF => by
    have hm6 := hR.1
    have e1 : S1 62 11 = (p : Int) := by rw [h1.2.1 11 (by unfold y_s2; omega)]; exact hm
    obtain ⟨S2, w2, g2, F2, k2⟩ := y209j (d := d) (L := L) (w0 := w0) hM hW hR hG hm ha (i := i) (by omega) (p - (i + 1)) (i + 1) w S1 (by omega) (by omega) h1 (fun i' j' a1 a2 a3 => hF i' j' a1 a2 (by omega))
    obtain ⟨S', w', v', i1, i2, i3⟩ := y209i hM hW hR hG hm ha k (i + 1) w2 (some (vi (p : Int))) S2 (by omega) g2 F2
    refine ⟨S', w', v', i1, i2, fun Q => ?_⟩
    rw [Int.natCast_add, Int.cast_ofNat_Int] at k2 i3
    rw [← i3 Q, s209_13]
    simp (disch := omega) only [s209_14, s209_15, s209_16, s209_17, s209_18, s209_19, s209_20, ↓reduceIte, Bool.true_eq_false, Bool.false_eq_true, ip_rfS, true_or, or_true, true_and, and_true, Option.toList_some, Option.toList_none, List.cons_append, List.nil_append, ip_fxn, ip_fxi, ip_fxr, ip_fxl, ip_wid, ip_n998, ip_lt900, iO0, iO1, iA2, iA3, iA4, iA5, iA6, iA7, iA8, iO9, iA10, iA11, iA12, iA13, iA14, iA15, iA16, iO17, iA18, iO19, iA20, iA21, iA22, iA23, iO24, iA25, iO26, iA27, iA28, iO29, iA30, iA31, iO32, iA33, iA34, iO35, iA36, iA37, iO38, iA39, iA40, iO41, iA42, iA43, iO44, iA45, iA46, iA47, iA48, iA49, iA50, iA51, iA52, iA53, iO54, iA55, iO56, iA57, iO58, iA59, iO60, iA61, iO62, iA63, iA64, iA65, iA66, iA67, iA68, iA69, iA70, iA71, iA72, iA73, iA74, iA75, iA76, iA77, iA78, iOT, iAT1, iAT2, iOS, iAS, ↓yfm1 hM, ↓yfm2 hM, ↓yfm5 hM, ↓yfm8 hM, ↓yfm9 hM, ↓yfm10 hM, ↓yfm12 hM, ↓yfm28 hM, ↓yfm32 hM, ↓yfm35 hM, ↓yfm36 hM, ↓yfm37 hM, ↓yfm41 hM, ↓yfm42 hM, ↓yfm43 hM, ↓yfm44 hM, rm1 hM, rm2 hM, rm5 hM, rm8 hM, rm9 hM, rm10 hM, rm12 hM, rm28 hM, rm32 hM, rm35 hM, rm36 hM, rm37 hM, rm41 hM, rm42 hM, rm43 hM, rm44 hM, p128r, p187r, p215r, k_n1, k_n0, k_n2, ip_r0, ip_r1, e1, show (i : Int) < (p : Int) by omega, k2]
    simp (disch := omega) only [s209_40, s209_41, ↓reduceIte, Bool.true_eq_false, Bool.false_eq_true, ip_rfS, true_or, or_true, true_and, and_true, Option.toList_some, Option.toList_none, List.cons_append, List.nil_append, ip_fxn, ip_fxi, ip_fxr, ip_fxl, ip_wid, ip_n998, ip_lt900, iO0, iO1, iA2, iA3, iA4, iA5, iA6, iA7, iA8, iO9, iA10, iA11, iA12, iA13, iA14, iA15, iA16, iO17, iA18, iO19, iA20, iA21, iA22, iA23, iO24, iA25, iO26, iA27, iA28, iO29, iA30, iA31, iO32, iA33, iA34, iO35, iA36, iA37, iO38, iA39, iA40, iO41, iA42, iA43, iO44, iA45, iA46, iA47, iA48, iA49, iA50, iA51, iA52, iA53, iO54, iA55, iO56, iA57, iO58, iA59, iO60, iA61, iO62, iA63, iA64, iA65, iA66, iA67, iA68, iA69, iA70, iA71, iA72, iA73, iA74, iA75, iA76, iA77, iA78, iOT, iAT1, iAT2, iOS, iAS, ↓yfm1 hM, ↓yfm2 hM, ↓yfm5 hM, ↓yfm8 hM, ↓yfm9 hM, ↓yfm10 hM, ↓yfm12 hM, ↓yfm28 hM, ↓yfm32 hM, ↓yfm35 hM, ↓yfm36 hM, ↓yfm37 hM, ↓yfm41 hM, ↓yfm42 hM, ↓yfm43 hM, ↓yfm44 hM, rm1 hM, rm2 hM, rm5 hM, rm8 hM, rm9 hM, rm10 hM, rm12 hM, rm28 hM, rm32 hM, rm35 hM, rm36 hM, rm37 hM, rm41 hM, rm42 hM, rm43 hM, rm44 hM, p128r, p187r, p215r, k_n1, k_n0, k_n2, ip_r0, ip_r1]
end TGP
