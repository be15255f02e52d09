/-! THE TAPE is taken -/
theorem ip_up_at {S : ip_S} {a : Nat} {k v : Int} : ip_up S a k v a k = v := if_pos ⟨rfl, rfl⟩
section TKE
variable {d n t : Nat} {S : ip_S} {R : ip_R} {L : ip_S} {Q : Option Value → Nat → ip_S → ip_R → ip_S → Prop}
def x_W (f : Int → Int) : Prop := ∀ k, 0 ≤ k → k ≤ 160 → ip_w (f k) = f k
theorem x_Wu {f : Int → Int} {i v : Int} (h : x_W f) (hv : ip_w v = v) : x_W (ip_u f i v) := by
  intro k h0 h1
  unfold ip_u
  split
  · exact hv
  · exact h k h0 h1
theorem k_spl_r {b : Int → Int} {sz : Int} (h1 : sz ≤ 160) (hb : ∀ i, 0 ≤ i → i < 160 → 0 ≤ b i ∧ b i < 256) : ∀ (f : Nat) (i nx l : Int) (t p q : Int → Int), sz - i = f → 0 ≤ i → 0 ≤ l → l ≤ i → x_W t → x_W q →
    (0 ≤ (k_spl b sz f i nx l t p q).1 ∧ (k_spl b sz f i nx l t p q).1 ≤ sz) ∧ x_W (k_spl b sz f i nx l t p q).2.1 ∧ x_W (k_spl b sz f i nx l t p q).2.2.2
  | 0, i, nx, l, t, p, q, h, hi, hl, hli, ht, hq => by
    simp only [k_spl]
    exact ⟨⟨hl, by omega⟩, x_Wu ht (ip_wid (by omega) (by omega)), hq⟩
  | f + 1, i, nx, l, t, p, q, h, hi, hl, hli, ht, hq => by
    rw [k_spl]
    split
    · have hk := k_tok_r (b := b) (p := i) (e := k_end b sz (k_le (b i)) (k_di (b i)) (sz - i).toNat (i + 1)) (hb i hi (by omega))
      refine k_spl_r h1 hb f (i + 1) _ (l + 1) _ _ _ (by omega) (by omega) (by omega) (by omega) (x_Wu ht (ip_wid (by omega) (by omega))) (x_Wu hq ?_)
      split
      · exact ip_ww _
      · exact ip_wid (by omega) (by omega)
    · exact k_spl_r h1 hb f (i + 1) nx l t p q (by omega) (by omega) hl (by omega) ht hq
/-- the cells of the TEXTS, as they stand -/
def x_R (n : Nat) (R : ip_R) : Prop := 44 ≤ n ∧ R 17 0 = some 18 ∧ R 17 1 = some 19 ∧ R 17 2 = some 24 ∧ R 24 0 = some 19 ∧ R 19 0 = some 20 ∧ R 19 1 = some 21 ∧ R 19 2 = some 22 ∧ R 19 3 = some 23 ∧ ∀ t : Nat, t < 6 → R 18 (t : Int) = some (26 + 3 * t) ∧ R (26 + 3 * t) 0 = some (27 + 3 * t) ∧ R (26 + 3 * t) 1 = some (28 + 3 * t)
theorem x_Hof {S1 : ip_S} {t : Nat} (h : x_R n R) (ht : t < 6) (h0 : 0 ≤ S1 19 5) (h1 : S1 19 5 ≤ 160) (h2 : x_W (S1 21)) (h3 : x_W (S1 23)) : x_H n t S1 (ip_ur R 24 1 (26 + 3 * t)) := by
  obtain ⟨a1, a2, a3, a4, a5, a6, a7, a8, a9, a10⟩ := h
  obtain ⟨b1, b2, b3⟩ := a10 t ht
  have u : ∀ (a : Nat) (k : Int), ¬ (a = 24 ∧ k = 1) → ip_ur R 24 1 (26 + 3 * t) a k = R a k := fun a k z => if_neg z
  refine ⟨a1, ht, ?_, if_pos ⟨rfl, rfl⟩, ?_, ?_, ?_, ?_, ?_, h0, h1, h2, h3⟩
  · rw [u _ _ (by omega)]; exact a5
  · rw [u _ _ (by omega)]; exact a7
  · rw [u _ _ (by omega)]; exact a8
  · rw [u _ _ (by omega)]; exact a9
  · rw [u _ _ (by omega)]; exact b2
  · rw [u _ _ (by omega)]; exact b3
/-- THE TAPE split, and what is read of it -/
def x_spt (S : ip_S) (sz : Int) : Int × (Int → Int) × (Int → Int) × (Int → Int) := k_split (S 20) sz (S 21) (S 22) (S 23)
def x_got (S : ip_S) (sz : Int) (t : Nat) : x_RD := x_read (x_spt S sz).2.1 (x_spt S sz).2.2.2 (x_spt S sz).1 (S (27 + 3 * t)) (S (28 + 3 * t))
def x_S1 (S : ip_S) (sz : Int) : ip_S := k_TS S (x_spt S sz).1 (x_spt S sz).2.1 (x_spt S sz).2.2.1 (x_spt S sz).2.2.2
def x_S2 (S : ip_S) (sz : Int) (t : Nat) : ip_S := k_RS (x_S1 S sz) t (x_got S sz t).2.1 ((x_spt S sz).2.1 (x_got S sz t).2.1) (x_got S sz t).2.2.1 (x_got S sz t).2.2.2.1 (x_got S sz t).2.2.2.2
def x_fl (S : ip_S) (sz : Int) (t : Nat) : Int := x_flt (x_spt S sz).2.1 (x_spt S sz).2.2.1 (x_got S sz t)
theorem p16 {sz : Int} (hx : x_R n R) (ht : t < 6) (hk : S 17 4 = t) (hz : S 19 4 = sz) (h0 : 0 ≤ sz) (h1 : sz ≤ 160) (hb : ∀ i, 0 ≤ i → i < 160 → 0 ≤ S 20 i ∧ S 20 i < 256) (hw1 : x_W (S 21)) (hw2 : x_W (S 23)) (hw3 : ip_w (x_fl S sz t) = x_fl S sz t) :
    ip_wc (d + 51) 16 [.ref 17] n S R L Q =
      if x_fl S sz t = -1 then Q (some (vi t)) n (ip_up (ip_up (x_S2 S sz t) 19 4 0) 17 4 (t + 1)) (ip_ur R 24 1 (26 + 3 * t)) L
      else Q (some (vi (-100 - x_fl S sz t))) n (ip_up (x_S2 S sz t) 19 4 0) (ip_ur R 24 1 (26 + 3 * t)) L := by
  obtain ⟨a1, a2, a3, a4, a5, a6, a7, a8, a9, a10⟩ := id hx
  obtain ⟨b1, b2, b3⟩ := a10 t ht
  have hs := k_spl_r (b := S 20) (sz := sz) h1 hb sz.toNat 0 0 0 (S 21) (S 22) (S 23) (by omega) (by omega) (by omega) (by omega) hw1 hw2
  have e21 : x_S1 S sz 21 = (x_spt S sz).2.1 := by funext k; exact k_TS21
  have e22 : x_S1 S sz 22 = (x_spt S sz).2.2.1 := by funext k; simp [x_S1, k_TS]
  have e23 : x_S1 S sz 23 = (x_spt S sz).2.2.2 := by funext k; simp [x_S1, k_TS]
  have e19 : x_S1 S sz 19 5 = (x_spt S sz).1 := rfl
  have e27 : x_S1 S sz (27 + 3 * t) = S (27 + 3 * t) := by funext k; unfold x_S1 k_TS; rw [if_neg (by omega), if_neg (by omega), if_neg (by omega), if_neg (by omega)]
  have e28 : x_S1 S sz (28 + 3 * t) = S (28 + 3 * t) := by funext k; unfold x_S1 k_TS; rw [if_neg (by omega), if_neg (by omega), if_neg (by omega), if_neg (by omega)]
  have e17 : x_S1 S sz 17 4 = t := by rw [← hk]; unfold x_S1 k_TS; simp
  have H : x_H n t (x_S1 S sz) (ip_ur R 24 1 (26 + 3 * t)) := x_Hof hx ht (by rw [e19]; exact hs.1.1) (by rw [e19]; have := hs.1.2; show (k_spl (S 20) sz sz.toNat 0 0 0 (S 21) (S 22) (S 23)).1 ≤ 160; omega) (by rw [e21]; exact hs.2.1) (by rw [e23]; exact hs.2.2)
  have h17 := fun Q' => p17 (d := d + 43) (Q := Q') (L := L) a1 hz h0 h1 hb a6 a7 a8 a9
  have h27 := fun Q' => (p27 (d := d) (Q := Q') (L := L) H (q := x_got S sz t) (by rw [e21, e23, e19, e27, e28]; rfl)).2
  rw [e21, e22] at h27
  have hS2 : k_RS (x_S1 S sz) t (x_got S sz t).2.1 ((x_spt S sz).2.1 (x_got S sz t).2.1) (x_got S sz t).2.2.1 (x_got S sz t).2.2.2.1 (x_got S sz t).2.2.2.2 = x_S2 S sz t := rfl
  have hS1 : k_TS S (k_split (S 20) sz (S 21) (S 22) (S 23)).1 (k_split (S 20) sz (S 21) (S 22) (S 23)).2.1 (k_split (S 20) sz (S 21) (S 22) (S 23)).2.2.1 (k_split (S 20) sz (S 21) (S 22) (S 23)).2.2.2 = x_S1 S sz := rfl
  have hFl : x_flt (x_spt S sz).2.1 (x_spt S sz).2.2.1 (x_got S sz t) = x_fl S sz t := rfl
  rw [hS2] at h27
  rw [hS1] at h17
  rw [hFl] at h27
  have e4 : ip_up (x_S2 S sz t) 19 4 0 17 4 = t := by
    rw [← e17]; unfold ip_up x_S2; rw [if_neg (by omega), rs_lo (by omega)]
  have u : ∀ (a : Nat) (k : Int), ¬ (a = 24 ∧ k = 1) → ip_ur R 24 1 (26 + 3 * t) a k = R a k := fun a k z => if_neg z
  have c1 : ip_ur R 24 1 (26 + 3 * t) 17 1 = some 19 := by rw [u _ _ (by omega)]; exact a3
  by_cases h : x_fl S sz t = -1
  · rw [if_pos h]
    simp (disch := omega) only [c16, s16_0, s16_1, s16_2, s16_3, s16_4, s16_5, s16_6, s16_7, s16_8, s16_9, s16_10, s16_11, s16_12, s16_13, s16_14, s16_15, s16_16, s16_17, s16_18, s16_19, s16_20, s16_21, s16_22, s16_23, s16_24, s16_25, s16_26, s16_27, s16_28, s16_29, s16_30, s16_31, s16_32, s16_33, s16_34, s16_35, s16_36, s16_37, s16_38, s16_39, ↓reduceIte, Bool.true_eq_false, Bool.false_eq_true, ip_rfS, true_or, or_true, true_and, and_true, Option.toList_some, Option.toList_none, List.cons_append, List.nil_append, ip_fxn, ip_fxi, ip_fxr, ip_fxl, ip_wid, ip_n998, ip_lt900, iO17, iO19, iO24, ip_n998, ip_lt900, hk, e17, a2, a3, a4, b1, c1, h17, h27, show (t : Int) < 6 by omega, hw3, h, e4, iA18, ip_up_at, Int.add_sub_cancel]
  · rw [if_neg h]
    simp (disch := omega) only [c16, s16_0, s16_1, s16_2, s16_3, s16_4, s16_5, s16_6, s16_7, s16_8, s16_9, s16_10, s16_11, s16_12, s16_13, s16_14, s16_15, s16_16, s16_17, s16_18, s16_19, s16_20, s16_21, s16_22, s16_23, s16_24, s16_25, s16_26, s16_27, s16_28, s16_29, s16_30, s16_31, s16_32, s16_33, s16_34, s16_35, s16_36, s16_37, s16_38, s16_39, ↓reduceIte, Bool.true_eq_false, Bool.false_eq_true, ip_rfS, true_or, or_true, true_and, and_true, Option.toList_some, Option.toList_none, List.cons_append, List.nil_append, ip_fxn, ip_fxi, ip_fxr, ip_fxl, ip_wid, ip_n998, ip_lt900, iO17, iO19, iO24, ip_n998, ip_lt900, hk, e17, a2, a3, a4, b1, c1, h17, h27, show (t : Int) < 6 by omega, hw3, h, e4, iA18, ip_up_at, Int.add_sub_cancel]
end TKE
