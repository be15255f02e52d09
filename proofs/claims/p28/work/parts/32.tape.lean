/-! THE TAPE: signs, words, numerals -/
def k_bl (x : Int) : Bool := decide (x = 32 ∨ x = 10)
def k_le (x : Int) : Bool := decide (97 ≤ x ∧ x ≤ 122)
def k_di (x : Int) : Bool := decide (48 ≤ x ∧ x ≤ 57)
def k_sg (x : Int) : Bool := decide ((40 ≤ x ∧ x ≤ 43) ∨ x = 45 ∨ (59 ≤ x ∧ x ≤ 61))
def k_n (p : Bool) : Int := if p = true then 1 else 0
theorem k_n0 {p : Bool} : (k_n p = 0) = (p = false) := by cases p <;> decide
theorem k_n1 {p : Bool} : ip_w (k_n p) = k_n p := by cases p <;> decide +kernel
theorem k_n2 {p : Bool} {P : Prop} : ((ip_w (k_n p) = 0 ∨ ip_w (k_n p) = 1) ∧ P) = P := by
  cases p
  · exact ip_r0
  · exact ip_r1
section TPE
variable {d n : Nat} {S : ip_S} {R : ip_R} {L : ip_S} {Q : Option Value → Nat → ip_S → ip_R → ip_S → Prop}
theorem p18 {x : Int} (hx : ip_w x = x) : ip_wc (d + 1) 18 [vi x] n S R L Q = Q (some (vi (k_n (k_bl x)))) n S R L := by
  simp (disch := omega) only [c18, s18_0, s18_1, s18_2, s18_3, s18_4, s18_5, s18_6, s18_7, s18_8, s18_9, ↓reduceIte, Bool.true_eq_false, Bool.false_eq_true, ip_rfS, true_or, or_true, true_and, and_true, Option.toList_some, Option.toList_none, List.cons_append, List.nil_append, ip_fxn, ip_fxi, ip_fxr, ip_fxl, ip_wid, ip_n998, ip_lt900, hx, ip_r0, ip_r1]
  by_cases h1 : x = 32 <;> by_cases h2 : x = 10 <;> simp [k_bl, k_n, h1, h2]
theorem p20 {x : Int} (hx : ip_w x = x) : ip_wc (d + 1) 20 [vi x] n S R L Q = Q (some (vi (k_n (k_le x)))) n S R L := by
  simp (disch := omega) only [c20, s20_0, s20_1, s20_2, s20_3, s20_4, s20_5, s20_6, s20_7, s20_8, s20_9, ↓reduceIte, Bool.true_eq_false, Bool.false_eq_true, ip_rfS, true_or, or_true, true_and, and_true, Option.toList_some, Option.toList_none, List.cons_append, List.nil_append, ip_fxn, ip_fxi, ip_fxr, ip_fxl, ip_wid, ip_n998, ip_lt900, hx, ip_r0, ip_r1]
  by_cases h1 : x < 97
  · rw [if_pos h1, show k_le x = false from decide_eq_false (by omega)]; rfl
  · by_cases h2 : 122 < x
    · rw [if_neg h1, if_pos h2, show k_le x = false from decide_eq_false (by omega)]; rfl
    · rw [if_neg h1, if_neg h2, show k_le x = true from decide_eq_true (by omega)]; rfl
theorem p21 {x : Int} (hx : ip_w x = x) : ip_wc (d + 1) 21 [vi x] n S R L Q = Q (some (vi (k_n (k_di x)))) n S R L := by
  simp (disch := omega) only [c21, s21_0, s21_1, s21_2, s21_3, s21_4, s21_5, s21_6, s21_7, s21_8, s21_9, ↓reduceIte, Bool.true_eq_false, Bool.false_eq_true, ip_rfS, true_or, or_true, true_and, and_true, Option.toList_some, Option.toList_none, List.cons_append, List.nil_append, ip_fxn, ip_fxi, ip_fxr, ip_fxl, ip_wid, ip_n998, ip_lt900, hx, ip_r0, ip_r1]
  by_cases h1 : x < 48
  · rw [if_pos h1, show k_di x = false from decide_eq_false (by omega)]; rfl
  · by_cases h2 : 57 < x
    · rw [if_neg h1, if_pos h2, show k_di x = false from decide_eq_false (by omega)]; rfl
    · rw [if_neg h1, if_neg h2, show k_di x = true from decide_eq_true (by omega)]; rfl
theorem p23 {x : Int} (hx : ip_w x = x) : ip_wc (d + 1) 23 [vi x] n S R L Q = Q (some (vi (k_n (k_sg x)))) n S R L := by
  have e2 : ip_wp d 23 2 [some (vi x)] [] n S R L Q = Q (some (vi 1)) n S R L := by simp only [s23_0, s23_2, s23_3, s23_4, s23_5, ↓reduceIte, Bool.true_eq_false, Bool.false_eq_true, ip_rfS, true_or, or_true, true_and, and_true, Option.toList_some, Option.toList_none, List.cons_append, List.nil_append, ip_fxn, ip_fxi, ip_fxr, ip_fxl, ip_wid, ip_n998, ip_lt900, ip_r1]
  have e4 : ip_wp d 23 4 [some (vi x)] [] n S R L Q = Q (some (vi 0)) n S R L := by simp only [s23_0, s23_2, s23_3, s23_4, s23_5, ↓reduceIte, Bool.true_eq_false, Bool.false_eq_true, ip_rfS, true_or, or_true, true_and, and_true, Option.toList_some, Option.toList_none, List.cons_append, List.nil_append, ip_fxn, ip_fxi, ip_fxr, ip_fxl, ip_wid, ip_n998, ip_lt900, ip_r0]
  rw [c23, s23_0, s23_1, hx, e2, e4]
  by_cases h : (40 ≤ x ∧ x ≤ 43) ∨ x = 45 ∨ (59 ≤ x ∧ x ≤ 61)
  · rw [show k_sg x = true from decide_eq_true h]
    obtain q | q | q | q | q | q | q | q : x = 40 ∨ x = 41 ∨ x = 42 ∨ x = 43 ∨ x = 45 ∨ x = 59 ∨ x = 60 ∨ x = 61 := by omega
    all_goals (subst q; simp [k_n])
  · rw [show k_sg x = false from decide_eq_false h]
    simp only [show ¬ x = 40 by omega, show ¬ x = 41 by omega, show ¬ x = 42 by omega, show ¬ x = 43 by omega, show ¬ x = 45 by omega, show ¬ x = 59 by omega, show ¬ x = 60 by omega, show ¬ x = 61 by omega, if_false, ite_self]
    rfl
theorem p24 {x : Int} (h0 : 0 ≤ x) (h1 : x < 12) : ip_wc (d + 1) 24 [vi x] n S R L Q = Q (some (.ref (901 + (x.toNat + 1)))) n S R L := by
  have hx : ip_w x = x := ip_wid (by omega) (by omega)
  rw [c24, s24_0, s24_1, hx]
  simp only [s24_0, s24_2, s24_3, s24_4, s24_5, s24_6, s24_7, s24_8, s24_9, s24_10, s24_11, s24_12, s24_13, s24_14, s24_15, s24_16, s24_17, s24_18, s24_19, s24_20, s24_21, s24_22, s24_23, s24_24, s24_25, ↓reduceIte, Bool.true_eq_false, Bool.false_eq_true, ip_rfS, true_or, or_true, true_and, and_true, Option.toList_some, Option.toList_none, List.cons_append, List.nil_append, ip_fxn, ip_fxi, ip_fxr, ip_fxl, ip_wid, ip_n998, ip_lt900]
  obtain q | q | q | q | q | q | q | q | q | q | q | q : x = 0 ∨ x = 1 ∨ x = 2 ∨ x = 3 ∨ x = 4 ∨ x = 5 ∨ x = 6 ∨ x = 7 ∨ x = 8 ∨ x = 9 ∨ x = 10 ∨ x = 11 := by omega
  all_goals (subst q; simp)
def k_end (b : Int → Int) (sz : Int) (w u : Bool) : Nat → Int → Int
  | 0, _ => sz
  | f + 1, i => if i < sz then (if (w && k_le (b i) || u && k_di (b i)) = true then k_end b sz w u f (i + 1) else i) else sz
theorem p19l {sz p : Int} {w u : Bool} (hn : 44 ≤ n) (hz : S 19 4 = sz) (h0 : 0 ≤ sz) (h1 : sz ≤ 160) (hb : ∀ i, 0 ≤ i → i < 160 → 0 ≤ S 20 i ∧ S 20 i < 256) (hR : R 19 0 = some 20) : ∀ (f : Nat) (i : Int), sz - i ≤ f → 0 ≤ i → i ≤ 200 →
    ip_wp (d + 1) 19 16 [some (.ref 19), some (vi p), some (vi (k_n w)), some (vi (k_n u)), some (vi i)] [] n S R L Q = Q (some (vi (k_end (S 20) sz w u f i))) n S R L
  | 0, i, h, hi, hj => by
    have h2 : ¬ i < sz := by omega
    simp (disch := omega) only [s19_0, s19_1, s19_2, s19_3, s19_4, s19_5, s19_6, s19_7, s19_8, s19_9, s19_10, s19_11, s19_12, s19_13, s19_14, s19_15, s19_17, s19_18, s19_19, s19_20, s19_21, s19_22, s19_23, s19_24, s19_25, s19_26, s19_27, s19_28, s19_29, s19_30, s19_31, s19_32, s19_33, s19_34, s19_35, s19_36, s19_37, s19_38, s19_39, s19_40, s19_41, s19_42, s19_16, ↓reduceIte, Bool.true_eq_false, Bool.false_eq_true, ip_rfS, true_or, or_true, true_and, and_true, Option.toList_some, Option.toList_none, List.cons_append, List.nil_append, ip_fxn, ip_fxi, ip_fxr, ip_fxl, ip_wid, ip_n998, ip_lt900, hR, hz, ip_n998, iO19, iA20, h2, if_false, k_end]
  | f + 1, i, h, hi, hj => by
    by_cases h2 : i < sz
    · have hw : ip_w (S 20 i) = S 20 i := by have := hb i hi (by omega); exact ip_wid (by omega) (by omega)
      have ih := p19l (w := w) (u := u) (p := p) hn hz h0 h1 hb hR f (i + 1) (by omega) (by omega) (by omega)
      rw [s19_16]
      simp (disch := omega) only [s19_0, s19_1, s19_2, s19_3, s19_4, s19_5, s19_6, s19_7, s19_8, s19_9, s19_10, s19_11, s19_12, s19_13, s19_14, s19_15, s19_17, s19_18, s19_19, s19_20, s19_21, s19_22, s19_23, s19_24, s19_25, s19_26, s19_27, s19_28, s19_29, s19_30, s19_31, s19_32, s19_33, s19_34, s19_35, s19_36, s19_37, s19_38, s19_39, s19_40, s19_41, s19_42, ↓reduceIte, Bool.true_eq_false, Bool.false_eq_true, ip_rfS, true_or, or_true, true_and, and_true, Option.toList_some, Option.toList_none, List.cons_append, List.nil_append, ip_fxn, ip_fxi, ip_fxr, ip_fxl, ip_wid, ip_n998, ip_lt900, hR, hz, ip_n998, iO19, iA20, h2, if_true, k_end, p20, p21, hw, ih, k_n1, k_n0]
      cases w <;> cases u <;> cases k_le (S 20 i) <;> cases k_di (S 20 i) <;> rfl
    · simp (disch := omega) only [s19_0, s19_1, s19_2, s19_3, s19_4, s19_5, s19_6, s19_7, s19_8, s19_9, s19_10, s19_11, s19_12, s19_13, s19_14, s19_15, s19_17, s19_18, s19_19, s19_20, s19_21, s19_22, s19_23, s19_24, s19_25, s19_26, s19_27, s19_28, s19_29, s19_30, s19_31, s19_32, s19_33, s19_34, s19_35, s19_36, s19_37, s19_38, s19_39, s19_40, s19_41, s19_42, s19_16, ↓reduceIte, Bool.true_eq_false, Bool.false_eq_true, ip_rfS, true_or, or_true, true_and, and_true, Option.toList_some, Option.toList_none, List.cons_append, List.nil_append, ip_fxn, ip_fxi, ip_fxr, ip_fxl, ip_wid, ip_n998, ip_lt900, hR, hz, ip_n998, iO19, iA20, h2, if_false, k_end]
theorem p19 {sz p : Int} (hn : 44 ≤ n) (hz : S 19 4 = sz) (h0 : 0 ≤ p) (h1 : sz ≤ 160) (hp : p < sz) (hb : ∀ i, 0 ≤ i → i < 160 → 0 ≤ S 20 i ∧ S 20 i < 256) (hR : R 19 0 = some 20) :
    ip_wc (d + 2) 19 [.ref 19, vi p] n S R L Q = Q (some (vi (k_end (S 20) sz (k_le (S 20 p)) (k_di (S 20 p)) (sz - p).toNat (p + 1)))) n S R L := by
  have hw : ip_w (S 20 p) = S 20 p := by have := hb p h0 (by omega); exact ip_wid (by omega) (by omega)
  rw [c19]
  simp (disch := omega) only [s19_0, s19_1, s19_2, s19_3, s19_4, s19_5, s19_6, s19_7, s19_8, s19_9, s19_10, s19_11, s19_12, s19_13, s19_14, s19_15, ↓reduceIte, Bool.true_eq_false, Bool.false_eq_true, ip_rfS, true_or, or_true, true_and, and_true, Option.toList_some, Option.toList_none, List.cons_append, List.nil_append, ip_fxn, ip_fxi, ip_fxr, ip_fxl, ip_wid, ip_n998, ip_lt900, hR, ip_n998, iO19, iA20, p20, p21, hw]
  exact p19l hn hz (by omega) h1 hb hR _ _ (by omega) (by omega) (by omega)
end TPE
