/-! a SHEET -/
def h_z (f : Int → Int) (i : Int) : Int → Int := fun k => if 0 ≤ k ∧ k < i then 0 else f k
theorem h_z0 {f : Int → Int} : h_z f 0 = f := by funext k; exact if_neg (by omega)
theorem h_zu {f : Int → Int} {i : Int} (h : 0 ≤ i) : ip_u (h_z f i) i 0 = h_z f (i + 1) := by
  funext k
  unfold ip_u h_z
  by_cases h1 : k = i
  · rw [if_pos h1, if_pos (by omega)]
  · rw [if_neg h1]
    by_cases h2 : 0 ≤ k ∧ k < i
    · rw [if_pos h2, if_pos (by omega)]
    · rw [if_neg h2, if_neg (by omega)]
section SHE
variable {d n s : Nat} {S : ip_S} {R : ip_R} {L : ip_S} {Q : Option Value → Nat → ip_S → ip_R → ip_S → Prop}
theorem p98 {so : Int} (hs : s < 4) (hn : 62 ≤ n) (hso : S (54 + 2 * s) 1 = so) (hw : ip_w so = so) : ip_wc (d + 1) 98 [.ref (54 + 2 * s)] n S R L Q = Q (some (vi (if so = -1 then 1 else 0))) n S R L := by
  by_cases h : so = -1
  · simp (disch := omega) only [c98, s98_0, s98_1, s98_2, s98_3, s98_4, s98_5, s98_6, s98_7, ↓reduceIte, Bool.true_eq_false, Bool.false_eq_true, ip_rfS, true_or, or_true, true_and, and_true, Option.toList_some, Option.toList_none, List.cons_append, List.nil_append, ip_fxn, ip_fxi, ip_fxr, ip_fxl, ip_wid, ip_n998, ip_lt900, ip_n998, iOS, hso, hw, h]
  · simp (disch := omega) only [c98, s98_0, s98_1, s98_2, s98_3, s98_4, s98_5, s98_6, s98_7, ↓reduceIte, Bool.true_eq_false, Bool.false_eq_true, ip_rfS, true_or, or_true, true_and, and_true, Option.toList_some, Option.toList_none, List.cons_append, List.nil_append, ip_fxn, ip_fxi, ip_fxr, ip_fxl, ip_wid, ip_n998, ip_lt900, ip_n998, iOS, hso, hw, h]
theorem p103l {v w : Int} (hs : s < 4) (hn : 62 ≤ n) (hR : R (54 + 2 * s) 0 = some (55 + 2 * s)) : ∀ (k : Nat) (i : Int) (f : Int → Int), i + k = 40 → 0 ≤ i →
    ip_wp d 103 8 [some (.ref (54 + 2 * s)), some (vi v), some (vi w), some (vi i)] [] n (ip_ar S (55 + 2 * s) (h_z f i)) R L Q = Q none n (ip_ar S (55 + 2 * s) (h_z f 40)) R L
  | 0, i, f, h, hi => by
    rw [s103_8, show i = 40 by omega]
    simp (disch := omega) only [s103_0, s103_1, s103_2, s103_3, s103_4, s103_5, s103_6, s103_7, s103_9, s103_10, s103_11, s103_12, s103_13, s103_14, s103_15, s103_16, s103_17, s103_18, ↓reduceIte, Bool.true_eq_false, Bool.false_eq_true, ip_rfS, true_or, or_true, true_and, and_true, Option.toList_some, Option.toList_none, List.cons_append, List.nil_append, ip_fxn, ip_fxi, ip_fxr, ip_fxl, ip_wid, ip_n998, ip_lt900, Int.lt_irrefl]
  | k + 1, i, f, h, hi => by
    have ih := p103l (v := v) (w := w) hs hn hR k (i + 1) f (by omega) (by omega)
    rw [s103_8, ← ih]
    simp (disch := omega) only [s103_0, s103_1, s103_2, s103_3, s103_4, s103_5, s103_6, s103_7, s103_9, s103_10, s103_11, s103_12, s103_13, s103_14, s103_15, s103_16, s103_17, s103_18, ↓reduceIte, Bool.true_eq_false, Bool.false_eq_true, ip_rfS, true_or, or_true, true_and, and_true, Option.toList_some, Option.toList_none, List.cons_append, List.nil_append, ip_fxn, ip_fxi, ip_fxr, ip_fxl, ip_wid, ip_n998, ip_lt900, ip_n998, iOS, iAS, hR, show i < 40 by omega, ip_up_ar, h_zu]
theorem p103 {v w : Int} (hs : s < 4) (hn : 62 ≤ n) (hR : R (54 + 2 * s) 0 = some (55 + 2 * s)) (hv : ip_w v = v) (hw : ip_w w = w) :
    ip_wc (d + 1) 103 [.ref (54 + 2 * s), vi v, vi w] n S R L Q = Q none n (ip_ar (ip_up (ip_up S (54 + 2 * s) 1 v) (54 + 2 * s) 2 w) (55 + 2 * s) (h_z (S (55 + 2 * s)) 40)) R L := by
  have e : ip_up (ip_up S (54 + 2 * s) 1 v) (54 + 2 * s) 2 w (55 + 2 * s) = S (55 + 2 * s) := by
    funext k; unfold ip_up; rw [if_neg (by omega), if_neg (by omega)]
  have hl := p103l (d := d) (v := v) (w := w) (S := ip_up (ip_up S (54 + 2 * s) 1 v) (54 + 2 * s) 2 w) (L := L) (Q := Q) hs hn hR 40 0 (S (55 + 2 * s)) (by omega) (by omega)
  rw [h_z0, ← e, ip_ar_self, e] at hl
  simp (disch := omega) only [c103, s103_0, s103_1, s103_2, s103_3, s103_4, s103_5, s103_6, s103_7, ↓reduceIte, Bool.true_eq_false, Bool.false_eq_true, ip_rfS, true_or, or_true, true_and, and_true, Option.toList_some, Option.toList_none, List.cons_append, List.nil_append, ip_fxn, ip_fxi, ip_fxr, ip_fxl, ip_wid, ip_n998, ip_lt900, ip_n998, iOS, hv, hw, hl]
def h_put (so v : Int) : Int := if so = 0 then ip_i8 v else if so = 1 then ip_i16 v else v
theorem p104 {i v so : Int} (hs : s < 4) (hn : 62 ≤ n) (hR : R (54 + 2 * s) 0 = some (55 + 2 * s)) (hso : S (54 + 2 * s) 1 = so) (hw : ip_w so = so) (h0 : 0 ≤ i) (h1 : i < 40) (hv : ip_w (h_put so v) = h_put so v) :
    ip_wc (d + 1) 104 [.ref (54 + 2 * s), vi i, vi v] n S R L Q = Q none n (ip_up S (55 + 2 * s) i (h_put so v)) R L := by
  unfold h_put at *
  by_cases h : so = 0
  · rw [if_pos h] at *
    simp (disch := omega) only [c104, s104_0, s104_1, s104_2, s104_3, s104_4, s104_5, s104_6, s104_7, s104_8, s104_9, s104_10, s104_11, s104_12, s104_13, s104_14, s104_15, s104_16, s104_17, s104_18, ↓reduceIte, Bool.true_eq_false, Bool.false_eq_true, ip_rfS, true_or, or_true, true_and, and_true, Option.toList_some, Option.toList_none, List.cons_append, List.nil_append, ip_fxn, ip_fxi, ip_fxr, ip_fxl, ip_wid, ip_n998, ip_lt900, ip_n998, iOS, iAS, hR, hso, hw, h, hv]
  · rw [if_neg h] at *
    by_cases h2 : so = 1
    · rw [if_pos h2] at *
      simp (disch := omega) only [c104, s104_0, s104_1, s104_2, s104_3, s104_4, s104_5, s104_6, s104_7, s104_8, s104_9, s104_10, s104_11, s104_12, s104_13, s104_14, s104_15, s104_16, s104_17, s104_18, ↓reduceIte, Bool.true_eq_false, Bool.false_eq_true, ip_rfS, true_or, or_true, true_and, and_true, Option.toList_some, Option.toList_none, List.cons_append, List.nil_append, ip_fxn, ip_fxi, ip_fxr, ip_fxl, ip_wid, ip_n998, ip_lt900, ip_n998, iOS, iAS, hR, hso, hw, h, h2, show ¬ (1 : Int) = 0 by omega, hv]
    · rw [if_neg h2] at *
      simp (disch := omega) only [c104, s104_0, s104_1, s104_2, s104_3, s104_4, s104_5, s104_6, s104_7, s104_8, s104_9, s104_10, s104_11, s104_12, s104_13, s104_14, s104_15, s104_16, s104_17, s104_18, ↓reduceIte, Bool.true_eq_false, Bool.false_eq_true, ip_rfS, true_or, or_true, true_and, and_true, Option.toList_some, Option.toList_none, List.cons_append, List.nil_append, ip_fxn, ip_fxi, ip_fxr, ip_fxl, ip_wid, ip_n998, ip_lt900, ip_n998, iOS, iAS, hR, hso, hw, h, h2, hv]
def h_holds (sz i k : Int) : Bool := decide (0 ≤ k ∧ 0 ≤ i ∧ i ≤ sz - k)
theorem p120 {i k sz : Int} (hs : s < 4) (hn : 62 ≤ n) (hsz : S (54 + 2 * s) 2 = sz) (h0 : 0 ≤ sz) (h1 : sz ≤ 40) (hi : ip_w i = i) (hk : ip_w k = k) : ip_wc (d + 1) 120 [.ref (54 + 2 * s), vi i, vi k] n S R L Q = Q (some (vi (k_n (h_holds sz i k)))) n S R L := by
  have hr := ip_wrange k
  by_cases c1 : k < 0
  · have e : h_holds sz i k = false := decide_eq_false (by omega)
    simp (disch := omega) only [c120, s120_0, s120_1, s120_2, s120_3, s120_4, s120_5, s120_6, s120_7, s120_8, s120_9, s120_10, s120_11, s120_12, s120_13, ↓reduceIte, Bool.true_eq_false, Bool.false_eq_true, ip_rfS, true_or, or_true, true_and, and_true, Option.toList_some, Option.toList_none, List.cons_append, List.nil_append, ip_fxn, ip_fxi, ip_fxr, ip_fxl, ip_wid, ip_n998, ip_lt900, hi, hk, c1, e]
    rfl
  · by_cases c2 : i < 0
    · have e : h_holds sz i k = false := decide_eq_false (by omega)
      simp (disch := omega) only [c120, s120_0, s120_1, s120_2, s120_3, s120_4, s120_5, s120_6, s120_7, s120_8, s120_9, s120_10, s120_11, s120_12, s120_13, ↓reduceIte, Bool.true_eq_false, Bool.false_eq_true, ip_rfS, true_or, or_true, true_and, and_true, Option.toList_some, Option.toList_none, List.cons_append, List.nil_append, ip_fxn, ip_fxi, ip_fxr, ip_fxl, ip_wid, ip_n998, ip_lt900, hi, hk, c1, c2, e]
      rfl
    · by_cases c3 : sz - k < i
      · have e : h_holds sz i k = false := decide_eq_false (by omega)
        simp (disch := omega) only [c120, s120_0, s120_1, s120_2, s120_3, s120_4, s120_5, s120_6, s120_7, s120_8, s120_9, s120_10, s120_11, s120_12, s120_13, ↓reduceIte, Bool.true_eq_false, Bool.false_eq_true, ip_rfS, true_or, or_true, true_and, and_true, Option.toList_some, Option.toList_none, List.cons_append, List.nil_append, ip_fxn, ip_fxi, ip_fxr, ip_fxl, ip_wid, ip_n998, ip_lt900, ip_n998, iOS, hsz, hi, hk, c1, c2, c3, e]
        rfl
      · have e : h_holds sz i k = true := decide_eq_true (by omega)
        simp (disch := omega) only [c120, s120_0, s120_1, s120_2, s120_3, s120_4, s120_5, s120_6, s120_7, s120_8, s120_9, s120_10, s120_11, s120_12, s120_13, ↓reduceIte, Bool.true_eq_false, Bool.false_eq_true, ip_rfS, true_or, or_true, true_and, and_true, Option.toList_some, Option.toList_none, List.cons_append, List.nil_append, ip_fxn, ip_fxi, ip_fxr, ip_fxl, ip_wid, ip_n998, ip_lt900, ip_n998, iOS, hsz, hi, hk, c1, c2, c3, e]
        rfl
end SHE
