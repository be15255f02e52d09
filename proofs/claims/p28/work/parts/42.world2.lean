/-! the world's other methods -/
section WLE
variable {d n : Nat} {S : ip_S} {R : ip_R} {L : ip_S} {Q : Option Value → Nat → ip_S → ip_R → ip_S → Prop}
def m_isIn (v b : Int) : Bool := decide (0 ≤ v ∧ v < b)
theorem p45 {v b : Int} (hv : ip_w v = v) (hb : ip_w b = b) : ip_wc (d + 1) 45 [vi v, vi b] n S R L Q = Q (some (vi (k_n (m_isIn v b)))) n S R L := by
  by_cases h1 : v < 0
  · have e : m_isIn v b = false := decide_eq_false (by omega)
    simp (disch := omega) only [c45, s45_0, s45_1, s45_2, s45_3, s45_4, s45_5, s45_6, s45_7, s45_8, ↓reduceIte, Bool.true_eq_false, Bool.false_eq_true, ip_rfS, true_or, or_true, true_and, and_true, Option.toList_some, Option.toList_none, List.cons_append, List.nil_append, ip_fxn, ip_fxi, ip_fxr, ip_fxl, ip_wid, ip_n998, ip_lt900, hv, hb, h1, e]
    rfl
  · by_cases h2 : v < b
    · have e : m_isIn v b = true := decide_eq_true (by omega)
      simp (disch := omega) only [c45, s45_0, s45_1, s45_2, s45_3, s45_4, s45_5, s45_6, s45_7, s45_8, ↓reduceIte, Bool.true_eq_false, Bool.false_eq_true, ip_rfS, true_or, or_true, true_and, and_true, Option.toList_some, Option.toList_none, List.cons_append, List.nil_append, ip_fxn, ip_fxi, ip_fxr, ip_fxl, ip_wid, ip_n998, ip_lt900, hv, hb, h1, h2, e]
      rfl
    · have e : m_isIn v b = false := decide_eq_false (by omega)
      simp (disch := omega) only [c45, s45_0, s45_1, s45_2, s45_3, s45_4, s45_5, s45_6, s45_7, s45_8, ↓reduceIte, Bool.true_eq_false, Bool.false_eq_true, ip_rfS, true_or, or_true, true_and, and_true, Option.toList_some, Option.toList_none, List.cons_append, List.nil_append, ip_fxn, ip_fxi, ip_fxr, ip_fxl, ip_wid, ip_n998, ip_lt900, hv, hb, h1, h2, e]
      rfl
theorem p46 {a : Nat} {i v : Int} (ha : a < 900) (hA : ip_isA n a 0 i = True) (hi : ip_w i = i) (hv : ip_w v = v) : ip_wc (d + 1) 46 [.ref a, vi i, vi v] n S R L Q = Q (some (vi (S a i))) n (ip_up S a i v) R L := by
  simp (disch := omega) only [c46, s46_0, s46_1, s46_2, s46_3, s46_4, s46_5, s46_6, s46_7, s46_8, s46_9, ↓reduceIte, Bool.true_eq_false, Bool.false_eq_true, ip_rfS, true_or, or_true, true_and, and_true, Option.toList_some, Option.toList_none, List.cons_append, List.nil_append, ip_fxn, ip_fxi, ip_fxr, ip_fxl, ip_wid, ip_n998, ip_lt900, ip_n998, hi, hv, hA]
theorem p47 {v pop : Int} (hn : 1 < n) (hp : S 1 7 = pop) (hv : ip_w v = v) (hb : ip_w pop = pop) : ip_wc (d + 2) 47 [.ref 1, vi v] n S R L Q = Q (some (vi (k_n (m_isIn v pop)))) n S R L := by
  simp (disch := omega) only [c47, s47_0, s47_1, s47_2, s47_3, s47_4, ↓reduceIte, Bool.true_eq_false, Bool.false_eq_true, ip_rfS, true_or, or_true, true_and, and_true, Option.toList_some, Option.toList_none, List.cons_append, List.nil_append, ip_fxn, ip_fxi, ip_fxr, ip_fxl, ip_wid, ip_n998, ip_lt900, ip_n998, iO1, hp, p45 hv hb, k_n2]
theorem p49 {x y : Int} (hn : 8 < n) (hR : R 1 0 = some 2) (hx : 0 ≤ x) (hx2 : x < 8) (hy : 0 ≤ y) (hy2 : y < 8) : ip_wc (d + 1) 49 [.ref 1, vi x, vi y] n S R L Q = Q (some (vi (S 2 (x * 8 + y)))) n S R L := by
  simp (disch := omega) only [c49, s49_0, s49_1, s49_2, s49_3, s49_4, s49_5, s49_6, s49_7, s49_8, ↓reduceIte, Bool.true_eq_false, Bool.false_eq_true, ip_rfS, true_or, or_true, true_and, and_true, Option.toList_some, Option.toList_none, List.cons_append, List.nil_append, ip_fxn, ip_fxi, ip_fxr, ip_fxl, ip_wid, ip_n998, ip_lt900, ip_n998, iO1, iA2, hR]
def m_lay (S : ip_S) (x y v : Int) : ip_S := ip_ar (ip_up (ip_up S 2 (x * 8 + y) v) 2 (y * 8 + x) v) 3 (m_fw (ip_up (ip_up S 2 (x * 8 + y) v) 2 (y * 8 + x) v 2) (S 3))
theorem p50 {x y v : Int} (hn : 8 < n) (hR : R 1 0 = some 2) (hR1 : R 1 1 = some 3) (hx : 0 ≤ x) (hx2 : x < 8) (hy : 0 ≤ y) (hy2 : y < 8) (hv : ip_w v = v) : ip_wc (d + 3) 50 [.ref 1, vi x, vi y, vi v] n S R L Q = Q none n (m_lay S x y v) R L := by
  simp (disch := omega) only [c50, s50_0, s50_1, s50_2, s50_3, s50_4, s50_5, s50_6, s50_7, s50_8, s50_9, s50_10, s50_11, s50_12, s50_13, s50_14, s50_15, s50_16, s50_17, s50_18, s50_19, s50_20, ↓reduceIte, Bool.true_eq_false, Bool.false_eq_true, ip_rfS, true_or, or_true, true_and, and_true, Option.toList_some, Option.toList_none, List.cons_append, List.nil_append, ip_fxn, ip_fxi, ip_fxr, ip_fxl, ip_wid, ip_n998, ip_lt900, ip_n998, iO1, iA2, hR, hv, p2 (show 3 < n by omega) hR hR1]
  rfl
theorem p52 {k nu g pop : Int} (hn : 8 < n) (hR2 : R 1 2 = some 4) (hR3 : R 1 3 = some 5) (hR4 : R 1 4 = some 6) (hR5 : R 1 5 = some 7) (hp : S 1 7 = pop) (h0 : 0 ≤ pop) (h1 : pop < 6) (hk : ip_w k = k) (hnu : ip_w nu = nu) (hg : ip_w g = g) :
    ip_wc (d + 1) 52 [.ref 1, vi k, vi nu, vi g] n S R L Q = Q (some (vi pop)) n (ip_up (ip_up (ip_up (ip_up (ip_up S 4 pop k) 5 pop nu) 6 pop g) 7 pop 0) 1 7 (pop + 1)) R L := by
  have e : ip_up (ip_up (ip_up (ip_up S 4 pop k) 5 pop nu) 6 pop g) 7 pop 0 1 7 = pop := by rw [← hp]; simp [ip_up]
  simp (disch := omega) only [c52, s52_0, s52_1, s52_2, s52_3, s52_4, s52_5, s52_6, s52_7, s52_8, s52_9, s52_10, s52_11, s52_12, s52_13, s52_14, s52_15, s52_16, s52_17, s52_18, s52_19, s52_20, s52_21, s52_22, s52_23, s52_24, s52_25, s52_26, s52_27, s52_28, s52_29, s52_30, ↓reduceIte, Bool.true_eq_false, Bool.false_eq_true, ip_rfS, true_or, or_true, true_and, and_true, Option.toList_some, Option.toList_none, List.cons_append, List.nil_append, ip_fxn, ip_fxi, ip_fxr, ip_fxl, ip_wid, ip_n998, ip_lt900, ip_n998, iO1, iA4, iA5, iA6, iA7, hR2, hR3, hR4, hR5, hp, hk, hnu, hg, e]
theorem p83 {i v : Int} (hn : 8 < n) (hR5 : R 1 5 = some 7) (h0 : 0 ≤ i) (h1 : i < 6) (hs : ip_w (S 7 i + v) = S 7 i + v) : ip_wc (d + 1) 83 [.ref 1, vi i, vi v] n S R L Q = Q none n (ip_up S 7 i (if S 7 i + v < 99999 then S 7 i + v else 99999)) R L := by
  by_cases h : S 7 i + v < 99999
  · simp (disch := omega) only [c83, s83_0, s83_1, s83_2, s83_3, s83_4, s83_5, s83_6, s83_7, s83_8, s83_9, s83_10, s83_11, s83_12, ↓reduceIte, Bool.true_eq_false, Bool.false_eq_true, ip_rfS, true_or, or_true, true_and, and_true, Option.toList_some, Option.toList_none, List.cons_append, List.nil_append, ip_fxn, ip_fxi, ip_fxr, ip_fxl, ip_wid, ip_n998, ip_lt900, ip_n998, iO1, iA7, hR5, hs, h]
  · simp (disch := omega) only [c83, s83_0, s83_1, s83_2, s83_3, s83_4, s83_5, s83_6, s83_7, s83_8, s83_9, s83_10, s83_11, s83_12, ↓reduceIte, Bool.true_eq_false, Bool.false_eq_true, ip_rfS, true_or, or_true, true_and, and_true, Option.toList_some, Option.toList_none, List.cons_append, List.nil_append, ip_fxn, ip_fxi, ip_fxr, ip_fxl, ip_wid, ip_n998, ip_lt900, ip_n998, iO1, iA7, hR5, hs, h]
end WLE
