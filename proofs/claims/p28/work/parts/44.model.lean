/-! the reference: bounds, roads and least miles -/
theorem ip_l64 {x : Int} (h0 : -2147483648 ≤ x) (h1 : x < 2147483648) : ip_w64 x = x := ip_w64id (by omega) (by omega)
section MDL
variable {d n : Nat} {S : ip_S} {R : ip_R} {L : ip_S} {Q : Option Value → Nat → ip_S → ip_R → ip_S → Prop}
def m_in (v a b : Int) : Bool := decide (a ≤ v ∧ v ≤ b)
theorem ip_cl {x y : Int} : (ip_w (ip_cmpl x y) < 0) = (x < y) := by
  have e1 : ip_w 1 = 1 := by decide +kernel
  have e0 : ip_w 0 = 0 := by decide +kernel
  have e2 : ip_w (-1) = -1 := by decide +kernel
  unfold ip_cmpl
  apply propext
  repeat' split
  · rw [e1]; omega
  · rw [e0]; omega
  · rw [e2]; omega
theorem ip_cg {x y : Int} : (0 < ip_w (ip_cmpl x y)) = (y < x) := by
  have e1 : ip_w 1 = 1 := by decide +kernel
  have e0 : ip_w 0 = 0 := by decide +kernel
  have e2 : ip_w (-1) = -1 := by decide +kernel
  unfold ip_cmpl
  apply propext
  repeat' split
  · rw [e1]; omega
  · rw [e0]; omega
  · rw [e2]; omega
theorem p128 {v a b : Int} (hv : ip_w64 v = v) (ha : ip_w64 a = a) (hb : ip_w64 b = b) : ip_wc (d + 1) 128 [vl v, vl a, vl b] n S R L Q = Q (some (vi (k_n (m_in v a b)))) n S R L := by
  by_cases h1 : v < a
  · have e : m_in v a b = false := decide_eq_false (by omega)
    simp (disch := omega) only [c128, s128_0, s128_1, s128_2, s128_3, s128_4, s128_5, s128_6, s128_7, s128_8, s128_9, s128_10, s128_11, ↓reduceIte, Bool.true_eq_false, Bool.false_eq_true, ip_rfS, true_or, or_true, true_and, and_true, Option.toList_some, Option.toList_none, List.cons_append, List.nil_append, ip_fxn, ip_fxi, ip_fxr, ip_fxl, ip_wid, ip_n998, ip_lt900, hv, ha, hb, e, ip_cl, ip_cg, h1]
    rfl
  · by_cases h2 : b < v
    · have e : m_in v a b = false := decide_eq_false (by omega)
      simp (disch := omega) only [c128, s128_0, s128_1, s128_2, s128_3, s128_4, s128_5, s128_6, s128_7, s128_8, s128_9, s128_10, s128_11, ↓reduceIte, Bool.true_eq_false, Bool.false_eq_true, ip_rfS, true_or, or_true, true_and, and_true, Option.toList_some, Option.toList_none, List.cons_append, List.nil_append, ip_fxn, ip_fxi, ip_fxr, ip_fxl, ip_wid, ip_n998, ip_lt900, hv, ha, hb, e, ip_cl, ip_cg, h1, h2]
      rfl
    · have e : m_in v a b = true := decide_eq_true (by omega)
      simp (disch := omega) only [c128, s128_0, s128_1, s128_2, s128_3, s128_4, s128_5, s128_6, s128_7, s128_8, s128_9, s128_10, s128_11, ↓reduceIte, Bool.true_eq_false, Bool.false_eq_true, ip_rfS, true_or, or_true, true_and, and_true, Option.toList_some, Option.toList_none, List.cons_append, List.nil_append, ip_fxn, ip_fxi, ip_fxr, ip_fxl, ip_wid, ip_n998, ip_lt900, hv, ha, hb, e, ip_cl, ip_cg, h1, h2]
      rfl
theorem p187 {v : Int} (hv : ip_w v = v) : ip_wc (d + 2) 187 [vi v] n S R L Q = Q (some (vi (k_n (m_in v 0 7)))) n S R L := by
  have h := ip_wrange v
  simp (disch := omega) only [c187, s187_0, s187_1, s187_2, s187_3, s187_4, s187_5, ↓reduceIte, Bool.true_eq_false, Bool.false_eq_true, ip_rfS, true_or, or_true, true_and, and_true, Option.toList_some, Option.toList_none, List.cons_append, List.nil_append, ip_fxn, ip_fxi, ip_fxr, ip_fxl, ip_wid, ip_n998, ip_lt900, hv, p128 (v := v) (ip_l64 (by omega) (by omega)) (ip_l64 (x := 0) (by omega) (by omega)) (ip_l64 (x := 7) (by omega) (by omega)), k_n2]
theorem p129 {v many : Int} (hn : 62 < n) (hm : S 62 11 = many) (h0 : 0 ≤ many) (h1 : many ≤ 6) (hv : ip_w v = v) : ip_wc (d + 2) 129 [.ref 62, vi v] n S R L Q = Q (some (vi (k_n (m_in v 0 (many - 1))))) n S R L := by
  have h := ip_wrange v
  simp (disch := omega) only [c129, s129_0, s129_1, s129_2, s129_3, s129_4, s129_5, s129_6, s129_7, s129_8, s129_9, ↓reduceIte, Bool.true_eq_false, Bool.false_eq_true, ip_rfS, true_or, or_true, true_and, and_true, Option.toList_some, Option.toList_none, List.cons_append, List.nil_append, ip_fxn, ip_fxi, ip_fxr, ip_fxl, ip_wid, ip_n998, ip_lt900, ip_n998, iO62, hm, hv, p128 (v := v) (ip_l64 (by omega) (by omega)) (ip_l64 (x := 0) (by omega) (by omega)) (ip_l64 (x := many - 1) (by omega) (by omega)), k_n2]
theorem m_r64 : (ip_kd 69).2 = 64 := rfl
theorem p125a (hn : 69 < n) (hR0 : R 62 8 = some 66) (hR1 : R 62 12 = some 69) : ∀ (k : Nat) (i : Int) (f : Int → Int) (lo l3 : Option Value), i + k = 64 → 0 ≤ i →
    ip_wp d 125 2 [some (.ref 62), some (vi i), lo, l3] [] n (ip_ar S 69 f) R L Q = ip_wp d 125 31 [some (.ref 62), some (vi 64), lo, l3] [] n (ip_ar S 69 (m_l1 (S 66) k i f)) R L Q
  | 0, i, f, lo, l3, h, hi => by
    rw [s125_2, show i = 64 by omega]
    simp (disch := omega) only [s125_0, s125_1, s125_3, s125_4, s125_5, s125_6, s125_7, s125_8, s125_9, s125_10, s125_11, s125_12, s125_13, s125_14, s125_15, s125_16, s125_17, s125_18, s125_19, s125_20, s125_21, s125_22, s125_23, s125_24, s125_25, s125_26, s125_27, s125_28, s125_29, s125_30, s125_32, s125_34, s125_35, s125_36, s125_37, s125_39, s125_40, s125_41, s125_42, s125_43, s125_44, s125_45, s125_46, s125_47, s125_48, s125_49, s125_50, s125_51, s125_52, s125_53, s125_54, s125_55, s125_56, s125_57, s125_58, s125_59, s125_60, s125_61, s125_62, s125_63, s125_64, s125_65, s125_66, s125_67, s125_68, s125_69, s125_70, s125_71, s125_72, s125_73, s125_74, s125_75, s125_76, s125_77, s125_78, s125_79, s125_80, s125_82, s125_83, ↓reduceIte, Bool.true_eq_false, Bool.false_eq_true, ip_rfS, true_or, or_true, true_and, and_true, Option.toList_some, Option.toList_none, List.cons_append, List.nil_append, ip_fxn, ip_fxi, ip_fxr, ip_fxl, ip_wid, ip_n998, ip_lt900, Int.lt_irrefl, m_l1]
  | k + 1, i, f, lo, l3, h, hi => by
    have ih := p125a (lo := lo) (l3 := l3) hn hR0 hR1 k (i + 1) (ip_u f i (m_ini (S 66) i)) (by omega) (by omega)
    rw [m_l1, ← ih, s125_2]
    by_cases h1 : i / 8 = i % 8
    · simp (disch := omega) only [s125_0, s125_1, s125_3, s125_4, s125_5, s125_6, s125_7, s125_8, s125_9, s125_10, s125_11, s125_12, s125_13, s125_14, s125_15, s125_16, s125_17, s125_18, s125_19, s125_20, s125_21, s125_22, s125_23, s125_24, s125_25, s125_26, s125_27, s125_28, s125_29, s125_30, s125_32, s125_34, s125_35, s125_36, s125_37, s125_39, s125_40, s125_41, s125_42, s125_43, s125_44, s125_45, s125_46, s125_47, s125_48, s125_49, s125_50, s125_51, s125_52, s125_53, s125_54, s125_55, s125_56, s125_57, s125_58, s125_59, s125_60, s125_61, s125_62, s125_63, s125_64, s125_65, s125_66, s125_67, s125_68, s125_69, s125_70, s125_71, s125_72, s125_73, s125_74, s125_75, s125_76, s125_77, s125_78, s125_79, s125_80, s125_82, s125_83, ↓reduceIte, Bool.true_eq_false, Bool.false_eq_true, ip_rfS, true_or, or_true, true_and, and_true, Option.toList_some, Option.toList_none, List.cons_append, List.nil_append, ip_fxn, ip_fxi, ip_fxr, ip_fxl, ip_wid, ip_n998, ip_lt900, ip_n998, iO62, iA69, iA66, hR0, hR1, show i < 64 by omega, m_80, ip_div_id, ip_rem_id, h1, ip_up_ar, m_ini]
    · by_cases h2 : ip_w (S 66 i) = 0
      · simp (disch := omega) only [s125_0, s125_1, s125_3, s125_4, s125_5, s125_6, s125_7, s125_8, s125_9, s125_10, s125_11, s125_12, s125_13, s125_14, s125_15, s125_16, s125_17, s125_18, s125_19, s125_20, s125_21, s125_22, s125_23, s125_24, s125_25, s125_26, s125_27, s125_28, s125_29, s125_30, s125_32, s125_34, s125_35, s125_36, s125_37, s125_39, s125_40, s125_41, s125_42, s125_43, s125_44, s125_45, s125_46, s125_47, s125_48, s125_49, s125_50, s125_51, s125_52, s125_53, s125_54, s125_55, s125_56, s125_57, s125_58, s125_59, s125_60, s125_61, s125_62, s125_63, s125_64, s125_65, s125_66, s125_67, s125_68, s125_69, s125_70, s125_71, s125_72, s125_73, s125_74, s125_75, s125_76, s125_77, s125_78, s125_79, s125_80, s125_82, s125_83, ↓reduceIte, Bool.true_eq_false, Bool.false_eq_true, ip_rfS, true_or, or_true, true_and, and_true, Option.toList_some, Option.toList_none, List.cons_append, List.nil_append, ip_fxn, ip_fxi, ip_fxr, ip_fxl, ip_wid, ip_n998, ip_lt900, ip_n998, iO62, iA69, iA66, hR0, hR1, show i < 64 by omega, m_80, ip_div_id, ip_rem_id, h1, h2, ip_up_ar, m_ar_ne (show 66 ≠ 69 by omega), m_ini]
      · simp (disch := omega) only [s125_0, s125_1, s125_3, s125_4, s125_5, s125_6, s125_7, s125_8, s125_9, s125_10, s125_11, s125_12, s125_13, s125_14, s125_15, s125_16, s125_17, s125_18, s125_19, s125_20, s125_21, s125_22, s125_23, s125_24, s125_25, s125_26, s125_27, s125_28, s125_29, s125_30, s125_32, s125_34, s125_35, s125_36, s125_37, s125_39, s125_40, s125_41, s125_42, s125_43, s125_44, s125_45, s125_46, s125_47, s125_48, s125_49, s125_50, s125_51, s125_52, s125_53, s125_54, s125_55, s125_56, s125_57, s125_58, s125_59, s125_60, s125_61, s125_62, s125_63, s125_64, s125_65, s125_66, s125_67, s125_68, s125_69, s125_70, s125_71, s125_72, s125_73, s125_74, s125_75, s125_76, s125_77, s125_78, s125_79, s125_80, s125_82, s125_83, ↓reduceIte, Bool.true_eq_false, Bool.false_eq_true, ip_rfS, true_or, or_true, true_and, and_true, Option.toList_some, Option.toList_none, List.cons_append, List.nil_append, ip_fxn, ip_fxi, ip_fxr, ip_fxl, ip_wid, ip_n998, ip_lt900, ip_n998, iO62, iA69, iA66, hR0, hR1, show i < 64 by omega, m_80, ip_div_id, ip_rem_id, h1, h2, ip_up_ar, m_ar_ne (show 66 ≠ 69 by omega), m_ini]
theorem p125b (hn : 69 < n) (hR1 : R 62 12 = some 69) {y : Int} (hy : 0 ≤ y) (hy2 : y < 8) : ∀ (k : Nat) (i : Int) (f : Int → Int) (l3 : Option Value), i + k = 64 → 0 ≤ i →
    ∃ l3' : Option Value, ip_wp d 125 38 [some (.ref 62), some (vi y), some (vi i), l3] [] n (ip_ar S 69 f) R L Q = ip_wp d 125 81 [some (.ref 62), some (vi y), some (vi 64), l3'] [] n (ip_ar S 69 (m_l2 y k i f)) R L Q
  | 0, i, f, l3, h, hi => by
    refine ⟨l3, ?_⟩
    rw [s125_38, show i = 64 by omega]
    simp (disch := omega) only [s125_0, s125_1, s125_3, s125_4, s125_5, s125_6, s125_7, s125_8, s125_9, s125_10, s125_11, s125_12, s125_13, s125_14, s125_15, s125_16, s125_17, s125_18, s125_19, s125_20, s125_21, s125_22, s125_23, s125_24, s125_25, s125_26, s125_27, s125_28, s125_29, s125_30, s125_31, s125_32, s125_34, s125_35, s125_36, s125_37, s125_39, s125_40, s125_41, s125_42, s125_43, s125_44, s125_45, s125_46, s125_47, s125_48, s125_49, s125_50, s125_51, s125_52, s125_53, s125_54, s125_55, s125_56, s125_57, s125_58, s125_59, s125_60, s125_61, s125_62, s125_63, s125_64, s125_65, s125_66, s125_67, s125_68, s125_69, s125_70, s125_71, s125_72, s125_73, s125_74, s125_75, s125_76, s125_77, s125_78, s125_79, s125_80, s125_82, s125_83, ↓reduceIte, Bool.true_eq_false, Bool.false_eq_true, ip_rfS, true_or, or_true, true_and, and_true, Option.toList_some, Option.toList_none, List.cons_append, List.nil_append, ip_fxn, ip_fxi, ip_fxr, ip_fxl, ip_wid, ip_n998, ip_lt900, Int.lt_irrefl, m_l2]
  | k + 1, i, f, l3, h, hi => by
    obtain ⟨l3', ih⟩ := p125b hn hR1 hy hy2 k (i + 1) (ip_u f i (m_rel f y i)) (some (vi (f (i / 8 * 8 + y) + f (y * 8 + i % 8)))) (by omega) (by omega)
    refine ⟨l3', ?_⟩
    rw [s125_38, m_l2, ← ih]
    have c1 : 8 * (i / 8) = i / 8 * 8 := Int.mul_comm _ _
    have c2 : 8 * y = y * 8 := Int.mul_comm _ _
    by_cases h1 : ip_w (f (i / 8 * 8 + y) + f (y * 8 + i % 8)) < ip_w (f i)
    · simp (disch := omega) only [s125_0, s125_1, s125_3, s125_4, s125_5, s125_6, s125_7, s125_8, s125_9, s125_10, s125_11, s125_12, s125_13, s125_14, s125_15, s125_16, s125_17, s125_18, s125_19, s125_20, s125_21, s125_22, s125_23, s125_24, s125_25, s125_26, s125_27, s125_28, s125_29, s125_30, s125_31, s125_32, s125_34, s125_35, s125_36, s125_37, s125_39, s125_40, s125_41, s125_42, s125_43, s125_44, s125_45, s125_46, s125_47, s125_48, s125_49, s125_50, s125_51, s125_52, s125_53, s125_54, s125_55, s125_56, s125_57, s125_58, s125_59, s125_60, s125_61, s125_62, s125_63, s125_64, s125_65, s125_66, s125_67, s125_68, s125_69, s125_70, s125_71, s125_72, s125_73, s125_74, s125_75, s125_76, s125_77, s125_78, s125_79, s125_80, s125_82, s125_83, ↓reduceIte, Bool.true_eq_false, Bool.false_eq_true, ip_rfS, true_or, or_true, true_and, and_true, Option.toList_some, Option.toList_none, List.cons_append, List.nil_append, ip_fxn, ip_fxi, ip_fxr, ip_fxl, ip_wid, ip_n998, ip_lt900, ip_n998, iO62, iA69, hR1, show i < 64 by omega, m_80, ip_div_id, ip_rem_id, c1, c2, ip_ar_at, ip_up_ar, h1, m_rel]
    · simp (disch := omega) only [s125_0, s125_1, s125_3, s125_4, s125_5, s125_6, s125_7, s125_8, s125_9, s125_10, s125_11, s125_12, s125_13, s125_14, s125_15, s125_16, s125_17, s125_18, s125_19, s125_20, s125_21, s125_22, s125_23, s125_24, s125_25, s125_26, s125_27, s125_28, s125_29, s125_30, s125_31, s125_32, s125_34, s125_35, s125_36, s125_37, s125_39, s125_40, s125_41, s125_42, s125_43, s125_44, s125_45, s125_46, s125_47, s125_48, s125_49, s125_50, s125_51, s125_52, s125_53, s125_54, s125_55, s125_56, s125_57, s125_58, s125_59, s125_60, s125_61, s125_62, s125_63, s125_64, s125_65, s125_66, s125_67, s125_68, s125_69, s125_70, s125_71, s125_72, s125_73, s125_74, s125_75, s125_76, s125_77, s125_78, s125_79, s125_80, s125_82, s125_83, ↓reduceIte, Bool.true_eq_false, Bool.false_eq_true, ip_rfS, true_or, or_true, true_and, and_true, Option.toList_some, Option.toList_none, List.cons_append, List.nil_append, ip_fxn, ip_fxi, ip_fxr, ip_fxl, ip_wid, ip_n998, ip_lt900, ip_n998, iO62, iA69, hR1, show i < 64 by omega, m_80, ip_div_id, ip_rem_id, c1, c2, ip_ar_at, ip_up_ar, h1, m_rel]
theorem p125c (hn : 69 < n) (hR1 : R 62 12 = some 69) : ∀ (k : Nat) (y : Int) (f : Int → Int) (lo l3 : Option Value), y + k = 8 → 0 ≤ y →
    ip_wp d 125 33 [some (.ref 62), some (vi y), lo, l3] [] n (ip_ar S 69 f) R L Q = Q none n (ip_ar S 69 (m_l3 k y f)) R L
  | 0, y, f, lo, l3, h, hi => by
    rw [s125_33, show y = 8 by omega]
    simp (disch := omega) only [s125_0, s125_1, s125_3, s125_4, s125_5, s125_6, s125_7, s125_8, s125_9, s125_10, s125_11, s125_12, s125_13, s125_14, s125_15, s125_16, s125_17, s125_18, s125_19, s125_20, s125_21, s125_22, s125_23, s125_24, s125_25, s125_26, s125_27, s125_28, s125_29, s125_30, s125_31, s125_32, s125_34, s125_35, s125_36, s125_37, s125_39, s125_40, s125_41, s125_42, s125_43, s125_44, s125_45, s125_46, s125_47, s125_48, s125_49, s125_50, s125_51, s125_52, s125_53, s125_54, s125_55, s125_56, s125_57, s125_58, s125_59, s125_60, s125_61, s125_62, s125_63, s125_64, s125_65, s125_66, s125_67, s125_68, s125_69, s125_70, s125_71, s125_72, s125_73, s125_74, s125_75, s125_76, s125_77, s125_78, s125_79, s125_80, s125_82, s125_83, ↓reduceIte, Bool.true_eq_false, Bool.false_eq_true, ip_rfS, true_or, or_true, true_and, and_true, Option.toList_some, Option.toList_none, List.cons_append, List.nil_append, ip_fxn, ip_fxi, ip_fxr, ip_fxl, ip_wid, ip_n998, ip_lt900, Int.lt_irrefl, m_l3]
  | k + 1, y, f, lo, l3, h, hi => by
    have ih := fun l3 => p125c hn hR1 k (y + 1) (m_l2 y 64 0 f) (some (vi 64)) l3 (by omega) (by omega)
    obtain ⟨l3', hb⟩ := p125b (d := d) (S := S) (L := L) (Q := Q) hn hR1 hi (by omega) 64 0 f l3 (by omega) (by omega)
    rw [s125_33]
    simp (disch := omega) only [s125_0, s125_1, s125_3, s125_4, s125_5, s125_6, s125_7, s125_8, s125_9, s125_10, s125_11, s125_12, s125_13, s125_14, s125_15, s125_16, s125_17, s125_18, s125_19, s125_20, s125_21, s125_22, s125_23, s125_24, s125_25, s125_26, s125_27, s125_28, s125_29, s125_30, s125_31, s125_32, s125_34, s125_35, s125_36, s125_37, s125_39, s125_40, s125_41, s125_42, s125_43, s125_44, s125_45, s125_46, s125_47, s125_48, s125_49, s125_50, s125_51, s125_52, s125_53, s125_54, s125_55, s125_56, s125_57, s125_58, s125_59, s125_60, s125_61, s125_62, s125_63, s125_64, s125_65, s125_66, s125_67, s125_68, s125_69, s125_70, s125_71, s125_72, s125_73, s125_74, s125_75, s125_76, s125_77, s125_78, s125_79, s125_80, s125_82, s125_83, ↓reduceIte, Bool.true_eq_false, Bool.false_eq_true, ip_rfS, true_or, or_true, true_and, and_true, Option.toList_some, Option.toList_none, List.cons_append, List.nil_append, ip_fxn, ip_fxi, ip_fxr, ip_fxl, ip_wid, ip_n998, ip_lt900, show y < 8 by omega, hb]
    rw [s125_81]
    simp (disch := omega) only [s125_0, s125_1, s125_3, s125_4, s125_5, s125_6, s125_7, s125_8, s125_9, s125_10, s125_11, s125_12, s125_13, s125_14, s125_15, s125_16, s125_17, s125_18, s125_19, s125_20, s125_21, s125_22, s125_23, s125_24, s125_25, s125_26, s125_27, s125_28, s125_29, s125_30, s125_31, s125_32, s125_34, s125_35, s125_36, s125_37, s125_39, s125_40, s125_41, s125_42, s125_43, s125_44, s125_45, s125_46, s125_47, s125_48, s125_49, s125_50, s125_51, s125_52, s125_53, s125_54, s125_55, s125_56, s125_57, s125_58, s125_59, s125_60, s125_61, s125_62, s125_63, s125_64, s125_65, s125_66, s125_67, s125_68, s125_69, s125_70, s125_71, s125_72, s125_73, s125_74, s125_75, s125_76, s125_77, s125_78, s125_79, s125_80, s125_82, s125_83, ↓reduceIte, Bool.true_eq_false, Bool.false_eq_true, ip_rfS, true_or, or_true, true_and, and_true, Option.toList_some, Option.toList_none, List.cons_append, List.nil_append, ip_fxn, ip_fxi, ip_fxr, ip_fxl, ip_wid, ip_n998, ip_lt900, ih, m_l3]
theorem p125 (hn : 69 < n) (hR0 : R 62 8 = some 66) (hR1 : R 62 12 = some 69) : ip_wc (d + 1) 125 [.ref 62] n S R L Q = Q none n (ip_ar S 69 (m_fw (S 66) (S 69))) R L := by
  have ha := p125a (d := d) (S := S) (L := L) (Q := Q) hn hR0 hR1 64 0 (S 69) none none (by omega) (by omega)
  rw [ip_ar_self] at ha
  have hc := p125c (d := d) (S := S) (L := L) (Q := Q) hn hR1 8 0 (m_l1 (S 66) 64 0 (S 69)) none none (by omega) (by omega)
  rw [c125, s125_0, s125_1]
  simp only [↓reduceIte, Bool.true_eq_false, Bool.false_eq_true, ip_rfS, true_or, or_true, true_and, and_true, Option.toList_some, Option.toList_none, List.cons_append, List.nil_append, ip_fxn, ip_fxi, ip_fxr, ip_fxl, ip_wid, ip_n998, ip_lt900]
  rw [ha]
  simp only [s125_31, s125_32, ↓reduceIte, Bool.true_eq_false, Bool.false_eq_true, ip_rfS, true_or, or_true, true_and, and_true, Option.toList_some, Option.toList_none, List.cons_append, List.nil_append, ip_fxn, ip_fxi, ip_fxr, ip_fxl, ip_wid, ip_n998, ip_lt900, hc]
  rfl
end MDL
