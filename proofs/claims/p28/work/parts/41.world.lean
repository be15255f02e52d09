/-! roads and least miles, as the loops make them -/
def m_ini (r : Int → Int) (i : Int) : Int := if i / 8 = i % 8 then 0 else if ip_w (r i) = 0 then 999 else ip_w (r i)
def m_l1 (r : Int → Int) : Nat → Int → (Int → Int) → Int → Int
  | 0, _, f => f
  | k + 1, i, f => m_l1 r k (i + 1) (ip_u f i (m_ini r i))
def m_rel (f : Int → Int) (y i : Int) : Int := ip_w (if ip_w (f (i / 8 * 8 + y) + f (y * 8 + i % 8)) < ip_w (f i) then f (i / 8 * 8 + y) + f (y * 8 + i % 8) else f i)
def m_l2 (y : Int) : Nat → Int → (Int → Int) → Int → Int
  | 0, _, f => f
  | k + 1, i, f => m_l2 y k (i + 1) (ip_u f i (m_rel f y i))
def m_l3 : Nat → Int → (Int → Int) → Int → Int
  | 0, _, f => f
  | k + 1, y, f => m_l3 k (y + 1) (m_l2 y 64 0 f)
def m_fw (r f : Int → Int) : Int → Int := m_l3 8 0 (m_l1 r 64 0 f)
theorem m_80 : (¬ (8 : Int) = 0) = True := eq_true (by omega)
theorem m_c64 : ((64 : Nat) : Int) = 64 := rfl
theorem m_ar_ne {S : ip_S} {a b : Nat} {f : Int → Int} (h : b ≠ a) : ip_ar S a f b = S b := by funext k; exact if_neg h
theorem m_ar_eq {S : ip_S} {a : Nat} {f : Int → Int} : ip_ar S a f a = f := by funext k; exact if_pos rfl
theorem m_kd3 : (ip_kd 3).2 = 64 := rfl
theorem m_kk3 {n : Nat} (h : 3 < n) : (3 < n ∧ (ip_kd 3).1 = 0) = True := eq_true ⟨h, rfl⟩
theorem m_kd11 : (ip_kd 11).2 = 64 := rfl
theorem m_kk11 {n : Nat} (h : 11 < n) : (11 < n ∧ (ip_kd 11).1 = 0) = True := eq_true ⟨h, rfl⟩
section WLD
variable {d n : Nat} {S : ip_S} {R : ip_R} {L : ip_S} {Q : Option Value → Nat → ip_S → ip_R → ip_S → Prop}
theorem p3 {x y : Int} (hn : 3 < n) (hR1 : R 1 1 = some 3) (hx : 0 ≤ x) (hx2 : x < 8) (hy : 0 ≤ y) (hy2 : y < 8) : ip_wc (d + 1) 3 [.ref 1, vi x, vi y] n S R L Q = Q (some (vi (S 3 (x * 8 + y)))) n S R L := by
  simp (disch := omega) only [c3, s3_0, s3_1, s3_2, s3_3, s3_4, s3_5, s3_6, s3_7, s3_8, ↓reduceIte, Bool.true_eq_false, Bool.false_eq_true, ip_rfS, true_or, or_true, true_and, and_true, Option.toList_some, Option.toList_none, List.cons_append, List.nil_append, ip_fxn, ip_fxi, ip_fxr, ip_fxl, ip_wid, ip_n998, ip_lt900, ip_n998, iO1, iA3, hR1]
theorem p2a (hn : 3 < n) (hR0 : R 1 0 = some 2) (hR1 : R 1 1 = some 3) : ∀ (k : Nat) (i : Int) (f : Int → Int) (lo l3 : Option Value), i + k = 64 → 0 ≤ i →
    ∃ lo' : Option Value, ip_wp d 2 2 [some (.ref 1), some (vi i), lo, l3] [] n (ip_ar S 3 f) R L Q = ip_wp d 2 39 [some (.ref 1), some (vi 64), lo', l3] [] n (ip_ar S 3 (m_l1 (S 2) k i f)) R L Q
  | 0, i, f, lo, l3, h, hi => by
    refine ⟨lo, ?_⟩
    rw [s2_2, show i = 64 by omega]
    simp (disch := omega) only [s2_0, s2_1, s2_3, s2_4, s2_5, s2_6, s2_7, s2_8, s2_9, s2_10, s2_11, s2_12, s2_13, s2_14, s2_15, s2_16, s2_17, s2_18, s2_19, s2_20, s2_21, s2_22, s2_23, s2_24, s2_25, s2_26, s2_27, s2_28, s2_29, s2_30, s2_31, s2_32, s2_33, s2_34, s2_35, s2_36, s2_37, s2_38, s2_40, s2_42, s2_43, s2_44, s2_45, s2_47, s2_48, s2_49, s2_50, s2_51, s2_52, s2_53, s2_54, s2_55, s2_56, s2_57, s2_58, s2_59, s2_60, s2_61, s2_62, s2_63, s2_64, s2_65, s2_66, s2_67, s2_68, s2_69, s2_70, s2_71, s2_72, s2_73, s2_74, s2_75, s2_76, s2_78, s2_79, ↓reduceIte, Bool.true_eq_false, Bool.false_eq_true, ip_rfS, true_or, or_true, true_and, and_true, Option.toList_some, Option.toList_none, List.cons_append, List.nil_append, ip_fxn, ip_fxi, ip_fxr, ip_fxl, ip_wid, ip_n998, ip_lt900, ip_n998, iO1, hR1, m_c64, m_kk3, m_kd3, Int.lt_irrefl, m_l1]
  | k + 1, i, f, lo, l3, h, hi => by
    by_cases h1 : i / 8 = i % 8
    · obtain ⟨lo', ih⟩ := p2a hn hR0 hR1 k (i + 1) (ip_u f i (m_ini (S 2) i)) (some (vi 1)) l3 (by omega) (by omega)
      refine ⟨lo', ?_⟩
      rw [m_l1, ← ih, s2_2]
      simp (disch := omega) only [s2_0, s2_1, s2_3, s2_4, s2_5, s2_6, s2_7, s2_8, s2_9, s2_10, s2_11, s2_12, s2_13, s2_14, s2_15, s2_16, s2_17, s2_18, s2_19, s2_20, s2_21, s2_22, s2_23, s2_24, s2_25, s2_26, s2_27, s2_28, s2_29, s2_30, s2_31, s2_32, s2_33, s2_34, s2_35, s2_36, s2_37, s2_38, s2_40, s2_42, s2_43, s2_44, s2_45, s2_47, s2_48, s2_49, s2_50, s2_51, s2_52, s2_53, s2_54, s2_55, s2_56, s2_57, s2_58, s2_59, s2_60, s2_61, s2_62, s2_63, s2_64, s2_65, s2_66, s2_67, s2_68, s2_69, s2_70, s2_71, s2_72, s2_73, s2_74, s2_75, s2_76, s2_78, s2_79, ↓reduceIte, Bool.true_eq_false, Bool.false_eq_true, ip_rfS, true_or, or_true, true_and, and_true, Option.toList_some, Option.toList_none, List.cons_append, List.nil_append, ip_fxn, ip_fxi, ip_fxr, ip_fxl, ip_wid, ip_n998, ip_lt900, ip_n998, iO1, iA3, iA2, hR0, hR1, m_c64, m_kk3, m_kd3, show i < 64 by omega, m_80, ip_div_id, ip_rem_id, h1, show ¬ (1 : Int) = 0 by omega, ip_up_ar, m_ini]
    · obtain ⟨lo', ih⟩ := p2a hn hR0 hR1 k (i + 1) (ip_u f i (m_ini (S 2) i)) (some (vi 0)) l3 (by omega) (by omega)
      refine ⟨lo', ?_⟩
      rw [m_l1, ← ih, s2_2]
      by_cases h2 : ip_w (S 2 i) = 0
      · simp (disch := omega) only [s2_0, s2_1, s2_3, s2_4, s2_5, s2_6, s2_7, s2_8, s2_9, s2_10, s2_11, s2_12, s2_13, s2_14, s2_15, s2_16, s2_17, s2_18, s2_19, s2_20, s2_21, s2_22, s2_23, s2_24, s2_25, s2_26, s2_27, s2_28, s2_29, s2_30, s2_31, s2_32, s2_33, s2_34, s2_35, s2_36, s2_37, s2_38, s2_40, s2_42, s2_43, s2_44, s2_45, s2_47, s2_48, s2_49, s2_50, s2_51, s2_52, s2_53, s2_54, s2_55, s2_56, s2_57, s2_58, s2_59, s2_60, s2_61, s2_62, s2_63, s2_64, s2_65, s2_66, s2_67, s2_68, s2_69, s2_70, s2_71, s2_72, s2_73, s2_74, s2_75, s2_76, s2_78, s2_79, ↓reduceIte, Bool.true_eq_false, Bool.false_eq_true, ip_rfS, true_or, or_true, true_and, and_true, Option.toList_some, Option.toList_none, List.cons_append, List.nil_append, ip_fxn, ip_fxi, ip_fxr, ip_fxl, ip_wid, ip_n998, ip_lt900, ip_n998, iO1, iA3, iA2, hR0, hR1, m_c64, m_kk3, m_kd3, show i < 64 by omega, m_80, ip_div_id, ip_rem_id, h1, h2, ip_up_ar, m_ar_ne (show 2 ≠ 3 by omega), m_ini]
      · simp (disch := omega) only [s2_0, s2_1, s2_3, s2_4, s2_5, s2_6, s2_7, s2_8, s2_9, s2_10, s2_11, s2_12, s2_13, s2_14, s2_15, s2_16, s2_17, s2_18, s2_19, s2_20, s2_21, s2_22, s2_23, s2_24, s2_25, s2_26, s2_27, s2_28, s2_29, s2_30, s2_31, s2_32, s2_33, s2_34, s2_35, s2_36, s2_37, s2_38, s2_40, s2_42, s2_43, s2_44, s2_45, s2_47, s2_48, s2_49, s2_50, s2_51, s2_52, s2_53, s2_54, s2_55, s2_56, s2_57, s2_58, s2_59, s2_60, s2_61, s2_62, s2_63, s2_64, s2_65, s2_66, s2_67, s2_68, s2_69, s2_70, s2_71, s2_72, s2_73, s2_74, s2_75, s2_76, s2_78, s2_79, ↓reduceIte, Bool.true_eq_false, Bool.false_eq_true, ip_rfS, true_or, or_true, true_and, and_true, Option.toList_some, Option.toList_none, List.cons_append, List.nil_append, ip_fxn, ip_fxi, ip_fxr, ip_fxl, ip_wid, ip_n998, ip_lt900, ip_n998, iO1, iA3, iA2, hR0, hR1, m_c64, m_kk3, m_kd3, show i < 64 by omega, m_80, ip_div_id, ip_rem_id, h1, h2, ip_up_ar, m_ar_ne (show 2 ≠ 3 by omega), m_ini]
theorem p2b (hn : 3 < n) (hR0 : R 1 0 = some 2) (hR1 : R 1 1 = some 3) {y : Int} (hy : 0 ≤ y) (hy2 : y < 8) : ∀ (k : Nat) (i : Int) (f : Int → Int) (l3 : Option Value), i + k = 64 → 0 ≤ i →
    ∃ l3' : Option Value, ip_wp (d + 1) 2 46 [some (.ref 1), some (vi y), some (vi i), l3] [] n (ip_ar S 3 f) R L Q = ip_wp (d + 1) 2 77 [some (.ref 1), some (vi y), some (vi 64), l3'] [] n (ip_ar S 3 (m_l2 y k i f)) R L Q
  | 0, i, f, l3, h, hi => by
    refine ⟨l3, ?_⟩
    rw [s2_46, show i = 64 by omega]
    simp (disch := omega) only [s2_0, s2_1, s2_3, s2_4, s2_5, s2_6, s2_7, s2_8, s2_9, s2_10, s2_11, s2_12, s2_13, s2_14, s2_15, s2_16, s2_17, s2_18, s2_19, s2_20, s2_21, s2_22, s2_23, s2_24, s2_25, s2_26, s2_27, s2_28, s2_29, s2_30, s2_31, s2_32, s2_33, s2_34, s2_35, s2_36, s2_37, s2_38, s2_39, s2_40, s2_42, s2_43, s2_44, s2_45, s2_47, s2_48, s2_49, s2_50, s2_51, s2_52, s2_53, s2_54, s2_55, s2_56, s2_57, s2_58, s2_59, s2_60, s2_61, s2_62, s2_63, s2_64, s2_65, s2_66, s2_67, s2_68, s2_69, s2_70, s2_71, s2_72, s2_73, s2_74, s2_75, s2_76, s2_78, s2_79, ↓reduceIte, Bool.true_eq_false, Bool.false_eq_true, ip_rfS, true_or, or_true, true_and, and_true, Option.toList_some, Option.toList_none, List.cons_append, List.nil_append, ip_fxn, ip_fxi, ip_fxr, ip_fxl, ip_wid, ip_n998, ip_lt900, ip_n998, iO1, hR1, m_c64, m_kk3, m_kd3, Int.lt_irrefl, m_l2]
  | k + 1, i, f, l3, h, hi => by
    obtain ⟨l3', ih⟩ := p2b hn hR0 hR1 hy hy2 k (i + 1) (ip_u f i (m_rel f y i)) (some (vi (f (i / 8 * 8 + y) + f (y * 8 + i % 8)))) (by omega) (by omega)
    refine ⟨l3', ?_⟩
    rw [s2_46]
    simp (disch := omega) only [s2_0, s2_1, s2_3, s2_4, s2_5, s2_6, s2_7, s2_8, s2_9, s2_10, s2_11, s2_12, s2_13, s2_14, s2_15, s2_16, s2_17, s2_18, s2_19, s2_20, s2_21, s2_22, s2_23, s2_24, s2_25, s2_26, s2_27, s2_28, s2_29, s2_30, s2_31, s2_32, s2_33, s2_34, s2_35, s2_36, s2_37, s2_38, s2_39, s2_40, s2_42, s2_43, s2_44, s2_45, s2_47, s2_48, s2_49, s2_50, s2_51, s2_52, s2_53, s2_54, s2_55, s2_56, s2_57, s2_58, s2_59, s2_60, s2_61, s2_62, s2_63, s2_64, s2_65, s2_66, s2_67, s2_68, s2_69, s2_70, s2_71, s2_72, s2_73, s2_74, s2_75, s2_76, s2_78, s2_79, ↓reduceIte, Bool.true_eq_false, Bool.false_eq_true, ip_rfS, true_or, or_true, true_and, and_true, Option.toList_some, Option.toList_none, List.cons_append, List.nil_append, ip_fxn, ip_fxi, ip_fxr, ip_fxl, ip_wid, ip_n998, ip_lt900, ip_n998, iO1, iA3, hR1, m_c64, m_kd3, m_kk3, show i < 64 by omega, ip_div_id, ip_rem_id, p3, m_80, ip_ar_at, ip_up_ar, m_l2]
    rw [← ih]
    rfl
theorem p2c (hn : 3 < n) (hR0 : R 1 0 = some 2) (hR1 : R 1 1 = some 3) : ∀ (k : Nat) (y : Int) (f : Int → Int) (lo l3 : Option Value), y + k = 8 → 0 ≤ y →
    ip_wp (d + 1) 2 41 [some (.ref 1), some (vi y), lo, l3] [] n (ip_ar S 3 f) R L Q = Q none n (ip_ar S 3 (m_l3 k y f)) R L
  | 0, y, f, lo, l3, h, hi => by
    rw [s2_41, show y = 8 by omega]
    simp (disch := omega) only [s2_0, s2_1, s2_3, s2_4, s2_5, s2_6, s2_7, s2_8, s2_9, s2_10, s2_11, s2_12, s2_13, s2_14, s2_15, s2_16, s2_17, s2_18, s2_19, s2_20, s2_21, s2_22, s2_23, s2_24, s2_25, s2_26, s2_27, s2_28, s2_29, s2_30, s2_31, s2_32, s2_33, s2_34, s2_35, s2_36, s2_37, s2_38, s2_39, s2_40, s2_42, s2_43, s2_44, s2_45, s2_47, s2_48, s2_49, s2_50, s2_51, s2_52, s2_53, s2_54, s2_55, s2_56, s2_57, s2_58, s2_59, s2_60, s2_61, s2_62, s2_63, s2_64, s2_65, s2_66, s2_67, s2_68, s2_69, s2_70, s2_71, s2_72, s2_73, s2_74, s2_75, s2_76, s2_78, s2_79, ↓reduceIte, Bool.true_eq_false, Bool.false_eq_true, ip_rfS, true_or, or_true, true_and, and_true, Option.toList_some, Option.toList_none, List.cons_append, List.nil_append, ip_fxn, ip_fxi, ip_fxr, ip_fxl, ip_wid, ip_n998, ip_lt900, Int.lt_irrefl, m_l3]
  | k + 1, y, f, lo, l3, h, hi => by
    have ih := fun l3 => p2c hn hR0 hR1 k (y + 1) (m_l2 y 64 0 f) (some (vi 64)) l3 (by omega) (by omega)
    obtain ⟨l3', hb⟩ := p2b (d := d) (S := S) (L := L) (Q := Q) hn hR0 hR1 hi (by omega) 64 0 f l3 (by omega) (by omega)
    rw [s2_41]
    simp (disch := omega) only [s2_0, s2_1, s2_3, s2_4, s2_5, s2_6, s2_7, s2_8, s2_9, s2_10, s2_11, s2_12, s2_13, s2_14, s2_15, s2_16, s2_17, s2_18, s2_19, s2_20, s2_21, s2_22, s2_23, s2_24, s2_25, s2_26, s2_27, s2_28, s2_29, s2_30, s2_31, s2_32, s2_33, s2_34, s2_35, s2_36, s2_37, s2_38, s2_39, s2_40, s2_42, s2_43, s2_44, s2_45, s2_47, s2_48, s2_49, s2_50, s2_51, s2_52, s2_53, s2_54, s2_55, s2_56, s2_57, s2_58, s2_59, s2_60, s2_61, s2_62, s2_63, s2_64, s2_65, s2_66, s2_67, s2_68, s2_69, s2_70, s2_71, s2_72, s2_73, s2_74, s2_75, s2_76, s2_78, s2_79, ↓reduceIte, Bool.true_eq_false, Bool.false_eq_true, ip_rfS, true_or, or_true, true_and, and_true, Option.toList_some, Option.toList_none, List.cons_append, List.nil_append, ip_fxn, ip_fxi, ip_fxr, ip_fxl, ip_wid, ip_n998, ip_lt900, show y < 8 by omega, hb]
    rw [s2_77]
    simp (disch := omega) only [s2_0, s2_1, s2_3, s2_4, s2_5, s2_6, s2_7, s2_8, s2_9, s2_10, s2_11, s2_12, s2_13, s2_14, s2_15, s2_16, s2_17, s2_18, s2_19, s2_20, s2_21, s2_22, s2_23, s2_24, s2_25, s2_26, s2_27, s2_28, s2_29, s2_30, s2_31, s2_32, s2_33, s2_34, s2_35, s2_36, s2_37, s2_38, s2_39, s2_40, s2_42, s2_43, s2_44, s2_45, s2_47, s2_48, s2_49, s2_50, s2_51, s2_52, s2_53, s2_54, s2_55, s2_56, s2_57, s2_58, s2_59, s2_60, s2_61, s2_62, s2_63, s2_64, s2_65, s2_66, s2_67, s2_68, s2_69, s2_70, s2_71, s2_72, s2_73, s2_74, s2_75, s2_76, s2_78, s2_79, ↓reduceIte, Bool.true_eq_false, Bool.false_eq_true, ip_rfS, true_or, or_true, true_and, and_true, Option.toList_some, Option.toList_none, List.cons_append, List.nil_append, ip_fxn, ip_fxi, ip_fxr, ip_fxl, ip_wid, ip_n998, ip_lt900, ih, m_l3]
theorem p2 (hn : 3 < n) (hR0 : R 1 0 = some 2) (hR1 : R 1 1 = some 3) : ip_wc (d + 2) 2 [.ref 1] n S R L Q = Q none n (ip_ar S 3 (m_fw (S 2) (S 3))) R L := by
  obtain ⟨lo', ha⟩ := p2a (d := d + 1) (S := S) (L := L) (Q := Q) hn hR0 hR1 64 0 (S 3) none none (by omega) (by omega)
  rw [ip_ar_self] at ha
  have hc := p2c (d := d) (S := S) (L := L) (Q := Q) hn hR0 hR1 8 0 (m_l1 (S 2) 64 0 (S 3)) lo' none (by omega) (by omega)
  rw [c2, s2_0, s2_1]
  simp only [↓reduceIte, Bool.true_eq_false, Bool.false_eq_true, ip_rfS, true_or, or_true, true_and, and_true, Option.toList_some, Option.toList_none, List.cons_append, List.nil_append, ip_fxn, ip_fxi, ip_fxr, ip_fxl, ip_wid, ip_n998, ip_lt900]
  rw [ha]
  simp only [s2_39, s2_40, ↓reduceIte, Bool.true_eq_false, Bool.false_eq_true, ip_rfS, true_or, or_true, true_and, and_true, Option.toList_some, Option.toList_none, List.cons_append, List.nil_append, ip_fxn, ip_fxi, ip_fxr, ip_fxl, ip_wid, ip_n998, ip_lt900, hc]
  rfl

theorem p3i {x y : Int} (hn : 11 < n) (hR1 : R 9 1 = some 11) (hx : 0 ≤ x) (hx2 : x < 8) (hy : 0 ≤ y) (hy2 : y < 8) : ip_wc (d + 1) 3 [.ref 9, vi x, vi y] n S R L Q = Q (some (vi (S 11 (x * 8 + y)))) n S R L := by
  simp (disch := omega) only [c3, s3_0, s3_1, s3_2, s3_3, s3_4, s3_5, s3_6, s3_7, s3_8, ↓reduceIte, Bool.true_eq_false, Bool.false_eq_true, ip_rfS, true_or, or_true, true_and, and_true, Option.toList_some, Option.toList_none, List.cons_append, List.nil_append, ip_fxn, ip_fxi, ip_fxr, ip_fxl, ip_wid, ip_n998, ip_lt900, ip_n998, iO9, iA11, hR1]
theorem p2ia (hn : 11 < n) (hR0 : R 9 0 = some 10) (hR1 : R 9 1 = some 11) : ∀ (k : Nat) (i : Int) (f : Int → Int) (lo l3 : Option Value), i + k = 64 → 0 ≤ i →
    ∃ lo' : Option Value, ip_wp d 2 2 [some (.ref 9), some (vi i), lo, l3] [] n (ip_ar S 11 f) R L Q = ip_wp d 2 39 [some (.ref 9), some (vi 64), lo', l3] [] n (ip_ar S 11 (m_l1 (S 10) k i f)) R L Q
  | 0, i, f, lo, l3, h, hi => by
    refine ⟨lo, ?_⟩
    rw [s2_2, show i = 64 by omega]
    simp (disch := omega) only [s2_0, s2_1, s2_3, s2_4, s2_5, s2_6, s2_7, s2_8, s2_9, s2_10, s2_11, s2_12, s2_13, s2_14, s2_15, s2_16, s2_17, s2_18, s2_19, s2_20, s2_21, s2_22, s2_23, s2_24, s2_25, s2_26, s2_27, s2_28, s2_29, s2_30, s2_31, s2_32, s2_33, s2_34, s2_35, s2_36, s2_37, s2_38, s2_40, s2_42, s2_43, s2_44, s2_45, s2_47, s2_48, s2_49, s2_50, s2_51, s2_52, s2_53, s2_54, s2_55, s2_56, s2_57, s2_58, s2_59, s2_60, s2_61, s2_62, s2_63, s2_64, s2_65, s2_66, s2_67, s2_68, s2_69, s2_70, s2_71, s2_72, s2_73, s2_74, s2_75, s2_76, s2_78, s2_79, ↓reduceIte, Bool.true_eq_false, Bool.false_eq_true, ip_rfS, true_or, or_true, true_and, and_true, Option.toList_some, Option.toList_none, List.cons_append, List.nil_append, ip_fxn, ip_fxi, ip_fxr, ip_fxl, ip_wid, ip_n998, ip_lt900, ip_n998, iO9, hR1, m_c64, m_kk11, m_kd11, Int.lt_irrefl, m_l1]
  | k + 1, i, f, lo, l3, h, hi => by
    by_cases h1 : i / 8 = i % 8
    · obtain ⟨lo', ih⟩ := p2ia hn hR0 hR1 k (i + 1) (ip_u f i (m_ini (S 10) i)) (some (vi 1)) l3 (by omega) (by omega)
      refine ⟨lo', ?_⟩
      rw [m_l1, ← ih, s2_2]
      simp (disch := omega) only [s2_0, s2_1, s2_3, s2_4, s2_5, s2_6, s2_7, s2_8, s2_9, s2_10, s2_11, s2_12, s2_13, s2_14, s2_15, s2_16, s2_17, s2_18, s2_19, s2_20, s2_21, s2_22, s2_23, s2_24, s2_25, s2_26, s2_27, s2_28, s2_29, s2_30, s2_31, s2_32, s2_33, s2_34, s2_35, s2_36, s2_37, s2_38, s2_40, s2_42, s2_43, s2_44, s2_45, s2_47, s2_48, s2_49, s2_50, s2_51, s2_52, s2_53, s2_54, s2_55, s2_56, s2_57, s2_58, s2_59, s2_60, s2_61, s2_62, s2_63, s2_64, s2_65, s2_66, s2_67, s2_68, s2_69, s2_70, s2_71, s2_72, s2_73, s2_74, s2_75, s2_76, s2_78, s2_79, ↓reduceIte, Bool.true_eq_false, Bool.false_eq_true, ip_rfS, true_or, or_true, true_and, and_true, Option.toList_some, Option.toList_none, List.cons_append, List.nil_append, ip_fxn, ip_fxi, ip_fxr, ip_fxl, ip_wid, ip_n998, ip_lt900, ip_n998, iO9, iA11, iA10, hR0, hR1, m_c64, m_kk11, m_kd11, show i < 64 by omega, m_80, ip_div_id, ip_rem_id, h1, show ¬ (1 : Int) = 0 by omega, ip_up_ar, m_ini]
    · obtain ⟨lo', ih⟩ := p2ia hn hR0 hR1 k (i + 1) (ip_u f i (m_ini (S 10) i)) (some (vi 0)) l3 (by omega) (by omega)
      refine ⟨lo', ?_⟩
      rw [m_l1, ← ih, s2_2]
      by_cases h2 : ip_w (S 10 i) = 0
      · simp (disch := omega) only [s2_0, s2_1, s2_3, s2_4, s2_5, s2_6, s2_7, s2_8, s2_9, s2_10, s2_11, s2_12, s2_13, s2_14, s2_15, s2_16, s2_17, s2_18, s2_19, s2_20, s2_21, s2_22, s2_23, s2_24, s2_25, s2_26, s2_27, s2_28, s2_29, s2_30, s2_31, s2_32, s2_33, s2_34, s2_35, s2_36, s2_37, s2_38, s2_40, s2_42, s2_43, s2_44, s2_45, s2_47, s2_48, s2_49, s2_50, s2_51, s2_52, s2_53, s2_54, s2_55, s2_56, s2_57, s2_58, s2_59, s2_60, s2_61, s2_62, s2_63, s2_64, s2_65, s2_66, s2_67, s2_68, s2_69, s2_70, s2_71, s2_72, s2_73, s2_74, s2_75, s2_76, s2_78, s2_79, ↓reduceIte, Bool.true_eq_false, Bool.false_eq_true, ip_rfS, true_or, or_true, true_and, and_true, Option.toList_some, Option.toList_none, List.cons_append, List.nil_append, ip_fxn, ip_fxi, ip_fxr, ip_fxl, ip_wid, ip_n998, ip_lt900, ip_n998, iO9, iA11, iA10, hR0, hR1, m_c64, m_kk11, m_kd11, show i < 64 by omega, m_80, ip_div_id, ip_rem_id, h1, h2, ip_up_ar, m_ar_ne (show 10 ≠ 11 by omega), m_ini]
      · simp (disch := omega) only [s2_0, s2_1, s2_3, s2_4, s2_5, s2_6, s2_7, s2_8, s2_9, s2_10, s2_11, s2_12, s2_13, s2_14, s2_15, s2_16, s2_17, s2_18, s2_19, s2_20, s2_21, s2_22, s2_23, s2_24, s2_25, s2_26, s2_27, s2_28, s2_29, s2_30, s2_31, s2_32, s2_33, s2_34, s2_35, s2_36, s2_37, s2_38, s2_40, s2_42, s2_43, s2_44, s2_45, s2_47, s2_48, s2_49, s2_50, s2_51, s2_52, s2_53, s2_54, s2_55, s2_56, s2_57, s2_58, s2_59, s2_60, s2_61, s2_62, s2_63, s2_64, s2_65, s2_66, s2_67, s2_68, s2_69, s2_70, s2_71, s2_72, s2_73, s2_74, s2_75, s2_76, s2_78, s2_79, ↓reduceIte, Bool.true_eq_false, Bool.false_eq_true, ip_rfS, true_or, or_true, true_and, and_true, Option.toList_some, Option.toList_none, List.cons_append, List.nil_append, ip_fxn, ip_fxi, ip_fxr, ip_fxl, ip_wid, ip_n998, ip_lt900, ip_n998, iO9, iA11, iA10, hR0, hR1, m_c64, m_kk11, m_kd11, show i < 64 by omega, m_80, ip_div_id, ip_rem_id, h1, h2, ip_up_ar, m_ar_ne (show 10 ≠ 11 by omega), m_ini]
theorem p2ib (hn : 11 < n) (hR0 : R 9 0 = some 10) (hR1 : R 9 1 = some 11) {y : Int} (hy : 0 ≤ y) (hy2 : y < 8) : ∀ (k : Nat) (i : Int) (f : Int → Int) (l3 : Option Value), i + k = 64 → 0 ≤ i →
    ∃ l3' : Option Value, ip_wp (d + 1) 2 46 [some (.ref 9), some (vi y), some (vi i), l3] [] n (ip_ar S 11 f) R L Q = ip_wp (d + 1) 2 77 [some (.ref 9), some (vi y), some (vi 64), l3'] [] n (ip_ar S 11 (m_l2 y k i f)) R L Q
  | 0, i, f, l3, h, hi => by
    refine ⟨l3, ?_⟩
    rw [s2_46, show i = 64 by omega]
    simp (disch := omega) only [s2_0, s2_1, s2_3, s2_4, s2_5, s2_6, s2_7, s2_8, s2_9, s2_10, s2_11, s2_12, s2_13, s2_14, s2_15, s2_16, s2_17, s2_18, s2_19, s2_20, s2_21, s2_22, s2_23, s2_24, s2_25, s2_26, s2_27, s2_28, s2_29, s2_30, s2_31, s2_32, s2_33, s2_34, s2_35, s2_36, s2_37, s2_38, s2_39, s2_40, s2_42, s2_43, s2_44, s2_45, s2_47, s2_48, s2_49, s2_50, s2_51, s2_52, s2_53, s2_54, s2_55, s2_56, s2_57, s2_58, s2_59, s2_60, s2_61, s2_62, s2_63, s2_64, s2_65, s2_66, s2_67, s2_68, s2_69, s2_70, s2_71, s2_72, s2_73, s2_74, s2_75, s2_76, s2_78, s2_79, ↓reduceIte, Bool.true_eq_false, Bool.false_eq_true, ip_rfS, true_or, or_true, true_and, and_true, Option.toList_some, Option.toList_none, List.cons_append, List.nil_append, ip_fxn, ip_fxi, ip_fxr, ip_fxl, ip_wid, ip_n998, ip_lt900, ip_n998, iO9, hR1, m_c64, m_kk11, m_kd11, Int.lt_irrefl, m_l2]
  | k + 1, i, f, l3, h, hi => by
    obtain ⟨l3', ih⟩ := p2ib hn hR0 hR1 hy hy2 k (i + 1) (ip_u f i (m_rel f y i)) (some (vi (f (i / 8 * 8 + y) + f (y * 8 + i % 8)))) (by omega) (by omega)
    refine ⟨l3', ?_⟩
    rw [s2_46]
    simp (disch := omega) only [s2_0, s2_1, s2_3, s2_4, s2_5, s2_6, s2_7, s2_8, s2_9, s2_10, s2_11, s2_12, s2_13, s2_14, s2_15, s2_16, s2_17, s2_18, s2_19, s2_20, s2_21, s2_22, s2_23, s2_24, s2_25, s2_26, s2_27, s2_28, s2_29, s2_30, s2_31, s2_32, s2_33, s2_34, s2_35, s2_36, s2_37, s2_38, s2_39, s2_40, s2_42, s2_43, s2_44, s2_45, s2_47, s2_48, s2_49, s2_50, s2_51, s2_52, s2_53, s2_54, s2_55, s2_56, s2_57, s2_58, s2_59, s2_60, s2_61, s2_62, s2_63, s2_64, s2_65, s2_66, s2_67, s2_68, s2_69, s2_70, s2_71, s2_72, s2_73, s2_74, s2_75, s2_76, s2_78, s2_79, ↓reduceIte, Bool.true_eq_false, Bool.false_eq_true, ip_rfS, true_or, or_true, true_and, and_true, Option.toList_some, Option.toList_none, List.cons_append, List.nil_append, ip_fxn, ip_fxi, ip_fxr, ip_fxl, ip_wid, ip_n998, ip_lt900, ip_n998, iO9, iA11, hR1, m_c64, m_kd11, m_kk11, show i < 64 by omega, ip_div_id, ip_rem_id, p3i, m_80, ip_ar_at, ip_up_ar, m_l2]
    rw [← ih]
    rfl
theorem p2ic (hn : 11 < n) (hR0 : R 9 0 = some 10) (hR1 : R 9 1 = some 11) : ∀ (k : Nat) (y : Int) (f : Int → Int) (lo l3 : Option Value), y + k = 8 → 0 ≤ y →
    ip_wp (d + 1) 2 41 [some (.ref 9), some (vi y), lo, l3] [] n (ip_ar S 11 f) R L Q = Q none n (ip_ar S 11 (m_l3 k y f)) R L
  | 0, y, f, lo, l3, h, hi => by
    rw [s2_41, show y = 8 by omega]
    simp (disch := omega) only [s2_0, s2_1, s2_3, s2_4, s2_5, s2_6, s2_7, s2_8, s2_9, s2_10, s2_11, s2_12, s2_13, s2_14, s2_15, s2_16, s2_17, s2_18, s2_19, s2_20, s2_21, s2_22, s2_23, s2_24, s2_25, s2_26, s2_27, s2_28, s2_29, s2_30, s2_31, s2_32, s2_33, s2_34, s2_35, s2_36, s2_37, s2_38, s2_39, s2_40, s2_42, s2_43, s2_44, s2_45, s2_47, s2_48, s2_49, s2_50, s2_51, s2_52, s2_53, s2_54, s2_55, s2_56, s2_57, s2_58, s2_59, s2_60, s2_61, s2_62, s2_63, s2_64, s2_65, s2_66, s2_67, s2_68, s2_69, s2_70, s2_71, s2_72, s2_73, s2_74, s2_75, s2_76, s2_78, s2_79, ↓reduceIte, Bool.true_eq_false, Bool.false_eq_true, ip_rfS, true_or, or_true, true_and, and_true, Option.toList_some, Option.toList_none, List.cons_append, List.nil_append, ip_fxn, ip_fxi, ip_fxr, ip_fxl, ip_wid, ip_n998, ip_lt900, Int.lt_irrefl, m_l3]
  | k + 1, y, f, lo, l3, h, hi => by
    have ih := fun l3 => p2ic hn hR0 hR1 k (y + 1) (m_l2 y 64 0 f) (some (vi 64)) l3 (by omega) (by omega)
    obtain ⟨l3', hb⟩ := p2ib (d := d) (S := S) (L := L) (Q := Q) hn hR0 hR1 hi (by omega) 64 0 f l3 (by omega) (by omega)
    rw [s2_41]
    simp (disch := omega) only [s2_0, s2_1, s2_3, s2_4, s2_5, s2_6, s2_7, s2_8, s2_9, s2_10, s2_11, s2_12, s2_13, s2_14, s2_15, s2_16, s2_17, s2_18, s2_19, s2_20, s2_21, s2_22, s2_23, s2_24, s2_25, s2_26, s2_27, s2_28, s2_29, s2_30, s2_31, s2_32, s2_33, s2_34, s2_35, s2_36, s2_37, s2_38, s2_39, s2_40, s2_42, s2_43, s2_44, s2_45, s2_47, s2_48, s2_49, s2_50, s2_51, s2_52, s2_53, s2_54, s2_55, s2_56, s2_57, s2_58, s2_59, s2_60, s2_61, s2_62, s2_63, s2_64, s2_65, s2_66, s2_67, s2_68, s2_69, s2_70, s2_71, s2_72, s2_73, s2_74, s2_75, s2_76, s2_78, s2_79, ↓reduceIte, Bool.true_eq_false, Bool.false_eq_true, ip_rfS, true_or, or_true, true_and, and_true, Option.toList_some, Option.toList_none, List.cons_append, List.nil_append, ip_fxn, ip_fxi, ip_fxr, ip_fxl, ip_wid, ip_n998, ip_lt900, show y < 8 by omega, hb]
    rw [s2_77]
    simp (disch := omega) only [s2_0, s2_1, s2_3, s2_4, s2_5, s2_6, s2_7, s2_8, s2_9, s2_10, s2_11, s2_12, s2_13, s2_14, s2_15, s2_16, s2_17, s2_18, s2_19, s2_20, s2_21, s2_22, s2_23, s2_24, s2_25, s2_26, s2_27, s2_28, s2_29, s2_30, s2_31, s2_32, s2_33, s2_34, s2_35, s2_36, s2_37, s2_38, s2_39, s2_40, s2_42, s2_43, s2_44, s2_45, s2_47, s2_48, s2_49, s2_50, s2_51, s2_52, s2_53, s2_54, s2_55, s2_56, s2_57, s2_58, s2_59, s2_60, s2_61, s2_62, s2_63, s2_64, s2_65, s2_66, s2_67, s2_68, s2_69, s2_70, s2_71, s2_72, s2_73, s2_74, s2_75, s2_76, s2_78, s2_79, ↓reduceIte, Bool.true_eq_false, Bool.false_eq_true, ip_rfS, true_or, or_true, true_and, and_true, Option.toList_some, Option.toList_none, List.cons_append, List.nil_append, ip_fxn, ip_fxi, ip_fxr, ip_fxl, ip_wid, ip_n998, ip_lt900, ih, m_l3]
theorem p2i (hn : 11 < n) (hR0 : R 9 0 = some 10) (hR1 : R 9 1 = some 11) : ip_wc (d + 2) 2 [.ref 9] n S R L Q = Q none n (ip_ar S 11 (m_fw (S 10) (S 11))) R L := by
  obtain ⟨lo', ha⟩ := p2ia (d := d + 1) (S := S) (L := L) (Q := Q) hn hR0 hR1 64 0 (S 11) none none (by omega) (by omega)
  rw [ip_ar_self] at ha
  have hc := p2ic (d := d) (S := S) (L := L) (Q := Q) hn hR0 hR1 8 0 (m_l1 (S 10) 64 0 (S 11)) lo' none (by omega) (by omega)
  rw [c2, s2_0, s2_1]
  simp only [↓reduceIte, Bool.true_eq_false, Bool.false_eq_true, ip_rfS, true_or, or_true, true_and, and_true, Option.toList_some, Option.toList_none, List.cons_append, List.nil_append, ip_fxn, ip_fxi, ip_fxr, ip_fxl, ip_wid, ip_n998, ip_lt900]
  rw [ha]
  simp only [s2_39, s2_40, ↓reduceIte, Bool.true_eq_false, Bool.false_eq_true, ip_rfS, true_or, or_true, true_and, and_true, Option.toList_some, Option.toList_none, List.cons_append, List.nil_append, ip_fxn, ip_fxi, ip_fxr, ip_fxl, ip_wid, ip_n998, ip_lt900, hc]
  rfl

end WLD
