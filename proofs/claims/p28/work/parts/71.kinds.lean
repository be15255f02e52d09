/-! what the KINDS make of it -/
def w_bd (x : Int) : Int := if x < 0 then 0 else if 99 < x then 99 else x
def w_kp (k v nu hr : Int) (b : Bool) : Int :=
  if k = 1 then (if b = true then v / 2 else v)
  else if k = 2 then v + nu
  else if k = 3 then (if hr < 12 then 2 * (if b = true then v / 2 else v) else (if b = true then v / 2 else v))
  else if k = 4 then (if b = true then v + nu + 10 else 0)
  else if k = 5 then 1 else v
def w_km (k v nu : Int) : Int := if k = 1 ∨ k = 3 then (if v < 3 then 0 else v - 3) else if k = 4 then v + nu else if k = 5 then v / 2 else v
def w_ke (k y nu s : Int) : Bool :=
  if k = 1 ∨ k = 3 then decide (¬ y = 0 ∨ 9 ≤ s) else if k = 2 then decide (¬ y = 0 ∧ nu < s) else if k = 4 then false else if k = 5 then decide (nu ≤ s) else decide (¬ y = 0)
theorem w_bdr {x : Int} : 0 ≤ w_bd x ∧ w_bd x ≤ 99 := by unfold w_bd; repeat' split; all_goals omega
theorem w_kpr {k v nu hr : Int} {b : Bool} (hv : 0 ≤ v ∧ v ≤ 99) (hn : 0 ≤ nu ∧ nu ≤ 9) : 0 ≤ w_kp k v nu hr b ∧ w_kp k v nu hr b ≤ 999 := by
  unfold w_kp
  repeat' split
  all_goals omega
theorem w_kmr {k v nu : Int} (hv : 0 ≤ v ∧ v ≤ 99) (hn : 0 ≤ nu ∧ nu ≤ 9) : 0 ≤ w_km k v nu ∧ w_km k v nu ≤ 999 := by
  unfold w_km
  repeat' split
  all_goals omega
section KND
variable {d n : Nat} {S : ip_S} {R : ip_R} {L : ip_S} {Q : Option Value → Nat → ip_S → ip_R → ip_S → Prop}
theorem k_20 : (¬ (2 : Int) = 0) = True := eq_true (by omega)
theorem p63 {v : Int} (hv : ip_w v = v) : ip_wc (d + 1) 63 [vi v] n S R L Q = Q (some (vi (w_bd v))) n S R L := by
  unfold w_bd
  by_cases h1 : 99 < v
  · rw [if_neg (by omega), if_pos h1]
    simp (disch := omega) only [c63, s63_0, s63_1, s63_2, s63_3, s63_4, s63_5, ↓reduceIte, Bool.true_eq_false, Bool.false_eq_true, ip_rfS, true_or, or_true, true_and, and_true, Option.toList_some, Option.toList_none, List.cons_append, List.nil_append, ip_fxn, ip_fxi, ip_fxr, ip_fxl, ip_wid, ip_n998, ip_lt900, hv, h1, Int.reduceLT]
  · by_cases h2 : 0 < v
    · rw [if_neg (by omega), if_neg h1]
      simp (disch := omega) only [c63, s63_0, s63_1, s63_2, s63_3, s63_4, s63_5, ↓reduceIte, Bool.true_eq_false, Bool.false_eq_true, ip_rfS, true_or, or_true, true_and, and_true, Option.toList_some, Option.toList_none, List.cons_append, List.nil_append, ip_fxn, ip_fxi, ip_fxr, ip_fxl, ip_wid, ip_n998, ip_lt900, hv, h1, h2]
    · by_cases h3 : v < 0
      · rw [if_pos h3]
        simp (disch := omega) only [c63, s63_0, s63_1, s63_2, s63_3, s63_4, s63_5, ↓reduceIte, Bool.true_eq_false, Bool.false_eq_true, ip_rfS, true_or, or_true, true_and, and_true, Option.toList_some, Option.toList_none, List.cons_append, List.nil_append, ip_fxn, ip_fxi, ip_fxr, ip_fxl, ip_wid, ip_n998, ip_lt900, hv, h1, h2]
      · rw [if_neg h3, if_neg h1, show v = 0 by omega]
        simp (disch := omega) only [c63, s63_0, s63_1, s63_2, s63_3, s63_4, s63_5, ↓reduceIte, Bool.true_eq_false, Bool.false_eq_true, ip_rfS, true_or, or_true, true_and, and_true, Option.toList_some, Option.toList_none, List.cons_append, List.nil_append, ip_fxn, ip_fxi, ip_fxr, ip_fxl, ip_wid, ip_n998, ip_lt900, Int.reduceLT, Int.lt_irrefl]
theorem p64 {k v nu hr : Int} {b : Bool} (hk : 0 ≤ k ∧ k < 6) (hv : 0 ≤ v ∧ v ≤ 99) (hn : 0 ≤ nu ∧ nu ≤ 9) (hh : 0 ≤ hr ∧ hr < 24) : ip_wc (d + 1) 64 [vi k, vi v, vi nu, vi hr, vi (k_n b)] n S R L Q = Q (some (vi (w_kp k v nu hr b))) n S R L := by
  obtain q | q | q | q | q | q : k = 0 ∨ k = 1 ∨ k = 2 ∨ k = 3 ∨ k = 4 ∨ k = 5 := by omega
  all_goals subst q
  all_goals cases b
  all_goals by_cases h : hr < 12
  all_goals simp (disch := omega) only [c64, s64_0, s64_1, s64_2, s64_3, s64_4, s64_5, s64_6, s64_7, s64_8, s64_9, s64_10, s64_11, s64_12, s64_13, s64_14, s64_15, s64_16, s64_17, s64_18, s64_19, s64_20, s64_21, s64_22, s64_23, s64_24, s64_25, s64_26, s64_27, s64_28, s64_29, s64_30, s64_31, s64_32, s64_33, s64_34, s64_35, s64_36, s64_37, s64_38, ↓reduceIte, Bool.true_eq_false, Bool.false_eq_true, ip_rfS, true_or, or_true, true_and, and_true, Option.toList_some, Option.toList_none, List.cons_append, List.nil_append, ip_fxn, ip_fxi, ip_fxr, ip_fxl, ip_wid, ip_n998, ip_lt900, w_kp, k_n0, k_n1, not_false_eq_true, Bool.false_eq_true, Bool.true_eq_false, k_20, ip_div_id, h, Int.reduceEq, if_true, if_false]
theorem p66 {k v nu : Int} (hk : 0 ≤ k ∧ k < 6) (hv : 0 ≤ v ∧ v ≤ 99) (hn : 0 ≤ nu ∧ nu ≤ 9) : ip_wc (d + 1) 66 [vi k, vi v, vi nu] n S R L Q = Q (some (vi (w_km k v nu))) n S R L := by
  obtain q | q | q | q | q | q : k = 0 ∨ k = 1 ∨ k = 2 ∨ k = 3 ∨ k = 4 ∨ k = 5 := by omega
  all_goals subst q
  · simp (disch := omega) only [c66, s66_0, s66_1, s66_2, s66_3, s66_4, s66_5, s66_6, s66_7, s66_8, s66_9, s66_10, s66_11, s66_12, s66_13, s66_14, s66_15, s66_16, s66_17, ↓reduceIte, Bool.true_eq_false, Bool.false_eq_true, ip_rfS, true_or, or_true, true_and, and_true, Option.toList_some, Option.toList_none, List.cons_append, List.nil_append, ip_fxn, ip_fxi, ip_fxr, ip_fxl, ip_wid, ip_n998, ip_lt900, w_km, Int.reduceEq, if_true, if_false, or_self]
  · by_cases h : v < 3
    · by_cases h2 : v - 3 < 0
      · simp (disch := omega) only [c66, s66_0, s66_1, s66_2, s66_3, s66_4, s66_5, s66_6, s66_7, s66_8, s66_9, s66_10, s66_11, s66_12, s66_13, s66_14, s66_15, s66_16, s66_17, ↓reduceIte, Bool.true_eq_false, Bool.false_eq_true, ip_rfS, true_or, or_true, true_and, and_true, Option.toList_some, Option.toList_none, List.cons_append, List.nil_append, ip_fxn, ip_fxi, ip_fxr, ip_fxl, ip_wid, ip_n998, ip_lt900, w_km, Int.reduceEq, if_true, if_false, true_or, or_true, h, show ¬ 0 < v - 3 by omega]
      · omega
    · by_cases h2 : 0 < v - 3
      · simp (disch := omega) only [c66, s66_0, s66_1, s66_2, s66_3, s66_4, s66_5, s66_6, s66_7, s66_8, s66_9, s66_10, s66_11, s66_12, s66_13, s66_14, s66_15, s66_16, s66_17, ↓reduceIte, Bool.true_eq_false, Bool.false_eq_true, ip_rfS, true_or, or_true, true_and, and_true, Option.toList_some, Option.toList_none, List.cons_append, List.nil_append, ip_fxn, ip_fxi, ip_fxr, ip_fxl, ip_wid, ip_n998, ip_lt900, w_km, Int.reduceEq, if_true, if_false, true_or, or_true, h, h2]
      · simp (disch := omega) only [c66, s66_0, s66_1, s66_2, s66_3, s66_4, s66_5, s66_6, s66_7, s66_8, s66_9, s66_10, s66_11, s66_12, s66_13, s66_14, s66_15, s66_16, s66_17, ↓reduceIte, Bool.true_eq_false, Bool.false_eq_true, ip_rfS, true_or, or_true, true_and, and_true, Option.toList_some, Option.toList_none, List.cons_append, List.nil_append, ip_fxn, ip_fxi, ip_fxr, ip_fxl, ip_wid, ip_n998, ip_lt900, w_km, Int.reduceEq, if_true, if_false, true_or, or_true, h, h2, show v - 3 = 0 by omega, Int.lt_irrefl]
  · simp (disch := omega) only [c66, s66_0, s66_1, s66_2, s66_3, s66_4, s66_5, s66_6, s66_7, s66_8, s66_9, s66_10, s66_11, s66_12, s66_13, s66_14, s66_15, s66_16, s66_17, ↓reduceIte, Bool.true_eq_false, Bool.false_eq_true, ip_rfS, true_or, or_true, true_and, and_true, Option.toList_some, Option.toList_none, List.cons_append, List.nil_append, ip_fxn, ip_fxi, ip_fxr, ip_fxl, ip_wid, ip_n998, ip_lt900, w_km, Int.reduceEq, if_true, if_false, or_self]
  · by_cases h : v < 3
    · simp (disch := omega) only [c66, s66_0, s66_1, s66_2, s66_3, s66_4, s66_5, s66_6, s66_7, s66_8, s66_9, s66_10, s66_11, s66_12, s66_13, s66_14, s66_15, s66_16, s66_17, ↓reduceIte, Bool.true_eq_false, Bool.false_eq_true, ip_rfS, true_or, or_true, true_and, and_true, Option.toList_some, Option.toList_none, List.cons_append, List.nil_append, ip_fxn, ip_fxi, ip_fxr, ip_fxl, ip_wid, ip_n998, ip_lt900, w_km, Int.reduceEq, if_true, if_false, true_or, or_true, h, show ¬ 0 < v - 3 by omega]
    · by_cases h2 : 0 < v - 3
      · simp (disch := omega) only [c66, s66_0, s66_1, s66_2, s66_3, s66_4, s66_5, s66_6, s66_7, s66_8, s66_9, s66_10, s66_11, s66_12, s66_13, s66_14, s66_15, s66_16, s66_17, ↓reduceIte, Bool.true_eq_false, Bool.false_eq_true, ip_rfS, true_or, or_true, true_and, and_true, Option.toList_some, Option.toList_none, List.cons_append, List.nil_append, ip_fxn, ip_fxi, ip_fxr, ip_fxl, ip_wid, ip_n998, ip_lt900, w_km, Int.reduceEq, if_true, if_false, true_or, or_true, h, h2]
      · simp (disch := omega) only [c66, s66_0, s66_1, s66_2, s66_3, s66_4, s66_5, s66_6, s66_7, s66_8, s66_9, s66_10, s66_11, s66_12, s66_13, s66_14, s66_15, s66_16, s66_17, ↓reduceIte, Bool.true_eq_false, Bool.false_eq_true, ip_rfS, true_or, or_true, true_and, and_true, Option.toList_some, Option.toList_none, List.cons_append, List.nil_append, ip_fxn, ip_fxi, ip_fxr, ip_fxl, ip_wid, ip_n998, ip_lt900, w_km, Int.reduceEq, if_true, if_false, true_or, or_true, h, h2, show v - 3 = 0 by omega, Int.lt_irrefl]
  · simp (disch := omega) only [c66, s66_0, s66_1, s66_2, s66_3, s66_4, s66_5, s66_6, s66_7, s66_8, s66_9, s66_10, s66_11, s66_12, s66_13, s66_14, s66_15, s66_16, s66_17, ↓reduceIte, Bool.true_eq_false, Bool.false_eq_true, ip_rfS, true_or, or_true, true_and, and_true, Option.toList_some, Option.toList_none, List.cons_append, List.nil_append, ip_fxn, ip_fxi, ip_fxr, ip_fxl, ip_wid, ip_n998, ip_lt900, w_km, Int.reduceEq, if_true, if_false, or_self]
  · simp (disch := omega) only [c66, s66_0, s66_1, s66_2, s66_3, s66_4, s66_5, s66_6, s66_7, s66_8, s66_9, s66_10, s66_11, s66_12, s66_13, s66_14, s66_15, s66_16, s66_17, ↓reduceIte, Bool.true_eq_false, Bool.false_eq_true, ip_rfS, true_or, or_true, true_and, and_true, Option.toList_some, Option.toList_none, List.cons_append, List.nil_append, ip_fxn, ip_fxi, ip_fxr, ip_fxl, ip_wid, ip_n998, ip_lt900, w_km, Int.reduceEq, if_true, if_false, or_self, not_false_eq_true, k_20, ip_div_id]
theorem p70 {k y nu s : Int} (hk : 0 ≤ k ∧ k < 6) (hn : 0 ≤ nu ∧ nu ≤ 9) (hs : 0 ≤ s ∧ s ≤ 40) : ip_wc (d + 1) 70 [vi k, vi (k_n (decide (¬ y = 0))), vi nu, vi s] n S R L Q = Q (some (vi (k_n (w_ke k y nu s)))) n S R L := by
  have hy0 : y = 0 → k_n (decide (¬ y = 0)) = 0 := fun h => by rw [decide_eq_false (by omega)]; rfl
  have hy1 : ¬ y = 0 → k_n (decide (¬ y = 0)) = 1 := fun h => by rw [decide_eq_true h]; rfl
  have kt : k_n true = 1 := rfl
  have kf : k_n false = 0 := rfl
  obtain q | q | q | q | q | q : k = 0 ∨ k = 1 ∨ k = 2 ∨ k = 3 ∨ k = 4 ∨ k = 5 := by omega
  all_goals subst q
  · have e : w_ke 0 y nu s = decide (¬ y = 0) := by unfold w_ke; rw [if_neg (by omega), if_neg (by omega), if_neg (by omega), if_neg (by omega)]
    rw [e]
    simp (disch := omega) only [c70, s70_0, s70_1, s70_2, s70_3, s70_4, s70_5, s70_6, s70_7, s70_8, s70_9, s70_10, s70_11, s70_12, s70_13, s70_14, s70_15, s70_16, s70_17, s70_18, s70_19, s70_20, s70_21, s70_22, s70_23, s70_24, s70_25, s70_26, s70_27, s70_28, s70_29, s70_30, ↓reduceIte, Bool.true_eq_false, Bool.false_eq_true, ip_rfS, true_or, or_true, true_and, and_true, Option.toList_some, Option.toList_none, List.cons_append, List.nil_append, ip_fxn, ip_fxi, ip_fxr, ip_fxl, ip_wid, ip_n998, ip_lt900, ip_r0, ip_r1, Int.reduceEq, Int.reduceLT]
    cases decide (¬ y = 0) <;> simp [k_n]
  · by_cases h1 : y = 0
    · by_cases h2 : s < 9
      · have e : w_ke 1 y nu s = false := by unfold w_ke; rw [if_pos (by omega)]; exact decide_eq_false (by omega)
        rw [e, hy0 h1, kf]
        simp (disch := omega) only [c70, s70_0, s70_1, s70_2, s70_3, s70_4, s70_5, s70_6, s70_7, s70_8, s70_9, s70_10, s70_11, s70_12, s70_13, s70_14, s70_15, s70_16, s70_17, s70_18, s70_19, s70_20, s70_21, s70_22, s70_23, s70_24, s70_25, s70_26, s70_27, s70_28, s70_29, s70_30, ↓reduceIte, Bool.true_eq_false, Bool.false_eq_true, ip_rfS, true_or, or_true, true_and, and_true, Option.toList_some, Option.toList_none, List.cons_append, List.nil_append, ip_fxn, ip_fxi, ip_fxr, ip_fxl, ip_wid, ip_n998, ip_lt900, ip_r0, ip_r1, Int.reduceEq, Int.reduceLT, h2]
      · have e : w_ke 1 y nu s = true := by unfold w_ke; rw [if_pos (by omega)]; exact decide_eq_true (by omega)
        rw [e, hy0 h1, kt]
        simp (disch := omega) only [c70, s70_0, s70_1, s70_2, s70_3, s70_4, s70_5, s70_6, s70_7, s70_8, s70_9, s70_10, s70_11, s70_12, s70_13, s70_14, s70_15, s70_16, s70_17, s70_18, s70_19, s70_20, s70_21, s70_22, s70_23, s70_24, s70_25, s70_26, s70_27, s70_28, s70_29, s70_30, ↓reduceIte, Bool.true_eq_false, Bool.false_eq_true, ip_rfS, true_or, or_true, true_and, and_true, Option.toList_some, Option.toList_none, List.cons_append, List.nil_append, ip_fxn, ip_fxi, ip_fxr, ip_fxl, ip_wid, ip_n998, ip_lt900, ip_r0, ip_r1, Int.reduceEq, Int.reduceLT, h2]
    · have e : w_ke 1 y nu s = true := by unfold w_ke; rw [if_pos (by omega)]; exact decide_eq_true (by omega)
      rw [e, hy1 h1, kt]
      simp (disch := omega) only [c70, s70_0, s70_1, s70_2, s70_3, s70_4, s70_5, s70_6, s70_7, s70_8, s70_9, s70_10, s70_11, s70_12, s70_13, s70_14, s70_15, s70_16, s70_17, s70_18, s70_19, s70_20, s70_21, s70_22, s70_23, s70_24, s70_25, s70_26, s70_27, s70_28, s70_29, s70_30, ↓reduceIte, Bool.true_eq_false, Bool.false_eq_true, ip_rfS, true_or, or_true, true_and, and_true, Option.toList_some, Option.toList_none, List.cons_append, List.nil_append, ip_fxn, ip_fxi, ip_fxr, ip_fxl, ip_wid, ip_n998, ip_lt900, ip_r0, ip_r1, Int.reduceEq, Int.reduceLT]
  · by_cases h1 : y = 0
    · have e : w_ke 2 y nu s = false := by unfold w_ke; rw [if_neg (by omega), if_pos (by omega)]; exact decide_eq_false (by omega)
      rw [e, hy0 h1, kf]
      simp (disch := omega) only [c70, s70_0, s70_1, s70_2, s70_3, s70_4, s70_5, s70_6, s70_7, s70_8, s70_9, s70_10, s70_11, s70_12, s70_13, s70_14, s70_15, s70_16, s70_17, s70_18, s70_19, s70_20, s70_21, s70_22, s70_23, s70_24, s70_25, s70_26, s70_27, s70_28, s70_29, s70_30, ↓reduceIte, Bool.true_eq_false, Bool.false_eq_true, ip_rfS, true_or, or_true, true_and, and_true, Option.toList_some, Option.toList_none, List.cons_append, List.nil_append, ip_fxn, ip_fxi, ip_fxr, ip_fxl, ip_wid, ip_n998, ip_lt900, ip_r0, ip_r1, Int.reduceEq, Int.reduceLT]
    · by_cases h2 : nu < s
      · have e : w_ke 2 y nu s = true := by unfold w_ke; rw [if_neg (by omega), if_pos (by omega)]; exact decide_eq_true (by omega)
        rw [e, hy1 h1, kt]
        simp (disch := omega) only [c70, s70_0, s70_1, s70_2, s70_3, s70_4, s70_5, s70_6, s70_7, s70_8, s70_9, s70_10, s70_11, s70_12, s70_13, s70_14, s70_15, s70_16, s70_17, s70_18, s70_19, s70_20, s70_21, s70_22, s70_23, s70_24, s70_25, s70_26, s70_27, s70_28, s70_29, s70_30, ↓reduceIte, Bool.true_eq_false, Bool.false_eq_true, ip_rfS, true_or, or_true, true_and, and_true, Option.toList_some, Option.toList_none, List.cons_append, List.nil_append, ip_fxn, ip_fxi, ip_fxr, ip_fxl, ip_wid, ip_n998, ip_lt900, ip_r0, ip_r1, Int.reduceEq, Int.reduceLT, h2]
      · have e : w_ke 2 y nu s = false := by unfold w_ke; rw [if_neg (by omega), if_pos (by omega)]; exact decide_eq_false (by omega)
        rw [e, hy1 h1, kf]
        simp (disch := omega) only [c70, s70_0, s70_1, s70_2, s70_3, s70_4, s70_5, s70_6, s70_7, s70_8, s70_9, s70_10, s70_11, s70_12, s70_13, s70_14, s70_15, s70_16, s70_17, s70_18, s70_19, s70_20, s70_21, s70_22, s70_23, s70_24, s70_25, s70_26, s70_27, s70_28, s70_29, s70_30, ↓reduceIte, Bool.true_eq_false, Bool.false_eq_true, ip_rfS, true_or, or_true, true_and, and_true, Option.toList_some, Option.toList_none, List.cons_append, List.nil_append, ip_fxn, ip_fxi, ip_fxr, ip_fxl, ip_wid, ip_n998, ip_lt900, ip_r0, ip_r1, Int.reduceEq, Int.reduceLT, h2]
  · by_cases h1 : y = 0
    · by_cases h2 : s < 9
      · have e : w_ke 3 y nu s = false := by unfold w_ke; rw [if_pos (by omega)]; exact decide_eq_false (by omega)
        rw [e, hy0 h1, kf]
        simp (disch := omega) only [c70, s70_0, s70_1, s70_2, s70_3, s70_4, s70_5, s70_6, s70_7, s70_8, s70_9, s70_10, s70_11, s70_12, s70_13, s70_14, s70_15, s70_16, s70_17, s70_18, s70_19, s70_20, s70_21, s70_22, s70_23, s70_24, s70_25, s70_26, s70_27, s70_28, s70_29, s70_30, ↓reduceIte, Bool.true_eq_false, Bool.false_eq_true, ip_rfS, true_or, or_true, true_and, and_true, Option.toList_some, Option.toList_none, List.cons_append, List.nil_append, ip_fxn, ip_fxi, ip_fxr, ip_fxl, ip_wid, ip_n998, ip_lt900, ip_r0, ip_r1, Int.reduceEq, Int.reduceLT, h2]
      · have e : w_ke 3 y nu s = true := by unfold w_ke; rw [if_pos (by omega)]; exact decide_eq_true (by omega)
        rw [e, hy0 h1, kt]
        simp (disch := omega) only [c70, s70_0, s70_1, s70_2, s70_3, s70_4, s70_5, s70_6, s70_7, s70_8, s70_9, s70_10, s70_11, s70_12, s70_13, s70_14, s70_15, s70_16, s70_17, s70_18, s70_19, s70_20, s70_21, s70_22, s70_23, s70_24, s70_25, s70_26, s70_27, s70_28, s70_29, s70_30, ↓reduceIte, Bool.true_eq_false, Bool.false_eq_true, ip_rfS, true_or, or_true, true_and, and_true, Option.toList_some, Option.toList_none, List.cons_append, List.nil_append, ip_fxn, ip_fxi, ip_fxr, ip_fxl, ip_wid, ip_n998, ip_lt900, ip_r0, ip_r1, Int.reduceEq, Int.reduceLT, h2]
    · have e : w_ke 3 y nu s = true := by unfold w_ke; rw [if_pos (by omega)]; exact decide_eq_true (by omega)
      rw [e, hy1 h1, kt]
      simp (disch := omega) only [c70, s70_0, s70_1, s70_2, s70_3, s70_4, s70_5, s70_6, s70_7, s70_8, s70_9, s70_10, s70_11, s70_12, s70_13, s70_14, s70_15, s70_16, s70_17, s70_18, s70_19, s70_20, s70_21, s70_22, s70_23, s70_24, s70_25, s70_26, s70_27, s70_28, s70_29, s70_30, ↓reduceIte, Bool.true_eq_false, Bool.false_eq_true, ip_rfS, true_or, or_true, true_and, and_true, Option.toList_some, Option.toList_none, List.cons_append, List.nil_append, ip_fxn, ip_fxi, ip_fxr, ip_fxl, ip_wid, ip_n998, ip_lt900, ip_r0, ip_r1, Int.reduceEq, Int.reduceLT]
  · have e : w_ke 4 y nu s = false := by unfold w_ke; rw [if_neg (by omega), if_neg (by omega), if_pos (by omega)]
    rw [e, kf]
    simp (disch := omega) only [c70, s70_0, s70_1, s70_2, s70_3, s70_4, s70_5, s70_6, s70_7, s70_8, s70_9, s70_10, s70_11, s70_12, s70_13, s70_14, s70_15, s70_16, s70_17, s70_18, s70_19, s70_20, s70_21, s70_22, s70_23, s70_24, s70_25, s70_26, s70_27, s70_28, s70_29, s70_30, ↓reduceIte, Bool.true_eq_false, Bool.false_eq_true, ip_rfS, true_or, or_true, true_and, and_true, Option.toList_some, Option.toList_none, List.cons_append, List.nil_append, ip_fxn, ip_fxi, ip_fxr, ip_fxl, ip_wid, ip_n998, ip_lt900, ip_r0, ip_r1, Int.reduceEq, Int.reduceLT]
  · by_cases h2 : s < nu
    · have e : w_ke 5 y nu s = false := by unfold w_ke; rw [if_neg (by omega), if_neg (by omega), if_neg (by omega), if_pos (by omega)]; exact decide_eq_false (by omega)
      rw [e, kf]
      simp (disch := omega) only [c70, s70_0, s70_1, s70_2, s70_3, s70_4, s70_5, s70_6, s70_7, s70_8, s70_9, s70_10, s70_11, s70_12, s70_13, s70_14, s70_15, s70_16, s70_17, s70_18, s70_19, s70_20, s70_21, s70_22, s70_23, s70_24, s70_25, s70_26, s70_27, s70_28, s70_29, s70_30, ↓reduceIte, Bool.true_eq_false, Bool.false_eq_true, ip_rfS, true_or, or_true, true_and, and_true, Option.toList_some, Option.toList_none, List.cons_append, List.nil_append, ip_fxn, ip_fxi, ip_fxr, ip_fxl, ip_wid, ip_n998, ip_lt900, ip_r0, ip_r1, Int.reduceEq, Int.reduceLT, h2]
    · have e : w_ke 5 y nu s = true := by unfold w_ke; rw [if_neg (by omega), if_neg (by omega), if_neg (by omega), if_pos (by omega)]; exact decide_eq_true (by omega)
      rw [e, kt]
      simp (disch := omega) only [c70, s70_0, s70_1, s70_2, s70_3, s70_4, s70_5, s70_6, s70_7, s70_8, s70_9, s70_10, s70_11, s70_12, s70_13, s70_14, s70_15, s70_16, s70_17, s70_18, s70_19, s70_20, s70_21, s70_22, s70_23, s70_24, s70_25, s70_26, s70_27, s70_28, s70_29, s70_30, ↓reduceIte, Bool.true_eq_false, Bool.false_eq_true, ip_rfS, true_or, or_true, true_and, and_true, Option.toList_some, Option.toList_none, List.cons_append, List.nil_append, ip_fxn, ip_fxi, ip_fxr, ip_fxl, ip_wid, ip_n998, ip_lt900, ip_r0, ip_r1, Int.reduceEq, Int.reduceLT, h2]
end KND
