/-! the constructors of TAPE, READER, TEXT, tandem, SHEET -/
section INJ
variable {d n t s : Nat} {S : ip_S} {R : ip_R} {L : ip_S} {Q : Option Value → Nat → ip_S → ip_R → ip_S → Prop}
theorem p5 : ip_wc (d + 1) 5 [.ref 19] 20 S R L Q = Q none 24 S (ip_ur (ip_ur (ip_ur (ip_ur R 19 0 20) 19 1 21) 19 2 22) 19 3 23) L := by
  simp (disch := omega) only [c5, s5_0, s5_1, s5_2, s5_3, s5_4, s5_5, s5_6, s5_7, s5_8, s5_9, s5_10, s5_11, s5_12, s5_13, s5_14, s5_15, s5_16, s5_17, s5_18, ↓reduceIte, Bool.true_eq_false, Bool.false_eq_true, ip_rfS, true_or, or_true, true_and, and_true, Option.toList_some, Option.toList_none, List.cons_append, List.nil_append, ip_fxn, ip_fxi, ip_fxr, ip_fxl, ip_wid, ip_n998, ip_lt900, ip_n998, ip_lt900, iO19, Nat.reduceAdd, kN20, kN21, kN22, kN23]
theorem p6 : ip_wc (d + 1) 6 [.ref 24, .ref 19] 25 S R L Q = Q none 25 S (ip_ur R 24 0 19) L := by
  simp (disch := omega) only [c6, s6_0, s6_1, s6_2, s6_3, s6_4, s6_5, ↓reduceIte, Bool.true_eq_false, Bool.false_eq_true, ip_rfS, true_or, or_true, true_and, and_true, Option.toList_some, Option.toList_none, List.cons_append, List.nil_append, ip_fxn, ip_fxi, ip_fxr, ip_fxl, ip_wid, ip_n998, ip_lt900, ip_n998, ip_lt900, iO24]
theorem kT1 (h : t < 6) : ((ip_kd (27 + 3 * t)).1 = 0 ∧ (160 : Int) = ((ip_kd (27 + 3 * t)).2 : Int)) = True := by
  match t, h with
  | 0, _ => exact kN27
  | 1, _ => exact kN30
  | 2, _ => exact kN33
  | 3, _ => exact kN36
  | 4, _ => exact kN39
  | 5, _ => exact kN42
  | t + 6, h => omega
theorem kT2 (h : t < 6) : ((ip_kd (28 + 3 * t)).1 = 0 ∧ (3 : Int) = ((ip_kd (28 + 3 * t)).2 : Int)) = True := by
  match t, h with
  | 0, _ => exact kN28
  | 1, _ => exact kN31
  | 2, _ => exact kN34
  | 3, _ => exact kN37
  | 4, _ => exact kN40
  | 5, _ => exact kN43
  | t + 6, h => omega
theorem iOT2 (h : t < 6) (hn : 27 + 3 * t ≤ n) : ip_isO n (26 + 3 * t) 5 = True := ip_isOof (by omega) (of_eq_true (iOT h (Nat.le_refl 44))).2
theorem p7 (ht : t < 6) : ip_wc (d + 1) 7 [.ref (26 + 3 * t)] (27 + 3 * t) S R L Q = Q none (29 + 3 * t) S (ip_ur (ip_ur R (26 + 3 * t) 0 (27 + 3 * t)) (26 + 3 * t) 1 (28 + 3 * t)) L := by
  simp (disch := omega) only [c7, s7_0, s7_1, s7_2, s7_3, s7_4, s7_5, s7_6, s7_7, s7_8, s7_9, s7_10, ↓reduceIte, Bool.true_eq_false, Bool.false_eq_true, ip_rfS, true_or, or_true, true_and, and_true, Option.toList_some, Option.toList_none, List.cons_append, List.nil_append, ip_fxn, ip_fxi, ip_fxr, ip_fxl, ip_wid, ip_n998, ip_lt900, ip_n998, ip_lt900, iOT2, show 27 + 3 * t + 1 = 28 + 3 * t by omega, show 28 + 3 * t + 1 = 29 + 3 * t by omega, kT1 ht, kT2 ht]
theorem kS1 (h : s < 4) : ((ip_kd (55 + 2 * s)).1 = 0 ∧ (40 : Int) = ((ip_kd (55 + 2 * s)).2 : Int)) = True := by
  match s, h with
  | 0, _ => exact kN55
  | 1, _ => exact kN57
  | 2, _ => exact kN59
  | 3, _ => exact kN61
  | s + 4, h => omega
theorem iOS2 (h : s < 4) (hn : 55 + 2 * s ≤ n) : ip_isO n (54 + 2 * s) 7 = True := ip_isOof (by omega) (of_eq_true (iOS h (Nat.le_refl 62))).2
theorem p43 (hs : s < 4) : ip_wc (d + 1) 43 [.ref (54 + 2 * s)] (55 + 2 * s) S R L Q = Q none (56 + 2 * s) (ip_up S (54 + 2 * s) 1 (-1)) (ip_ur R (54 + 2 * s) 0 (55 + 2 * s)) L := by
  simp (disch := omega) only [c43, s43_0, s43_1, s43_2, s43_3, s43_4, s43_5, s43_6, s43_7, s43_8, s43_9, ↓reduceIte, Bool.true_eq_false, Bool.false_eq_true, ip_rfS, true_or, or_true, true_and, and_true, Option.toList_some, Option.toList_none, List.cons_append, List.nil_append, ip_fxn, ip_fxi, ip_fxr, ip_fxl, ip_wid, ip_n998, ip_lt900, ip_n998, ip_lt900, iOS2, show 55 + 2 * s + 1 = 56 + 2 * s by omega, kS1 hs]
theorem p42 : ip_wc (d + 1) 42 [.ref 44, .ref 1, .ref 17] 45 S R L Q = Q none 49 S (ip_ur (ip_ur (ip_ur (ip_ur (ip_ur (ip_ur R 44 2 45) 44 3 46) 44 4 47) 44 5 48) 44 0 1) 44 1 17) L := by
  simp (disch := omega) only [c42, s42_0, s42_1, s42_2, s42_3, s42_4, s42_5, s42_6, s42_7, s42_8, s42_9, s42_10, s42_11, s42_12, s42_13, s42_14, s42_15, s42_16, s42_17, s42_18, s42_19, s42_20, s42_21, s42_22, s42_23, s42_24, ↓reduceIte, Bool.true_eq_false, Bool.false_eq_true, ip_rfS, true_or, or_true, true_and, and_true, Option.toList_some, Option.toList_none, List.cons_append, List.nil_append, ip_fxn, ip_fxi, ip_fxr, ip_fxl, ip_wid, ip_n998, ip_lt900, ip_n998, ip_lt900, iO44, Nat.reduceAdd, kN45, kN46, kN47, kN48]
end INJ
