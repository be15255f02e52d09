/-! the reference reads level by level -/
section LVL
variable {d : Nat} {S : ip_S} {R : ip_R} {L : ip_S} {b : Int → Int} {sz : Int} {T P N : Int → Int} {la j h t a w op bd fl : Int}
theorem yW3 : y_W8 3 = [111, 114, 0, 0, 0, 0, 0, 0] := by decide +kernel
theorem yW4 : y_W8 4 = [97, 110, 100, 0, 0, 0, 0, 0] := by decide +kernel
theorem yW5 : y_W8 5 = [110, 111, 116, 0, 0, 0, 0, 0] := by decide +kernel
theorem yW6 : y_W8 6 = [109, 105, 108, 101, 115, 0, 0, 0] := by decide +kernel
theorem yW7 : y_W8 7 = [110, 117, 109, 98, 101, 114, 0, 0] := by decide +kernel
theorem yW8 : y_W8 8 = [115, 116, 101, 112, 115, 0, 0, 0] := by decide +kernel
theorem yW9 : y_W8 9 = [104, 111, 117, 114, 0, 0, 0, 0] := by decide +kernel
theorem yW10 : y_W8 10 = [98, 101, 104, 105, 110, 100, 0, 0] := by decide +kernel
theorem yW11 : y_W8 11 = [116, 104, 101, 105, 114, 115, 0, 0] := by decide +kernel
theorem y_Ja (J : y_J b sz T P N la j h t a w) : a = P j := J.1
theorem y_Jw (J : y_J b sz T P N la j h t a w) (h1 : 40 ≤ T j) : w = T j := by
  obtain ⟨-, -, J⟩ := J
  rcases J with J | J | J | J | J <;> omega
theorem q147f (ha : 0 ≤ a ∧ a ≤ 160) {L' Q} : ip_wc (d + 2) 147 [.ref 62] 79 (y_P S h t a 5 0 fl) R L' Q = Q (some (vi 0)) 79 (y_P S h t a 5 1 a) R L' := by
  have g := fun Q' => q143 (d := d) (S := S) (R := R) (h := h) (t := t) (op := 5) (fl := fl) (L' := L') (Q := Q') ha
  simp (disch := omega) only [c147, s147_0, s147_1, s147_2, s147_3, s147_4, s147_5, s147_6, s147_7, s147_8, s147_9, s147_10, s147_11, s147_12, s147_13, s147_14, s147_15, s147_16, s147_17, ↓reduceIte, Bool.true_eq_false, Bool.false_eq_true, ip_rfS, true_or, or_true, true_and, and_true, Option.toList_some, Option.toList_none, List.cons_append, List.nil_append, ip_fxn, ip_fxi, ip_fxr, ip_fxl, ip_wid, ip_n998, ip_lt900, iO0, iO1, iA2, iA3, iA4, iA5, iA6, iA7, iA8, iO9, iA10, iA11, iA12, iA13, iA14, iA15, iA16, iO17, iA18, iO19, iA20, iA21, iA22, iA23, iO24, iA25, iO26, iA27, iA28, iO29, iA30, iA31, iO32, iA33, iA34, iO35, iA36, iA37, iO38, iA39, iA40, iO41, iA42, iA43, iO44, iA45, iA46, iA47, iA48, iA49, iA50, iA51, iA52, iA53, iO54, iA55, iO56, iA57, iO58, iA59, iO60, iA61, iO62, iA63, iA64, iA65, iA66, iA67, iA68, iA69, iA70, iA71, iA72, iA73, iA74, iA75, iA76, iA77, iA78, iOT, iAT1, iAT2, iOS, iAS, yp_o, g, ip_r0]
theorem q147 (hM : x_RM R) (hC : y_C S b sz T P N la) (hj : 0 ≤ j) (J : y_J b sz T P N la j h t a w) (h1 : ¬ T j = -1) (h2 : ¬ T j = -2) (ho : 0 ≤ op ∧ op < 5) : j < la ∧ x_adv la j = j + 1 ∧ ∃ h' t' a' w', y_J b sz T P N la (j + 1) h' t' a' w' ∧ ∀ {fl Q}, ip_wc (d + 4) 147 [.ref 62] 79 (y_P S h t a op 0 fl) R (ip_up L 62 24 w) Q = Q (some (vi 1)) 79 (y_P S h' t' a' (op + 1) 0 fl) R (ip_up L 62 24 w') := by
  obtain ⟨q1, q2, h', t', a', w', J', k⟩ := q138 (d := d) (L := L) hM hC hj J h1 h2
  refine ⟨q1, q2, h', t', a', w', J', fun {fl Q} => ?_⟩
  simp (disch := omega) only [c147, s147_0, s147_1, s147_2, s147_3, s147_4, s147_5, s147_6, s147_7, s147_8, s147_9, s147_10, s147_11, s147_12, s147_13, s147_14, s147_15, s147_16, s147_17, ↓reduceIte, Bool.true_eq_false, Bool.false_eq_true, ip_rfS, true_or, or_true, true_and, and_true, Option.toList_some, Option.toList_none, List.cons_append, List.nil_append, ip_fxn, ip_fxi, ip_fxr, ip_fxl, ip_wid, ip_n998, ip_lt900, iO0, iO1, iA2, iA3, iA4, iA5, iA6, iA7, iA8, iO9, iA10, iA11, iA12, iA13, iA14, iA15, iA16, iO17, iA18, iO19, iA20, iA21, iA22, iA23, iO24, iA25, iO26, iA27, iA28, iO29, iA30, iA31, iO32, iA33, iA34, iO35, iA36, iA37, iO38, iA39, iA40, iO41, iA42, iA43, iO44, iA45, iA46, iA47, iA48, iA49, iA50, iA51, iA52, iA53, iO54, iA55, iO56, iA57, iO58, iA59, iO60, iA61, iO62, iA63, iA64, iA65, iA66, iA67, iA68, iA69, iA70, iA71, iA72, iA73, iA74, iA75, iA76, iA77, iA78, iOT, iAT1, iAT2, iOS, iAS, yp_o, yp_uo, k, show ¬ op = 5 by omega, ip_r1]
theorem q157 (hM : x_RM R) (hC : y_C S b sz T P N la) (hj : 0 ≤ j) (J : y_J b sz T P N la j h t a w) (hT : 6 ≤ T j ∧ T j < 12) {L' Q} : ip_wc (d + 4) 157 [.ref 62] 79 (y_P S h t a op 0 fl) R L' Q = Q (some (vi (y_nam S (T j - 6)))) 79 (y_P S h t a op 0 fl) R L' := by
  have g6 := fun Q' => q140 (d := d) (op := op) (fl := fl) (L' := L') (Q := Q') 6 (by omega) (ki := 6) rfl yW6 hM hC hj J (by omega) (by omega) (by omega) (by omega) (by omega) (by omega) (by omega) (by omega)
  have g7 := fun Q' => q140 (d := d) (op := op) (fl := fl) (L' := L') (Q := Q') 7 (by omega) (ki := 7) rfl yW7 hM hC hj J (by omega) (by omega) (by omega) (by omega) (by omega) (by omega) (by omega) (by omega)
  have g8 := fun Q' => q140 (d := d) (op := op) (fl := fl) (L' := L') (Q := Q') 8 (by omega) (ki := 8) rfl yW8 hM hC hj J (by omega) (by omega) (by omega) (by omega) (by omega) (by omega) (by omega) (by omega)
  have g9 := fun Q' => q140 (d := d) (op := op) (fl := fl) (L' := L') (Q := Q') 9 (by omega) (ki := 9) rfl yW9 hM hC hj J (by omega) (by omega) (by omega) (by omega) (by omega) (by omega) (by omega) (by omega)
  have g10 := fun Q' => q140 (d := d) (op := op) (fl := fl) (L' := L') (Q := Q') 10 (by omega) (ki := 10) rfl yW10 hM hC hj J (by omega) (by omega) (by omega) (by omega) (by omega) (by omega) (by omega) (by omega)
  have g11 := fun Q' => q140 (d := d) (op := op) (fl := fl) (L' := L') (Q := Q') 11 (by omega) (ki := 11) rfl yW11 hM hC hj J (by omega) (by omega) (by omega) (by omega) (by omega) (by omega) (by omega) (by omega)
  clear J
  unfold y_nam
  obtain q | q | q | q | q | q : T j = 6 ∨ T j = 7 ∨ T j = 8 ∨ T j = 9 ∨ T j = 10 ∨ T j = 11 := by omega
  all_goals (simp only [q, Int.reduceEq, decide_true, decide_false, show k_n true = 1 from rfl, show k_n false = 0 from rfl] at g6 g7 g8 g9 g10 g11; rw [q])
  · simp (disch := omega) only [c157, s157_0, s157_1, s157_2, s157_3, s157_4, s157_5, s157_6, s157_7, s157_8, s157_9, s157_10, s157_11, s157_12, s157_13, s157_14, s157_15, s157_16, s157_17, s157_18, s157_19, s157_20, s157_21, s157_22, s157_23, s157_24, s157_25, s157_26, s157_27, s157_28, s157_29, s157_30, s157_31, s157_32, s157_33, s157_34, s157_35, s157_36, s157_37, s157_38, s157_39, s157_40, s157_41, s157_42, s157_43, s157_44, s157_45, s157_46, s157_47, s157_48, s157_49, s157_50, s157_51, s157_52, s157_53, s157_54, s157_55, s157_56, s157_57, s157_58, s157_59, s157_60, s157_61, s157_62, s157_63, s157_64, s157_65, s157_66, s157_67, s157_68, s157_69, s157_70, s157_71, s157_72, s157_73, s157_74, s157_75, s157_76, s157_77, s157_78, s157_79, s157_80, s157_81, s157_82, s157_83, s157_84, s157_85, s157_86, s157_87, ↓reduceIte, Bool.true_eq_false, Bool.false_eq_true, ip_rfS, true_or, or_true, true_and, and_true, Option.toList_some, Option.toList_none, List.cons_append, List.nil_append, ip_fxn, ip_fxi, ip_fxr, ip_fxl, ip_wid, ip_n998, ip_lt900, iO0, iO1, iA2, iA3, iA4, iA5, iA6, iA7, iA8, iO9, iA10, iA11, iA12, iA13, iA14, iA15, iA16, iO17, iA18, iO19, iA20, iA21, iA22, iA23, iO24, iA25, iO26, iA27, iA28, iO29, iA30, iA31, iO32, iA33, iA34, iO35, iA36, iA37, iO38, iA39, iA40, iO41, iA42, iA43, iO44, iA45, iA46, iA47, iA48, iA49, iA50, iA51, iA52, iA53, iO54, iA55, iO56, iA57, iO58, iA59, iO60, iA61, iO62, iA63, iA64, iA65, iA66, iA67, iA68, iA69, iA70, iA71, iA72, iA73, iA74, iA75, iA76, iA77, iA78, iOT, iAT1, iAT2, iOS, iAS, g6, Int.reduceEq, yp_13, Int.reduceSub, Int.reduceAdd, ip_viw]
  · simp (disch := omega) only [c157, s157_0, s157_1, s157_2, s157_3, s157_4, s157_5, s157_6, s157_7, s157_8, s157_9, s157_10, s157_11, s157_12, s157_13, s157_14, s157_15, s157_16, s157_17, s157_18, s157_19, s157_20, s157_21, s157_22, s157_23, s157_24, s157_25, s157_26, s157_27, s157_28, s157_29, s157_30, s157_31, s157_32, s157_33, s157_34, s157_35, s157_36, s157_37, s157_38, s157_39, s157_40, s157_41, s157_42, s157_43, s157_44, s157_45, s157_46, s157_47, s157_48, s157_49, s157_50, s157_51, s157_52, s157_53, s157_54, s157_55, s157_56, s157_57, s157_58, s157_59, s157_60, s157_61, s157_62, s157_63, s157_64, s157_65, s157_66, s157_67, s157_68, s157_69, s157_70, s157_71, s157_72, s157_73, s157_74, s157_75, s157_76, s157_77, s157_78, s157_79, s157_80, s157_81, s157_82, s157_83, s157_84, s157_85, s157_86, s157_87, ↓reduceIte, Bool.true_eq_false, Bool.false_eq_true, ip_rfS, true_or, or_true, true_and, and_true, Option.toList_some, Option.toList_none, List.cons_append, List.nil_append, ip_fxn, ip_fxi, ip_fxr, ip_fxl, ip_wid, ip_n998, ip_lt900, iO0, iO1, iA2, iA3, iA4, iA5, iA6, iA7, iA8, iO9, iA10, iA11, iA12, iA13, iA14, iA15, iA16, iO17, iA18, iO19, iA20, iA21, iA22, iA23, iO24, iA25, iO26, iA27, iA28, iO29, iA30, iA31, iO32, iA33, iA34, iO35, iA36, iA37, iO38, iA39, iA40, iO41, iA42, iA43, iO44, iA45, iA46, iA47, iA48, iA49, iA50, iA51, iA52, iA53, iO54, iA55, iO56, iA57, iO58, iA59, iO60, iA61, iO62, iA63, iA64, iA65, iA66, iA67, iA68, iA69, iA70, iA71, iA72, iA73, iA74, iA75, iA76, iA77, iA78, iOT, iAT1, iAT2, iOS, iAS, g6, g7, Int.reduceEq, yp_14, Int.reduceSub, Int.reduceAdd, ip_viw]
  · simp (disch := omega) only [c157, s157_0, s157_1, s157_2, s157_3, s157_4, s157_5, s157_6, s157_7, s157_8, s157_9, s157_10, s157_11, s157_12, s157_13, s157_14, s157_15, s157_16, s157_17, s157_18, s157_19, s157_20, s157_21, s157_22, s157_23, s157_24, s157_25, s157_26, s157_27, s157_28, s157_29, s157_30, s157_31, s157_32, s157_33, s157_34, s157_35, s157_36, s157_37, s157_38, s157_39, s157_40, s157_41, s157_42, s157_43, s157_44, s157_45, s157_46, s157_47, s157_48, s157_49, s157_50, s157_51, s157_52, s157_53, s157_54, s157_55, s157_56, s157_57, s157_58, s157_59, s157_60, s157_61, s157_62, s157_63, s157_64, s157_65, s157_66, s157_67, s157_68, s157_69, s157_70, s157_71, s157_72, s157_73, s157_74, s157_75, s157_76, s157_77, s157_78, s157_79, s157_80, s157_81, s157_82, s157_83, s157_84, s157_85, s157_86, s157_87, ↓reduceIte, Bool.true_eq_false, Bool.false_eq_true, ip_rfS, true_or, or_true, true_and, and_true, Option.toList_some, Option.toList_none, List.cons_append, List.nil_append, ip_fxn, ip_fxi, ip_fxr, ip_fxl, ip_wid, ip_n998, ip_lt900, iO0, iO1, iA2, iA3, iA4, iA5, iA6, iA7, iA8, iO9, iA10, iA11, iA12, iA13, iA14, iA15, iA16, iO17, iA18, iO19, iA20, iA21, iA22, iA23, iO24, iA25, iO26, iA27, iA28, iO29, iA30, iA31, iO32, iA33, iA34, iO35, iA36, iA37, iO38, iA39, iA40, iO41, iA42, iA43, iO44, iA45, iA46, iA47, iA48, iA49, iA50, iA51, iA52, iA53, iO54, iA55, iO56, iA57, iO58, iA59, iO60, iA61, iO62, iA63, iA64, iA65, iA66, iA67, iA68, iA69, iA70, iA71, iA72, iA73, iA74, iA75, iA76, iA77, iA78, iOT, iAT1, iAT2, iOS, iAS, g6, g7, g8, Int.reduceEq, yp_15, Int.reduceSub, Int.reduceAdd, ip_viw]
  · simp (disch := omega) only [c157, s157_0, s157_1, s157_2, s157_3, s157_4, s157_5, s157_6, s157_7, s157_8, s157_9, s157_10, s157_11, s157_12, s157_13, s157_14, s157_15, s157_16, s157_17, s157_18, s157_19, s157_20, s157_21, s157_22, s157_23, s157_24, s157_25, s157_26, s157_27, s157_28, s157_29, s157_30, s157_31, s157_32, s157_33, s157_34, s157_35, s157_36, s157_37, s157_38, s157_39, s157_40, s157_41, s157_42, s157_43, s157_44, s157_45, s157_46, s157_47, s157_48, s157_49, s157_50, s157_51, s157_52, s157_53, s157_54, s157_55, s157_56, s157_57, s157_58, s157_59, s157_60, s157_61, s157_62, s157_63, s157_64, s157_65, s157_66, s157_67, s157_68, s157_69, s157_70, s157_71, s157_72, s157_73, s157_74, s157_75, s157_76, s157_77, s157_78, s157_79, s157_80, s157_81, s157_82, s157_83, s157_84, s157_85, s157_86, s157_87, ↓reduceIte, Bool.true_eq_false, Bool.false_eq_true, ip_rfS, true_or, or_true, true_and, and_true, Option.toList_some, Option.toList_none, List.cons_append, List.nil_append, ip_fxn, ip_fxi, ip_fxr, ip_fxl, ip_wid, ip_n998, ip_lt900, iO0, iO1, iA2, iA3, iA4, iA5, iA6, iA7, iA8, iO9, iA10, iA11, iA12, iA13, iA14, iA15, iA16, iO17, iA18, iO19, iA20, iA21, iA22, iA23, iO24, iA25, iO26, iA27, iA28, iO29, iA30, iA31, iO32, iA33, iA34, iO35, iA36, iA37, iO38, iA39, iA40, iO41, iA42, iA43, iO44, iA45, iA46, iA47, iA48, iA49, iA50, iA51, iA52, iA53, iO54, iA55, iO56, iA57, iO58, iA59, iO60, iA61, iO62, iA63, iA64, iA65, iA66, iA67, iA68, iA69, iA70, iA71, iA72, iA73, iA74, iA75, iA76, iA77, iA78, iOT, iAT1, iAT2, iOS, iAS, g6, g7, g8, g9, Int.reduceEq, yp_16, Int.reduceSub, Int.reduceAdd, ip_viw]
  · simp (disch := omega) only [c157, s157_0, s157_1, s157_2, s157_3, s157_4, s157_5, s157_6, s157_7, s157_8, s157_9, s157_10, s157_11, s157_12, s157_13, s157_14, s157_15, s157_16, s157_17, s157_18, s157_19, s157_20, s157_21, s157_22, s157_23, s157_24, s157_25, s157_26, s157_27, s157_28, s157_29, s157_30, s157_31, s157_32, s157_33, s157_34, s157_35, s157_36, s157_37, s157_38, s157_39, s157_40, s157_41, s157_42, s157_43, s157_44, s157_45, s157_46, s157_47, s157_48, s157_49, s157_50, s157_51, s157_52, s157_53, s157_54, s157_55, s157_56, s157_57, s157_58, s157_59, s157_60, s157_61, s157_62, s157_63, s157_64, s157_65, s157_66, s157_67, s157_68, s157_69, s157_70, s157_71, s157_72, s157_73, s157_74, s157_75, s157_76, s157_77, s157_78, s157_79, s157_80, s157_81, s157_82, s157_83, s157_84, s157_85, s157_86, s157_87, ↓reduceIte, Bool.true_eq_false, Bool.false_eq_true, ip_rfS, true_or, or_true, true_and, and_true, Option.toList_some, Option.toList_none, List.cons_append, List.nil_append, ip_fxn, ip_fxi, ip_fxr, ip_fxl, ip_wid, ip_n998, ip_lt900, iO0, iO1, iA2, iA3, iA4, iA5, iA6, iA7, iA8, iO9, iA10, iA11, iA12, iA13, iA14, iA15, iA16, iO17, iA18, iO19, iA20, iA21, iA22, iA23, iO24, iA25, iO26, iA27, iA28, iO29, iA30, iA31, iO32, iA33, iA34, iO35, iA36, iA37, iO38, iA39, iA40, iO41, iA42, iA43, iO44, iA45, iA46, iA47, iA48, iA49, iA50, iA51, iA52, iA53, iO54, iA55, iO56, iA57, iO58, iA59, iO60, iA61, iO62, iA63, iA64, iA65, iA66, iA67, iA68, iA69, iA70, iA71, iA72, iA73, iA74, iA75, iA76, iA77, iA78, iOT, iAT1, iAT2, iOS, iAS, g6, g7, g8, g9, g10, Int.reduceEq, yp_17, Int.reduceSub, Int.reduceAdd, ip_viw]
  · simp (disch := omega) only [c157, s157_0, s157_1, s157_2, s157_3, s157_4, s157_5, s157_6, s157_7, s157_8, s157_9, s157_10, s157_11, s157_12, s157_13, s157_14, s157_15, s157_16, s157_17, s157_18, s157_19, s157_20, s157_21, s157_22, s157_23, s157_24, s157_25, s157_26, s157_27, s157_28, s157_29, s157_30, s157_31, s157_32, s157_33, s157_34, s157_35, s157_36, s157_37, s157_38, s157_39, s157_40, s157_41, s157_42, s157_43, s157_44, s157_45, s157_46, s157_47, s157_48, s157_49, s157_50, s157_51, s157_52, s157_53, s157_54, s157_55, s157_56, s157_57, s157_58, s157_59, s157_60, s157_61, s157_62, s157_63, s157_64, s157_65, s157_66, s157_67, s157_68, s157_69, s157_70, s157_71, s157_72, s157_73, s157_74, s157_75, s157_76, s157_77, s157_78, s157_79, s157_80, s157_81, s157_82, s157_83, s157_84, s157_85, s157_86, s157_87, ↓reduceIte, Bool.true_eq_false, Bool.false_eq_true, ip_rfS, true_or, or_true, true_and, and_true, Option.toList_some, Option.toList_none, List.cons_append, List.nil_append, ip_fxn, ip_fxi, ip_fxr, ip_fxl, ip_wid, ip_n998, ip_lt900, iO0, iO1, iA2, iA3, iA4, iA5, iA6, iA7, iA8, iO9, iA10, iA11, iA12, iA13, iA14, iA15, iA16, iO17, iA18, iO19, iA20, iA21, iA22, iA23, iO24, iA25, iO26, iA27, iA28, iO29, iA30, iA31, iO32, iA33, iA34, iO35, iA36, iA37, iO38, iA39, iA40, iO41, iA42, iA43, iO44, iA45, iA46, iA47, iA48, iA49, iA50, iA51, iA52, iA53, iO54, iA55, iO56, iA57, iO58, iA59, iO60, iA61, iO62, iA63, iA64, iA65, iA66, iA67, iA68, iA69, iA70, iA71, iA72, iA73, iA74, iA75, iA76, iA77, iA78, iOT, iAT1, iAT2, iOS, iAS, g6, g7, g8, g9, g10, g11, Int.reduceEq, yp_18, Int.reduceSub, Int.reduceAdd, ip_viw]
theorem q157f (hM : x_RM R) (hC : y_C S b sz T P N la) (hj : 0 ≤ j) (J : y_J b sz T P N la j h t a w) (hT : ¬ (6 ≤ T j ∧ T j < 12)) {L' Q} : ip_wc (d + 4) 157 [.ref 62] 79 (y_P S h t a op 0 fl) R L' Q = Q (some (vi 0)) 79 (y_P S h t a op 1 a) R L' := by
  have ha := J.2.1
  have hs := hC.1.2.2.1
  have g6 := fun Q' => q140 (d := d) (op := op) (fl := fl) (L' := L') (Q := Q') 6 (by omega) (ki := 6) rfl yW6 hM hC hj J (by omega) (by omega) (by omega) (by omega) (by omega) (by omega) (by omega) (by omega)
  have g7 := fun Q' => q140 (d := d) (op := op) (fl := fl) (L' := L') (Q := Q') 7 (by omega) (ki := 7) rfl yW7 hM hC hj J (by omega) (by omega) (by omega) (by omega) (by omega) (by omega) (by omega) (by omega)
  have g8 := fun Q' => q140 (d := d) (op := op) (fl := fl) (L' := L') (Q := Q') 8 (by omega) (ki := 8) rfl yW8 hM hC hj J (by omega) (by omega) (by omega) (by omega) (by omega) (by omega) (by omega) (by omega)
  have g9 := fun Q' => q140 (d := d) (op := op) (fl := fl) (L' := L') (Q := Q') 9 (by omega) (ki := 9) rfl yW9 hM hC hj J (by omega) (by omega) (by omega) (by omega) (by omega) (by omega) (by omega) (by omega)
  have g10 := fun Q' => q140 (d := d) (op := op) (fl := fl) (L' := L') (Q := Q') 10 (by omega) (ki := 10) rfl yW10 hM hC hj J (by omega) (by omega) (by omega) (by omega) (by omega) (by omega) (by omega) (by omega)
  have g11 := fun Q' => q140 (d := d) (op := op) (fl := fl) (L' := L') (Q := Q') 11 (by omega) (ki := 11) rfl yW11 hM hC hj J (by omega) (by omega) (by omega) (by omega) (by omega) (by omega) (by omega) (by omega)
  have gf := fun Q' => q143 (d := d + 2) (S := S) (R := R) (h := h) (t := t) (a := a) (op := op) (fl := fl) (L' := L') (Q := Q') (by omega)
  rw [decide_eq_false (by omega)] at g6 g7 g8 g9 g10 g11
  simp only [show k_n false = 0 from rfl] at g6 g7 g8 g9 g10 g11
  simp (disch := omega) only [c157, s157_0, s157_1, s157_2, s157_3, s157_4, s157_5, s157_6, s157_7, s157_8, s157_9, s157_10, s157_11, s157_12, s157_13, s157_14, s157_15, s157_16, s157_17, s157_18, s157_19, s157_20, s157_21, s157_22, s157_23, s157_24, s157_25, s157_26, s157_27, s157_28, s157_29, s157_30, s157_31, s157_32, s157_33, s157_34, s157_35, s157_36, s157_37, s157_38, s157_39, s157_40, s157_41, s157_42, s157_43, s157_44, s157_45, s157_46, s157_47, s157_48, s157_49, s157_50, s157_51, s157_52, s157_53, s157_54, s157_55, s157_56, s157_57, s157_58, s157_59, s157_60, s157_61, s157_62, s157_63, s157_64, s157_65, s157_66, s157_67, s157_68, s157_69, s157_70, s157_71, s157_72, s157_73, s157_74, s157_75, s157_76, s157_77, s157_78, s157_79, s157_80, s157_81, s157_82, s157_83, s157_84, s157_85, s157_86, s157_87, ↓reduceIte, Bool.true_eq_false, Bool.false_eq_true, ip_rfS, true_or, or_true, true_and, and_true, Option.toList_some, Option.toList_none, List.cons_append, List.nil_append, ip_fxn, ip_fxi, ip_fxr, ip_fxl, ip_wid, ip_n998, ip_lt900, iO0, iO1, iA2, iA3, iA4, iA5, iA6, iA7, iA8, iO9, iA10, iA11, iA12, iA13, iA14, iA15, iA16, iO17, iA18, iO19, iA20, iA21, iA22, iA23, iO24, iA25, iO26, iA27, iA28, iO29, iA30, iA31, iO32, iA33, iA34, iO35, iA36, iA37, iO38, iA39, iA40, iO41, iA42, iA43, iO44, iA45, iA46, iA47, iA48, iA49, iA50, iA51, iA52, iA53, iO54, iA55, iO56, iA57, iO58, iA59, iO60, iA61, iO62, iA63, iA64, iA65, iA66, iA67, iA68, iA69, iA70, iA71, iA72, iA73, iA74, iA75, iA76, iA77, iA78, iOT, iAT1, iAT2, iOS, iAS, g6, g7, g8, g9, g10, g11, gf]
theorem y155 (ho : op = 5) (hM : x_RM R) (hC : y_C S b sz T P N la) : y_ok S R L b sz T P N la (d + 6) 155 op (x_one T N la x_no) := by
  intro j h t a w fl hj hj2 J
  have hla := hC.2.1.2.1
  have hsz := hC.1.2.2.1
  have hjr := J.2.1
  have htr := y_Jt J
  have g1 := fun Q' => q156 (d := d + 4) (S := S) (R := R) (L := L) (op := op) (fl := fl) (Q := Q') J (s := 45) (by omega)
  have g2 := fun Q' => q156 (d := d + 4) (S := S) (R := R) (L := L) (op := op) (fl := fl) (Q := Q') J (s := 40) (by omega)
  have kt : k_n true = 1 := rfl
  have kf : k_n false = 0 := rfl
  by_cases q1 : T j = 20
  · have hL : x_one T N la x_no j = (true, j + 1, [N j]) := by
      obtain ⟨n1, n2, -⟩ := q138 (d := d) (L := L) hM hC hj J (by omega) (by omega)
      rw [x_one, if_pos q1, n2]
    obtain ⟨n1, n2, h2, t2, a2, w2, J2, k2⟩ := q138 (d := d + 2) (L := L) hM hC hj J (by omega) (by omega)
    rw [hL]
    have e : t = 2 ∧ w = N j ∧ ip_w w = w ∧ 0 ≤ w := by
      obtain ⟨-, -, J⟩ := J
      rcases J with J | J | J | J | J
      all_goals first | omega | exact ⟨J.2.2.1, J.2.2.2.1, J.2.2.2.2.1, J.2.2.2.2.2.1⟩
    obtain ⟨et, e⟩ := e
    subst et
    have e64 : ip_w64 w = w := by
      have hz := ip_wrange w
      rw [e.2.1] at hz
      exact ip_w64id (by omega) (by omega)
    refine ⟨⟨by dsimp only; omega, by dsimp only; omega, fun _ => by dsimp only; omega⟩, w, h2, t2, a2, w2, 0, fl, ⟨fun _ => ⟨rfl, J2, e.2.1, ?_⟩, fun z => (by cases z)⟩, fun Q => ?_⟩
    · have := y_val0 (F := y_nam S) (c := w) (by omega)
      rw [if_pos e.2.2] at this
      rw [← e.1]
      exact this
    · simp (disch := omega) only [c155, s155_0, s155_1, s155_2, s155_3, s155_4, s155_5, s155_6, s155_7, s155_8, s155_9, s155_10, s155_11, s155_12, s155_13, s155_14, s155_15, s155_16, s155_17, s155_18, s155_19, s155_20, s155_21, s155_22, s155_23, s155_24, s155_25, s155_26, s155_27, s155_28, s155_29, s155_30, s155_31, s155_32, s155_33, s155_34, s155_35, s155_36, s155_37, s155_38, s155_39, s155_40, s155_41, s155_42, s155_43, s155_44, s155_45, s155_46, s155_47, s155_48, s155_49, s155_50, s155_51, ↓reduceIte, Bool.true_eq_false, Bool.false_eq_true, ip_rfS, true_or, or_true, true_and, and_true, Option.toList_some, Option.toList_none, List.cons_append, List.nil_append, ip_fxn, ip_fxi, ip_fxr, ip_fxl, ip_wid, ip_n998, ip_lt900, iO0, iO1, iA2, iA3, iA4, iA5, iA6, iA7, iA8, iO9, iA10, iA11, iA12, iA13, iA14, iA15, iA16, iO17, iA18, iO19, iA20, iA21, iA22, iA23, iO24, iA25, iO26, iA27, iA28, iO29, iA30, iA31, iO32, iA33, iA34, iO35, iA36, iA37, iO38, iA39, iA40, iO41, iA42, iA43, iO44, iA45, iA46, iA47, iA48, iA49, iA50, iA51, iA52, iA53, iO54, iA55, iO56, iA57, iO58, iA59, iO60, iA61, iO62, iA63, iA64, iA65, iA66, iA67, iA68, iA69, iA70, iA71, iA72, iA73, iA74, iA75, iA76, iA77, iA78, iOT, iAT1, iAT2, iOS, iAS, g1, g2, show ¬ T j = 45 by omega, show ¬ T j = 40 by omega, yp_d, yp_t, ip_up_at, e64, k2, Int.reduceEq, decide_true, decide_false, kt, kf]
  · by_cases q2 : 6 ≤ T j ∧ T j < 12
    · obtain ⟨n1, n2, h2, t2, a2, w2, J2, k2⟩ := q138 (d := d + 2) (L := L) hM hC hj J (by omega) (by omega)
      have hL : x_one T N la x_no j = (true, j + 1, [-1 - (T j - 6)]) := by rw [x_one, if_neg q1, if_pos q2, n2]
      rw [hL]
      have gn := fun Q' => q157 (d := d + 1) (op := op) (fl := fl) (L' := ip_up L 62 24 w) (Q := Q') hM hC hj J q2
      have e : t = 1 := by
        obtain ⟨-, -, J⟩ := J
        rcases J with J | J | J | J | J
        all_goals first | omega | exact J.2.2.1
      subst e
      refine ⟨⟨by dsimp only; omega, by dsimp only; omega, fun _ => by dsimp only; omega⟩, y_nam S (T j - 6), h2, t2, a2, w2, 0, fl, ⟨fun _ => ⟨rfl, J2, ip_ww _, ?_⟩, fun z => (by cases z)⟩, fun Q => ?_⟩
      · have := y_val0 (F := y_nam S) (c := -1 - (T j - 6)) (by omega)
        rw [if_neg (by omega), show -1 - (-1 - (T j - 6)) = T j - 6 by omega] at this
        exact this
      · simp (disch := omega) only [c155, s155_0, s155_1, s155_2, s155_3, s155_4, s155_5, s155_6, s155_7, s155_8, s155_9, s155_10, s155_11, s155_12, s155_13, s155_14, s155_15, s155_16, s155_17, s155_18, s155_19, s155_20, s155_21, s155_22, s155_23, s155_24, s155_25, s155_26, s155_27, s155_28, s155_29, s155_30, s155_31, s155_32, s155_33, s155_34, s155_35, s155_36, s155_37, s155_38, s155_39, s155_40, s155_41, s155_42, s155_43, s155_44, s155_45, s155_46, s155_47, s155_48, s155_49, s155_50, s155_51, ↓reduceIte, Bool.true_eq_false, Bool.false_eq_true, ip_rfS, true_or, or_true, true_and, and_true, Option.toList_some, Option.toList_none, List.cons_append, List.nil_append, ip_fxn, ip_fxi, ip_fxr, ip_fxl, ip_wid, ip_n998, ip_lt900, iO0, iO1, iA2, iA3, iA4, iA5, iA6, iA7, iA8, iO9, iA10, iA11, iA12, iA13, iA14, iA15, iA16, iO17, iA18, iO19, iA20, iA21, iA22, iA23, iO24, iA25, iO26, iA27, iA28, iO29, iA30, iA31, iO32, iA33, iA34, iO35, iA36, iA37, iO38, iA39, iA40, iO41, iA42, iA43, iO44, iA45, iA46, iA47, iA48, iA49, iA50, iA51, iA52, iA53, iO54, iA55, iO56, iA57, iO58, iA59, iO60, iA61, iO62, iA63, iA64, iA65, iA66, iA67, iA68, iA69, iA70, iA71, iA72, iA73, iA74, iA75, iA76, iA77, iA78, iOT, iAT1, iAT2, iOS, iAS, g1, g2, show ¬ T j = 45 by omega, show ¬ T j = 40 by omega, yp_d, yp_t, gn, k2, Int.reduceEq, decide_true, decide_false, kt, kf]
    · have hL : x_one T N la x_no j = (false, j, []) := by rw [x_one, if_neg q1, if_neg q2]; rfl
      rw [hL]
      subst ho
      have gf := fun Q' => q147f (d := d + 3) (S := S) (R := R) (h := h) (t := t) (a := a) (fl := fl) (L' := ip_up L 62 24 w) (Q := Q') (by omega)
      have gn := fun Q' => q157f (d := d + 1) (op := 5) (fl := fl) (L' := ip_up L 62 24 w) (Q := Q') hM hC hj J q2
      have gb := fun Q' => q143 (d := d + 4) (S := S) (R := R) (h := h) (t := t) (a := a) (op := 5) (fl := fl) (L' := ip_up L 62 24 w) (Q := Q') (by omega)
      refine ⟨⟨Int.le_refl _, hj2, fun z => (by cases z)⟩, 0, h, t, a, w, 1, a, ⟨fun z => (by cases z), fun _ => ⟨rfl, y_Ja J⟩⟩, fun Q => ?_⟩
      by_cases q3 : T j = 45
      · simp (disch := omega) only [c155, s155_0, s155_1, s155_2, s155_3, s155_4, s155_5, s155_6, s155_7, s155_8, s155_9, s155_10, s155_11, s155_12, s155_13, s155_14, s155_15, s155_16, s155_17, s155_18, s155_19, s155_20, s155_21, s155_22, s155_23, s155_24, s155_25, s155_26, s155_27, s155_28, s155_29, s155_30, s155_31, s155_32, s155_33, s155_34, s155_35, s155_36, s155_37, s155_38, s155_39, s155_40, s155_41, s155_42, s155_43, s155_44, s155_45, s155_46, s155_47, s155_48, s155_49, s155_50, s155_51, ↓reduceIte, Bool.true_eq_false, Bool.false_eq_true, ip_rfS, true_or, or_true, true_and, and_true, Option.toList_some, Option.toList_none, List.cons_append, List.nil_append, ip_fxn, ip_fxi, ip_fxr, ip_fxl, ip_wid, ip_n998, ip_lt900, iO0, iO1, iA2, iA3, iA4, iA5, iA6, iA7, iA8, iO9, iA10, iA11, iA12, iA13, iA14, iA15, iA16, iO17, iA18, iO19, iA20, iA21, iA22, iA23, iO24, iA25, iO26, iA27, iA28, iO29, iA30, iA31, iO32, iA33, iA34, iO35, iA36, iA37, iO38, iA39, iA40, iO41, iA42, iA43, iO44, iA45, iA46, iA47, iA48, iA49, iA50, iA51, iA52, iA53, iO54, iA55, iO56, iA57, iO58, iA59, iO60, iA61, iO62, iA63, iA64, iA65, iA66, iA67, iA68, iA69, iA70, iA71, iA72, iA73, iA74, iA75, iA76, iA77, iA78, iOT, iAT1, iAT2, iOS, iAS, g1, q3, gf, Int.reduceEq, decide_true, decide_false, kt, kf]
      · by_cases q4 : T j = 40
        · simp (disch := omega) only [c155, s155_0, s155_1, s155_2, s155_3, s155_4, s155_5, s155_6, s155_7, s155_8, s155_9, s155_10, s155_11, s155_12, s155_13, s155_14, s155_15, s155_16, s155_17, s155_18, s155_19, s155_20, s155_21, s155_22, s155_23, s155_24, s155_25, s155_26, s155_27, s155_28, s155_29, s155_30, s155_31, s155_32, s155_33, s155_34, s155_35, s155_36, s155_37, s155_38, s155_39, s155_40, s155_41, s155_42, s155_43, s155_44, s155_45, s155_46, s155_47, s155_48, s155_49, s155_50, s155_51, ↓reduceIte, Bool.true_eq_false, Bool.false_eq_true, ip_rfS, true_or, or_true, true_and, and_true, Option.toList_some, Option.toList_none, List.cons_append, List.nil_append, ip_fxn, ip_fxi, ip_fxr, ip_fxl, ip_wid, ip_n998, ip_lt900, iO0, iO1, iA2, iA3, iA4, iA5, iA6, iA7, iA8, iO9, iA10, iA11, iA12, iA13, iA14, iA15, iA16, iO17, iA18, iO19, iA20, iA21, iA22, iA23, iO24, iA25, iO26, iA27, iA28, iO29, iA30, iA31, iO32, iA33, iA34, iO35, iA36, iA37, iO38, iA39, iA40, iO41, iA42, iA43, iO44, iA45, iA46, iA47, iA48, iA49, iA50, iA51, iA52, iA53, iO54, iA55, iO56, iA57, iO58, iA59, iO60, iA61, iO62, iA63, iA64, iA65, iA66, iA67, iA68, iA69, iA70, iA71, iA72, iA73, iA74, iA75, iA76, iA77, iA78, iOT, iAT1, iAT2, iOS, iAS, g1, g2, q3, q4, gf, Int.reduceEq, decide_true, decide_false, kt, kf]
        · have e2 : ¬ t = 2 := by
            obtain ⟨-, -, J⟩ := J
            rcases J with J | J | J | J | J <;> omega
          by_cases e1 : t = 1
          · subst e1
            simp (disch := omega) only [c155, s155_0, s155_1, s155_2, s155_3, s155_4, s155_5, s155_6, s155_7, s155_8, s155_9, s155_10, s155_11, s155_12, s155_13, s155_14, s155_15, s155_16, s155_17, s155_18, s155_19, s155_20, s155_21, s155_22, s155_23, s155_24, s155_25, s155_26, s155_27, s155_28, s155_29, s155_30, s155_31, s155_32, s155_33, s155_34, s155_35, s155_36, s155_37, s155_38, s155_39, s155_40, s155_41, s155_42, s155_43, s155_44, s155_45, s155_46, s155_47, s155_48, s155_49, s155_50, s155_51, ↓reduceIte, Bool.true_eq_false, Bool.false_eq_true, ip_rfS, true_or, or_true, true_and, and_true, Option.toList_some, Option.toList_none, List.cons_append, List.nil_append, ip_fxn, ip_fxi, ip_fxr, ip_fxl, ip_wid, ip_n998, ip_lt900, iO0, iO1, iA2, iA3, iA4, iA5, iA6, iA7, iA8, iO9, iA10, iA11, iA12, iA13, iA14, iA15, iA16, iO17, iA18, iO19, iA20, iA21, iA22, iA23, iO24, iA25, iO26, iA27, iA28, iO29, iA30, iA31, iO32, iA33, iA34, iO35, iA36, iA37, iO38, iA39, iA40, iO41, iA42, iA43, iO44, iA45, iA46, iA47, iA48, iA49, iA50, iA51, iA52, iA53, iO54, iA55, iO56, iA57, iO58, iA59, iO60, iA61, iO62, iA63, iA64, iA65, iA66, iA67, iA68, iA69, iA70, iA71, iA72, iA73, iA74, iA75, iA76, iA77, iA78, iOT, iAT1, iAT2, iOS, iAS, g1, g2, q3, q4, yp_d, yp_t, gn, Int.reduceEq, decide_true, decide_false, kt, kf]
          · simp (disch := omega) only [c155, s155_0, s155_1, s155_2, s155_3, s155_4, s155_5, s155_6, s155_7, s155_8, s155_9, s155_10, s155_11, s155_12, s155_13, s155_14, s155_15, s155_16, s155_17, s155_18, s155_19, s155_20, s155_21, s155_22, s155_23, s155_24, s155_25, s155_26, s155_27, s155_28, s155_29, s155_30, s155_31, s155_32, s155_33, s155_34, s155_35, s155_36, s155_37, s155_38, s155_39, s155_40, s155_41, s155_42, s155_43, s155_44, s155_45, s155_46, s155_47, s155_48, s155_49, s155_50, s155_51, ↓reduceIte, Bool.true_eq_false, Bool.false_eq_true, ip_rfS, true_or, or_true, true_and, and_true, Option.toList_some, Option.toList_none, List.cons_append, List.nil_append, ip_fxn, ip_fxi, ip_fxr, ip_fxl, ip_wid, ip_n998, ip_lt900, iO0, iO1, iA2, iA3, iA4, iA5, iA6, iA7, iA8, iO9, iA10, iA11, iA12, iA13, iA14, iA15, iA16, iO17, iA18, iO19, iA20, iA21, iA22, iA23, iO24, iA25, iO26, iA27, iA28, iO29, iA30, iA31, iO32, iA33, iA34, iO35, iA36, iA37, iO38, iA39, iA40, iO41, iA42, iA43, iO44, iA45, iA46, iA47, iA48, iA49, iA50, iA51, iA52, iA53, iO54, iA55, iO56, iA57, iO58, iA59, iO60, iA61, iO62, iA63, iA64, iA65, iA66, iA67, iA68, iA69, iA70, iA71, iA72, iA73, iA74, iA75, iA76, iA77, iA78, iOT, iAT1, iAT2, iOS, iAS, g1, g2, q3, q4, yp_d, yp_t, e1, e2, gb, Int.reduceEq, decide_true, decide_false, kt, kf]

theorem y154l {f0 : Int → x_PR} (hM : x_RM R) (hC : y_C S b sz T P N la) (hs : y_ok S R L b sz T P N la (d + 3) 155 op f0) : ∀ (f : Nat) (j h t a w fl v : Int) (O : List Int), 0 ≤ j → j ≤ la → la + 1 ≤ j + f → y_J b sz T P N la j h t a w → ip_w v = v → y_val (y_nam S) O v →
    (j ≤ (x_loop T la (x_is 42) (fun _ => -23) f0 f true j).2.1 ∧ (x_loop T la (x_is 42) (fun _ => -23) f0 f true j).2.1 ≤ la) ∧ ∃ v' h' t' a' w' bd' fl', y_res S b sz T P N la ((x_loop T la (x_is 42) (fun _ => -23) f0 f true j).1, (x_loop T la (x_is 42) (fun _ => -23) f0 f true j).2.1, O ++ (x_loop T la (x_is 42) (fun _ => -23) f0 f true j).2.2) v' h' t' a' w' bd' fl' ∧
      ∀ Q, ip_wp (d + 3) 154 3 [some (.ref 62), some (vi v)] [] 79 (y_P S h t a op 0 fl) R (ip_up L 62 24 w) Q = Q (some (vi v')) 79 (y_P S h' t' a' op bd' fl') R (ip_up L 62 24 w')
  | 0, j, h, t, a, w, fl, v, O, hj, hj2, hf, J, hv, hO => by omega
  | f + 1, j, h, t, a, w, fl, v, O, hj, hj2, hf, J, hv, hO => by
    have g := fun Q' => q156 (d := d + 2) (S := S) (R := R) (L := L) (op := op) (fl := fl) (Q := Q') J (s := 42) (by omega)
    by_cases q0 : T j = 42
    · obtain ⟨n1, n2, h2, t2, a2, w2, J2, k2⟩ := q138 (d := d) (L := L) hM hC hj J (by omega) (by omega)
      obtain ⟨⟨i1, i2, i3⟩, v3, h3, t3, a3, w3, bd3, fl3, ⟨r1, r2⟩, k3⟩ := hs (j + 1) h2 t2 a2 w2 fl (by omega) (by omega) J2
      have hL : x_loop T la (x_is 42) (fun _ => -23) f0 (f + 1) true j = ((x_loop T la (x_is 42) (fun _ => -23) f0 f (f0 (j + 1)).1 (f0 (j + 1)).2.1).1, (x_loop T la (x_is 42) (fun _ => -23) f0 f (f0 (j + 1)).1 (f0 (j + 1)).2.1).2.1, (f0 (j + 1)).2.2 ++ -23 :: (x_loop T la (x_is 42) (fun _ => -23) f0 f (f0 (j + 1)).1 (f0 (j + 1)).2.1).2.2) := by
        rw [x_loop, if_pos (by simp [x_is, x_pm, q0]), n2]
        try simp only [x_pmc, q0, Int.reduceEq, if_true, if_false]
      rw [hL]
      generalize f0 (j + 1) = r at *
      obtain ⟨ft, jn, on⟩ := r
      dsimp only at *
      have step : ∀ Q, ip_wp (d + 3) 154 3 [some (.ref 62), some (vi v)] [] 79 (y_P S h t a op 0 fl) R (ip_up L 62 24 w) Q = ip_wp (d + 3) 154 3 [some (.ref 62), some (vi (v * v3))] [] 79 (y_P S h3 t3 a3 op bd3 fl3) R (ip_up L 62 24 w3) Q := fun Q => by
        rw [s154_3]
        simp (disch := omega) only [s154_0, s154_1, s154_2, s154_4, s154_5, s154_6, s154_7, s154_8, s154_9, s154_10, s154_11, s154_12, s154_13, s154_14, s154_15, s154_16, ↓reduceIte, Bool.true_eq_false, Bool.false_eq_true, ip_rfS, true_or, or_true, true_and, and_true, Option.toList_some, Option.toList_none, List.cons_append, List.nil_append, ip_fxn, ip_fxi, ip_fxr, ip_fxl, ip_wid, ip_n998, ip_lt900, iO0, iO1, iA2, iA3, iA4, iA5, iA6, iA7, iA8, iO9, iA10, iA11, iA12, iA13, iA14, iA15, iA16, iO17, iA18, iO19, iA20, iA21, iA22, iA23, iO24, iA25, iO26, iA27, iA28, iO29, iA30, iA31, iO32, iA33, iA34, iO35, iA36, iA37, iO38, iA39, iA40, iO41, iA42, iA43, iO44, iA45, iA46, iA47, iA48, iA49, iA50, iA51, iA52, iA53, iO54, iA55, iO56, iA57, iO58, iA59, iO60, iA61, iO62, iA63, iA64, iA65, iA66, iA67, iA68, iA69, iA70, iA71, iA72, iA73, iA74, iA75, iA76, iA77, iA78, iOT, iAT1, iAT2, iOS, iAS, g, q0, Int.reduceEq, decide_true, decide_false, show k_n true = 1 from rfl, show k_n false = 0 from rfl, k2, k3]
      cases ft
      · obtain ⟨b1, b2⟩ := r2 rfl
        have hL0 : x_loop T la (x_is 42) (fun _ => -23) f0 f false jn = (false, jn, []) := by cases f <;> simp [x_loop]
        rw [hL0]
        refine ⟨⟨by dsimp only; omega, i2⟩, v * v3, h3, t3, a3, w3, bd3, fl3, ⟨fun z => (by cases z), fun _ => ⟨b1, b2⟩⟩, fun Q => ?_⟩
        subst b1
        rw [step Q, s154_3]
        simp (disch := omega) only [s154_0, s154_1, s154_2, s154_4, s154_5, s154_6, s154_7, s154_8, s154_9, s154_10, s154_11, s154_12, s154_13, s154_14, s154_15, s154_16, ↓reduceIte, Bool.true_eq_false, Bool.false_eq_true, ip_rfS, true_or, or_true, true_and, and_true, Option.toList_some, Option.toList_none, List.cons_append, List.nil_append, ip_fxn, ip_fxi, ip_fxr, ip_fxl, ip_wid, ip_n998, ip_lt900, iO0, iO1, iA2, iA3, iA4, iA5, iA6, iA7, iA8, iO9, iA10, iA11, iA12, iA13, iA14, iA15, iA16, iO17, iA18, iO19, iA20, iA21, iA22, iA23, iO24, iA25, iO26, iA27, iA28, iO29, iA30, iA31, iO32, iA33, iA34, iO35, iA36, iA37, iO38, iA39, iA40, iO41, iA42, iA43, iO44, iA45, iA46, iA47, iA48, iA49, iA50, iA51, iA52, iA53, iO54, iA55, iO56, iA57, iO58, iA59, iO60, iA61, iO62, iA63, iA64, iA65, iA66, iA67, iA68, iA69, iA70, iA71, iA72, iA73, iA74, iA75, iA76, iA77, iA78, iOT, iAT1, iAT2, iOS, iAS, q156b]
      · obtain ⟨b1, J3, vw, vv⟩ := r1 rfl
        subst b1
        have hev : vi (v_jn (-23) v v3) = vi (v * v3) := by
          rw [show v_jn (-23) v v3 = ip_w (v * v3) by simp only [v_jn, Int.reduceEq, Int.reduceNeg, if_true, if_false], ip_viw]
        obtain ⟨⟨e1, e2⟩, v4, h4, t4, a4, w4, bd4, fl4, res, k4⟩ := y154l hM hC hs f jn h3 t3 a3 w3 fl3 (v_jn (-23) v v3) (O ++ (on ++ [-23])) (by omega) i2 (by have := i3 rfl; omega) J3 v_jnw (y_val2 hO vv (by omega))
        rw [hev] at k4
        rw [List.append_assoc, List.append_assoc, List.singleton_append] at res
        exact ⟨⟨by omega, e2⟩, v4, h4, t4, a4, w4, bd4, fl4, res, fun Q => by rw [step Q, k4 Q]⟩
    · have hL : x_loop T la (x_is 42) (fun _ => -23) f0 (f + 1) true j = (true, j, []) := by
        rw [x_loop, if_neg (by simp [x_is, x_pm, q0])]
      rw [hL]
      refine ⟨⟨Int.le_refl _, hj2⟩, v, h, t, a, w, 0, fl, ⟨fun _ => ⟨rfl, J, hv, by rw [List.append_nil]; exact hO⟩, fun z => (by cases z)⟩, fun Q => ?_⟩
      rw [s154_3]
      simp (disch := omega) only [s154_0, s154_1, s154_2, s154_4, s154_5, s154_6, s154_7, s154_8, s154_9, s154_10, s154_11, s154_12, s154_13, s154_14, s154_15, s154_16, ↓reduceIte, Bool.true_eq_false, Bool.false_eq_true, ip_rfS, true_or, or_true, true_and, and_true, Option.toList_some, Option.toList_none, List.cons_append, List.nil_append, ip_fxn, ip_fxi, ip_fxr, ip_fxl, ip_wid, ip_n998, ip_lt900, iO0, iO1, iA2, iA3, iA4, iA5, iA6, iA7, iA8, iO9, iA10, iA11, iA12, iA13, iA14, iA15, iA16, iO17, iA18, iO19, iA20, iA21, iA22, iA23, iO24, iA25, iO26, iA27, iA28, iO29, iA30, iA31, iO32, iA33, iA34, iO35, iA36, iA37, iO38, iA39, iA40, iO41, iA42, iA43, iO44, iA45, iA46, iA47, iA48, iA49, iA50, iA51, iA52, iA53, iO54, iA55, iO56, iA57, iO58, iA59, iO60, iA61, iO62, iA63, iA64, iA65, iA66, iA67, iA68, iA69, iA70, iA71, iA72, iA73, iA74, iA75, iA76, iA77, iA78, iOT, iAT1, iAT2, iOS, iAS, g, q0, decide_false, show k_n false = 0 from rfl]
theorem y154 {f0 : Int → x_PR} (hM : x_RM R) (hC : y_C S b sz T P N la) (hs : y_ok S R L b sz T P N la (d + 3) 155 op f0) : y_ok S R L b sz T P N la (d + 4) 154 op (x_rep T la (x_is 42) (fun _ => -23) f0) := by
  intro j h t a w fl hj hj2 J
  obtain ⟨⟨i1, i2, i3⟩, v3, h3, t3, a3, w3, bd3, fl3, ⟨r1, r2⟩, k3⟩ := hs j h t a w fl hj hj2 J
  have hla := hC.2.1.2.1
  have hsz := hC.1.2.2.1
  unfold x_rep
  generalize f0 j = r at *
  obtain ⟨ft, jn, on⟩ := r
  dsimp only at *
  cases ft
  · obtain ⟨b1, b2⟩ := r2 rfl
    subst b1
    have hL0 : x_loop T la (x_is 42) (fun _ => -23) f0 160 false jn = (false, jn, []) := by simp [x_loop]
    rw [hL0]
    refine ⟨⟨i1, i2, fun z => (by cases z)⟩, v3, h3, t3, a3, w3, 1, fl3, ⟨fun z => (by cases z), fun _ => ⟨rfl, b2⟩⟩, fun Q => ?_⟩
    simp (disch := omega) only [c154, s154_0, s154_1, s154_2, s154_3, s154_4, s154_5, s154_6, s154_7, s154_8, s154_9, s154_10, s154_11, s154_12, s154_13, s154_14, s154_15, s154_16, ↓reduceIte, Bool.true_eq_false, Bool.false_eq_true, ip_rfS, true_or, or_true, true_and, and_true, Option.toList_some, Option.toList_none, List.cons_append, List.nil_append, ip_fxn, ip_fxi, ip_fxr, ip_fxl, ip_wid, ip_n998, ip_lt900, iO0, iO1, iA2, iA3, iA4, iA5, iA6, iA7, iA8, iO9, iA10, iA11, iA12, iA13, iA14, iA15, iA16, iO17, iA18, iO19, iA20, iA21, iA22, iA23, iO24, iA25, iO26, iA27, iA28, iO29, iA30, iA31, iO32, iA33, iA34, iO35, iA36, iA37, iO38, iA39, iA40, iO41, iA42, iA43, iO44, iA45, iA46, iA47, iA48, iA49, iA50, iA51, iA52, iA53, iO54, iA55, iO56, iA57, iO58, iA59, iO60, iA61, iO62, iA63, iA64, iA65, iA66, iA67, iA68, iA69, iA70, iA71, iA72, iA73, iA74, iA75, iA76, iA77, iA78, iOT, iAT1, iAT2, iOS, iAS, k3, q156b]
  · obtain ⟨b1, J3, vw, vv⟩ := r1 rfl
    subst b1
    have h3j := i3 rfl
    obtain ⟨⟨e1, e2⟩, v4, h4, t4, a4, w4, bd4, fl4, res, k4⟩ := y154l (d := d) hM hC hs 160 jn h3 t3 a3 w3 fl3 v3 on (by omega) i2 (by omega) J3 vw vv
    refine ⟨⟨by dsimp only; omega, e2, fun _ => by dsimp only; omega⟩, v4, h4, t4, a4, w4, bd4, fl4, res, fun Q => ?_⟩
    simp (disch := omega) only [c154, s154_0, s154_1, s154_2, ↓reduceIte, Bool.true_eq_false, Bool.false_eq_true, ip_rfS, true_or, or_true, true_and, and_true, Option.toList_some, Option.toList_none, List.cons_append, List.nil_append, ip_fxn, ip_fxi, ip_fxr, ip_fxl, ip_wid, ip_n998, ip_lt900, iO0, iO1, iA2, iA3, iA4, iA5, iA6, iA7, iA8, iO9, iA10, iA11, iA12, iA13, iA14, iA15, iA16, iO17, iA18, iO19, iA20, iA21, iA22, iA23, iO24, iA25, iO26, iA27, iA28, iO29, iA30, iA31, iO32, iA33, iA34, iO35, iA36, iA37, iO38, iA39, iA40, iO41, iA42, iA43, iO44, iA45, iA46, iA47, iA48, iA49, iA50, iA51, iA52, iA53, iO54, iA55, iO56, iA57, iO58, iA59, iO60, iA61, iO62, iA63, iA64, iA65, iA66, iA67, iA68, iA69, iA70, iA71, iA72, iA73, iA74, iA75, iA76, iA77, iA78, iOT, iAT1, iAT2, iOS, iAS, k3, k4]

theorem y153l {f0 : Int → x_PR} (hM : x_RM R) (hC : y_C S b sz T P N la) (hs : y_ok S R L b sz T P N la (d + 3) 154 op f0) : ∀ (f : Nat) (j h t a w fl v : Int) (O : List Int) (l2 l3 : Option Value), 0 ≤ j → j ≤ la → la + 1 ≤ j + f → y_J b sz T P N la j h t a w → ip_w v = v → y_val (y_nam S) O v →
    (j ≤ (x_loop T la x_pm x_pmc f0 f true j).2.1 ∧ (x_loop T la x_pm x_pmc f0 f true j).2.1 ≤ la) ∧ ∃ v' h' t' a' w' bd' fl', y_res S b sz T P N la ((x_loop T la x_pm x_pmc f0 f true j).1, (x_loop T la x_pm x_pmc f0 f true j).2.1, O ++ (x_loop T la x_pm x_pmc f0 f true j).2.2) v' h' t' a' w' bd' fl' ∧
      ∀ Q, ip_wp (d + 3) 153 3 [some (.ref 62), some (vi v), l2, l3] [] 79 (y_P S h t a op 0 fl) R (ip_up L 62 24 w) Q = Q (some (vi v')) 79 (y_P S h' t' a' op bd' fl') R (ip_up L 62 24 w')
  | 0, j, h, t, a, w, fl, v, O, l2, l3, hj, hj2, hf, J, hv, hO => by omega
  | f + 1, j, h, t, a, w, fl, v, O, l2, l3, hj, hj2, hf, J, hv, hO => by
    have g := fun Q' => q156 (d := d + 2) (S := S) (R := R) (L := L) (op := op) (fl := fl) (Q := Q') J (s := 43) (by omega)
    have g2 := fun Q' => q156 (d := d + 2) (S := S) (R := R) (L := L) (op := op) (fl := fl) (Q := Q') J (s := 45) (by omega)
    by_cases q0 : T j = 43
    · obtain ⟨n1, n2, h2, t2, a2, w2, J2, k2⟩ := q138 (d := d) (L := L) hM hC hj J (by omega) (by omega)
      obtain ⟨⟨i1, i2, i3⟩, v3, h3, t3, a3, w3, bd3, fl3, ⟨r1, r2⟩, k3⟩ := hs (j + 1) h2 t2 a2 w2 fl (by omega) (by omega) J2
      have hL : x_loop T la x_pm x_pmc f0 (f + 1) true j = ((x_loop T la x_pm x_pmc f0 f (f0 (j + 1)).1 (f0 (j + 1)).2.1).1, (x_loop T la x_pm x_pmc f0 f (f0 (j + 1)).1 (f0 (j + 1)).2.1).2.1, (f0 (j + 1)).2.2 ++ -21 :: (x_loop T la x_pm x_pmc f0 f (f0 (j + 1)).1 (f0 (j + 1)).2.1).2.2) := by
        rw [x_loop, if_pos (by simp [x_is, x_pm, q0]), n2]
        try simp only [x_pmc, q0, Int.reduceEq, if_true, if_false]
      rw [hL]
      generalize f0 (j + 1) = r at *
      obtain ⟨ft, jn, on⟩ := r
      dsimp only at *
      have ew : w = 43 := by have := y_Jw J (by omega); omega
      have ec : ip_w (ip_cmpl (ip_w64 w) (ip_w64 43)) = 0 := by rw [ew]; decide +kernel
      have step : ∀ Q, ip_wp (d + 3) 153 3 [some (.ref 62), some (vi v), l2, l3] [] 79 (y_P S h t a op 0 fl) R (ip_up L 62 24 w) Q = ip_wp (d + 3) 153 3 [some (.ref 62), some (vi (v + v3)), some (vi 1), some (vi v3)] [] 79 (y_P S h3 t3 a3 op bd3 fl3) R (ip_up L 62 24 w3) Q := fun Q => by
        rw [s153_3]
        simp (disch := omega) only [s153_0, s153_1, s153_2, s153_4, s153_5, s153_6, s153_7, s153_8, s153_9, s153_10, s153_11, s153_12, s153_13, s153_14, s153_15, s153_16, s153_17, s153_18, s153_19, s153_20, s153_21, s153_22, s153_23, s153_24, s153_25, s153_26, s153_27, s153_28, s153_29, s153_30, s153_31, s153_32, s153_33, s153_34, s153_35, s153_36, s153_37, ↓reduceIte, Bool.true_eq_false, Bool.false_eq_true, ip_rfS, true_or, or_true, true_and, and_true, Option.toList_some, Option.toList_none, List.cons_append, List.nil_append, ip_fxn, ip_fxi, ip_fxr, ip_fxl, ip_wid, ip_n998, ip_lt900, iO0, iO1, iA2, iA3, iA4, iA5, iA6, iA7, iA8, iO9, iA10, iA11, iA12, iA13, iA14, iA15, iA16, iO17, iA18, iO19, iA20, iA21, iA22, iA23, iO24, iA25, iO26, iA27, iA28, iO29, iA30, iA31, iO32, iA33, iA34, iO35, iA36, iA37, iO38, iA39, iA40, iO41, iA42, iA43, iO44, iA45, iA46, iA47, iA48, iA49, iA50, iA51, iA52, iA53, iO54, iA55, iO56, iA57, iO58, iA59, iO60, iA61, iO62, iA63, iA64, iA65, iA66, iA67, iA68, iA69, iA70, iA71, iA72, iA73, iA74, iA75, iA76, iA77, iA78, iOT, iAT1, iAT2, iOS, iAS, g, g2, q0, Int.reduceEq, decide_true, decide_false, show k_n true = 1 from rfl, show k_n false = 0 from rfl, k2, k3, ec, ip_up_at]
      cases ft
      · obtain ⟨b1, b2⟩ := r2 rfl
        have hL0 : x_loop T la x_pm x_pmc f0 f false jn = (false, jn, []) := by cases f <;> simp [x_loop]
        rw [hL0]
        refine ⟨⟨by dsimp only; omega, i2⟩, v + v3, h3, t3, a3, w3, bd3, fl3, ⟨fun z => (by cases z), fun _ => ⟨b1, b2⟩⟩, fun Q => ?_⟩
        subst b1
        rw [step Q, s153_3]
        simp (disch := omega) only [s153_0, s153_1, s153_2, s153_4, s153_5, s153_6, s153_7, s153_8, s153_9, s153_10, s153_11, s153_12, s153_13, s153_14, s153_15, s153_16, s153_17, s153_18, s153_19, s153_20, s153_21, s153_22, s153_23, s153_24, s153_25, s153_26, s153_27, s153_28, s153_29, s153_30, s153_31, s153_32, s153_33, s153_34, s153_35, s153_36, s153_37, ↓reduceIte, Bool.true_eq_false, Bool.false_eq_true, ip_rfS, true_or, or_true, true_and, and_true, Option.toList_some, Option.toList_none, List.cons_append, List.nil_append, ip_fxn, ip_fxi, ip_fxr, ip_fxl, ip_wid, ip_n998, ip_lt900, iO0, iO1, iA2, iA3, iA4, iA5, iA6, iA7, iA8, iO9, iA10, iA11, iA12, iA13, iA14, iA15, iA16, iO17, iA18, iO19, iA20, iA21, iA22, iA23, iO24, iA25, iO26, iA27, iA28, iO29, iA30, iA31, iO32, iA33, iA34, iO35, iA36, iA37, iO38, iA39, iA40, iO41, iA42, iA43, iO44, iA45, iA46, iA47, iA48, iA49, iA50, iA51, iA52, iA53, iO54, iA55, iO56, iA57, iO58, iA59, iO60, iA61, iO62, iA63, iA64, iA65, iA66, iA67, iA68, iA69, iA70, iA71, iA72, iA73, iA74, iA75, iA76, iA77, iA78, iOT, iAT1, iAT2, iOS, iAS, q156b]
      · obtain ⟨b1, J3, vw, vv⟩ := r1 rfl
        subst b1
        have hev : vi (v_jn (-21) v v3) = vi (v + v3) := by
          rw [show v_jn (-21) v v3 = ip_w (v + v3) by simp only [v_jn, Int.reduceEq, Int.reduceNeg, if_true, if_false], ip_viw]
        obtain ⟨⟨e1, e2⟩, v4, h4, t4, a4, w4, bd4, fl4, res, k4⟩ := y153l hM hC hs f jn h3 t3 a3 w3 fl3 (v_jn (-21) v v3) (O ++ (on ++ [-21])) (some (vi 1)) (some (vi v3)) (by omega) i2 (by have := i3 rfl; omega) J3 v_jnw (y_val2 hO vv (by omega))
        rw [hev] at k4
        rw [List.append_assoc, List.append_assoc, List.singleton_append] at res
        exact ⟨⟨by omega, e2⟩, v4, h4, t4, a4, w4, bd4, fl4, res, fun Q => by rw [step Q, k4 Q]⟩
    · by_cases q1 : T j = 45
      · obtain ⟨n1, n2, h2, t2, a2, w2, J2, k2⟩ := q138 (d := d) (L := L) hM hC hj J (by omega) (by omega)
        obtain ⟨⟨i1, i2, i3⟩, v3, h3, t3, a3, w3, bd3, fl3, ⟨r1, r2⟩, k3⟩ := hs (j + 1) h2 t2 a2 w2 fl (by omega) (by omega) J2
        have hL : x_loop T la x_pm x_pmc f0 (f + 1) true j = ((x_loop T la x_pm x_pmc f0 f (f0 (j + 1)).1 (f0 (j + 1)).2.1).1, (x_loop T la x_pm x_pmc f0 f (f0 (j + 1)).1 (f0 (j + 1)).2.1).2.1, (f0 (j + 1)).2.2 ++ -22 :: (x_loop T la x_pm x_pmc f0 f (f0 (j + 1)).1 (f0 (j + 1)).2.1).2.2) := by
          rw [x_loop, if_pos (by simp [x_is, x_pm, q1]), n2]
          try simp only [x_pmc, q1, Int.reduceEq, if_true, if_false]
        rw [hL]
        generalize f0 (j + 1) = r at *
        obtain ⟨ft, jn, on⟩ := r
        dsimp only at *
        have ew : w = 45 := by have := y_Jw J (by omega); omega
        have ec : ip_w (ip_cmpl (ip_w64 w) (ip_w64 43)) ≠ 0 := by rw [ew]; decide +kernel
        have step : ∀ Q, ip_wp (d + 3) 153 3 [some (.ref 62), some (vi v), l2, l3] [] 79 (y_P S h t a op 0 fl) R (ip_up L 62 24 w) Q = ip_wp (d + 3) 153 3 [some (.ref 62), some (vi (v - v3)), some (vi 0), some (vi v3)] [] 79 (y_P S h3 t3 a3 op bd3 fl3) R (ip_up L 62 24 w3) Q := fun Q => by
          rw [s153_3]
          simp (disch := omega) only [s153_0, s153_1, s153_2, s153_4, s153_5, s153_6, s153_7, s153_8, s153_9, s153_10, s153_11, s153_12, s153_13, s153_14, s153_15, s153_16, s153_17, s153_18, s153_19, s153_20, s153_21, s153_22, s153_23, s153_24, s153_25, s153_26, s153_27, s153_28, s153_29, s153_30, s153_31, s153_32, s153_33, s153_34, s153_35, s153_36, s153_37, ↓reduceIte, Bool.true_eq_false, Bool.false_eq_true, ip_rfS, true_or, or_true, true_and, and_true, Option.toList_some, Option.toList_none, List.cons_append, List.nil_append, ip_fxn, ip_fxi, ip_fxr, ip_fxl, ip_wid, ip_n998, ip_lt900, iO0, iO1, iA2, iA3, iA4, iA5, iA6, iA7, iA8, iO9, iA10, iA11, iA12, iA13, iA14, iA15, iA16, iO17, iA18, iO19, iA20, iA21, iA22, iA23, iO24, iA25, iO26, iA27, iA28, iO29, iA30, iA31, iO32, iA33, iA34, iO35, iA36, iA37, iO38, iA39, iA40, iO41, iA42, iA43, iO44, iA45, iA46, iA47, iA48, iA49, iA50, iA51, iA52, iA53, iO54, iA55, iO56, iA57, iO58, iA59, iO60, iA61, iO62, iA63, iA64, iA65, iA66, iA67, iA68, iA69, iA70, iA71, iA72, iA73, iA74, iA75, iA76, iA77, iA78, iOT, iAT1, iAT2, iOS, iAS, g, g2, q0, q1, Int.reduceEq, decide_true, decide_false, show k_n true = 1 from rfl, show k_n false = 0 from rfl, k2, k3, ec, ip_up_at]
        cases ft
        · obtain ⟨b1, b2⟩ := r2 rfl
          have hL0 : x_loop T la x_pm x_pmc f0 f false jn = (false, jn, []) := by cases f <;> simp [x_loop]
          rw [hL0]
          refine ⟨⟨by dsimp only; omega, i2⟩, v - v3, h3, t3, a3, w3, bd3, fl3, ⟨fun z => (by cases z), fun _ => ⟨b1, b2⟩⟩, fun Q => ?_⟩
          subst b1
          rw [step Q, s153_3]
          simp (disch := omega) only [s153_0, s153_1, s153_2, s153_4, s153_5, s153_6, s153_7, s153_8, s153_9, s153_10, s153_11, s153_12, s153_13, s153_14, s153_15, s153_16, s153_17, s153_18, s153_19, s153_20, s153_21, s153_22, s153_23, s153_24, s153_25, s153_26, s153_27, s153_28, s153_29, s153_30, s153_31, s153_32, s153_33, s153_34, s153_35, s153_36, s153_37, ↓reduceIte, Bool.true_eq_false, Bool.false_eq_true, ip_rfS, true_or, or_true, true_and, and_true, Option.toList_some, Option.toList_none, List.cons_append, List.nil_append, ip_fxn, ip_fxi, ip_fxr, ip_fxl, ip_wid, ip_n998, ip_lt900, iO0, iO1, iA2, iA3, iA4, iA5, iA6, iA7, iA8, iO9, iA10, iA11, iA12, iA13, iA14, iA15, iA16, iO17, iA18, iO19, iA20, iA21, iA22, iA23, iO24, iA25, iO26, iA27, iA28, iO29, iA30, iA31, iO32, iA33, iA34, iO35, iA36, iA37, iO38, iA39, iA40, iO41, iA42, iA43, iO44, iA45, iA46, iA47, iA48, iA49, iA50, iA51, iA52, iA53, iO54, iA55, iO56, iA57, iO58, iA59, iO60, iA61, iO62, iA63, iA64, iA65, iA66, iA67, iA68, iA69, iA70, iA71, iA72, iA73, iA74, iA75, iA76, iA77, iA78, iOT, iAT1, iAT2, iOS, iAS, q156b]
        · obtain ⟨b1, J3, vw, vv⟩ := r1 rfl
          subst b1
          have hev : vi (v_jn (-22) v v3) = vi (v - v3) := by
            rw [show v_jn (-22) v v3 = ip_w (v - v3) by simp only [v_jn, Int.reduceEq, Int.reduceNeg, if_true, if_false], ip_viw]
          obtain ⟨⟨e1, e2⟩, v4, h4, t4, a4, w4, bd4, fl4, res, k4⟩ := y153l hM hC hs f jn h3 t3 a3 w3 fl3 (v_jn (-22) v v3) (O ++ (on ++ [-22])) (some (vi 0)) (some (vi v3)) (by omega) i2 (by have := i3 rfl; omega) J3 v_jnw (y_val2 hO vv (by omega))
          rw [hev] at k4
          rw [List.append_assoc, List.append_assoc, List.singleton_append] at res
          exact ⟨⟨by omega, e2⟩, v4, h4, t4, a4, w4, bd4, fl4, res, fun Q => by rw [step Q, k4 Q]⟩
      · have hL : x_loop T la x_pm x_pmc f0 (f + 1) true j = (true, j, []) := by
          rw [x_loop, if_neg (by simp [x_is, x_pm, q0, q1])]
        rw [hL]
        refine ⟨⟨Int.le_refl _, hj2⟩, v, h, t, a, w, 0, fl, ⟨fun _ => ⟨rfl, J, hv, by rw [List.append_nil]; exact hO⟩, fun z => (by cases z)⟩, fun Q => ?_⟩
        rw [s153_3]
        simp (disch := omega) only [s153_0, s153_1, s153_2, s153_4, s153_5, s153_6, s153_7, s153_8, s153_9, s153_10, s153_11, s153_12, s153_13, s153_14, s153_15, s153_16, s153_17, s153_18, s153_19, s153_20, s153_21, s153_22, s153_23, s153_24, s153_25, s153_26, s153_27, s153_28, s153_29, s153_30, s153_31, s153_32, s153_33, s153_34, s153_35, s153_36, s153_37, ↓reduceIte, Bool.true_eq_false, Bool.false_eq_true, ip_rfS, true_or, or_true, true_and, and_true, Option.toList_some, Option.toList_none, List.cons_append, List.nil_append, ip_fxn, ip_fxi, ip_fxr, ip_fxl, ip_wid, ip_n998, ip_lt900, iO0, iO1, iA2, iA3, iA4, iA5, iA6, iA7, iA8, iO9, iA10, iA11, iA12, iA13, iA14, iA15, iA16, iO17, iA18, iO19, iA20, iA21, iA22, iA23, iO24, iA25, iO26, iA27, iA28, iO29, iA30, iA31, iO32, iA33, iA34, iO35, iA36, iA37, iO38, iA39, iA40, iO41, iA42, iA43, iO44, iA45, iA46, iA47, iA48, iA49, iA50, iA51, iA52, iA53, iO54, iA55, iO56, iA57, iO58, iA59, iO60, iA61, iO62, iA63, iA64, iA65, iA66, iA67, iA68, iA69, iA70, iA71, iA72, iA73, iA74, iA75, iA76, iA77, iA78, iOT, iAT1, iAT2, iOS, iAS, g, g2, q0, q1, decide_false, show k_n false = 0 from rfl]
theorem y153 {f0 : Int → x_PR} (hM : x_RM R) (hC : y_C S b sz T P N la) (hs : y_ok S R L b sz T P N la (d + 3) 154 op f0) : y_ok S R L b sz T P N la (d + 4) 153 op (x_rep T la x_pm x_pmc f0) := by
  intro j h t a w fl hj hj2 J
  obtain ⟨⟨i1, i2, i3⟩, v3, h3, t3, a3, w3, bd3, fl3, ⟨r1, r2⟩, k3⟩ := hs j h t a w fl hj hj2 J
  have hla := hC.2.1.2.1
  have hsz := hC.1.2.2.1
  unfold x_rep
  generalize f0 j = r at *
  obtain ⟨ft, jn, on⟩ := r
  dsimp only at *
  cases ft
  · obtain ⟨b1, b2⟩ := r2 rfl
    subst b1
    have hL0 : x_loop T la x_pm x_pmc f0 160 false jn = (false, jn, []) := by simp [x_loop]
    rw [hL0]
    refine ⟨⟨i1, i2, fun z => (by cases z)⟩, v3, h3, t3, a3, w3, 1, fl3, ⟨fun z => (by cases z), fun _ => ⟨rfl, b2⟩⟩, fun Q => ?_⟩
    simp (disch := omega) only [c153, s153_0, s153_1, s153_2, s153_3, s153_4, s153_5, s153_6, s153_7, s153_8, s153_9, s153_10, s153_11, s153_12, s153_13, s153_14, s153_15, s153_16, s153_17, s153_18, s153_19, s153_20, s153_21, s153_22, s153_23, s153_24, s153_25, s153_26, s153_27, s153_28, s153_29, s153_30, s153_31, s153_32, s153_33, s153_34, s153_35, s153_36, s153_37, ↓reduceIte, Bool.true_eq_false, Bool.false_eq_true, ip_rfS, true_or, or_true, true_and, and_true, Option.toList_some, Option.toList_none, List.cons_append, List.nil_append, ip_fxn, ip_fxi, ip_fxr, ip_fxl, ip_wid, ip_n998, ip_lt900, iO0, iO1, iA2, iA3, iA4, iA5, iA6, iA7, iA8, iO9, iA10, iA11, iA12, iA13, iA14, iA15, iA16, iO17, iA18, iO19, iA20, iA21, iA22, iA23, iO24, iA25, iO26, iA27, iA28, iO29, iA30, iA31, iO32, iA33, iA34, iO35, iA36, iA37, iO38, iA39, iA40, iO41, iA42, iA43, iO44, iA45, iA46, iA47, iA48, iA49, iA50, iA51, iA52, iA53, iO54, iA55, iO56, iA57, iO58, iA59, iO60, iA61, iO62, iA63, iA64, iA65, iA66, iA67, iA68, iA69, iA70, iA71, iA72, iA73, iA74, iA75, iA76, iA77, iA78, iOT, iAT1, iAT2, iOS, iAS, k3, q156b]
  · obtain ⟨b1, J3, vw, vv⟩ := r1 rfl
    subst b1
    have h3j := i3 rfl
    obtain ⟨⟨e1, e2⟩, v4, h4, t4, a4, w4, bd4, fl4, res, k4⟩ := y153l (d := d) hM hC hs 160 jn h3 t3 a3 w3 fl3 v3 on none none (by omega) i2 (by omega) J3 vw vv
    refine ⟨⟨by dsimp only; omega, e2, fun _ => by dsimp only; omega⟩, v4, h4, t4, a4, w4, bd4, fl4, res, fun Q => ?_⟩
    simp (disch := omega) only [c153, s153_0, s153_1, s153_2, ↓reduceIte, Bool.true_eq_false, Bool.false_eq_true, ip_rfS, true_or, or_true, true_and, and_true, Option.toList_some, Option.toList_none, List.cons_append, List.nil_append, ip_fxn, ip_fxi, ip_fxr, ip_fxl, ip_wid, ip_n998, ip_lt900, iO0, iO1, iA2, iA3, iA4, iA5, iA6, iA7, iA8, iO9, iA10, iA11, iA12, iA13, iA14, iA15, iA16, iO17, iA18, iO19, iA20, iA21, iA22, iA23, iO24, iA25, iO26, iA27, iA28, iO29, iA30, iA31, iO32, iA33, iA34, iO35, iA36, iA37, iO38, iA39, iA40, iO41, iA42, iA43, iO44, iA45, iA46, iA47, iA48, iA49, iA50, iA51, iA52, iA53, iO54, iA55, iO56, iA57, iO58, iA59, iO60, iA61, iO62, iA63, iA64, iA65, iA66, iA67, iA68, iA69, iA70, iA71, iA72, iA73, iA74, iA75, iA76, iA77, iA78, iOT, iAT1, iAT2, iOS, iAS, k3, k4]

theorem y152 {one : Int → x_PR} (ho : op = 5) (hM : x_RM R) (hC : y_C S b sz T P N la) (hs : y_ok S R L b sz T P N la (d + 3) 153 op (x_sum T la one)) : y_ok S R L b sz T P N la (d + 4) 152 op (x_not T one la (x_no)) := by
  intro j h t a w fl hj hj2 J
  have hla := hC.2.1.2.1
  have hsz := hC.1.2.2.1
  have hjr := J.2.1
  have g := fun Q' => q140 (d := d) (op := op) (fl := fl) (L' := ip_up L 62 24 w) (Q := Q') 5 (by omega) (ki := 5) rfl yW5 hM hC hj J (by omega) (by omega) (by omega) (by omega) (by omega) (by omega) (by omega) (by omega)
  have kt : k_n true = 1 := rfl
  have kf : k_n false = 0 := rfl
  by_cases q0 : T j = 5
  · have hL : x_not T one la x_no j = (false, j, []) := by rw [x_not, if_pos q0]; rfl
    rw [hL]
    subst ho
    have gf := fun Q' => q147f (d := d + 1) (S := S) (R := R) (h := h) (t := t) (a := a) (fl := fl) (L' := ip_up L 62 24 w) (Q := Q') (by omega)
    refine ⟨⟨Int.le_refl _, hj2, fun z => (by cases z)⟩, 0, h, t, a, w, 1, a, ⟨fun z => (by cases z), fun _ => ⟨rfl, y_Ja J⟩⟩, fun Q => ?_⟩
    simp (disch := omega) only [c152, s152_0, s152_1, s152_2, s152_3, s152_4, s152_5, s152_6, s152_7, s152_8, s152_9, s152_10, s152_11, s152_12, s152_13, s152_14, s152_15, s152_16, s152_17, s152_18, s152_19, s152_20, s152_21, s152_22, s152_23, s152_24, s152_25, s152_26, s152_27, s152_28, s152_29, s152_30, s152_31, s152_32, s152_33, s152_34, s152_35, s152_36, s152_37, s152_38, s152_39, s152_40, s152_41, s152_42, s152_43, s152_44, s152_45, s152_46, s152_47, s152_48, s152_49, s152_50, s152_51, s152_52, s152_53, s152_54, s152_55, ↓reduceIte, Bool.true_eq_false, Bool.false_eq_true, ip_rfS, true_or, or_true, true_and, and_true, Option.toList_some, Option.toList_none, List.cons_append, List.nil_append, ip_fxn, ip_fxi, ip_fxr, ip_fxl, ip_wid, ip_n998, ip_lt900, iO0, iO1, iA2, iA3, iA4, iA5, iA6, iA7, iA8, iO9, iA10, iA11, iA12, iA13, iA14, iA15, iA16, iO17, iA18, iO19, iA20, iA21, iA22, iA23, iO24, iA25, iO26, iA27, iA28, iO29, iA30, iA31, iO32, iA33, iA34, iO35, iA36, iA37, iO38, iA39, iA40, iO41, iA42, iA43, iO44, iA45, iA46, iA47, iA48, iA49, iA50, iA51, iA52, iA53, iO54, iA55, iO56, iA57, iO58, iA59, iO60, iA61, iO62, iA63, iA64, iA65, iA66, iA67, iA68, iA69, iA70, iA71, iA72, iA73, iA74, iA75, iA76, iA77, iA78, iOT, iAT1, iAT2, iOS, iAS, g, q0, gf, Int.reduceEq, decide_true, decide_false, kt, kf]
  · have hL : x_not T one la (x_no) j = x_cmp T la one j := by rw [x_not, if_neg q0]
    rw [hL]
    obtain ⟨⟨i1, i2, i3⟩, v3, h3, t3, a3, w3, bd3, fl3, ⟨r1, r2⟩, k3⟩ := hs j h t a w fl hj hj2 J
    unfold x_cmp
    generalize hr : x_sum T la one j = r at *
    obtain ⟨ft, jn, on⟩ := r
    dsimp only at *
    cases ft
    · obtain ⟨b1, b2⟩ := r2 rfl
      subst b1
      rw [if_neg (by simp)]
      refine ⟨⟨i1, i2, fun z => (by cases z)⟩, v3, h3, t3, a3, w3, 1, fl3, ⟨fun z => (by cases z), fun _ => ⟨rfl, b2⟩⟩, fun Q => ?_⟩
      simp (disch := omega) only [c152, s152_0, s152_1, s152_2, s152_3, s152_4, s152_5, s152_6, s152_7, s152_8, s152_9, s152_10, s152_11, s152_12, s152_13, s152_14, s152_15, s152_16, s152_17, s152_18, s152_19, s152_20, s152_21, s152_22, s152_23, s152_24, s152_25, s152_26, s152_27, s152_28, s152_29, s152_30, s152_31, s152_32, s152_33, s152_34, s152_35, s152_36, s152_37, s152_38, s152_39, s152_40, s152_41, s152_42, s152_43, s152_44, s152_45, s152_46, s152_47, s152_48, s152_49, s152_50, s152_51, s152_52, s152_53, s152_54, s152_55, ↓reduceIte, Bool.true_eq_false, Bool.false_eq_true, ip_rfS, true_or, or_true, true_and, and_true, Option.toList_some, Option.toList_none, List.cons_append, List.nil_append, ip_fxn, ip_fxi, ip_fxr, ip_fxl, ip_wid, ip_n998, ip_lt900, iO0, iO1, iA2, iA3, iA4, iA5, iA6, iA7, iA8, iO9, iA10, iA11, iA12, iA13, iA14, iA15, iA16, iO17, iA18, iO19, iA20, iA21, iA22, iA23, iO24, iA25, iO26, iA27, iA28, iO29, iA30, iA31, iO32, iA33, iA34, iO35, iA36, iA37, iO38, iA39, iA40, iO41, iA42, iA43, iO44, iA45, iA46, iA47, iA48, iA49, iA50, iA51, iA52, iA53, iO54, iA55, iO56, iA57, iO58, iA59, iO60, iA61, iO62, iA63, iA64, iA65, iA66, iA67, iA68, iA69, iA70, iA71, iA72, iA73, iA74, iA75, iA76, iA77, iA78, iOT, iAT1, iAT2, iOS, iAS, g, q0, k3, q156b, Int.reduceEq, decide_true, decide_false, kt, kf]
    · obtain ⟨b1, J3, vw, vv⟩ := r1 rfl
      subst b1
      have h3j := i3 rfl
      have e1 := fun Q' => q156 (d := d + 2) (S := S) (R := R) (L := L) (op := op) (fl := fl3) (Q := Q') J3 (s := 60) (by omega)
      have e2 := fun Q' => q156 (d := d + 2) (S := S) (R := R) (L := L) (op := op) (fl := fl3) (Q := Q') J3 (s := 61) (by omega)
      by_cases c1 : T jn = 60 ∨ T jn = 61
      · obtain ⟨n1, n2, h4, t4, a4, w4, J4, k4⟩ := q138 (d := d) (L := L) hM hC (by omega) J3 (by omega) (by omega)
        obtain ⟨⟨m1, m2, m3⟩, v5, h5, t5, a5, w5, bd5, fl5, ⟨s1, s2⟩, k5⟩ := hs (jn + 1) h4 t4 a4 w4 fl3 (by omega) (by omega) J4
        rw [if_pos (by simp [c1]), n2]
        generalize x_sum T la one (jn + 1) = u at *
        obtain ⟨ft2, j5, o5⟩ := u
        dsimp only at *
        have ew := y_Jw J3 (by omega)
        rcases c1 with c1 | c1
        · have ec : ip_w (ip_cmpl (ip_w64 w3) (ip_w64 60)) = 0 := by rw [ew, c1]; decide +kernel
          have key : ∀ Q, ip_wc (d + 4) 152 [.ref 62] 79 (y_P S h t a op 0 fl) R (ip_up L 62 24 w) Q = Q (some (vi (if v3 < ip_w v5 then 1 else 0))) 79 (y_P S h5 t5 a5 op bd5 fl5) R (ip_up L 62 24 w5) := fun Q => by
            by_cases z : v3 < ip_w v5
            · simp (disch := omega) only [c152, s152_0, s152_1, s152_2, s152_3, s152_4, s152_5, s152_6, s152_7, s152_8, s152_9, s152_10, s152_11, s152_12, s152_13, s152_14, s152_15, s152_16, s152_17, s152_18, s152_19, s152_20, s152_21, s152_22, s152_23, s152_24, s152_25, s152_26, s152_27, s152_28, s152_29, s152_30, s152_31, s152_32, s152_33, s152_34, s152_35, s152_36, s152_37, s152_38, s152_39, s152_40, s152_41, s152_42, s152_43, s152_44, s152_45, s152_46, s152_47, s152_48, s152_49, s152_50, s152_51, s152_52, s152_53, s152_54, s152_55, ↓reduceIte, Bool.true_eq_false, Bool.false_eq_true, ip_rfS, true_or, or_true, true_and, and_true, Option.toList_some, Option.toList_none, List.cons_append, List.nil_append, ip_fxn, ip_fxi, ip_fxr, ip_fxl, ip_wid, ip_n998, ip_lt900, iO0, iO1, iA2, iA3, iA4, iA5, iA6, iA7, iA8, iO9, iA10, iA11, iA12, iA13, iA14, iA15, iA16, iO17, iA18, iO19, iA20, iA21, iA22, iA23, iO24, iA25, iO26, iA27, iA28, iO29, iA30, iA31, iO32, iA33, iA34, iO35, iA36, iA37, iO38, iA39, iA40, iO41, iA42, iA43, iO44, iA45, iA46, iA47, iA48, iA49, iA50, iA51, iA52, iA53, iO54, iA55, iO56, iA57, iO58, iA59, iO60, iA61, iO62, iA63, iA64, iA65, iA66, iA67, iA68, iA69, iA70, iA71, iA72, iA73, iA74, iA75, iA76, iA77, iA78, iOT, iAT1, iAT2, iOS, iAS, g, q0, k3, e1, c1, k4, k5, ip_up_at, ec, vw, z, if_true, Int.reduceEq, decide_true, decide_false, kt, kf]
            · simp (disch := omega) only [c152, s152_0, s152_1, s152_2, s152_3, s152_4, s152_5, s152_6, s152_7, s152_8, s152_9, s152_10, s152_11, s152_12, s152_13, s152_14, s152_15, s152_16, s152_17, s152_18, s152_19, s152_20, s152_21, s152_22, s152_23, s152_24, s152_25, s152_26, s152_27, s152_28, s152_29, s152_30, s152_31, s152_32, s152_33, s152_34, s152_35, s152_36, s152_37, s152_38, s152_39, s152_40, s152_41, s152_42, s152_43, s152_44, s152_45, s152_46, s152_47, s152_48, s152_49, s152_50, s152_51, s152_52, s152_53, s152_54, s152_55, ↓reduceIte, Bool.true_eq_false, Bool.false_eq_true, ip_rfS, true_or, or_true, true_and, and_true, Option.toList_some, Option.toList_none, List.cons_append, List.nil_append, ip_fxn, ip_fxi, ip_fxr, ip_fxl, ip_wid, ip_n998, ip_lt900, iO0, iO1, iA2, iA3, iA4, iA5, iA6, iA7, iA8, iO9, iA10, iA11, iA12, iA13, iA14, iA15, iA16, iO17, iA18, iO19, iA20, iA21, iA22, iA23, iO24, iA25, iO26, iA27, iA28, iO29, iA30, iA31, iO32, iA33, iA34, iO35, iA36, iA37, iO38, iA39, iA40, iO41, iA42, iA43, iO44, iA45, iA46, iA47, iA48, iA49, iA50, iA51, iA52, iA53, iO54, iA55, iO56, iA57, iO58, iA59, iO60, iA61, iO62, iA63, iA64, iA65, iA66, iA67, iA68, iA69, iA70, iA71, iA72, iA73, iA74, iA75, iA76, iA77, iA78, iOT, iAT1, iAT2, iOS, iAS, g, q0, k3, e1, c1, k4, k5, ip_up_at, ec, vw, z, if_false, Int.reduceEq, decide_true, decide_false, kt, kf]
          refine ⟨⟨by dsimp only; omega, m2, fun z => by have := m3 z; dsimp only; omega⟩, (if v3 < ip_w v5 then 1 else 0), h5, t5, a5, w5, bd5, fl5, ⟨fun z => ?_, fun z => s2 z⟩, key⟩
          obtain ⟨d1, J5, d3, d4⟩ := s1 z
          have hev : v_jn (-24) v3 v5 = (if v3 < ip_w v5 then 1 else 0) := by
            rw [d3]
            simp only [v_jn, Int.reduceEq, Int.reduceNeg, if_true, if_false]
          rw [if_pos c1]
          exact ⟨d1, J5, by rw [← hev]; exact v_jnw, by rw [← hev]; exact y_val2 vv d4 (by omega)⟩
        · have ec : ¬ ip_w (ip_cmpl (ip_w64 w3) (ip_w64 60)) = 0 := by rw [ew, c1]; decide +kernel
          have key : ∀ Q, ip_wc (d + 4) 152 [.ref 62] 79 (y_P S h t a op 0 fl) R (ip_up L 62 24 w) Q = Q (some (vi (if v3 = ip_w v5 then 1 else 0))) 79 (y_P S h5 t5 a5 op bd5 fl5) R (ip_up L 62 24 w5) := fun Q => by
            by_cases z : v3 = ip_w v5
            · simp (disch := omega) only [c152, s152_0, s152_1, s152_2, s152_3, s152_4, s152_5, s152_6, s152_7, s152_8, s152_9, s152_10, s152_11, s152_12, s152_13, s152_14, s152_15, s152_16, s152_17, s152_18, s152_19, s152_20, s152_21, s152_22, s152_23, s152_24, s152_25, s152_26, s152_27, s152_28, s152_29, s152_30, s152_31, s152_32, s152_33, s152_34, s152_35, s152_36, s152_37, s152_38, s152_39, s152_40, s152_41, s152_42, s152_43, s152_44, s152_45, s152_46, s152_47, s152_48, s152_49, s152_50, s152_51, s152_52, s152_53, s152_54, s152_55, ↓reduceIte, Bool.true_eq_false, Bool.false_eq_true, ip_rfS, true_or, or_true, true_and, and_true, Option.toList_some, Option.toList_none, List.cons_append, List.nil_append, ip_fxn, ip_fxi, ip_fxr, ip_fxl, ip_wid, ip_n998, ip_lt900, iO0, iO1, iA2, iA3, iA4, iA5, iA6, iA7, iA8, iO9, iA10, iA11, iA12, iA13, iA14, iA15, iA16, iO17, iA18, iO19, iA20, iA21, iA22, iA23, iO24, iA25, iO26, iA27, iA28, iO29, iA30, iA31, iO32, iA33, iA34, iO35, iA36, iA37, iO38, iA39, iA40, iO41, iA42, iA43, iO44, iA45, iA46, iA47, iA48, iA49, iA50, iA51, iA52, iA53, iO54, iA55, iO56, iA57, iO58, iA59, iO60, iA61, iO62, iA63, iA64, iA65, iA66, iA67, iA68, iA69, iA70, iA71, iA72, iA73, iA74, iA75, iA76, iA77, iA78, iOT, iAT1, iAT2, iOS, iAS, g, q0, k3, e1, e2, c1, k4, k5, ip_up_at, ec, vw, eq_true z, if_true, Int.reduceEq, decide_true, decide_false, kt, kf]
            · simp (disch := omega) only [c152, s152_0, s152_1, s152_2, s152_3, s152_4, s152_5, s152_6, s152_7, s152_8, s152_9, s152_10, s152_11, s152_12, s152_13, s152_14, s152_15, s152_16, s152_17, s152_18, s152_19, s152_20, s152_21, s152_22, s152_23, s152_24, s152_25, s152_26, s152_27, s152_28, s152_29, s152_30, s152_31, s152_32, s152_33, s152_34, s152_35, s152_36, s152_37, s152_38, s152_39, s152_40, s152_41, s152_42, s152_43, s152_44, s152_45, s152_46, s152_47, s152_48, s152_49, s152_50, s152_51, s152_52, s152_53, s152_54, s152_55, ↓reduceIte, Bool.true_eq_false, Bool.false_eq_true, ip_rfS, true_or, or_true, true_and, and_true, Option.toList_some, Option.toList_none, List.cons_append, List.nil_append, ip_fxn, ip_fxi, ip_fxr, ip_fxl, ip_wid, ip_n998, ip_lt900, iO0, iO1, iA2, iA3, iA4, iA5, iA6, iA7, iA8, iO9, iA10, iA11, iA12, iA13, iA14, iA15, iA16, iO17, iA18, iO19, iA20, iA21, iA22, iA23, iO24, iA25, iO26, iA27, iA28, iO29, iA30, iA31, iO32, iA33, iA34, iO35, iA36, iA37, iO38, iA39, iA40, iO41, iA42, iA43, iO44, iA45, iA46, iA47, iA48, iA49, iA50, iA51, iA52, iA53, iO54, iA55, iO56, iA57, iO58, iA59, iO60, iA61, iO62, iA63, iA64, iA65, iA66, iA67, iA68, iA69, iA70, iA71, iA72, iA73, iA74, iA75, iA76, iA77, iA78, iOT, iAT1, iAT2, iOS, iAS, g, q0, k3, e1, e2, c1, k4, k5, ip_up_at, ec, vw, z, if_false, Int.reduceEq, decide_true, decide_false, kt, kf]
          refine ⟨⟨by dsimp only; omega, m2, fun z => by have := m3 z; dsimp only; omega⟩, (if v3 = ip_w v5 then 1 else 0), h5, t5, a5, w5, bd5, fl5, ⟨fun z => ?_, fun z => s2 z⟩, key⟩
          obtain ⟨d1, J5, d3, d4⟩ := s1 z
          have hev : v_jn (-25) v3 v5 = (if v3 = ip_w v5 then 1 else 0) := by
            rw [d3]
            simp only [v_jn, Int.reduceEq, Int.reduceNeg, if_true, if_false]
          rw [if_neg (by omega)]
          exact ⟨d1, J5, by rw [← hev]; exact v_jnw, by rw [← hev]; exact y_val2 vv d4 (by omega)⟩
      · rw [if_neg (by simp [c1])]
        refine ⟨⟨i1, i2, i3⟩, v3, h3, t3, a3, w3, 0, fl3, ⟨fun _ => ⟨rfl, J3, vw, vv⟩, fun z => (by cases z)⟩, fun Q => ?_⟩
        simp (disch := omega) only [c152, s152_0, s152_1, s152_2, s152_3, s152_4, s152_5, s152_6, s152_7, s152_8, s152_9, s152_10, s152_11, s152_12, s152_13, s152_14, s152_15, s152_16, s152_17, s152_18, s152_19, s152_20, s152_21, s152_22, s152_23, s152_24, s152_25, s152_26, s152_27, s152_28, s152_29, s152_30, s152_31, s152_32, s152_33, s152_34, s152_35, s152_36, s152_37, s152_38, s152_39, s152_40, s152_41, s152_42, s152_43, s152_44, s152_45, s152_46, s152_47, s152_48, s152_49, s152_50, s152_51, s152_52, s152_53, s152_54, s152_55, ↓reduceIte, Bool.true_eq_false, Bool.false_eq_true, ip_rfS, true_or, or_true, true_and, and_true, Option.toList_some, Option.toList_none, List.cons_append, List.nil_append, ip_fxn, ip_fxi, ip_fxr, ip_fxl, ip_wid, ip_n998, ip_lt900, iO0, iO1, iA2, iA3, iA4, iA5, iA6, iA7, iA8, iO9, iA10, iA11, iA12, iA13, iA14, iA15, iA16, iO17, iA18, iO19, iA20, iA21, iA22, iA23, iO24, iA25, iO26, iA27, iA28, iO29, iA30, iA31, iO32, iA33, iA34, iO35, iA36, iA37, iO38, iA39, iA40, iO41, iA42, iA43, iO44, iA45, iA46, iA47, iA48, iA49, iA50, iA51, iA52, iA53, iO54, iA55, iO56, iA57, iO58, iA59, iO60, iA61, iO62, iA63, iA64, iA65, iA66, iA67, iA68, iA69, iA70, iA71, iA72, iA73, iA74, iA75, iA76, iA77, iA78, iOT, iAT1, iAT2, iOS, iAS, g, q0, k3, e1, e2, show ¬ T jn = 60 by omega, show ¬ T jn = 61 by omega, Int.reduceEq, decide_true, decide_false, kt, kf]

theorem y162l {f0 : Int → x_PR} (hM : x_RM R) (hC : y_C S b sz T P N la) (hs : y_ok S R L b sz T P N la (d + 3) 152 op f0) : ∀ (f : Nat) (j h t a w fl v : Int) (O : List Int) (l2 : Option Value), 0 ≤ j → j ≤ la → la + 1 ≤ j + f → y_J b sz T P N la j h t a w → ip_w v = v → y_val (y_nam S) O v →
    (j ≤ (x_loop T la (x_is 4) (fun _ => -26) f0 f true j).2.1 ∧ (x_loop T la (x_is 4) (fun _ => -26) f0 f true j).2.1 ≤ la) ∧ ∃ v' h' t' a' w' bd' fl', y_res S b sz T P N la ((x_loop T la (x_is 4) (fun _ => -26) f0 f true j).1, (x_loop T la (x_is 4) (fun _ => -26) f0 f true j).2.1, O ++ (x_loop T la (x_is 4) (fun _ => -26) f0 f true j).2.2) v' h' t' a' w' bd' fl' ∧
      ∀ Q, ip_wp (d + 3) 162 3 [some (.ref 62), some (vi v), l2] [] 79 (y_P S h t a op 0 fl) R (ip_up L 62 24 w) Q = Q (some (vi v')) 79 (y_P S h' t' a' op bd' fl') R (ip_up L 62 24 w')
  | 0, j, h, t, a, w, fl, v, O, l2, hj, hj2, hf, J, hv, hO => by omega
  | f + 1, j, h, t, a, w, fl, v, O, l2, hj, hj2, hf, J, hv, hO => by
    have g := fun Q' => q140 (d := d) (op := op) (fl := fl) (L' := ip_up L 62 24 w) (Q := Q') 4 (by omega) (ki := 4) rfl yW4 hM hC hj J (by omega) (by omega) (by omega) (by omega) (by omega) (by omega) (by omega) (by omega)
    by_cases q0 : T j = 4
    · obtain ⟨n1, n2, h2, t2, a2, w2, J2, k2⟩ := q138 (d := d) (L := L) hM hC hj J (by omega) (by omega)
      obtain ⟨⟨i1, i2, i3⟩, v3, h3, t3, a3, w3, bd3, fl3, ⟨r1, r2⟩, k3⟩ := hs (j + 1) h2 t2 a2 w2 fl (by omega) (by omega) J2
      have hL : x_loop T la (x_is 4) (fun _ => -26) f0 (f + 1) true j = ((x_loop T la (x_is 4) (fun _ => -26) f0 f (f0 (j + 1)).1 (f0 (j + 1)).2.1).1, (x_loop T la (x_is 4) (fun _ => -26) f0 f (f0 (j + 1)).1 (f0 (j + 1)).2.1).2.1, (f0 (j + 1)).2.2 ++ -26 :: (x_loop T la (x_is 4) (fun _ => -26) f0 f (f0 (j + 1)).1 (f0 (j + 1)).2.1).2.2) := by
        rw [x_loop, if_pos (by simp [x_is, x_pm, q0]), n2]
        try simp only [x_pmc, q0, Int.reduceEq, if_true, if_false]
      rw [hL]
      generalize f0 (j + 1) = r at *
      obtain ⟨ft, jn, on⟩ := r
      dsimp only at *
      have step : ∀ Q, ∃ v5 : Int, v5 = (if ¬ v = 0 ∧ ¬ ip_w v3 = 0 then 1 else 0) ∧ ip_wp (d + 3) 162 3 [some (.ref 62), some (vi v), l2] [] 79 (y_P S h t a op 0 fl) R (ip_up L 62 24 w) Q = ip_wp (d + 3) 162 3 [some (.ref 62), some (vi v5), some (vi v3)] [] 79 (y_P S h3 t3 a3 op bd3 fl3) R (ip_up L 62 24 w3) Q := fun Q => by
        refine ⟨_, rfl, ?_⟩
        rw [s162_3]
        by_cases z1 : v = 0
        · by_cases z2 : ip_w v3 = 0
          · simp (disch := omega) only [s162_0, s162_1, s162_2, s162_4, s162_5, s162_6, s162_7, s162_8, s162_9, s162_10, s162_11, s162_12, s162_13, s162_14, s162_15, s162_16, s162_17, s162_18, s162_19, s162_20, s162_21, s162_22, s162_23, s162_24, s162_25, s162_26, s162_27, s162_28, s162_29, ↓reduceIte, Bool.true_eq_false, Bool.false_eq_true, ip_rfS, true_or, or_true, true_and, and_true, Option.toList_some, Option.toList_none, List.cons_append, List.nil_append, ip_fxn, ip_fxi, ip_fxr, ip_fxl, ip_wid, ip_n998, ip_lt900, iO0, iO1, iA2, iA3, iA4, iA5, iA6, iA7, iA8, iO9, iA10, iA11, iA12, iA13, iA14, iA15, iA16, iO17, iA18, iO19, iA20, iA21, iA22, iA23, iO24, iA25, iO26, iA27, iA28, iO29, iA30, iA31, iO32, iA33, iA34, iO35, iA36, iA37, iO38, iA39, iA40, iO41, iA42, iA43, iO44, iA45, iA46, iA47, iA48, iA49, iA50, iA51, iA52, iA53, iO54, iA55, iO56, iA57, iO58, iA59, iO60, iA61, iO62, iA63, iA64, iA65, iA66, iA67, iA68, iA69, iA70, iA71, iA72, iA73, iA74, iA75, iA76, iA77, iA78, iOT, iAT1, iAT2, iOS, iAS, g, q0, Int.reduceEq, decide_true, show k_n true = 1 from rfl, k2, k3, hv, z1, z2, not_true, not_false_eq_true, and_self, or_self, false_and, and_false, or_true, true_or, if_true, if_false]
          · simp (disch := omega) only [s162_0, s162_1, s162_2, s162_4, s162_5, s162_6, s162_7, s162_8, s162_9, s162_10, s162_11, s162_12, s162_13, s162_14, s162_15, s162_16, s162_17, s162_18, s162_19, s162_20, s162_21, s162_22, s162_23, s162_24, s162_25, s162_26, s162_27, s162_28, s162_29, ↓reduceIte, Bool.true_eq_false, Bool.false_eq_true, ip_rfS, true_or, or_true, true_and, and_true, Option.toList_some, Option.toList_none, List.cons_append, List.nil_append, ip_fxn, ip_fxi, ip_fxr, ip_fxl, ip_wid, ip_n998, ip_lt900, iO0, iO1, iA2, iA3, iA4, iA5, iA6, iA7, iA8, iO9, iA10, iA11, iA12, iA13, iA14, iA15, iA16, iO17, iA18, iO19, iA20, iA21, iA22, iA23, iO24, iA25, iO26, iA27, iA28, iO29, iA30, iA31, iO32, iA33, iA34, iO35, iA36, iA37, iO38, iA39, iA40, iO41, iA42, iA43, iO44, iA45, iA46, iA47, iA48, iA49, iA50, iA51, iA52, iA53, iO54, iA55, iO56, iA57, iO58, iA59, iO60, iA61, iO62, iA63, iA64, iA65, iA66, iA67, iA68, iA69, iA70, iA71, iA72, iA73, iA74, iA75, iA76, iA77, iA78, iOT, iAT1, iAT2, iOS, iAS, g, q0, Int.reduceEq, decide_true, show k_n true = 1 from rfl, k2, k3, hv, z1, z2, not_true, not_false_eq_true, and_self, or_self, false_and, and_false, or_true, true_or, if_true, if_false]
        · by_cases z2 : ip_w v3 = 0
          · simp (disch := omega) only [s162_0, s162_1, s162_2, s162_4, s162_5, s162_6, s162_7, s162_8, s162_9, s162_10, s162_11, s162_12, s162_13, s162_14, s162_15, s162_16, s162_17, s162_18, s162_19, s162_20, s162_21, s162_22, s162_23, s162_24, s162_25, s162_26, s162_27, s162_28, s162_29, ↓reduceIte, Bool.true_eq_false, Bool.false_eq_true, ip_rfS, true_or, or_true, true_and, and_true, Option.toList_some, Option.toList_none, List.cons_append, List.nil_append, ip_fxn, ip_fxi, ip_fxr, ip_fxl, ip_wid, ip_n998, ip_lt900, iO0, iO1, iA2, iA3, iA4, iA5, iA6, iA7, iA8, iO9, iA10, iA11, iA12, iA13, iA14, iA15, iA16, iO17, iA18, iO19, iA20, iA21, iA22, iA23, iO24, iA25, iO26, iA27, iA28, iO29, iA30, iA31, iO32, iA33, iA34, iO35, iA36, iA37, iO38, iA39, iA40, iO41, iA42, iA43, iO44, iA45, iA46, iA47, iA48, iA49, iA50, iA51, iA52, iA53, iO54, iA55, iO56, iA57, iO58, iA59, iO60, iA61, iO62, iA63, iA64, iA65, iA66, iA67, iA68, iA69, iA70, iA71, iA72, iA73, iA74, iA75, iA76, iA77, iA78, iOT, iAT1, iAT2, iOS, iAS, g, q0, Int.reduceEq, decide_true, show k_n true = 1 from rfl, k2, k3, hv, z1, z2, not_true, not_false_eq_true, and_self, or_self, false_and, and_false, or_true, true_or, if_true, if_false]
          · simp (disch := omega) only [s162_0, s162_1, s162_2, s162_4, s162_5, s162_6, s162_7, s162_8, s162_9, s162_10, s162_11, s162_12, s162_13, s162_14, s162_15, s162_16, s162_17, s162_18, s162_19, s162_20, s162_21, s162_22, s162_23, s162_24, s162_25, s162_26, s162_27, s162_28, s162_29, ↓reduceIte, Bool.true_eq_false, Bool.false_eq_true, ip_rfS, true_or, or_true, true_and, and_true, Option.toList_some, Option.toList_none, List.cons_append, List.nil_append, ip_fxn, ip_fxi, ip_fxr, ip_fxl, ip_wid, ip_n998, ip_lt900, iO0, iO1, iA2, iA3, iA4, iA5, iA6, iA7, iA8, iO9, iA10, iA11, iA12, iA13, iA14, iA15, iA16, iO17, iA18, iO19, iA20, iA21, iA22, iA23, iO24, iA25, iO26, iA27, iA28, iO29, iA30, iA31, iO32, iA33, iA34, iO35, iA36, iA37, iO38, iA39, iA40, iO41, iA42, iA43, iO44, iA45, iA46, iA47, iA48, iA49, iA50, iA51, iA52, iA53, iO54, iA55, iO56, iA57, iO58, iA59, iO60, iA61, iO62, iA63, iA64, iA65, iA66, iA67, iA68, iA69, iA70, iA71, iA72, iA73, iA74, iA75, iA76, iA77, iA78, iOT, iAT1, iAT2, iOS, iAS, g, q0, Int.reduceEq, decide_true, show k_n true = 1 from rfl, k2, k3, hv, z1, z2, not_true, not_false_eq_true, and_self, or_self, false_and, and_false, or_true, true_or, if_true, if_false]
      cases ft
      · obtain ⟨b1, b2⟩ := r2 rfl
        have hL0 : x_loop T la (x_is 4) (fun _ => -26) f0 f false jn = (false, jn, []) := by cases f <;> simp [x_loop]
        rw [hL0]
        refine ⟨⟨by dsimp only; omega, i2⟩, (if ¬ v = 0 ∧ ¬ ip_w v3 = 0 then 1 else 0), h3, t3, a3, w3, bd3, fl3, ⟨fun z => (by cases z), fun _ => ⟨b1, b2⟩⟩, fun Q => ?_⟩
        obtain ⟨v5, e5, k5⟩ := step Q
        subst b1
        rw [k5, s162_3, e5]
        simp (disch := omega) only [s162_0, s162_1, s162_2, s162_4, s162_5, s162_6, s162_7, s162_8, s162_9, s162_10, s162_11, s162_12, s162_13, s162_14, s162_15, s162_16, s162_17, s162_18, s162_19, s162_20, s162_21, s162_22, s162_23, s162_24, s162_25, s162_26, s162_27, s162_28, s162_29, ↓reduceIte, Bool.true_eq_false, Bool.false_eq_true, ip_rfS, true_or, or_true, true_and, and_true, Option.toList_some, Option.toList_none, List.cons_append, List.nil_append, ip_fxn, ip_fxi, ip_fxr, ip_fxl, ip_wid, ip_n998, ip_lt900, iO0, iO1, iA2, iA3, iA4, iA5, iA6, iA7, iA8, iO9, iA10, iA11, iA12, iA13, iA14, iA15, iA16, iO17, iA18, iO19, iA20, iA21, iA22, iA23, iO24, iA25, iO26, iA27, iA28, iO29, iA30, iA31, iO32, iA33, iA34, iO35, iA36, iA37, iO38, iA39, iA40, iO41, iA42, iA43, iO44, iA45, iA46, iA47, iA48, iA49, iA50, iA51, iA52, iA53, iO54, iA55, iO56, iA57, iO58, iA59, iO60, iA61, iO62, iA63, iA64, iA65, iA66, iA67, iA68, iA69, iA70, iA71, iA72, iA73, iA74, iA75, iA76, iA77, iA78, iOT, iAT1, iAT2, iOS, iAS, q140b]
      · obtain ⟨b1, J3, vw, vv⟩ := r1 rfl
        subst b1
        have hev : v_jn (-26) v v3 = (if ¬ v = 0 ∧ ¬ ip_w v3 = 0 then 1 else 0) := by
          rw [vw]
          simp only [v_jn, Int.reduceEq, Int.reduceNeg, if_true, if_false]
        obtain ⟨⟨e1, e2⟩, v4, h4, t4, a4, w4, bd4, fl4, res, k4⟩ := y162l hM hC hs f jn h3 t3 a3 w3 fl3 (v_jn (-26) v v3) (O ++ (on ++ [-26])) (some (vi v3)) (by omega) i2 (by have := i3 rfl; omega) J3 v_jnw (y_val2 hO vv (by omega))
        rw [hev] at k4
        rw [List.append_assoc, List.append_assoc, List.singleton_append] at res
        refine ⟨⟨by omega, e2⟩, v4, h4, t4, a4, w4, bd4, fl4, res, fun Q => ?_⟩
        obtain ⟨v5, e5, k5⟩ := step Q
        rw [k5, e5, k4 Q]
    · have hL : x_loop T la (x_is 4) (fun _ => -26) f0 (f + 1) true j = (true, j, []) := by
        rw [x_loop, if_neg (by simp [x_is, x_pm, q0])]
      rw [hL]
      refine ⟨⟨Int.le_refl _, hj2⟩, v, h, t, a, w, 0, fl, ⟨fun _ => ⟨rfl, J, hv, by rw [List.append_nil]; exact hO⟩, fun z => (by cases z)⟩, fun Q => ?_⟩
      rw [s162_3]
      simp (disch := omega) only [s162_0, s162_1, s162_2, s162_4, s162_5, s162_6, s162_7, s162_8, s162_9, s162_10, s162_11, s162_12, s162_13, s162_14, s162_15, s162_16, s162_17, s162_18, s162_19, s162_20, s162_21, s162_22, s162_23, s162_24, s162_25, s162_26, s162_27, s162_28, s162_29, ↓reduceIte, Bool.true_eq_false, Bool.false_eq_true, ip_rfS, true_or, or_true, true_and, and_true, Option.toList_some, Option.toList_none, List.cons_append, List.nil_append, ip_fxn, ip_fxi, ip_fxr, ip_fxl, ip_wid, ip_n998, ip_lt900, iO0, iO1, iA2, iA3, iA4, iA5, iA6, iA7, iA8, iO9, iA10, iA11, iA12, iA13, iA14, iA15, iA16, iO17, iA18, iO19, iA20, iA21, iA22, iA23, iO24, iA25, iO26, iA27, iA28, iO29, iA30, iA31, iO32, iA33, iA34, iO35, iA36, iA37, iO38, iA39, iA40, iO41, iA42, iA43, iO44, iA45, iA46, iA47, iA48, iA49, iA50, iA51, iA52, iA53, iO54, iA55, iO56, iA57, iO58, iA59, iO60, iA61, iO62, iA63, iA64, iA65, iA66, iA67, iA68, iA69, iA70, iA71, iA72, iA73, iA74, iA75, iA76, iA77, iA78, iOT, iAT1, iAT2, iOS, iAS, g, q0, decide_false, show k_n false = 0 from rfl]
theorem y162 {f0 : Int → x_PR} (hM : x_RM R) (hC : y_C S b sz T P N la) (hs : y_ok S R L b sz T P N la (d + 3) 152 op f0) : y_ok S R L b sz T P N la (d + 4) 162 op (x_rep T la (x_is 4) (fun _ => -26) f0) := by
  intro j h t a w fl hj hj2 J
  obtain ⟨⟨i1, i2, i3⟩, v3, h3, t3, a3, w3, bd3, fl3, ⟨r1, r2⟩, k3⟩ := hs j h t a w fl hj hj2 J
  have hla := hC.2.1.2.1
  have hsz := hC.1.2.2.1
  unfold x_rep
  generalize f0 j = r at *
  obtain ⟨ft, jn, on⟩ := r
  dsimp only at *
  cases ft
  · obtain ⟨b1, b2⟩ := r2 rfl
    subst b1
    have hL0 : x_loop T la (x_is 4) (fun _ => -26) f0 160 false jn = (false, jn, []) := by simp [x_loop]
    rw [hL0]
    refine ⟨⟨i1, i2, fun z => (by cases z)⟩, v3, h3, t3, a3, w3, 1, fl3, ⟨fun z => (by cases z), fun _ => ⟨rfl, b2⟩⟩, fun Q => ?_⟩
    simp (disch := omega) only [c162, s162_0, s162_1, s162_2, s162_3, s162_4, s162_5, s162_6, s162_7, s162_8, s162_9, s162_10, s162_11, s162_12, s162_13, s162_14, s162_15, s162_16, s162_17, s162_18, s162_19, s162_20, s162_21, s162_22, s162_23, s162_24, s162_25, s162_26, s162_27, s162_28, s162_29, ↓reduceIte, Bool.true_eq_false, Bool.false_eq_true, ip_rfS, true_or, or_true, true_and, and_true, Option.toList_some, Option.toList_none, List.cons_append, List.nil_append, ip_fxn, ip_fxi, ip_fxr, ip_fxl, ip_wid, ip_n998, ip_lt900, iO0, iO1, iA2, iA3, iA4, iA5, iA6, iA7, iA8, iO9, iA10, iA11, iA12, iA13, iA14, iA15, iA16, iO17, iA18, iO19, iA20, iA21, iA22, iA23, iO24, iA25, iO26, iA27, iA28, iO29, iA30, iA31, iO32, iA33, iA34, iO35, iA36, iA37, iO38, iA39, iA40, iO41, iA42, iA43, iO44, iA45, iA46, iA47, iA48, iA49, iA50, iA51, iA52, iA53, iO54, iA55, iO56, iA57, iO58, iA59, iO60, iA61, iO62, iA63, iA64, iA65, iA66, iA67, iA68, iA69, iA70, iA71, iA72, iA73, iA74, iA75, iA76, iA77, iA78, iOT, iAT1, iAT2, iOS, iAS, k3, q140b]
  · obtain ⟨b1, J3, vw, vv⟩ := r1 rfl
    subst b1
    have h3j := i3 rfl
    obtain ⟨⟨e1, e2⟩, v4, h4, t4, a4, w4, bd4, fl4, res, k4⟩ := y162l (d := d) hM hC hs 160 jn h3 t3 a3 w3 fl3 v3 on none (by omega) i2 (by omega) J3 vw vv
    refine ⟨⟨by dsimp only; omega, e2, fun _ => by dsimp only; omega⟩, v4, h4, t4, a4, w4, bd4, fl4, res, fun Q => ?_⟩
    simp (disch := omega) only [c162, s162_0, s162_1, s162_2, ↓reduceIte, Bool.true_eq_false, Bool.false_eq_true, ip_rfS, true_or, or_true, true_and, and_true, Option.toList_some, Option.toList_none, List.cons_append, List.nil_append, ip_fxn, ip_fxi, ip_fxr, ip_fxl, ip_wid, ip_n998, ip_lt900, iO0, iO1, iA2, iA3, iA4, iA5, iA6, iA7, iA8, iO9, iA10, iA11, iA12, iA13, iA14, iA15, iA16, iO17, iA18, iO19, iA20, iA21, iA22, iA23, iO24, iA25, iO26, iA27, iA28, iO29, iA30, iA31, iO32, iA33, iA34, iO35, iA36, iA37, iO38, iA39, iA40, iO41, iA42, iA43, iO44, iA45, iA46, iA47, iA48, iA49, iA50, iA51, iA52, iA53, iO54, iA55, iO56, iA57, iO58, iA59, iO60, iA61, iO62, iA63, iA64, iA65, iA66, iA67, iA68, iA69, iA70, iA71, iA72, iA73, iA74, iA75, iA76, iA77, iA78, iOT, iAT1, iAT2, iOS, iAS, k3, k4]

theorem y161l {f0 : Int → x_PR} (hM : x_RM R) (hC : y_C S b sz T P N la) (hs : y_ok S R L b sz T P N la (d + 3) 162 op f0) : ∀ (f : Nat) (j h t a w fl v : Int) (O : List Int) (l2 : Option Value), 0 ≤ j → j ≤ la → la + 1 ≤ j + f → y_J b sz T P N la j h t a w → ip_w v = v → y_val (y_nam S) O v →
    (j ≤ (x_loop T la (x_is 3) (fun _ => -27) f0 f true j).2.1 ∧ (x_loop T la (x_is 3) (fun _ => -27) f0 f true j).2.1 ≤ la) ∧ ∃ v' h' t' a' w' bd' fl', y_res S b sz T P N la ((x_loop T la (x_is 3) (fun _ => -27) f0 f true j).1, (x_loop T la (x_is 3) (fun _ => -27) f0 f true j).2.1, O ++ (x_loop T la (x_is 3) (fun _ => -27) f0 f true j).2.2) v' h' t' a' w' bd' fl' ∧
      ∀ Q, ip_wp (d + 3) 161 3 [some (.ref 62), some (vi v), l2] [] 79 (y_P S h t a op 0 fl) R (ip_up L 62 24 w) Q = Q (some (vi v')) 79 (y_P S h' t' a' op bd' fl') R (ip_up L 62 24 w')
  | 0, j, h, t, a, w, fl, v, O, l2, hj, hj2, hf, J, hv, hO => by omega
  | f + 1, j, h, t, a, w, fl, v, O, l2, hj, hj2, hf, J, hv, hO => by
    have g := fun Q' => q140 (d := d) (op := op) (fl := fl) (L' := ip_up L 62 24 w) (Q := Q') 3 (by omega) (ki := 3) rfl yW3 hM hC hj J (by omega) (by omega) (by omega) (by omega) (by omega) (by omega) (by omega) (by omega)
    by_cases q0 : T j = 3
    · obtain ⟨n1, n2, h2, t2, a2, w2, J2, k2⟩ := q138 (d := d) (L := L) hM hC hj J (by omega) (by omega)
      obtain ⟨⟨i1, i2, i3⟩, v3, h3, t3, a3, w3, bd3, fl3, ⟨r1, r2⟩, k3⟩ := hs (j + 1) h2 t2 a2 w2 fl (by omega) (by omega) J2
      have hL : x_loop T la (x_is 3) (fun _ => -27) f0 (f + 1) true j = ((x_loop T la (x_is 3) (fun _ => -27) f0 f (f0 (j + 1)).1 (f0 (j + 1)).2.1).1, (x_loop T la (x_is 3) (fun _ => -27) f0 f (f0 (j + 1)).1 (f0 (j + 1)).2.1).2.1, (f0 (j + 1)).2.2 ++ -27 :: (x_loop T la (x_is 3) (fun _ => -27) f0 f (f0 (j + 1)).1 (f0 (j + 1)).2.1).2.2) := by
        rw [x_loop, if_pos (by simp [x_is, x_pm, q0]), n2]
        try simp only [x_pmc, q0, Int.reduceEq, if_true, if_false]
      rw [hL]
      generalize f0 (j + 1) = r at *
      obtain ⟨ft, jn, on⟩ := r
      dsimp only at *
      have step : ∀ Q, ∃ v5 : Int, v5 = (if ¬ v = 0 ∨ ¬ ip_w v3 = 0 then 1 else 0) ∧ ip_wp (d + 3) 161 3 [some (.ref 62), some (vi v), l2] [] 79 (y_P S h t a op 0 fl) R (ip_up L 62 24 w) Q = ip_wp (d + 3) 161 3 [some (.ref 62), some (vi v5), some (vi v3)] [] 79 (y_P S h3 t3 a3 op bd3 fl3) R (ip_up L 62 24 w3) Q := fun Q => by
        refine ⟨_, rfl, ?_⟩
        rw [s161_3]
        by_cases z1 : v = 0
        · by_cases z2 : ip_w v3 = 0
          · simp (disch := omega) only [s161_0, s161_1, s161_2, s161_4, s161_5, s161_6, s161_7, s161_8, s161_9, s161_10, s161_11, s161_12, s161_13, s161_14, s161_15, s161_16, s161_17, s161_18, s161_19, s161_20, s161_21, s161_22, s161_23, s161_24, s161_25, s161_26, s161_27, s161_28, s161_29, ↓reduceIte, Bool.true_eq_false, Bool.false_eq_true, ip_rfS, true_or, or_true, true_and, and_true, Option.toList_some, Option.toList_none, List.cons_append, List.nil_append, ip_fxn, ip_fxi, ip_fxr, ip_fxl, ip_wid, ip_n998, ip_lt900, iO0, iO1, iA2, iA3, iA4, iA5, iA6, iA7, iA8, iO9, iA10, iA11, iA12, iA13, iA14, iA15, iA16, iO17, iA18, iO19, iA20, iA21, iA22, iA23, iO24, iA25, iO26, iA27, iA28, iO29, iA30, iA31, iO32, iA33, iA34, iO35, iA36, iA37, iO38, iA39, iA40, iO41, iA42, iA43, iO44, iA45, iA46, iA47, iA48, iA49, iA50, iA51, iA52, iA53, iO54, iA55, iO56, iA57, iO58, iA59, iO60, iA61, iO62, iA63, iA64, iA65, iA66, iA67, iA68, iA69, iA70, iA71, iA72, iA73, iA74, iA75, iA76, iA77, iA78, iOT, iAT1, iAT2, iOS, iAS, g, q0, Int.reduceEq, decide_true, show k_n true = 1 from rfl, k2, k3, hv, z1, z2, not_true, not_false_eq_true, and_self, or_self, false_and, and_false, or_true, true_or, if_true, if_false]
          · simp (disch := omega) only [s161_0, s161_1, s161_2, s161_4, s161_5, s161_6, s161_7, s161_8, s161_9, s161_10, s161_11, s161_12, s161_13, s161_14, s161_15, s161_16, s161_17, s161_18, s161_19, s161_20, s161_21, s161_22, s161_23, s161_24, s161_25, s161_26, s161_27, s161_28, s161_29, ↓reduceIte, Bool.true_eq_false, Bool.false_eq_true, ip_rfS, true_or, or_true, true_and, and_true, Option.toList_some, Option.toList_none, List.cons_append, List.nil_append, ip_fxn, ip_fxi, ip_fxr, ip_fxl, ip_wid, ip_n998, ip_lt900, iO0, iO1, iA2, iA3, iA4, iA5, iA6, iA7, iA8, iO9, iA10, iA11, iA12, iA13, iA14, iA15, iA16, iO17, iA18, iO19, iA20, iA21, iA22, iA23, iO24, iA25, iO26, iA27, iA28, iO29, iA30, iA31, iO32, iA33, iA34, iO35, iA36, iA37, iO38, iA39, iA40, iO41, iA42, iA43, iO44, iA45, iA46, iA47, iA48, iA49, iA50, iA51, iA52, iA53, iO54, iA55, iO56, iA57, iO58, iA59, iO60, iA61, iO62, iA63, iA64, iA65, iA66, iA67, iA68, iA69, iA70, iA71, iA72, iA73, iA74, iA75, iA76, iA77, iA78, iOT, iAT1, iAT2, iOS, iAS, g, q0, Int.reduceEq, decide_true, show k_n true = 1 from rfl, k2, k3, hv, z1, z2, not_true, not_false_eq_true, and_self, or_self, false_and, and_false, or_true, true_or, if_true, if_false]
        · by_cases z2 : ip_w v3 = 0
          · simp (disch := omega) only [s161_0, s161_1, s161_2, s161_4, s161_5, s161_6, s161_7, s161_8, s161_9, s161_10, s161_11, s161_12, s161_13, s161_14, s161_15, s161_16, s161_17, s161_18, s161_19, s161_20, s161_21, s161_22, s161_23, s161_24, s161_25, s161_26, s161_27, s161_28, s161_29, ↓reduceIte, Bool.true_eq_false, Bool.false_eq_true, ip_rfS, true_or, or_true, true_and, and_true, Option.toList_some, Option.toList_none, List.cons_append, List.nil_append, ip_fxn, ip_fxi, ip_fxr, ip_fxl, ip_wid, ip_n998, ip_lt900, iO0, iO1, iA2, iA3, iA4, iA5, iA6, iA7, iA8, iO9, iA10, iA11, iA12, iA13, iA14, iA15, iA16, iO17, iA18, iO19, iA20, iA21, iA22, iA23, iO24, iA25, iO26, iA27, iA28, iO29, iA30, iA31, iO32, iA33, iA34, iO35, iA36, iA37, iO38, iA39, iA40, iO41, iA42, iA43, iO44, iA45, iA46, iA47, iA48, iA49, iA50, iA51, iA52, iA53, iO54, iA55, iO56, iA57, iO58, iA59, iO60, iA61, iO62, iA63, iA64, iA65, iA66, iA67, iA68, iA69, iA70, iA71, iA72, iA73, iA74, iA75, iA76, iA77, iA78, iOT, iAT1, iAT2, iOS, iAS, g, q0, Int.reduceEq, decide_true, show k_n true = 1 from rfl, k2, k3, hv, z1, z2, not_true, not_false_eq_true, and_self, or_self, false_and, and_false, or_true, true_or, if_true, if_false]
          · simp (disch := omega) only [s161_0, s161_1, s161_2, s161_4, s161_5, s161_6, s161_7, s161_8, s161_9, s161_10, s161_11, s161_12, s161_13, s161_14, s161_15, s161_16, s161_17, s161_18, s161_19, s161_20, s161_21, s161_22, s161_23, s161_24, s161_25, s161_26, s161_27, s161_28, s161_29, ↓reduceIte, Bool.true_eq_false, Bool.false_eq_true, ip_rfS, true_or, or_true, true_and, and_true, Option.toList_some, Option.toList_none, List.cons_append, List.nil_append, ip_fxn, ip_fxi, ip_fxr, ip_fxl, ip_wid, ip_n998, ip_lt900, iO0, iO1, iA2, iA3, iA4, iA5, iA6, iA7, iA8, iO9, iA10, iA11, iA12, iA13, iA14, iA15, iA16, iO17, iA18, iO19, iA20, iA21, iA22, iA23, iO24, iA25, iO26, iA27, iA28, iO29, iA30, iA31, iO32, iA33, iA34, iO35, iA36, iA37, iO38, iA39, iA40, iO41, iA42, iA43, iO44, iA45, iA46, iA47, iA48, iA49, iA50, iA51, iA52, iA53, iO54, iA55, iO56, iA57, iO58, iA59, iO60, iA61, iO62, iA63, iA64, iA65, iA66, iA67, iA68, iA69, iA70, iA71, iA72, iA73, iA74, iA75, iA76, iA77, iA78, iOT, iAT1, iAT2, iOS, iAS, g, q0, Int.reduceEq, decide_true, show k_n true = 1 from rfl, k2, k3, hv, z1, z2, not_true, not_false_eq_true, and_self, or_self, false_and, and_false, or_true, true_or, if_true, if_false]
      cases ft
      · obtain ⟨b1, b2⟩ := r2 rfl
        have hL0 : x_loop T la (x_is 3) (fun _ => -27) f0 f false jn = (false, jn, []) := by cases f <;> simp [x_loop]
        rw [hL0]
        refine ⟨⟨by dsimp only; omega, i2⟩, (if ¬ v = 0 ∨ ¬ ip_w v3 = 0 then 1 else 0), h3, t3, a3, w3, bd3, fl3, ⟨fun z => (by cases z), fun _ => ⟨b1, b2⟩⟩, fun Q => ?_⟩
        obtain ⟨v5, e5, k5⟩ := step Q
        subst b1
        rw [k5, s161_3, e5]
        simp (disch := omega) only [s161_0, s161_1, s161_2, s161_4, s161_5, s161_6, s161_7, s161_8, s161_9, s161_10, s161_11, s161_12, s161_13, s161_14, s161_15, s161_16, s161_17, s161_18, s161_19, s161_20, s161_21, s161_22, s161_23, s161_24, s161_25, s161_26, s161_27, s161_28, s161_29, ↓reduceIte, Bool.true_eq_false, Bool.false_eq_true, ip_rfS, true_or, or_true, true_and, and_true, Option.toList_some, Option.toList_none, List.cons_append, List.nil_append, ip_fxn, ip_fxi, ip_fxr, ip_fxl, ip_wid, ip_n998, ip_lt900, iO0, iO1, iA2, iA3, iA4, iA5, iA6, iA7, iA8, iO9, iA10, iA11, iA12, iA13, iA14, iA15, iA16, iO17, iA18, iO19, iA20, iA21, iA22, iA23, iO24, iA25, iO26, iA27, iA28, iO29, iA30, iA31, iO32, iA33, iA34, iO35, iA36, iA37, iO38, iA39, iA40, iO41, iA42, iA43, iO44, iA45, iA46, iA47, iA48, iA49, iA50, iA51, iA52, iA53, iO54, iA55, iO56, iA57, iO58, iA59, iO60, iA61, iO62, iA63, iA64, iA65, iA66, iA67, iA68, iA69, iA70, iA71, iA72, iA73, iA74, iA75, iA76, iA77, iA78, iOT, iAT1, iAT2, iOS, iAS, q140b]
      · obtain ⟨b1, J3, vw, vv⟩ := r1 rfl
        subst b1
        have hev : v_jn (-27) v v3 = (if ¬ v = 0 ∨ ¬ ip_w v3 = 0 then 1 else 0) := by
          rw [vw]
          simp only [v_jn, Int.reduceEq, Int.reduceNeg, if_true, if_false]
        obtain ⟨⟨e1, e2⟩, v4, h4, t4, a4, w4, bd4, fl4, res, k4⟩ := y161l hM hC hs f jn h3 t3 a3 w3 fl3 (v_jn (-27) v v3) (O ++ (on ++ [-27])) (some (vi v3)) (by omega) i2 (by have := i3 rfl; omega) J3 v_jnw (y_val2 hO vv (by omega))
        rw [hev] at k4
        rw [List.append_assoc, List.append_assoc, List.singleton_append] at res
        refine ⟨⟨by omega, e2⟩, v4, h4, t4, a4, w4, bd4, fl4, res, fun Q => ?_⟩
        obtain ⟨v5, e5, k5⟩ := step Q
        rw [k5, e5, k4 Q]
    · have hL : x_loop T la (x_is 3) (fun _ => -27) f0 (f + 1) true j = (true, j, []) := by
        rw [x_loop, if_neg (by simp [x_is, x_pm, q0])]
      rw [hL]
      refine ⟨⟨Int.le_refl _, hj2⟩, v, h, t, a, w, 0, fl, ⟨fun _ => ⟨rfl, J, hv, by rw [List.append_nil]; exact hO⟩, fun z => (by cases z)⟩, fun Q => ?_⟩
      rw [s161_3]
      simp (disch := omega) only [s161_0, s161_1, s161_2, s161_4, s161_5, s161_6, s161_7, s161_8, s161_9, s161_10, s161_11, s161_12, s161_13, s161_14, s161_15, s161_16, s161_17, s161_18, s161_19, s161_20, s161_21, s161_22, s161_23, s161_24, s161_25, s161_26, s161_27, s161_28, s161_29, ↓reduceIte, Bool.true_eq_false, Bool.false_eq_true, ip_rfS, true_or, or_true, true_and, and_true, Option.toList_some, Option.toList_none, List.cons_append, List.nil_append, ip_fxn, ip_fxi, ip_fxr, ip_fxl, ip_wid, ip_n998, ip_lt900, iO0, iO1, iA2, iA3, iA4, iA5, iA6, iA7, iA8, iO9, iA10, iA11, iA12, iA13, iA14, iA15, iA16, iO17, iA18, iO19, iA20, iA21, iA22, iA23, iO24, iA25, iO26, iA27, iA28, iO29, iA30, iA31, iO32, iA33, iA34, iO35, iA36, iA37, iO38, iA39, iA40, iO41, iA42, iA43, iO44, iA45, iA46, iA47, iA48, iA49, iA50, iA51, iA52, iA53, iO54, iA55, iO56, iA57, iO58, iA59, iO60, iA61, iO62, iA63, iA64, iA65, iA66, iA67, iA68, iA69, iA70, iA71, iA72, iA73, iA74, iA75, iA76, iA77, iA78, iOT, iAT1, iAT2, iOS, iAS, g, q0, decide_false, show k_n false = 0 from rfl]
theorem y161 {f0 : Int → x_PR} (hM : x_RM R) (hC : y_C S b sz T P N la) (hs : y_ok S R L b sz T P N la (d + 3) 162 op f0) : y_ok S R L b sz T P N la (d + 4) 161 op (x_rep T la (x_is 3) (fun _ => -27) f0) := by
  intro j h t a w fl hj hj2 J
  obtain ⟨⟨i1, i2, i3⟩, v3, h3, t3, a3, w3, bd3, fl3, ⟨r1, r2⟩, k3⟩ := hs j h t a w fl hj hj2 J
  have hla := hC.2.1.2.1
  have hsz := hC.1.2.2.1
  unfold x_rep
  generalize f0 j = r at *
  obtain ⟨ft, jn, on⟩ := r
  dsimp only at *
  cases ft
  · obtain ⟨b1, b2⟩ := r2 rfl
    subst b1
    have hL0 : x_loop T la (x_is 3) (fun _ => -27) f0 160 false jn = (false, jn, []) := by simp [x_loop]
    rw [hL0]
    refine ⟨⟨i1, i2, fun z => (by cases z)⟩, v3, h3, t3, a3, w3, 1, fl3, ⟨fun z => (by cases z), fun _ => ⟨rfl, b2⟩⟩, fun Q => ?_⟩
    simp (disch := omega) only [c161, s161_0, s161_1, s161_2, s161_3, s161_4, s161_5, s161_6, s161_7, s161_8, s161_9, s161_10, s161_11, s161_12, s161_13, s161_14, s161_15, s161_16, s161_17, s161_18, s161_19, s161_20, s161_21, s161_22, s161_23, s161_24, s161_25, s161_26, s161_27, s161_28, s161_29, ↓reduceIte, Bool.true_eq_false, Bool.false_eq_true, ip_rfS, true_or, or_true, true_and, and_true, Option.toList_some, Option.toList_none, List.cons_append, List.nil_append, ip_fxn, ip_fxi, ip_fxr, ip_fxl, ip_wid, ip_n998, ip_lt900, iO0, iO1, iA2, iA3, iA4, iA5, iA6, iA7, iA8, iO9, iA10, iA11, iA12, iA13, iA14, iA15, iA16, iO17, iA18, iO19, iA20, iA21, iA22, iA23, iO24, iA25, iO26, iA27, iA28, iO29, iA30, iA31, iO32, iA33, iA34, iO35, iA36, iA37, iO38, iA39, iA40, iO41, iA42, iA43, iO44, iA45, iA46, iA47, iA48, iA49, iA50, iA51, iA52, iA53, iO54, iA55, iO56, iA57, iO58, iA59, iO60, iA61, iO62, iA63, iA64, iA65, iA66, iA67, iA68, iA69, iA70, iA71, iA72, iA73, iA74, iA75, iA76, iA77, iA78, iOT, iAT1, iAT2, iOS, iAS, k3, q140b]
  · obtain ⟨b1, J3, vw, vv⟩ := r1 rfl
    subst b1
    have h3j := i3 rfl
    obtain ⟨⟨e1, e2⟩, v4, h4, t4, a4, w4, bd4, fl4, res, k4⟩ := y161l (d := d) hM hC hs 160 jn h3 t3 a3 w3 fl3 v3 on none (by omega) i2 (by omega) J3 vw vv
    refine ⟨⟨by dsimp only; omega, e2, fun _ => by dsimp only; omega⟩, v4, h4, t4, a4, w4, bd4, fl4, res, fun Q => ?_⟩
    simp (disch := omega) only [c161, s161_0, s161_1, s161_2, ↓reduceIte, Bool.true_eq_false, Bool.false_eq_true, ip_rfS, true_or, or_true, true_and, and_true, Option.toList_some, Option.toList_none, List.cons_append, List.nil_append, ip_fxn, ip_fxi, ip_fxr, ip_fxl, ip_wid, ip_n998, ip_lt900, iO0, iO1, iA2, iA3, iA4, iA5, iA6, iA7, iA8, iO9, iA10, iA11, iA12, iA13, iA14, iA15, iA16, iO17, iA18, iO19, iA20, iA21, iA22, iA23, iO24, iA25, iO26, iA27, iA28, iO29, iA30, iA31, iO32, iA33, iA34, iO35, iA36, iA37, iO38, iA39, iA40, iO41, iA42, iA43, iO44, iA45, iA46, iA47, iA48, iA49, iA50, iA51, iA52, iA53, iO54, iA55, iO56, iA57, iO58, iA59, iO60, iA61, iO62, iA63, iA64, iA65, iA66, iA67, iA68, iA69, iA70, iA71, iA72, iA73, iA74, iA75, iA76, iA77, iA78, iOT, iAT1, iAT2, iOS, iAS, k3, k4]

end LVL
