/-! level 4 -/
section LV4
variable {d : Nat} {S : ip_S} {R : ip_R} {L : ip_S} {b : Int → Int} {sz : Int} {T P N : Int → Int} {la j h t a w op bd fl : Int}
theorem y160 {one ee : Int → x_PR} (ho : 0 ≤ op ∧ op < 5) (hM : x_RM R) (hC : y_C S b sz T P N la) (hs : y_ok S R L b sz T P N la (d + 5) 155 (op + 1) one) (he : y_ok S R L b sz T P N la (d + 5) 161 (op + 1) ee) : y_ok S R L b sz T P N la (d + 6) 160 op (x_one T N la (x_opn T la one ee)) := by
  intro j h t a w fl hj hj2 J
  have hla := hC.2.1.2.1
  have hsz := hC.1.2.2.1
  have hjr := J.2.1
  have htr := y_Jt J
  have g1 := fun Q' => q156 (d := d + 4) (S := S) (R := R) (L := L) (op := op) (fl := fl) (Q := Q') J (s := 45) (by omega)
  have g2 := fun Q' => q156 (d := d + 4) (S := S) (R := R) (L := L) (op := op) (fl := fl) (Q := Q') J (s := 40) (by omega)
  have kt : k_n true = 1 := rfl
  have kf : k_n false = 0 := rfl
  by_cases q1 : T j = 20
  · have hL : x_one T N la (x_opn T la one ee) j = (true, j + 1, [N j]) := by
      obtain ⟨n1, n2, -⟩ := q138 (d := d) (L := L) hM hC hj J (by omega) (by omega)
      rw [x_one, if_pos q1, n2]
    obtain ⟨n1, n2, h2, t2, a2, w2, J2, k2⟩ := q138 (d := d + 2) (L := L) hM hC hj J (by omega) (by omega)
    rw [hL]
    have e : t = 2 ∧ w = N j ∧ ip_w w = w ∧ 0 ≤ w := by
      obtain ⟨-, -, J⟩ := J
      rcases J with J | J | J | J | J
      all_goals first | omega | exact ⟨J.2.2.1, J.2.2.2.1, J.2.2.2.2.1, J.2.2.2.2.2.1⟩
    obtain ⟨et, e⟩ := e
    subst et
    have e64 : ip_w64 w = w := by
      have hz := ip_wrange w
      rw [e.2.1] at hz
      exact ip_w64id (by omega) (by omega)
    refine ⟨⟨by dsimp only; omega, by dsimp only; omega, fun _ => by dsimp only; omega⟩, w, h2, t2, a2, w2, 0, fl, ⟨fun _ => ⟨rfl, J2, e.2.1, ?_⟩, fun z => (by cases z)⟩, fun Q => ?_⟩
    · have := y_val0 (F := y_nam S) (c := w) (by omega)
      rw [if_pos e.2.2] at this
      rw [← e.1]
      exact this
    · simp (disch := omega) only [c160, s160_0, s160_1, s160_2, s160_3, s160_4, s160_5, s160_6, s160_7, s160_8, s160_9, s160_10, s160_11, s160_12, s160_13, s160_14, s160_15, s160_16, s160_17, s160_18, s160_19, s160_20, s160_21, s160_22, s160_23, s160_24, s160_25, s160_26, s160_27, s160_28, s160_29, s160_30, s160_31, s160_32, s160_33, s160_34, s160_35, s160_36, s160_37, s160_38, s160_39, s160_40, s160_41, s160_42, s160_43, s160_44, s160_45, s160_46, s160_47, s160_48, s160_49, s160_50, s160_51, s160_52, s160_53, s160_54, s160_55, s160_56, s160_57, s160_58, s160_59, s160_60, s160_61, s160_62, s160_63, s160_64, s160_65, s160_66, s160_67, s160_68, s160_69, s160_70, s160_71, s160_72, s160_73, s160_74, s160_75, s160_76, s160_77, s160_78, s160_79, s160_80, s160_81, ↓reduceIte, Bool.true_eq_false, Bool.false_eq_true, ip_rfS, true_or, or_true, true_and, and_true, Option.toList_some, Option.toList_none, List.cons_append, List.nil_append, ip_fxn, ip_fxi, ip_fxr, ip_fxl, ip_wid, ip_n998, ip_lt900, iO0, iO1, iA2, iA3, iA4, iA5, iA6, iA7, iA8, iO9, iA10, iA11, iA12, iA13, iA14, iA15, iA16, iO17, iA18, iO19, iA20, iA21, iA22, iA23, iO24, iA25, iO26, iA27, iA28, iO29, iA30, iA31, iO32, iA33, iA34, iO35, iA36, iA37, iO38, iA39, iA40, iO41, iA42, iA43, iO44, iA45, iA46, iA47, iA48, iA49, iA50, iA51, iA52, iA53, iO54, iA55, iO56, iA57, iO58, iA59, iO60, iA61, iO62, iA63, iA64, iA65, iA66, iA67, iA68, iA69, iA70, iA71, iA72, iA73, iA74, iA75, iA76, iA77, iA78, iOT, iAT1, iAT2, iOS, iAS, g1, g2, show ¬ T j = 45 by omega, show ¬ T j = 40 by omega, yp_d, yp_t, ip_up_at, e64, k2, Int.reduceEq, decide_true, decide_false, kt, kf]
  · by_cases q2 : 6 ≤ T j ∧ T j < 12
    · obtain ⟨n1, n2, h2, t2, a2, w2, J2, k2⟩ := q138 (d := d + 2) (L := L) hM hC hj J (by omega) (by omega)
      have hL : x_one T N la (x_opn T la one ee) j = (true, j + 1, [-1 - (T j - 6)]) := by rw [x_one, if_neg q1, if_pos q2, n2]
      rw [hL]
      have gn := fun Q' => q157 (d := d + 1) (op := op) (fl := fl) (L' := ip_up L 62 24 w) (Q := Q') hM hC hj J q2
      have e : t = 1 := by
        obtain ⟨-, -, J⟩ := J
        rcases J with J | J | J | J | J
        all_goals first | omega | exact J.2.2.1
      subst e
      refine ⟨⟨by dsimp only; omega, by dsimp only; omega, fun _ => by dsimp only; omega⟩, y_nam S (T j - 6), h2, t2, a2, w2, 0, fl, ⟨fun _ => ⟨rfl, J2, ip_ww _, ?_⟩, fun z => (by cases z)⟩, fun Q => ?_⟩
      · have := y_val0 (F := y_nam S) (c := -1 - (T j - 6)) (by omega)
        rw [if_neg (by omega), show -1 - (-1 - (T j - 6)) = T j - 6 by omega] at this
        exact this
      · simp (disch := omega) only [c160, s160_0, s160_1, s160_2, s160_3, s160_4, s160_5, s160_6, s160_7, s160_8, s160_9, s160_10, s160_11, s160_12, s160_13, s160_14, s160_15, s160_16, s160_17, s160_18, s160_19, s160_20, s160_21, s160_22, s160_23, s160_24, s160_25, s160_26, s160_27, s160_28, s160_29, s160_30, s160_31, s160_32, s160_33, s160_34, s160_35, s160_36, s160_37, s160_38, s160_39, s160_40, s160_41, s160_42, s160_43, s160_44, s160_45, s160_46, s160_47, s160_48, s160_49, s160_50, s160_51, s160_52, s160_53, s160_54, s160_55, s160_56, s160_57, s160_58, s160_59, s160_60, s160_61, s160_62, s160_63, s160_64, s160_65, s160_66, s160_67, s160_68, s160_69, s160_70, s160_71, s160_72, s160_73, s160_74, s160_75, s160_76, s160_77, s160_78, s160_79, s160_80, s160_81, ↓reduceIte, Bool.true_eq_false, Bool.false_eq_true, ip_rfS, true_or, or_true, true_and, and_true, Option.toList_some, Option.toList_none, List.cons_append, List.nil_append, ip_fxn, ip_fxi, ip_fxr, ip_fxl, ip_wid, ip_n998, ip_lt900, iO0, iO1, iA2, iA3, iA4, iA5, iA6, iA7, iA8, iO9, iA10, iA11, iA12, iA13, iA14, iA15, iA16, iO17, iA18, iO19, iA20, iA21, iA22, iA23, iO24, iA25, iO26, iA27, iA28, iO29, iA30, iA31, iO32, iA33, iA34, iO35, iA36, iA37, iO38, iA39, iA40, iO41, iA42, iA43, iO44, iA45, iA46, iA47, iA48, iA49, iA50, iA51, iA52, iA53, iO54, iA55, iO56, iA57, iO58, iA59, iO60, iA61, iO62, iA63, iA64, iA65, iA66, iA67, iA68, iA69, iA70, iA71, iA72, iA73, iA74, iA75, iA76, iA77, iA78, iOT, iAT1, iAT2, iOS, iAS, g1, g2, show ¬ T j = 45 by omega, show ¬ T j = 40 by omega, yp_d, yp_t, gn, k2, Int.reduceEq, decide_true, decide_false, kt, kf]
    · have hL : x_one T N la (x_opn T la one ee) j = x_opn T la one ee j := by rw [x_one, if_neg q1, if_neg q2]
      rw [hL]
      by_cases q3 : T j = 45
      · obtain ⟨n1, n2, h2, t2, a2, w2, J2, k2⟩ := q147 (d := d + 1) (L := L) (op := op) hM hC hj J (by omega) (by omega) ho
        obtain ⟨⟨i1, i2, i3⟩, v3, h3, t3, a3, w3, bd3, fl3, ⟨r1, r2⟩, k3⟩ := hs (j + 1) h2 t2 a2 w2 fl (by omega) (by omega) J2
        have hL2 : x_opn T la one ee j = ((one (j + 1)).1, (one (j + 1)).2.1, (one (j + 1)).2.2 ++ [-11]) := by rw [x_opn, if_pos q3, n2]
        rw [hL2]
        generalize one (j + 1) = r at *
        obtain ⟨ft, jn, on⟩ := r
        dsimp only at *
        have hev : vi (v_tn (-11) v3) = vi (-v3) := by
          rw [show v_tn (-11) v3 = ip_w (-v3) by simp only [v_tn, if_true], ip_viw]
        refine ⟨⟨by dsimp only; omega, i2, fun z => by have := i3 z; dsimp only; omega⟩, v_tn (-11) v3, h3, t3, a3, w3, bd3, fl3, ⟨fun z => ?_, fun z => r2 z⟩, fun Q => ?_⟩
        · obtain ⟨b1, J3, vw, vv⟩ := r1 z
          exact ⟨b1, J3, v_tnw, y_val1 vv (by omega) (by omega)⟩
        · rw [hev]
          simp (disch := omega) only [c160, s160_0, s160_1, s160_2, s160_3, s160_4, s160_5, s160_6, s160_7, s160_8, s160_9, s160_10, s160_11, s160_12, s160_13, s160_14, s160_15, s160_16, s160_17, s160_18, s160_19, s160_20, s160_21, s160_22, s160_23, s160_24, s160_25, s160_26, s160_27, s160_28, s160_29, s160_30, s160_31, s160_32, s160_33, s160_34, s160_35, s160_36, s160_37, s160_38, s160_39, s160_40, s160_41, s160_42, s160_43, s160_44, s160_45, s160_46, s160_47, s160_48, s160_49, s160_50, s160_51, s160_52, s160_53, s160_54, s160_55, s160_56, s160_57, s160_58, s160_59, s160_60, s160_61, s160_62, s160_63, s160_64, s160_65, s160_66, s160_67, s160_68, s160_69, s160_70, s160_71, s160_72, s160_73, s160_74, s160_75, s160_76, s160_77, s160_78, s160_79, s160_80, s160_81, ↓reduceIte, Bool.true_eq_false, Bool.false_eq_true, ip_rfS, true_or, or_true, true_and, and_true, Option.toList_some, Option.toList_none, List.cons_append, List.nil_append, ip_fxn, ip_fxi, ip_fxr, ip_fxl, ip_wid, ip_n998, ip_lt900, iO0, iO1, iA2, iA3, iA4, iA5, iA6, iA7, iA8, iO9, iA10, iA11, iA12, iA13, iA14, iA15, iA16, iO17, iA18, iO19, iA20, iA21, iA22, iA23, iO24, iA25, iO26, iA27, iA28, iO29, iA30, iA31, iO32, iA33, iA34, iO35, iA36, iA37, iO38, iA39, iA40, iO41, iA42, iA43, iO44, iA45, iA46, iA47, iA48, iA49, iA50, iA51, iA52, iA53, iO54, iA55, iO56, iA57, iO58, iA59, iO60, iA61, iO62, iA63, iA64, iA65, iA66, iA67, iA68, iA69, iA70, iA71, iA72, iA73, iA74, iA75, iA76, iA77, iA78, iOT, iAT1, iAT2, iOS, iAS, g1, q3, k2, k3, yp_o, yp_uo, Int.add_sub_cancel, Int.reduceEq, decide_true, decide_false, kt, kf]
      · by_cases q4 : T j = 40
        · obtain ⟨n1, n2, h2, t2, a2, w2, J2, k2⟩ := q147 (d := d + 1) (L := L) (op := op) hM hC hj J (by omega) (by omega) ho
          obtain ⟨⟨i1, i2, i3⟩, v3, h3, t3, a3, w3, bd3, fl3, ⟨r1, r2⟩, k3⟩ := he (j + 1) h2 t2 a2 w2 fl (by omega) (by omega) J2
          have hL2 : x_opn T la one ee j = (if ((ee (j + 1)).1 && decide (T (ee (j + 1)).2.1 = 41)) = true then (true, x_adv la (ee (j + 1)).2.1, (ee (j + 1)).2.2) else (false, (ee (j + 1)).2.1, (ee (j + 1)).2.2)) := by rw [x_opn, if_neg q3, if_pos q4, n2]
          rw [hL2]
          generalize ee (j + 1) = r at *
          obtain ⟨ft, jn, on⟩ := r
          dsimp only at *
          cases ft
          · obtain ⟨b1, b2⟩ := r2 rfl
            subst b1
            rw [if_neg (by simp)]
            refine ⟨⟨by dsimp only; omega, i2, fun z => (by cases z)⟩, v3, h3, t3, a3, w3, 1, fl3, ⟨fun z => (by cases z), fun _ => ⟨rfl, b2⟩⟩, fun Q => ?_⟩
            simp (disch := omega) only [c160, s160_0, s160_1, s160_2, s160_3, s160_4, s160_5, s160_6, s160_7, s160_8, s160_9, s160_10, s160_11, s160_12, s160_13, s160_14, s160_15, s160_16, s160_17, s160_18, s160_19, s160_20, s160_21, s160_22, s160_23, s160_24, s160_25, s160_26, s160_27, s160_28, s160_29, s160_30, s160_31, s160_32, s160_33, s160_34, s160_35, s160_36, s160_37, s160_38, s160_39, s160_40, s160_41, s160_42, s160_43, s160_44, s160_45, s160_46, s160_47, s160_48, s160_49, s160_50, s160_51, s160_52, s160_53, s160_54, s160_55, s160_56, s160_57, s160_58, s160_59, s160_60, s160_61, s160_62, s160_63, s160_64, s160_65, s160_66, s160_67, s160_68, s160_69, s160_70, s160_71, s160_72, s160_73, s160_74, s160_75, s160_76, s160_77, s160_78, s160_79, s160_80, s160_81, ↓reduceIte, Bool.true_eq_false, Bool.false_eq_true, ip_rfS, true_or, or_true, true_and, and_true, Option.toList_some, Option.toList_none, List.cons_append, List.nil_append, ip_fxn, ip_fxi, ip_fxr, ip_fxl, ip_wid, ip_n998, ip_lt900, iO0, iO1, iA2, iA3, iA4, iA5, iA6, iA7, iA8, iO9, iA10, iA11, iA12, iA13, iA14, iA15, iA16, iO17, iA18, iO19, iA20, iA21, iA22, iA23, iO24, iA25, iO26, iA27, iA28, iO29, iA30, iA31, iO32, iA33, iA34, iO35, iA36, iA37, iO38, iA39, iA40, iO41, iA42, iA43, iO44, iA45, iA46, iA47, iA48, iA49, iA50, iA51, iA52, iA53, iO54, iA55, iO56, iA57, iO58, iA59, iO60, iA61, iO62, iA63, iA64, iA65, iA66, iA67, iA68, iA69, iA70, iA71, iA72, iA73, iA74, iA75, iA76, iA77, iA78, iOT, iAT1, iAT2, iOS, iAS, g1, g2, q3, q4, k2, k3, q156b, q143b, yp_o, yp_uo, yp_d, Int.add_sub_cancel, Int.reduceEq, decide_true, decide_false, kt, kf]
          · obtain ⟨b1, J3, vw, vv⟩ := r1 rfl
            subst b1
            have h3j := i3 rfl
            have e1 := fun Q' => q156 (d := d + 4) (S := S) (R := R) (L := L) (op := op + 1) (fl := fl3) (Q := Q') J3 (s := 41) (by omega)
            have h3r := J3.2.1
            by_cases c1 : T jn = 41
            · obtain ⟨m1, m2, h4, t4, a4, w4, J4, k4⟩ := q138 (d := d + 2) (L := L) hM hC (by omega) J3 (by omega) (by omega)
              rw [if_pos (by simp [c1]), m2]
              refine ⟨⟨by dsimp only; omega, by dsimp only; omega, fun _ => by dsimp only; omega⟩, v3, h4, t4, a4, w4, 0, fl3, ⟨fun _ => ⟨rfl, J4, vw, vv⟩, fun z => (by cases z)⟩, fun Q => ?_⟩
              simp (disch := omega) only [c160, s160_0, s160_1, s160_2, s160_3, s160_4, s160_5, s160_6, s160_7, s160_8, s160_9, s160_10, s160_11, s160_12, s160_13, s160_14, s160_15, s160_16, s160_17, s160_18, s160_19, s160_20, s160_21, s160_22, s160_23, s160_24, s160_25, s160_26, s160_27, s160_28, s160_29, s160_30, s160_31, s160_32, s160_33, s160_34, s160_35, s160_36, s160_37, s160_38, s160_39, s160_40, s160_41, s160_42, s160_43, s160_44, s160_45, s160_46, s160_47, s160_48, s160_49, s160_50, s160_51, s160_52, s160_53, s160_54, s160_55, s160_56, s160_57, s160_58, s160_59, s160_60, s160_61, s160_62, s160_63, s160_64, s160_65, s160_66, s160_67, s160_68, s160_69, s160_70, s160_71, s160_72, s160_73, s160_74, s160_75, s160_76, s160_77, s160_78, s160_79, s160_80, s160_81, ↓reduceIte, Bool.true_eq_false, Bool.false_eq_true, ip_rfS, true_or, or_true, true_and, and_true, Option.toList_some, Option.toList_none, List.cons_append, List.nil_append, ip_fxn, ip_fxi, ip_fxr, ip_fxl, ip_wid, ip_n998, ip_lt900, iO0, iO1, iA2, iA3, iA4, iA5, iA6, iA7, iA8, iO9, iA10, iA11, iA12, iA13, iA14, iA15, iA16, iO17, iA18, iO19, iA20, iA21, iA22, iA23, iO24, iA25, iO26, iA27, iA28, iO29, iA30, iA31, iO32, iA33, iA34, iO35, iA36, iA37, iO38, iA39, iA40, iO41, iA42, iA43, iO44, iA45, iA46, iA47, iA48, iA49, iA50, iA51, iA52, iA53, iO54, iA55, iO56, iA57, iO58, iA59, iO60, iA61, iO62, iA63, iA64, iA65, iA66, iA67, iA68, iA69, iA70, iA71, iA72, iA73, iA74, iA75, iA76, iA77, iA78, iOT, iAT1, iAT2, iOS, iAS, g1, g2, q3, q4, k2, k3, e1, c1, yp_o, yp_uo, yp_d, Int.add_sub_cancel, k4, Int.reduceEq, decide_true, decide_false, kt, kf]
            · have gb := fun Q' => q143 (d := d + 4) (S := S) (R := R) (h := h3) (t := t3) (a := a3) (op := op + 1) (fl := fl3) (L' := ip_up L 62 24 w3) (Q := Q') (by omega)
              rw [if_neg (by simp [c1])]
              refine ⟨⟨by dsimp only; omega, i2, fun z => (by cases z)⟩, v3, h3, t3, a3, w3, 1, a3, ⟨fun z => (by cases z), fun _ => ⟨rfl, y_Ja J3⟩⟩, fun Q => ?_⟩
              simp (disch := omega) only [c160, s160_0, s160_1, s160_2, s160_3, s160_4, s160_5, s160_6, s160_7, s160_8, s160_9, s160_10, s160_11, s160_12, s160_13, s160_14, s160_15, s160_16, s160_17, s160_18, s160_19, s160_20, s160_21, s160_22, s160_23, s160_24, s160_25, s160_26, s160_27, s160_28, s160_29, s160_30, s160_31, s160_32, s160_33, s160_34, s160_35, s160_36, s160_37, s160_38, s160_39, s160_40, s160_41, s160_42, s160_43, s160_44, s160_45, s160_46, s160_47, s160_48, s160_49, s160_50, s160_51, s160_52, s160_53, s160_54, s160_55, s160_56, s160_57, s160_58, s160_59, s160_60, s160_61, s160_62, s160_63, s160_64, s160_65, s160_66, s160_67, s160_68, s160_69, s160_70, s160_71, s160_72, s160_73, s160_74, s160_75, s160_76, s160_77, s160_78, s160_79, s160_80, s160_81, ↓reduceIte, Bool.true_eq_false, Bool.false_eq_true, ip_rfS, true_or, or_true, true_and, and_true, Option.toList_some, Option.toList_none, List.cons_append, List.nil_append, ip_fxn, ip_fxi, ip_fxr, ip_fxl, ip_wid, ip_n998, ip_lt900, iO0, iO1, iA2, iA3, iA4, iA5, iA6, iA7, iA8, iO9, iA10, iA11, iA12, iA13, iA14, iA15, iA16, iO17, iA18, iO19, iA20, iA21, iA22, iA23, iO24, iA25, iO26, iA27, iA28, iO29, iA30, iA31, iO32, iA33, iA34, iO35, iA36, iA37, iO38, iA39, iA40, iO41, iA42, iA43, iO44, iA45, iA46, iA47, iA48, iA49, iA50, iA51, iA52, iA53, iO54, iA55, iO56, iA57, iO58, iA59, iO60, iA61, iO62, iA63, iA64, iA65, iA66, iA67, iA68, iA69, iA70, iA71, iA72, iA73, iA74, iA75, iA76, iA77, iA78, iOT, iAT1, iAT2, iOS, iAS, g1, g2, q3, q4, k2, k3, e1, c1, gb, yp_o, yp_uo, yp_d, Int.add_sub_cancel, Int.reduceEq, decide_true, decide_false, kt, kf]
        · have hL2 : x_opn T la one ee j = (false, j, []) := by rw [x_opn, if_neg q3, if_neg q4]
          rw [hL2]
          have gn := fun Q' => q157f (d := d + 1) (op := op) (fl := fl) (L' := ip_up L 62 24 w) (Q := Q') hM hC hj J q2
          have gb := fun Q' => q143 (d := d + 4) (S := S) (R := R) (h := h) (t := t) (a := a) (op := op) (fl := fl) (L' := ip_up L 62 24 w) (Q := Q') (by omega)
          refine ⟨⟨Int.le_refl _, hj2, fun z => (by cases z)⟩, 0, h, t, a, w, 1, a, ⟨fun z => (by cases z), fun _ => ⟨rfl, y_Ja J⟩⟩, fun Q => ?_⟩
          have e2 : ¬ t = 2 := by
            obtain ⟨-, -, J⟩ := J
            rcases J with J | J | J | J | J <;> omega
          by_cases e1 : t = 1
          · subst e1
            simp (disch := omega) only [c160, s160_0, s160_1, s160_2, s160_3, s160_4, s160_5, s160_6, s160_7, s160_8, s160_9, s160_10, s160_11, s160_12, s160_13, s160_14, s160_15, s160_16, s160_17, s160_18, s160_19, s160_20, s160_21, s160_22, s160_23, s160_24, s160_25, s160_26, s160_27, s160_28, s160_29, s160_30, s160_31, s160_32, s160_33, s160_34, s160_35, s160_36, s160_37, s160_38, s160_39, s160_40, s160_41, s160_42, s160_43, s160_44, s160_45, s160_46, s160_47, s160_48, s160_49, s160_50, s160_51, s160_52, s160_53, s160_54, s160_55, s160_56, s160_57, s160_58, s160_59, s160_60, s160_61, s160_62, s160_63, s160_64, s160_65, s160_66, s160_67, s160_68, s160_69, s160_70, s160_71, s160_72, s160_73, s160_74, s160_75, s160_76, s160_77, s160_78, s160_79, s160_80, s160_81, ↓reduceIte, Bool.true_eq_false, Bool.false_eq_true, ip_rfS, true_or, or_true, true_and, and_true, Option.toList_some, Option.toList_none, List.cons_append, List.nil_append, ip_fxn, ip_fxi, ip_fxr, ip_fxl, ip_wid, ip_n998, ip_lt900, iO0, iO1, iA2, iA3, iA4, iA5, iA6, iA7, iA8, iO9, iA10, iA11, iA12, iA13, iA14, iA15, iA16, iO17, iA18, iO19, iA20, iA21, iA22, iA23, iO24, iA25, iO26, iA27, iA28, iO29, iA30, iA31, iO32, iA33, iA34, iO35, iA36, iA37, iO38, iA39, iA40, iO41, iA42, iA43, iO44, iA45, iA46, iA47, iA48, iA49, iA50, iA51, iA52, iA53, iO54, iA55, iO56, iA57, iO58, iA59, iO60, iA61, iO62, iA63, iA64, iA65, iA66, iA67, iA68, iA69, iA70, iA71, iA72, iA73, iA74, iA75, iA76, iA77, iA78, iOT, iAT1, iAT2, iOS, iAS, g1, g2, q3, q4, yp_d, yp_t, gn, Int.reduceEq, decide_true, decide_false, kt, kf]
          · simp (disch := omega) only [c160, s160_0, s160_1, s160_2, s160_3, s160_4, s160_5, s160_6, s160_7, s160_8, s160_9, s160_10, s160_11, s160_12, s160_13, s160_14, s160_15, s160_16, s160_17, s160_18, s160_19, s160_20, s160_21, s160_22, s160_23, s160_24, s160_25, s160_26, s160_27, s160_28, s160_29, s160_30, s160_31, s160_32, s160_33, s160_34, s160_35, s160_36, s160_37, s160_38, s160_39, s160_40, s160_41, s160_42, s160_43, s160_44, s160_45, s160_46, s160_47, s160_48, s160_49, s160_50, s160_51, s160_52, s160_53, s160_54, s160_55, s160_56, s160_57, s160_58, s160_59, s160_60, s160_61, s160_62, s160_63, s160_64, s160_65, s160_66, s160_67, s160_68, s160_69, s160_70, s160_71, s160_72, s160_73, s160_74, s160_75, s160_76, s160_77, s160_78, s160_79, s160_80, s160_81, ↓reduceIte, Bool.true_eq_false, Bool.false_eq_true, ip_rfS, true_or, or_true, true_and, and_true, Option.toList_some, Option.toList_none, List.cons_append, List.nil_append, ip_fxn, ip_fxi, ip_fxr, ip_fxl, ip_wid, ip_n998, ip_lt900, iO0, iO1, iA2, iA3, iA4, iA5, iA6, iA7, iA8, iO9, iA10, iA11, iA12, iA13, iA14, iA15, iA16, iO17, iA18, iO19, iA20, iA21, iA22, iA23, iO24, iA25, iO26, iA27, iA28, iO29, iA30, iA31, iO32, iA33, iA34, iO35, iA36, iA37, iO38, iA39, iA40, iO41, iA42, iA43, iO44, iA45, iA46, iA47, iA48, iA49, iA50, iA51, iA52, iA53, iO54, iA55, iO56, iA57, iO58, iA59, iO60, iA61, iO62, iA63, iA64, iA65, iA66, iA67, iA68, iA69, iA70, iA71, iA72, iA73, iA74, iA75, iA76, iA77, iA78, iOT, iAT1, iAT2, iOS, iAS, g1, g2, q3, q4, yp_d, yp_t, e1, e2, gb, Int.reduceEq, decide_true, decide_false, kt, kf]

theorem y159l {f0 : Int → x_PR} (hM : x_RM R) (hC : y_C S b sz T P N la) (hs : y_ok S R L b sz T P N la (d + 3) 160 op f0) : ∀ (f : Nat) (j h t a w fl v : Int) (O : List Int), 0 ≤ j → j ≤ la → la + 1 ≤ j + f → y_J b sz T P N la j h t a w → ip_w v = v → y_val (y_nam S) O v →
    (j ≤ (x_loop T la (x_is 42) (fun _ => -23) f0 f true j).2.1 ∧ (x_loop T la (x_is 42) (fun _ => -23) f0 f true j).2.1 ≤ la) ∧ ∃ v' h' t' a' w' bd' fl', y_res S b sz T P N la ((x_loop T la (x_is 42) (fun _ => -23) f0 f true j).1, (x_loop T la (x_is 42) (fun _ => -23) f0 f true j).2.1, O ++ (x_loop T la (x_is 42) (fun _ => -23) f0 f true j).2.2) v' h' t' a' w' bd' fl' ∧
      ∀ Q, ip_wp (d + 3) 159 3 [some (.ref 62), some (vi v)] [] 79 (y_P S h t a op 0 fl) R (ip_up L 62 24 w) Q = Q (some (vi v')) 79 (y_P S h' t' a' op bd' fl') R (ip_up L 62 24 w')
  | 0, j, h, t, a, w, fl, v, O, hj, hj2, hf, J, hv, hO => by omega
  | f + 1, j, h, t, a, w, fl, v, O, hj, hj2, hf, J, hv, hO => by
    have g := fun Q' => q156 (d := d + 2) (S := S) (R := R) (L := L) (op := op) (fl := fl) (Q := Q') J (s := 42) (by omega)
    by_cases q0 : T j = 42
    · obtain ⟨n1, n2, h2, t2, a2, w2, J2, k2⟩ := q138 (d := d) (L := L) hM hC hj J (by omega) (by omega)
      obtain ⟨⟨i1, i2, i3⟩, v3, h3, t3, a3, w3, bd3, fl3, ⟨r1, r2⟩, k3⟩ := hs (j + 1) h2 t2 a2 w2 fl (by omega) (by omega) J2
      have hL : x_loop T la (x_is 42) (fun _ => -23) f0 (f + 1) true j = ((x_loop T la (x_is 42) (fun _ => -23) f0 f (f0 (j + 1)).1 (f0 (j + 1)).2.1).1, (x_loop T la (x_is 42) (fun _ => -23) f0 f (f0 (j + 1)).1 (f0 (j + 1)).2.1).2.1, (f0 (j + 1)).2.2 ++ -23 :: (x_loop T la (x_is 42) (fun _ => -23) f0 f (f0 (j + 1)).1 (f0 (j + 1)).2.1).2.2) := by
        rw [x_loop, if_pos (by simp [x_is, x_pm, q0]), n2]
        try simp only [x_pmc, q0, Int.reduceEq, if_true, if_false]
      rw [hL]
      generalize f0 (j + 1) = r at *
      obtain ⟨ft, jn, on⟩ := r
      dsimp only at *
      have step : ∀ Q, ip_wp (d + 3) 159 3 [some (.ref 62), some (vi v)] [] 79 (y_P S h t a op 0 fl) R (ip_up L 62 24 w) Q = ip_wp (d + 3) 159 3 [some (.ref 62), some (vi (v * v3))] [] 79 (y_P S h3 t3 a3 op bd3 fl3) R (ip_up L 62 24 w3) Q := fun Q => by
        rw [s159_3]
        simp (disch := omega) only [s159_0, s159_1, s159_2, s159_4, s159_5, s159_6, s159_7, s159_8, s159_9, s159_10, s159_11, s159_12, s159_13, s159_14, s159_15, s159_16, ↓reduceIte, Bool.true_eq_false, Bool.false_eq_true, ip_rfS, true_or, or_true, true_and, and_true, Option.toList_some, Option.toList_none, List.cons_append, List.nil_append, ip_fxn, ip_fxi, ip_fxr, ip_fxl, ip_wid, ip_n998, ip_lt900, iO0, iO1, iA2, iA3, iA4, iA5, iA6, iA7, iA8, iO9, iA10, iA11, iA12, iA13, iA14, iA15, iA16, iO17, iA18, iO19, iA20, iA21, iA22, iA23, iO24, iA25, iO26, iA27, iA28, iO29, iA30, iA31, iO32, iA33, iA34, iO35, iA36, iA37, iO38, iA39, iA40, iO41, iA42, iA43, iO44, iA45, iA46, iA47, iA48, iA49, iA50, iA51, iA52, iA53, iO54, iA55, iO56, iA57, iO58, iA59, iO60, iA61, iO62, iA63, iA64, iA65, iA66, iA67, iA68, iA69, iA70, iA71, iA72, iA73, iA74, iA75, iA76, iA77, iA78, iOT, iAT1, iAT2, iOS, iAS, g, q0, Int.reduceEq, decide_true, decide_false, show k_n true = 1 from rfl, show k_n false = 0 from rfl, k2, k3]
      cases ft
      · obtain ⟨b1, b2⟩ := r2 rfl
        have hL0 : x_loop T la (x_is 42) (fun _ => -23) f0 f false jn = (false, jn, []) := by cases f <;> simp [x_loop]
        rw [hL0]
        refine ⟨⟨by dsimp only; omega, i2⟩, v * v3, h3, t3, a3, w3, bd3, fl3, ⟨fun z => (by cases z), fun _ => ⟨b1, b2⟩⟩, fun Q => ?_⟩
        subst b1
        rw [step Q, s159_3]
        simp (disch := omega) only [s159_0, s159_1, s159_2, s159_4, s159_5, s159_6, s159_7, s159_8, s159_9, s159_10, s159_11, s159_12, s159_13, s159_14, s159_15, s159_16, ↓reduceIte, Bool.true_eq_false, Bool.false_eq_true, ip_rfS, true_or, or_true, true_and, and_true, Option.toList_some, Option.toList_none, List.cons_append, List.nil_append, ip_fxn, ip_fxi, ip_fxr, ip_fxl, ip_wid, ip_n998, ip_lt900, iO0, iO1, iA2, iA3, iA4, iA5, iA6, iA7, iA8, iO9, iA10, iA11, iA12, iA13, iA14, iA15, iA16, iO17, iA18, iO19, iA20, iA21, iA22, iA23, iO24, iA25, iO26, iA27, iA28, iO29, iA30, iA31, iO32, iA33, iA34, iO35, iA36, iA37, iO38, iA39, iA40, iO41, iA42, iA43, iO44, iA45, iA46, iA47, iA48, iA49, iA50, iA51, iA52, iA53, iO54, iA55, iO56, iA57, iO58, iA59, iO60, iA61, iO62, iA63, iA64, iA65, iA66, iA67, iA68, iA69, iA70, iA71, iA72, iA73, iA74, iA75, iA76, iA77, iA78, iOT, iAT1, iAT2, iOS, iAS, q156b]
      · obtain ⟨b1, J3, vw, vv⟩ := r1 rfl
        subst b1
        have hev : vi (v_jn (-23) v v3) = vi (v * v3) := by
          rw [show v_jn (-23) v v3 = ip_w (v * v3) by simp only [v_jn, Int.reduceEq, Int.reduceNeg, if_true, if_false], ip_viw]
        obtain ⟨⟨e1, e2⟩, v4, h4, t4, a4, w4, bd4, fl4, res, k4⟩ := y159l hM hC hs f jn h3 t3 a3 w3 fl3 (v_jn (-23) v v3) (O ++ (on ++ [-23])) (by omega) i2 (by have := i3 rfl; omega) J3 v_jnw (y_val2 hO vv (by omega))
        rw [hev] at k4
        rw [List.append_assoc, List.append_assoc, List.singleton_append] at res
        exact ⟨⟨by omega, e2⟩, v4, h4, t4, a4, w4, bd4, fl4, res, fun Q => by rw [step Q, k4 Q]⟩
    · have hL : x_loop T la (x_is 42) (fun _ => -23) f0 (f + 1) true j = (true, j, []) := by
        rw [x_loop, if_neg (by simp [x_is, x_pm, q0])]
      rw [hL]
      refine ⟨⟨Int.le_refl _, hj2⟩, v, h, t, a, w, 0, fl, ⟨fun _ => ⟨rfl, J, hv, by rw [List.append_nil]; exact hO⟩, fun z => (by cases z)⟩, fun Q => ?_⟩
      rw [s159_3]
      simp (disch := omega) only [s159_0, s159_1, s159_2, s159_4, s159_5, s159_6, s159_7, s159_8, s159_9, s159_10, s159_11, s159_12, s159_13, s159_14, s159_15, s159_16, ↓reduceIte, Bool.true_eq_false, Bool.false_eq_true, ip_rfS, true_or, or_true, true_and, and_true, Option.toList_some, Option.toList_none, List.cons_append, List.nil_append, ip_fxn, ip_fxi, ip_fxr, ip_fxl, ip_wid, ip_n998, ip_lt900, iO0, iO1, iA2, iA3, iA4, iA5, iA6, iA7, iA8, iO9, iA10, iA11, iA12, iA13, iA14, iA15, iA16, iO17, iA18, iO19, iA20, iA21, iA22, iA23, iO24, iA25, iO26, iA27, iA28, iO29, iA30, iA31, iO32, iA33, iA34, iO35, iA36, iA37, iO38, iA39, iA40, iO41, iA42, iA43, iO44, iA45, iA46, iA47, iA48, iA49, iA50, iA51, iA52, iA53, iO54, iA55, iO56, iA57, iO58, iA59, iO60, iA61, iO62, iA63, iA64, iA65, iA66, iA67, iA68, iA69, iA70, iA71, iA72, iA73, iA74, iA75, iA76, iA77, iA78, iOT, iAT1, iAT2, iOS, iAS, g, q0, decide_false, show k_n false = 0 from rfl]
theorem y159 {f0 : Int → x_PR} (hM : x_RM R) (hC : y_C S b sz T P N la) (hs : y_ok S R L b sz T P N la (d + 3) 160 op f0) : y_ok S R L b sz T P N la (d + 4) 159 op (x_rep T la (x_is 42) (fun _ => -23) f0) := by
  intro j h t a w fl hj hj2 J
  obtain ⟨⟨i1, i2, i3⟩, v3, h3, t3, a3, w3, bd3, fl3, ⟨r1, r2⟩, k3⟩ := hs j h t a w fl hj hj2 J
  have hla := hC.2.1.2.1
  have hsz := hC.1.2.2.1
  unfold x_rep
  generalize f0 j = r at *
  obtain ⟨ft, jn, on⟩ := r
  dsimp only at *
  cases ft
  · obtain ⟨b1, b2⟩ := r2 rfl
    subst b1
    have hL0 : x_loop T la (x_is 42) (fun _ => -23) f0 160 false jn = (false, jn, []) := by simp [x_loop]
    rw [hL0]
    refine ⟨⟨i1, i2, fun z => (by cases z)⟩, v3, h3, t3, a3, w3, 1, fl3, ⟨fun z => (by cases z), fun _ => ⟨rfl, b2⟩⟩, fun Q => ?_⟩
    simp (disch := omega) only [c159, s159_0, s159_1, s159_2, s159_3, s159_4, s159_5, s159_6, s159_7, s159_8, s159_9, s159_10, s159_11, s159_12, s159_13, s159_14, s159_15, s159_16, ↓reduceIte, Bool.true_eq_false, Bool.false_eq_true, ip_rfS, true_or, or_true, true_and, and_true, Option.toList_some, Option.toList_none, List.cons_append, List.nil_append, ip_fxn, ip_fxi, ip_fxr, ip_fxl, ip_wid, ip_n998, ip_lt900, iO0, iO1, iA2, iA3, iA4, iA5, iA6, iA7, iA8, iO9, iA10, iA11, iA12, iA13, iA14, iA15, iA16, iO17, iA18, iO19, iA20, iA21, iA22, iA23, iO24, iA25, iO26, iA27, iA28, iO29, iA30, iA31, iO32, iA33, iA34, iO35, iA36, iA37, iO38, iA39, iA40, iO41, iA42, iA43, iO44, iA45, iA46, iA47, iA48, iA49, iA50, iA51, iA52, iA53, iO54, iA55, iO56, iA57, iO58, iA59, iO60, iA61, iO62, iA63, iA64, iA65, iA66, iA67, iA68, iA69, iA70, iA71, iA72, iA73, iA74, iA75, iA76, iA77, iA78, iOT, iAT1, iAT2, iOS, iAS, k3, q156b]
  · obtain ⟨b1, J3, vw, vv⟩ := r1 rfl
    subst b1
    have h3j := i3 rfl
    obtain ⟨⟨e1, e2⟩, v4, h4, t4, a4, w4, bd4, fl4, res, k4⟩ := y159l (d := d) hM hC hs 160 jn h3 t3 a3 w3 fl3 v3 on (by omega) i2 (by omega) J3 vw vv
    refine ⟨⟨by dsimp only; omega, e2, fun _ => by dsimp only; omega⟩, v4, h4, t4, a4, w4, bd4, fl4, res, fun Q => ?_⟩
    simp (disch := omega) only [c159, s159_0, s159_1, s159_2, ↓reduceIte, Bool.true_eq_false, Bool.false_eq_true, ip_rfS, true_or, or_true, true_and, and_true, Option.toList_some, Option.toList_none, List.cons_append, List.nil_append, ip_fxn, ip_fxi, ip_fxr, ip_fxl, ip_wid, ip_n998, ip_lt900, iO0, iO1, iA2, iA3, iA4, iA5, iA6, iA7, iA8, iO9, iA10, iA11, iA12, iA13, iA14, iA15, iA16, iO17, iA18, iO19, iA20, iA21, iA22, iA23, iO24, iA25, iO26, iA27, iA28, iO29, iA30, iA31, iO32, iA33, iA34, iO35, iA36, iA37, iO38, iA39, iA40, iO41, iA42, iA43, iO44, iA45, iA46, iA47, iA48, iA49, iA50, iA51, iA52, iA53, iO54, iA55, iO56, iA57, iO58, iA59, iO60, iA61, iO62, iA63, iA64, iA65, iA66, iA67, iA68, iA69, iA70, iA71, iA72, iA73, iA74, iA75, iA76, iA77, iA78, iOT, iAT1, iAT2, iOS, iAS, k3, k4]

theorem y158l {f0 : Int → x_PR} (hM : x_RM R) (hC : y_C S b sz T P N la) (hs : y_ok S R L b sz T P N la (d + 3) 159 op f0) : ∀ (f : Nat) (j h t a w fl v : Int) (O : List Int) (l2 l3 : Option Value), 0 ≤ j → j ≤ la → la + 1 ≤ j + f → y_J b sz T P N la j h t a w → ip_w v = v → y_val (y_nam S) O v →
    (j ≤ (x_loop T la x_pm x_pmc f0 f true j).2.1 ∧ (x_loop T la x_pm x_pmc f0 f true j).2.1 ≤ la) ∧ ∃ v' h' t' a' w' bd' fl', y_res S b sz T P N la ((x_loop T la x_pm x_pmc f0 f true j).1, (x_loop T la x_pm x_pmc f0 f true j).2.1, O ++ (x_loop T la x_pm x_pmc f0 f true j).2.2) v' h' t' a' w' bd' fl' ∧
      ∀ Q, ip_wp (d + 3) 158 3 [some (.ref 62), some (vi v), l2, l3] [] 79 (y_P S h t a op 0 fl) R (ip_up L 62 24 w) Q = Q (some (vi v')) 79 (y_P S h' t' a' op bd' fl') R (ip_up L 62 24 w')
  | 0, j, h, t, a, w, fl, v, O, l2, l3, hj, hj2, hf, J, hv, hO => by omega
  | f + 1, j, h, t, a, w, fl, v, O, l2, l3, hj, hj2, hf, J, hv, hO => by
    have g := fun Q' => q156 (d := d + 2) (S := S) (R := R) (L := L) (op := op) (fl := fl) (Q := Q') J (s := 43) (by omega)
    have g2 := fun Q' => q156 (d := d + 2) (S := S) (R := R) (L := L) (op := op) (fl := fl) (Q := Q') J (s := 45) (by omega)
    by_cases q0 : T j = 43
    · obtain ⟨n1, n2, h2, t2, a2, w2, J2, k2⟩ := q138 (d := d) (L := L) hM hC hj J (by omega) (by omega)
      obtain ⟨⟨i1, i2, i3⟩, v3, h3, t3, a3, w3, bd3, fl3, ⟨r1, r2⟩, k3⟩ := hs (j + 1) h2 t2 a2 w2 fl (by omega) (by omega) J2
      have hL : x_loop T la x_pm x_pmc f0 (f + 1) true j = ((x_loop T la x_pm x_pmc f0 f (f0 (j + 1)).1 (f0 (j + 1)).2.1).1, (x_loop T la x_pm x_pmc f0 f (f0 (j + 1)).1 (f0 (j + 1)).2.1).2.1, (f0 (j + 1)).2.2 ++ -21 :: (x_loop T la x_pm x_pmc f0 f (f0 (j + 1)).1 (f0 (j + 1)).2.1).2.2) := by
        rw [x_loop, if_pos (by simp [x_is, x_pm, q0]), n2]
        try simp only [x_pmc, q0, Int.reduceEq, if_true, if_false]
      rw [hL]
      generalize f0 (j + 1) = r at *
      obtain ⟨ft, jn, on⟩ := r
      dsimp only at *
      have ew : w = 43 := by have := y_Jw J (by omega); omega
      have ec : ip_w (ip_cmpl (ip_w64 w) (ip_w64 43)) = 0 := by rw [ew]; decide +kernel
      have step : ∀ Q, ip_wp (d + 3) 158 3 [some (.ref 62), some (vi v), l2, l3] [] 79 (y_P S h t a op 0 fl) R (ip_up L 62 24 w) Q = ip_wp (d + 3) 158 3 [some (.ref 62), some (vi (v + v3)), some (vi 1), some (vi v3)] [] 79 (y_P S h3 t3 a3 op bd3 fl3) R (ip_up L 62 24 w3) Q := fun Q => by
        rw [s158_3]
        simp (disch := omega) only [s158_0, s158_1, s158_2, s158_4, s158_5, s158_6, s158_7, s158_8, s158_9, s158_10, s158_11, s158_12, s158_13, s158_14, s158_15, s158_16, s158_17, s158_18, s158_19, s158_20, s158_21, s158_22, s158_23, s158_24, s158_25, s158_26, s158_27, s158_28, s158_29, s158_30, s158_31, s158_32, s158_33, s158_34, s158_35, s158_36, s158_37, ↓reduceIte, Bool.true_eq_false, Bool.false_eq_true, ip_rfS, true_or, or_true, true_and, and_true, Option.toList_some, Option.toList_none, List.cons_append, List.nil_append, ip_fxn, ip_fxi, ip_fxr, ip_fxl, ip_wid, ip_n998, ip_lt900, iO0, iO1, iA2, iA3, iA4, iA5, iA6, iA7, iA8, iO9, iA10, iA11, iA12, iA13, iA14, iA15, iA16, iO17, iA18, iO19, iA20, iA21, iA22, iA23, iO24, iA25, iO26, iA27, iA28, iO29, iA30, iA31, iO32, iA33, iA34, iO35, iA36, iA37, iO38, iA39, iA40, iO41, iA42, iA43, iO44, iA45, iA46, iA47, iA48, iA49, iA50, iA51, iA52, iA53, iO54, iA55, iO56, iA57, iO58, iA59, iO60, iA61, iO62, iA63, iA64, iA65, iA66, iA67, iA68, iA69, iA70, iA71, iA72, iA73, iA74, iA75, iA76, iA77, iA78, iOT, iAT1, iAT2, iOS, iAS, g, g2, q0, Int.reduceEq, decide_true, decide_false, show k_n true = 1 from rfl, show k_n false = 0 from rfl, k2, k3, ec, ip_up_at]
      cases ft
      · obtain ⟨b1, b2⟩ := r2 rfl
        have hL0 : x_loop T la x_pm x_pmc f0 f false jn = (false, jn, []) := by cases f <;> simp [x_loop]
        rw [hL0]
        refine ⟨⟨by dsimp only; omega, i2⟩, v + v3, h3, t3, a3, w3, bd3, fl3, ⟨fun z => (by cases z), fun _ => ⟨b1, b2⟩⟩, fun Q => ?_⟩
        subst b1
        rw [step Q, s158_3]
        simp (disch := omega) only [s158_0, s158_1, s158_2, s158_4, s158_5, s158_6, s158_7, s158_8, s158_9, s158_10, s158_11, s158_12, s158_13, s158_14, s158_15, s158_16, s158_17, s158_18, s158_19, s158_20, s158_21, s158_22, s158_23, s158_24, s158_25, s158_26, s158_27, s158_28, s158_29, s158_30, s158_31, s158_32, s158_33, s158_34, s158_35, s158_36, s158_37, ↓reduceIte, Bool.true_eq_false, Bool.false_eq_true, ip_rfS, true_or, or_true, true_and, and_true, Option.toList_some, Option.toList_none, List.cons_append, List.nil_append, ip_fxn, ip_fxi, ip_fxr, ip_fxl, ip_wid, ip_n998, ip_lt900, iO0, iO1, iA2, iA3, iA4, iA5, iA6, iA7, iA8, iO9, iA10, iA11, iA12, iA13, iA14, iA15, iA16, iO17, iA18, iO19, iA20, iA21, iA22, iA23, iO24, iA25, iO26, iA27, iA28, iO29, iA30, iA31, iO32, iA33, iA34, iO35, iA36, iA37, iO38, iA39, iA40, iO41, iA42, iA43, iO44, iA45, iA46, iA47, iA48, iA49, iA50, iA51, iA52, iA53, iO54, iA55, iO56, iA57, iO58, iA59, iO60, iA61, iO62, iA63, iA64, iA65, iA66, iA67, iA68, iA69, iA70, iA71, iA72, iA73, iA74, iA75, iA76, iA77, iA78, iOT, iAT1, iAT2, iOS, iAS, q156b]
      · obtain ⟨b1, J3, vw, vv⟩ := r1 rfl
        subst b1
        have hev : vi (v_jn (-21) v v3) = vi (v + v3) := by
          rw [show v_jn (-21) v v3 = ip_w (v + v3) by simp only [v_jn, Int.reduceEq, Int.reduceNeg, if_true, if_false], ip_viw]
        obtain ⟨⟨e1, e2⟩, v4, h4, t4, a4, w4, bd4, fl4, res, k4⟩ := y158l hM hC hs f jn h3 t3 a3 w3 fl3 (v_jn (-21) v v3) (O ++ (on ++ [-21])) (some (vi 1)) (some (vi v3)) (by omega) i2 (by have := i3 rfl; omega) J3 v_jnw (y_val2 hO vv (by omega))
        rw [hev] at k4
        rw [List.append_assoc, List.append_assoc, List.singleton_append] at res
        exact ⟨⟨by omega, e2⟩, v4, h4, t4, a4, w4, bd4, fl4, res, fun Q => by rw [step Q, k4 Q]⟩
    · by_cases q1 : T j = 45
      · obtain ⟨n1, n2, h2, t2, a2, w2, J2, k2⟩ := q138 (d := d) (L := L) hM hC hj J (by omega) (by omega)
        obtain ⟨⟨i1, i2, i3⟩, v3, h3, t3, a3, w3, bd3, fl3, ⟨r1, r2⟩, k3⟩ := hs (j + 1) h2 t2 a2 w2 fl (by omega) (by omega) J2
        have hL : x_loop T la x_pm x_pmc f0 (f + 1) true j = ((x_loop T la x_pm x_pmc f0 f (f0 (j + 1)).1 (f0 (j + 1)).2.1).1, (x_loop T la x_pm x_pmc f0 f (f0 (j + 1)).1 (f0 (j + 1)).2.1).2.1, (f0 (j + 1)).2.2 ++ -22 :: (x_loop T la x_pm x_pmc f0 f (f0 (j + 1)).1 (f0 (j + 1)).2.1).2.2) := by
          rw [x_loop, if_pos (by simp [x_is, x_pm, q1]), n2]
          try simp only [x_pmc, q1, Int.reduceEq, if_true, if_false]
        rw [hL]
        generalize f0 (j + 1) = r at *
        obtain ⟨ft, jn, on⟩ := r
        dsimp only at *
        have ew : w = 45 := by have := y_Jw J (by omega); omega
        have ec : ip_w (ip_cmpl (ip_w64 w) (ip_w64 43)) ≠ 0 := by rw [ew]; decide +kernel
        have step : ∀ Q, ip_wp (d + 3) 158 3 [some (.ref 62), some (vi v), l2, l3] [] 79 (y_P S h t a op 0 fl) R (ip_up L 62 24 w) Q = ip_wp (d + 3) 158 3 [some (.ref 62), some (vi (v - v3)), some (vi 0), some (vi v3)] [] 79 (y_P S h3 t3 a3 op bd3 fl3) R (ip_up L 62 24 w3) Q := fun Q => by
          rw [s158_3]
          simp (disch := omega) only [s158_0, s158_1, s158_2, s158_4, s158_5, s158_6, s158_7, s158_8, s158_9, s158_10, s158_11, s158_12, s158_13, s158_14, s158_15, s158_16, s158_17, s158_18, s158_19, s158_20, s158_21, s158_22, s158_23, s158_24, s158_25, s158_26, s158_27, s158_28, s158_29, s158_30, s158_31, s158_32, s158_33, s158_34, s158_35, s158_36, s158_37, ↓reduceIte, Bool.true_eq_false, Bool.false_eq_true, ip_rfS, true_or, or_true, true_and, and_true, Option.toList_some, Option.toList_none, List.cons_append, List.nil_append, ip_fxn, ip_fxi, ip_fxr, ip_fxl, ip_wid, ip_n998, ip_lt900, iO0, iO1, iA2, iA3, iA4, iA5, iA6, iA7, iA8, iO9, iA10, iA11, iA12, iA13, iA14, iA15, iA16, iO17, iA18, iO19, iA20, iA21, iA22, iA23, iO24, iA25, iO26, iA27, iA28, iO29, iA30, iA31, iO32, iA33, iA34, iO35, iA36, iA37, iO38, iA39, iA40, iO41, iA42, iA43, iO44, iA45, iA46, iA47, iA48, iA49, iA50, iA51, iA52, iA53, iO54, iA55, iO56, iA57, iO58, iA59, iO60, iA61, iO62, iA63, iA64, iA65, iA66, iA67, iA68, iA69, iA70, iA71, iA72, iA73, iA74, iA75, iA76, iA77, iA78, iOT, iAT1, iAT2, iOS, iAS, g, g2, q0, q1, Int.reduceEq, decide_true, decide_false, show k_n true = 1 from rfl, show k_n false = 0 from rfl, k2, k3, ec, ip_up_at]
        cases ft
        · obtain ⟨b1, b2⟩ := r2 rfl
          have hL0 : x_loop T la x_pm x_pmc f0 f false jn = (false, jn, []) := by cases f <;> simp [x_loop]
          rw [hL0]
          refine ⟨⟨by dsimp only; omega, i2⟩, v - v3, h3, t3, a3, w3, bd3, fl3, ⟨fun z => (by cases z), fun _ => ⟨b1, b2⟩⟩, fun Q => ?_⟩
          subst b1
          rw [step Q, s158_3]
          simp (disch := omega) only [s158_0, s158_1, s158_2, s158_4, s158_5, s158_6, s158_7, s158_8, s158_9, s158_10, s158_11, s158_12, s158_13, s158_14, s158_15, s158_16, s158_17, s158_18, s158_19, s158_20, s158_21, s158_22, s158_23, s158_24, s158_25, s158_26, s158_27, s158_28, s158_29, s158_30, s158_31, s158_32, s158_33, s158_34, s158_35, s158_36, s158_37, ↓reduceIte, Bool.true_eq_false, Bool.false_eq_true, ip_rfS, true_or, or_true, true_and, and_true, Option.toList_some, Option.toList_none, List.cons_append, List.nil_append, ip_fxn, ip_fxi, ip_fxr, ip_fxl, ip_wid, ip_n998, ip_lt900, iO0, iO1, iA2, iA3, iA4, iA5, iA6, iA7, iA8, iO9, iA10, iA11, iA12, iA13, iA14, iA15, iA16, iO17, iA18, iO19, iA20, iA21, iA22, iA23, iO24, iA25, iO26, iA27, iA28, iO29, iA30, iA31, iO32, iA33, iA34, iO35, iA36, iA37, iO38, iA39, iA40, iO41, iA42, iA43, iO44, iA45, iA46, iA47, iA48, iA49, iA50, iA51, iA52, iA53, iO54, iA55, iO56, iA57, iO58, iA59, iO60, iA61, iO62, iA63, iA64, iA65, iA66, iA67, iA68, iA69, iA70, iA71, iA72, iA73, iA74, iA75, iA76, iA77, iA78, iOT, iAT1, iAT2, iOS, iAS, q156b]
        · obtain ⟨b1, J3, vw, vv⟩ := r1 rfl
          subst b1
          have hev : vi (v_jn (-22) v v3) = vi (v - v3) := by
            rw [show v_jn (-22) v v3 = ip_w (v - v3) by simp only [v_jn, Int.reduceEq, Int.reduceNeg, if_true, if_false], ip_viw]
          obtain ⟨⟨e1, e2⟩, v4, h4, t4, a4, w4, bd4, fl4, res, k4⟩ := y158l hM hC hs f jn h3 t3 a3 w3 fl3 (v_jn (-22) v v3) (O ++ (on ++ [-22])) (some (vi 0)) (some (vi v3)) (by omega) i2 (by have := i3 rfl; omega) J3 v_jnw (y_val2 hO vv (by omega))
          rw [hev] at k4
          rw [List.append_assoc, List.append_assoc, List.singleton_append] at res
          exact ⟨⟨by omega, e2⟩, v4, h4, t4, a4, w4, bd4, fl4, res, fun Q => by rw [step Q, k4 Q]⟩
      · have hL : x_loop T la x_pm x_pmc f0 (f + 1) true j = (true, j, []) := by
          rw [x_loop, if_neg (by simp [x_is, x_pm, q0, q1])]
        rw [hL]
        refine ⟨⟨Int.le_refl _, hj2⟩, v, h, t, a, w, 0, fl, ⟨fun _ => ⟨rfl, J, hv, by rw [List.append_nil]; exact hO⟩, fun z => (by cases z)⟩, fun Q => ?_⟩
        rw [s158_3]
        simp (disch := omega) only [s158_0, s158_1, s158_2, s158_4, s158_5, s158_6, s158_7, s158_8, s158_9, s158_10, s158_11, s158_12, s158_13, s158_14, s158_15, s158_16, s158_17, s158_18, s158_19, s158_20, s158_21, s158_22, s158_23, s158_24, s158_25, s158_26, s158_27, s158_28, s158_29, s158_30, s158_31, s158_32, s158_33, s158_34, s158_35, s158_36, s158_37, ↓reduceIte, Bool.true_eq_false, Bool.false_eq_true, ip_rfS, true_or, or_true, true_and, and_true, Option.toList_some, Option.toList_none, List.cons_append, List.nil_append, ip_fxn, ip_fxi, ip_fxr, ip_fxl, ip_wid, ip_n998, ip_lt900, iO0, iO1, iA2, iA3, iA4, iA5, iA6, iA7, iA8, iO9, iA10, iA11, iA12, iA13, iA14, iA15, iA16, iO17, iA18, iO19, iA20, iA21, iA22, iA23, iO24, iA25, iO26, iA27, iA28, iO29, iA30, iA31, iO32, iA33, iA34, iO35, iA36, iA37, iO38, iA39, iA40, iO41, iA42, iA43, iO44, iA45, iA46, iA47, iA48, iA49, iA50, iA51, iA52, iA53, iO54, iA55, iO56, iA57, iO58, iA59, iO60, iA61, iO62, iA63, iA64, iA65, iA66, iA67, iA68, iA69, iA70, iA71, iA72, iA73, iA74, iA75, iA76, iA77, iA78, iOT, iAT1, iAT2, iOS, iAS, g, g2, q0, q1, decide_false, show k_n false = 0 from rfl]
theorem y158 {f0 : Int → x_PR} (hM : x_RM R) (hC : y_C S b sz T P N la) (hs : y_ok S R L b sz T P N la (d + 3) 159 op f0) : y_ok S R L b sz T P N la (d + 4) 158 op (x_rep T la x_pm x_pmc f0) := by
  intro j h t a w fl hj hj2 J
  obtain ⟨⟨i1, i2, i3⟩, v3, h3, t3, a3, w3, bd3, fl3, ⟨r1, r2⟩, k3⟩ := hs j h t a w fl hj hj2 J
  have hla := hC.2.1.2.1
  have hsz := hC.1.2.2.1
  unfold x_rep
  generalize f0 j = r at *
  obtain ⟨ft, jn, on⟩ := r
  dsimp only at *
  cases ft
  · obtain ⟨b1, b2⟩ := r2 rfl
    subst b1
    have hL0 : x_loop T la x_pm x_pmc f0 160 false jn = (false, jn, []) := by simp [x_loop]
    rw [hL0]
    refine ⟨⟨i1, i2, fun z => (by cases z)⟩, v3, h3, t3, a3, w3, 1, fl3, ⟨fun z => (by cases z), fun _ => ⟨rfl, b2⟩⟩, fun Q => ?_⟩
    simp (disch := omega) only [c158, s158_0, s158_1, s158_2, s158_3, s158_4, s158_5, s158_6, s158_7, s158_8, s158_9, s158_10, s158_11, s158_12, s158_13, s158_14, s158_15, s158_16, s158_17, s158_18, s158_19, s158_20, s158_21, s158_22, s158_23, s158_24, s158_25, s158_26, s158_27, s158_28, s158_29, s158_30, s158_31, s158_32, s158_33, s158_34, s158_35, s158_36, s158_37, ↓reduceIte, Bool.true_eq_false, Bool.false_eq_true, ip_rfS, true_or, or_true, true_and, and_true, Option.toList_some, Option.toList_none, List.cons_append, List.nil_append, ip_fxn, ip_fxi, ip_fxr, ip_fxl, ip_wid, ip_n998, ip_lt900, iO0, iO1, iA2, iA3, iA4, iA5, iA6, iA7, iA8, iO9, iA10, iA11, iA12, iA13, iA14, iA15, iA16, iO17, iA18, iO19, iA20, iA21, iA22, iA23, iO24, iA25, iO26, iA27, iA28, iO29, iA30, iA31, iO32, iA33, iA34, iO35, iA36, iA37, iO38, iA39, iA40, iO41, iA42, iA43, iO44, iA45, iA46, iA47, iA48, iA49, iA50, iA51, iA52, iA53, iO54, iA55, iO56, iA57, iO58, iA59, iO60, iA61, iO62, iA63, iA64, iA65, iA66, iA67, iA68, iA69, iA70, iA71, iA72, iA73, iA74, iA75, iA76, iA77, iA78, iOT, iAT1, iAT2, iOS, iAS, k3, q156b]
  · obtain ⟨b1, J3, vw, vv⟩ := r1 rfl
    subst b1
    have h3j := i3 rfl
    obtain ⟨⟨e1, e2⟩, v4, h4, t4, a4, w4, bd4, fl4, res, k4⟩ := y158l (d := d) hM hC hs 160 jn h3 t3 a3 w3 fl3 v3 on none none (by omega) i2 (by omega) J3 vw vv
    refine ⟨⟨by dsimp only; omega, e2, fun _ => by dsimp only; omega⟩, v4, h4, t4, a4, w4, bd4, fl4, res, fun Q => ?_⟩
    simp (disch := omega) only [c158, s158_0, s158_1, s158_2, ↓reduceIte, Bool.true_eq_false, Bool.false_eq_true, ip_rfS, true_or, or_true, true_and, and_true, Option.toList_some, Option.toList_none, List.cons_append, List.nil_append, ip_fxn, ip_fxi, ip_fxr, ip_fxl, ip_wid, ip_n998, ip_lt900, iO0, iO1, iA2, iA3, iA4, iA5, iA6, iA7, iA8, iO9, iA10, iA11, iA12, iA13, iA14, iA15, iA16, iO17, iA18, iO19, iA20, iA21, iA22, iA23, iO24, iA25, iO26, iA27, iA28, iO29, iA30, iA31, iO32, iA33, iA34, iO35, iA36, iA37, iO38, iA39, iA40, iO41, iA42, iA43, iO44, iA45, iA46, iA47, iA48, iA49, iA50, iA51, iA52, iA53, iO54, iA55, iO56, iA57, iO58, iA59, iO60, iA61, iO62, iA63, iA64, iA65, iA66, iA67, iA68, iA69, iA70, iA71, iA72, iA73, iA74, iA75, iA76, iA77, iA78, iOT, iAT1, iAT2, iOS, iAS, k3, k4]

theorem y151 {one nt : Int → x_PR} (ho : 0 ≤ op ∧ op < 5) (hM : x_RM R) (hC : y_C S b sz T P N la) (hs : y_ok S R L b sz T P N la (d + 4) 158 op (x_sum T la one)) (hp : y_ok S R L b sz T P N la (d + 4) 152 (op + 1) nt) : y_ok S R L b sz T P N la (d + 5) 151 op (x_not T one la (x_nopn la nt)) := by
  intro j h t a w fl hj hj2 J
  have hla := hC.2.1.2.1
  have hsz := hC.1.2.2.1
  have hjr := J.2.1
  have g := fun Q' => q140 (d := d + 1) (op := op) (fl := fl) (L' := ip_up L 62 24 w) (Q := Q') 5 (by omega) (ki := 5) rfl yW5 hM hC hj J (by omega) (by omega) (by omega) (by omega) (by omega) (by omega) (by omega) (by omega)
  have kt : k_n true = 1 := rfl
  have kf : k_n false = 0 := rfl
  by_cases q0 : T j = 5
  · obtain ⟨n1, n2, h2, t2, a2, w2, J2, k2⟩ := q147 (d := d) (L := L) (op := op) hM hC hj J (by omega) (by omega) ho
    obtain ⟨⟨i1, i2, i3⟩, v3, h3, t3, a3, w3, bd3, fl3, ⟨r1, r2⟩, k3⟩ := hp (j + 1) h2 t2 a2 w2 fl (by omega) (by omega) J2
    have hL : x_not T one la (x_nopn la nt) j = ((nt (j + 1)).1, (nt (j + 1)).2.1, (nt (j + 1)).2.2 ++ [-12]) := by rw [x_not, if_pos q0, x_nopn, n2]
    rw [hL]
    generalize nt (j + 1) = r at *
    obtain ⟨ft, jn, on⟩ := r
    dsimp only at *
    have key : ∀ Q, ip_wc (d + 5) 151 [.ref 62] 79 (y_P S h t a op 0 fl) R (ip_up L 62 24 w) Q = Q (some (vi (if ip_w v3 = 0 then 1 else 0))) 79 (y_P S h3 t3 a3 op bd3 fl3) R (ip_up L 62 24 w3) := fun Q => by
      by_cases z : ip_w v3 = 0
      · simp (disch := omega) only [c151, s151_0, s151_1, s151_2, s151_3, s151_4, s151_5, s151_6, s151_7, s151_8, s151_9, s151_10, s151_11, s151_12, s151_13, s151_14, s151_15, s151_16, s151_17, s151_18, s151_19, s151_20, s151_21, s151_22, s151_23, s151_24, s151_25, s151_26, s151_27, s151_28, s151_29, s151_30, s151_31, s151_32, s151_33, s151_34, s151_35, s151_36, s151_37, s151_38, s151_39, s151_40, s151_41, s151_42, s151_43, s151_44, s151_45, s151_46, s151_47, s151_48, s151_49, s151_50, s151_51, s151_52, s151_53, s151_54, s151_55, s151_56, s151_57, s151_58, s151_59, s151_60, s151_61, s151_62, s151_63, s151_64, s151_65, s151_66, s151_67, s151_68, s151_69, s151_70, ↓reduceIte, Bool.true_eq_false, Bool.false_eq_true, ip_rfS, true_or, or_true, true_and, and_true, Option.toList_some, Option.toList_none, List.cons_append, List.nil_append, ip_fxn, ip_fxi, ip_fxr, ip_fxl, ip_wid, ip_n998, ip_lt900, iO0, iO1, iA2, iA3, iA4, iA5, iA6, iA7, iA8, iO9, iA10, iA11, iA12, iA13, iA14, iA15, iA16, iO17, iA18, iO19, iA20, iA21, iA22, iA23, iO24, iA25, iO26, iA27, iA28, iO29, iA30, iA31, iO32, iA33, iA34, iO35, iA36, iA37, iO38, iA39, iA40, iO41, iA42, iA43, iO44, iA45, iA46, iA47, iA48, iA49, iA50, iA51, iA52, iA53, iO54, iA55, iO56, iA57, iO58, iA59, iO60, iA61, iO62, iA63, iA64, iA65, iA66, iA67, iA68, iA69, iA70, iA71, iA72, iA73, iA74, iA75, iA76, iA77, iA78, iOT, iAT1, iAT2, iOS, iAS, g, q0, k2, k3, z, yp_o, yp_uo, Int.add_sub_cancel, if_true, Int.reduceEq, decide_true, decide_false, kt, kf]
      · simp (disch := omega) only [c151, s151_0, s151_1, s151_2, s151_3, s151_4, s151_5, s151_6, s151_7, s151_8, s151_9, s151_10, s151_11, s151_12, s151_13, s151_14, s151_15, s151_16, s151_17, s151_18, s151_19, s151_20, s151_21, s151_22, s151_23, s151_24, s151_25, s151_26, s151_27, s151_28, s151_29, s151_30, s151_31, s151_32, s151_33, s151_34, s151_35, s151_36, s151_37, s151_38, s151_39, s151_40, s151_41, s151_42, s151_43, s151_44, s151_45, s151_46, s151_47, s151_48, s151_49, s151_50, s151_51, s151_52, s151_53, s151_54, s151_55, s151_56, s151_57, s151_58, s151_59, s151_60, s151_61, s151_62, s151_63, s151_64, s151_65, s151_66, s151_67, s151_68, s151_69, s151_70, ↓reduceIte, Bool.true_eq_false, Bool.false_eq_true, ip_rfS, true_or, or_true, true_and, and_true, Option.toList_some, Option.toList_none, List.cons_append, List.nil_append, ip_fxn, ip_fxi, ip_fxr, ip_fxl, ip_wid, ip_n998, ip_lt900, iO0, iO1, iA2, iA3, iA4, iA5, iA6, iA7, iA8, iO9, iA10, iA11, iA12, iA13, iA14, iA15, iA16, iO17, iA18, iO19, iA20, iA21, iA22, iA23, iO24, iA25, iO26, iA27, iA28, iO29, iA30, iA31, iO32, iA33, iA34, iO35, iA36, iA37, iO38, iA39, iA40, iO41, iA42, iA43, iO44, iA45, iA46, iA47, iA48, iA49, iA50, iA51, iA52, iA53, iO54, iA55, iO56, iA57, iO58, iA59, iO60, iA61, iO62, iA63, iA64, iA65, iA66, iA67, iA68, iA69, iA70, iA71, iA72, iA73, iA74, iA75, iA76, iA77, iA78, iOT, iAT1, iAT2, iOS, iAS, g, q0, k2, k3, z, yp_o, yp_uo, Int.add_sub_cancel, if_false, Int.reduceEq, decide_true, decide_false, kt, kf]
    refine ⟨⟨by dsimp only; omega, i2, fun z => by have := i3 z; dsimp only; omega⟩, (if ip_w v3 = 0 then 1 else 0), h3, t3, a3, w3, bd3, fl3, ⟨fun z => ?_, fun z => r2 z⟩, key⟩
    obtain ⟨b1, J3, vw, vv⟩ := r1 z
    have hev : v_tn (-12) v3 = (if ip_w v3 = 0 then 1 else 0) := by
      rw [vw]
      simp only [v_tn, Int.reduceEq, Int.reduceNeg, if_false]
    exact ⟨b1, J3, by rw [← hev]; exact v_tnw, by rw [← hev]; exact y_val1 vv (by omega) (by omega)⟩
  · have hL : x_not T one la (x_nopn la nt) j = x_cmp T la one j := by rw [x_not, if_neg q0]
    rw [hL]
    obtain ⟨⟨i1, i2, i3⟩, v3, h3, t3, a3, w3, bd3, fl3, ⟨r1, r2⟩, k3⟩ := hs j h t a w fl hj hj2 J
    unfold x_cmp
    generalize hr : x_sum T la one j = r at *
    obtain ⟨ft, jn, on⟩ := r
    dsimp only at *
    cases ft
    · obtain ⟨b1, b2⟩ := r2 rfl
      subst b1
      rw [if_neg (by simp)]
      refine ⟨⟨i1, i2, fun z => (by cases z)⟩, v3, h3, t3, a3, w3, 1, fl3, ⟨fun z => (by cases z), fun _ => ⟨rfl, b2⟩⟩, fun Q => ?_⟩
      simp (disch := omega) only [c151, s151_0, s151_1, s151_2, s151_3, s151_4, s151_5, s151_6, s151_7, s151_8, s151_9, s151_10, s151_11, s151_12, s151_13, s151_14, s151_15, s151_16, s151_17, s151_18, s151_19, s151_20, s151_21, s151_22, s151_23, s151_24, s151_25, s151_26, s151_27, s151_28, s151_29, s151_30, s151_31, s151_32, s151_33, s151_34, s151_35, s151_36, s151_37, s151_38, s151_39, s151_40, s151_41, s151_42, s151_43, s151_44, s151_45, s151_46, s151_47, s151_48, s151_49, s151_50, s151_51, s151_52, s151_53, s151_54, s151_55, s151_56, s151_57, s151_58, s151_59, s151_60, s151_61, s151_62, s151_63, s151_64, s151_65, s151_66, s151_67, s151_68, s151_69, s151_70, ↓reduceIte, Bool.true_eq_false, Bool.false_eq_true, ip_rfS, true_or, or_true, true_and, and_true, Option.toList_some, Option.toList_none, List.cons_append, List.nil_append, ip_fxn, ip_fxi, ip_fxr, ip_fxl, ip_wid, ip_n998, ip_lt900, iO0, iO1, iA2, iA3, iA4, iA5, iA6, iA7, iA8, iO9, iA10, iA11, iA12, iA13, iA14, iA15, iA16, iO17, iA18, iO19, iA20, iA21, iA22, iA23, iO24, iA25, iO26, iA27, iA28, iO29, iA30, iA31, iO32, iA33, iA34, iO35, iA36, iA37, iO38, iA39, iA40, iO41, iA42, iA43, iO44, iA45, iA46, iA47, iA48, iA49, iA50, iA51, iA52, iA53, iO54, iA55, iO56, iA57, iO58, iA59, iO60, iA61, iO62, iA63, iA64, iA65, iA66, iA67, iA68, iA69, iA70, iA71, iA72, iA73, iA74, iA75, iA76, iA77, iA78, iOT, iAT1, iAT2, iOS, iAS, g, q0, k3, q156b, Int.reduceEq, decide_true, decide_false, kt, kf]
    · obtain ⟨b1, J3, vw, vv⟩ := r1 rfl
      subst b1
      have h3j := i3 rfl
      have e1 := fun Q' => q156 (d := d + 3) (S := S) (R := R) (L := L) (op := op) (fl := fl3) (Q := Q') J3 (s := 60) (by omega)
      have e2 := fun Q' => q156 (d := d + 3) (S := S) (R := R) (L := L) (op := op) (fl := fl3) (Q := Q') J3 (s := 61) (by omega)
      by_cases c1 : T jn = 60 ∨ T jn = 61
      · obtain ⟨n1, n2, h4, t4, a4, w4, J4, k4⟩ := q138 (d := d + 1) (L := L) hM hC (by omega) J3 (by omega) (by omega)
        obtain ⟨⟨m1, m2, m3⟩, v5, h5, t5, a5, w5, bd5, fl5, ⟨s1, s2⟩, k5⟩ := hs (jn + 1) h4 t4 a4 w4 fl3 (by omega) (by omega) J4
        rw [if_pos (by simp [c1]), n2]
        generalize x_sum T la one (jn + 1) = u at *
        obtain ⟨ft2, j5, o5⟩ := u
        dsimp only at *
        have ew := y_Jw J3 (by omega)
        rcases c1 with c1 | c1
        · have ec : ip_w (ip_cmpl (ip_w64 w3) (ip_w64 60)) = 0 := by rw [ew, c1]; decide +kernel
          have key : ∀ Q, ip_wc (d + 5) 151 [.ref 62] 79 (y_P S h t a op 0 fl) R (ip_up L 62 24 w) Q = Q (some (vi (if v3 < ip_w v5 then 1 else 0))) 79 (y_P S h5 t5 a5 op bd5 fl5) R (ip_up L 62 24 w5) := fun Q => by
            by_cases z : v3 < ip_w v5
            · simp (disch := omega) only [c151, s151_0, s151_1, s151_2, s151_3, s151_4, s151_5, s151_6, s151_7, s151_8, s151_9, s151_10, s151_11, s151_12, s151_13, s151_14, s151_15, s151_16, s151_17, s151_18, s151_19, s151_20, s151_21, s151_22, s151_23, s151_24, s151_25, s151_26, s151_27, s151_28, s151_29, s151_30, s151_31, s151_32, s151_33, s151_34, s151_35, s151_36, s151_37, s151_38, s151_39, s151_40, s151_41, s151_42, s151_43, s151_44, s151_45, s151_46, s151_47, s151_48, s151_49, s151_50, s151_51, s151_52, s151_53, s151_54, s151_55, s151_56, s151_57, s151_58, s151_59, s151_60, s151_61, s151_62, s151_63, s151_64, s151_65, s151_66, s151_67, s151_68, s151_69, s151_70, ↓reduceIte, Bool.true_eq_false, Bool.false_eq_true, ip_rfS, true_or, or_true, true_and, and_true, Option.toList_some, Option.toList_none, List.cons_append, List.nil_append, ip_fxn, ip_fxi, ip_fxr, ip_fxl, ip_wid, ip_n998, ip_lt900, iO0, iO1, iA2, iA3, iA4, iA5, iA6, iA7, iA8, iO9, iA10, iA11, iA12, iA13, iA14, iA15, iA16, iO17, iA18, iO19, iA20, iA21, iA22, iA23, iO24, iA25, iO26, iA27, iA28, iO29, iA30, iA31, iO32, iA33, iA34, iO35, iA36, iA37, iO38, iA39, iA40, iO41, iA42, iA43, iO44, iA45, iA46, iA47, iA48, iA49, iA50, iA51, iA52, iA53, iO54, iA55, iO56, iA57, iO58, iA59, iO60, iA61, iO62, iA63, iA64, iA65, iA66, iA67, iA68, iA69, iA70, iA71, iA72, iA73, iA74, iA75, iA76, iA77, iA78, iOT, iAT1, iAT2, iOS, iAS, g, q0, k3, e1, c1, k4, k5, ip_up_at, ec, vw, z, if_true, Int.reduceEq, decide_true, decide_false, kt, kf]
            · simp (disch := omega) only [c151, s151_0, s151_1, s151_2, s151_3, s151_4, s151_5, s151_6, s151_7, s151_8, s151_9, s151_10, s151_11, s151_12, s151_13, s151_14, s151_15, s151_16, s151_17, s151_18, s151_19, s151_20, s151_21, s151_22, s151_23, s151_24, s151_25, s151_26, s151_27, s151_28, s151_29, s151_30, s151_31, s151_32, s151_33, s151_34, s151_35, s151_36, s151_37, s151_38, s151_39, s151_40, s151_41, s151_42, s151_43, s151_44, s151_45, s151_46, s151_47, s151_48, s151_49, s151_50, s151_51, s151_52, s151_53, s151_54, s151_55, s151_56, s151_57, s151_58, s151_59, s151_60, s151_61, s151_62, s151_63, s151_64, s151_65, s151_66, s151_67, s151_68, s151_69, s151_70, ↓reduceIte, Bool.true_eq_false, Bool.false_eq_true, ip_rfS, true_or, or_true, true_and, and_true, Option.toList_some, Option.toList_none, List.cons_append, List.nil_append, ip_fxn, ip_fxi, ip_fxr, ip_fxl, ip_wid, ip_n998, ip_lt900, iO0, iO1, iA2, iA3, iA4, iA5, iA6, iA7, iA8, iO9, iA10, iA11, iA12, iA13, iA14, iA15, iA16, iO17, iA18, iO19, iA20, iA21, iA22, iA23, iO24, iA25, iO26, iA27, iA28, iO29, iA30, iA31, iO32, iA33, iA34, iO35, iA36, iA37, iO38, iA39, iA40, iO41, iA42, iA43, iO44, iA45, iA46, iA47, iA48, iA49, iA50, iA51, iA52, iA53, iO54, iA55, iO56, iA57, iO58, iA59, iO60, iA61, iO62, iA63, iA64, iA65, iA66, iA67, iA68, iA69, iA70, iA71, iA72, iA73, iA74, iA75, iA76, iA77, iA78, iOT, iAT1, iAT2, iOS, iAS, g, q0, k3, e1, c1, k4, k5, ip_up_at, ec, vw, z, if_false, Int.reduceEq, decide_true, decide_false, kt, kf]
          refine ⟨⟨by dsimp only; omega, m2, fun z => by have := m3 z; dsimp only; omega⟩, (if v3 < ip_w v5 then 1 else 0), h5, t5, a5, w5, bd5, fl5, ⟨fun z => ?_, fun z => s2 z⟩, key⟩
          obtain ⟨d1, J5, d3, d4⟩ := s1 z
          have hev : v_jn (-24) v3 v5 = (if v3 < ip_w v5 then 1 else 0) := by
            rw [d3]
            simp only [v_jn, Int.reduceEq, Int.reduceNeg, if_true, if_false]
          rw [if_pos c1]
          exact ⟨d1, J5, by rw [← hev]; exact v_jnw, by rw [← hev]; exact y_val2 vv d4 (by omega)⟩
        · have ec : ¬ ip_w (ip_cmpl (ip_w64 w3) (ip_w64 60)) = 0 := by rw [ew, c1]; decide +kernel
          have key : ∀ Q, ip_wc (d + 5) 151 [.ref 62] 79 (y_P S h t a op 0 fl) R (ip_up L 62 24 w) Q = Q (some (vi (if v3 = ip_w v5 then 1 else 0))) 79 (y_P S h5 t5 a5 op bd5 fl5) R (ip_up L 62 24 w5) := fun Q => by
            by_cases z : v3 = ip_w v5
            · simp (disch := omega) only [c151, s151_0, s151_1, s151_2, s151_3, s151_4, s151_5, s151_6, s151_7, s151_8, s151_9, s151_10, s151_11, s151_12, s151_13, s151_14, s151_15, s151_16, s151_17, s151_18, s151_19, s151_20, s151_21, s151_22, s151_23, s151_24, s151_25, s151_26, s151_27, s151_28, s151_29, s151_30, s151_31, s151_32, s151_33, s151_34, s151_35, s151_36, s151_37, s151_38, s151_39, s151_40, s151_41, s151_42, s151_43, s151_44, s151_45, s151_46, s151_47, s151_48, s151_49, s151_50, s151_51, s151_52, s151_53, s151_54, s151_55, s151_56, s151_57, s151_58, s151_59, s151_60, s151_61, s151_62, s151_63, s151_64, s151_65, s151_66, s151_67, s151_68, s151_69, s151_70, ↓reduceIte, Bool.true_eq_false, Bool.false_eq_true, ip_rfS, true_or, or_true, true_and, and_true, Option.toList_some, Option.toList_none, List.cons_append, List.nil_append, ip_fxn, ip_fxi, ip_fxr, ip_fxl, ip_wid, ip_n998, ip_lt900, iO0, iO1, iA2, iA3, iA4, iA5, iA6, iA7, iA8, iO9, iA10, iA11, iA12, iA13, iA14, iA15, iA16, iO17, iA18, iO19, iA20, iA21, iA22, iA23, iO24, iA25, iO26, iA27, iA28, iO29, iA30, iA31, iO32, iA33, iA34, iO35, iA36, iA37, iO38, iA39, iA40, iO41, iA42, iA43, iO44, iA45, iA46, iA47, iA48, iA49, iA50, iA51, iA52, iA53, iO54, iA55, iO56, iA57, iO58, iA59, iO60, iA61, iO62, iA63, iA64, iA65, iA66, iA67, iA68, iA69, iA70, iA71, iA72, iA73, iA74, iA75, iA76, iA77, iA78, iOT, iAT1, iAT2, iOS, iAS, g, q0, k3, e1, e2, c1, k4, k5, ip_up_at, ec, vw, eq_true z, if_true, Int.reduceEq, decide_true, decide_false, kt, kf]
            · simp (disch := omega) only [c151, s151_0, s151_1, s151_2, s151_3, s151_4, s151_5, s151_6, s151_7, s151_8, s151_9, s151_10, s151_11, s151_12, s151_13, s151_14, s151_15, s151_16, s151_17, s151_18, s151_19, s151_20, s151_21, s151_22, s151_23, s151_24, s151_25, s151_26, s151_27, s151_28, s151_29, s151_30, s151_31, s151_32, s151_33, s151_34, s151_35, s151_36, s151_37, s151_38, s151_39, s151_40, s151_41, s151_42, s151_43, s151_44, s151_45, s151_46, s151_47, s151_48, s151_49, s151_50, s151_51, s151_52, s151_53, s151_54, s151_55, s151_56, s151_57, s151_58, s151_59, s151_60, s151_61, s151_62, s151_63, s151_64, s151_65, s151_66, s151_67, s151_68, s151_69, s151_70, ↓reduceIte, Bool.true_eq_false, Bool.false_eq_true, ip_rfS, true_or, or_true, true_and, and_true, Option.toList_some, Option.toList_none, List.cons_append, List.nil_append, ip_fxn, ip_fxi, ip_fxr, ip_fxl, ip_wid, ip_n998, ip_lt900, iO0, iO1, iA2, iA3, iA4, iA5, iA6, iA7, iA8, iO9, iA10, iA11, iA12, iA13, iA14, iA15, iA16, iO17, iA18, iO19, iA20, iA21, iA22, iA23, iO24, iA25, iO26, iA27, iA28, iO29, iA30, iA31, iO32, iA33, iA34, iO35, iA36, iA37, iO38, iA39, iA40, iO41, iA42, iA43, iO44, iA45, iA46, iA47, iA48, iA49, iA50, iA51, iA52, iA53, iO54, iA55, iO56, iA57, iO58, iA59, iO60, iA61, iO62, iA63, iA64, iA65, iA66, iA67, iA68, iA69, iA70, iA71, iA72, iA73, iA74, iA75, iA76, iA77, iA78, iOT, iAT1, iAT2, iOS, iAS, g, q0, k3, e1, e2, c1, k4, k5, ip_up_at, ec, vw, z, if_false, Int.reduceEq, decide_true, decide_false, kt, kf]
          refine ⟨⟨by dsimp only; omega, m2, fun z => by have := m3 z; dsimp only; omega⟩, (if v3 = ip_w v5 then 1 else 0), h5, t5, a5, w5, bd5, fl5, ⟨fun z => ?_, fun z => s2 z⟩, key⟩
          obtain ⟨d1, J5, d3, d4⟩ := s1 z
          have hev : v_jn (-25) v3 v5 = (if v3 = ip_w v5 then 1 else 0) := by
            rw [d3]
            simp only [v_jn, Int.reduceEq, Int.reduceNeg, if_true, if_false]
          rw [if_neg (by omega)]
          exact ⟨d1, J5, by rw [← hev]; exact v_jnw, by rw [← hev]; exact y_val2 vv d4 (by omega)⟩
      · rw [if_neg (by simp [c1])]
        refine ⟨⟨i1, i2, i3⟩, v3, h3, t3, a3, w3, 0, fl3, ⟨fun _ => ⟨rfl, J3, vw, vv⟩, fun z => (by cases z)⟩, fun Q => ?_⟩
        simp (disch := omega) only [c151, s151_0, s151_1, s151_2, s151_3, s151_4, s151_5, s151_6, s151_7, s151_8, s151_9, s151_10, s151_11, s151_12, s151_13, s151_14, s151_15, s151_16, s151_17, s151_18, s151_19, s151_20, s151_21, s151_22, s151_23, s151_24, s151_25, s151_26, s151_27, s151_28, s151_29, s151_30, s151_31, s151_32, s151_33, s151_34, s151_35, s151_36, s151_37, s151_38, s151_39, s151_40, s151_41, s151_42, s151_43, s151_44, s151_45, s151_46, s151_47, s151_48, s151_49, s151_50, s151_51, s151_52, s151_53, s151_54, s151_55, s151_56, s151_57, s151_58, s151_59, s151_60, s151_61, s151_62, s151_63, s151_64, s151_65, s151_66, s151_67, s151_68, s151_69, s151_70, ↓reduceIte, Bool.true_eq_false, Bool.false_eq_true, ip_rfS, true_or, or_true, true_and, and_true, Option.toList_some, Option.toList_none, List.cons_append, List.nil_append, ip_fxn, ip_fxi, ip_fxr, ip_fxl, ip_wid, ip_n998, ip_lt900, iO0, iO1, iA2, iA3, iA4, iA5, iA6, iA7, iA8, iO9, iA10, iA11, iA12, iA13, iA14, iA15, iA16, iO17, iA18, iO19, iA20, iA21, iA22, iA23, iO24, iA25, iO26, iA27, iA28, iO29, iA30, iA31, iO32, iA33, iA34, iO35, iA36, iA37, iO38, iA39, iA40, iO41, iA42, iA43, iO44, iA45, iA46, iA47, iA48, iA49, iA50, iA51, iA52, iA53, iO54, iA55, iO56, iA57, iO58, iA59, iO60, iA61, iO62, iA63, iA64, iA65, iA66, iA67, iA68, iA69, iA70, iA71, iA72, iA73, iA74, iA75, iA76, iA77, iA78, iOT, iAT1, iAT2, iOS, iAS, g, q0, k3, e1, e2, show ¬ T jn = 60 by omega, show ¬ T jn = 61 by omega, Int.reduceEq, decide_true, decide_false, kt, kf]

theorem y167l {f0 : Int → x_PR} (hM : x_RM R) (hC : y_C S b sz T P N la) (hs : y_ok S R L b sz T P N la (d + 3) 151 op f0) : ∀ (f : Nat) (j h t a w fl v : Int) (O : List Int) (l2 : Option Value), 0 ≤ j → j ≤ la → la + 1 ≤ j + f → y_J b sz T P N la j h t a w → ip_w v = v → y_val (y_nam S) O v →
    (j ≤ (x_loop T la (x_is 4) (fun _ => -26) f0 f true j).2.1 ∧ (x_loop T la (x_is 4) (fun _ => -26) f0 f true j).2.1 ≤ la) ∧ ∃ v' h' t' a' w' bd' fl', y_res S b sz T P N la ((x_loop T la (x_is 4) (fun _ => -26) f0 f true j).1, (x_loop T la (x_is 4) (fun _ => -26) f0 f true j).2.1, O ++ (x_loop T la (x_is 4) (fun _ => -26) f0 f true j).2.2) v' h' t' a' w' bd' fl' ∧
      ∀ Q, ip_wp (d + 3) 167 3 [some (.ref 62), some (vi v), l2] [] 79 (y_P S h t a op 0 fl) R (ip_up L 62 24 w) Q = Q (some (vi v')) 79 (y_P S h' t' a' op bd' fl') R (ip_up L 62 24 w')
  | 0, j, h, t, a, w, fl, v, O, l2, hj, hj2, hf, J, hv, hO => by omega
  | f + 1, j, h, t, a, w, fl, v, O, l2, hj, hj2, hf, J, hv, hO => by
    have g := fun Q' => q140 (d := d) (op := op) (fl := fl) (L' := ip_up L 62 24 w) (Q := Q') 4 (by omega) (ki := 4) rfl yW4 hM hC hj J (by omega) (by omega) (by omega) (by omega) (by omega) (by omega) (by omega) (by omega)
    by_cases q0 : T j = 4
    · obtain ⟨n1, n2, h2, t2, a2, w2, J2, k2⟩ := q138 (d := d) (L := L) hM hC hj J (by omega) (by omega)
      obtain ⟨⟨i1, i2, i3⟩, v3, h3, t3, a3, w3, bd3, fl3, ⟨r1, r2⟩, k3⟩ := hs (j + 1) h2 t2 a2 w2 fl (by omega) (by omega) J2
      have hL : x_loop T la (x_is 4) (fun _ => -26) f0 (f + 1) true j = ((x_loop T la (x_is 4) (fun _ => -26) f0 f (f0 (j + 1)).1 (f0 (j + 1)).2.1).1, (x_loop T la (x_is 4) (fun _ => -26) f0 f (f0 (j + 1)).1 (f0 (j + 1)).2.1).2.1, (f0 (j + 1)).2.2 ++ -26 :: (x_loop T la (x_is 4) (fun _ => -26) f0 f (f0 (j + 1)).1 (f0 (j + 1)).2.1).2.2) := by
        rw [x_loop, if_pos (by simp [x_is, x_pm, q0]), n2]
        try simp only [x_pmc, q0, Int.reduceEq, if_true, if_false]
      rw [hL]
      generalize f0 (j + 1) = r at *
      obtain ⟨ft, jn, on⟩ := r
      dsimp only at *
      have step : ∀ Q, ∃ v5 : Int, v5 = (if ¬ v = 0 ∧ ¬ ip_w v3 = 0 then 1 else 0) ∧ ip_wp (d + 3) 167 3 [some (.ref 62), some (vi v), l2] [] 79 (y_P S h t a op 0 fl) R (ip_up L 62 24 w) Q = ip_wp (d + 3) 167 3 [some (.ref 62), some (vi v5), some (vi v3)] [] 79 (y_P S h3 t3 a3 op bd3 fl3) R (ip_up L 62 24 w3) Q := fun Q => by
        refine ⟨_, rfl, ?_⟩
        rw [s167_3]
        by_cases z1 : v = 0
        · by_cases z2 : ip_w v3 = 0
          · simp (disch := omega) only [s167_0, s167_1, s167_2, s167_4, s167_5, s167_6, s167_7, s167_8, s167_9, s167_10, s167_11, s167_12, s167_13, s167_14, s167_15, s167_16, s167_17, s167_18, s167_19, s167_20, s167_21, s167_22, s167_23, s167_24, s167_25, s167_26, s167_27, s167_28, s167_29, ↓reduceIte, Bool.true_eq_false, Bool.false_eq_true, ip_rfS, true_or, or_true, true_and, and_true, Option.toList_some, Option.toList_none, List.cons_append, List.nil_append, ip_fxn, ip_fxi, ip_fxr, ip_fxl, ip_wid, ip_n998, ip_lt900, iO0, iO1, iA2, iA3, iA4, iA5, iA6, iA7, iA8, iO9, iA10, iA11, iA12, iA13, iA14, iA15, iA16, iO17, iA18, iO19, iA20, iA21, iA22, iA23, iO24, iA25, iO26, iA27, iA28, iO29, iA30, iA31, iO32, iA33, iA34, iO35, iA36, iA37, iO38, iA39, iA40, iO41, iA42, iA43, iO44, iA45, iA46, iA47, iA48, iA49, iA50, iA51, iA52, iA53, iO54, iA55, iO56, iA57, iO58, iA59, iO60, iA61, iO62, iA63, iA64, iA65, iA66, iA67, iA68, iA69, iA70, iA71, iA72, iA73, iA74, iA75, iA76, iA77, iA78, iOT, iAT1, iAT2, iOS, iAS, g, q0, Int.reduceEq, decide_true, show k_n true = 1 from rfl, k2, k3, hv, z1, z2, not_true, not_false_eq_true, and_self, or_self, false_and, and_false, or_true, true_or, if_true, if_false]
          · simp (disch := omega) only [s167_0, s167_1, s167_2, s167_4, s167_5, s167_6, s167_7, s167_8, s167_9, s167_10, s167_11, s167_12, s167_13, s167_14, s167_15, s167_16, s167_17, s167_18, s167_19, s167_20, s167_21, s167_22, s167_23, s167_24, s167_25, s167_26, s167_27, s167_28, s167_29, ↓reduceIte, Bool.true_eq_false, Bool.false_eq_true, ip_rfS, true_or, or_true, true_and, and_true, Option.toList_some, Option.toList_none, List.cons_append, List.nil_append, ip_fxn, ip_fxi, ip_fxr, ip_fxl, ip_wid, ip_n998, ip_lt900, iO0, iO1, iA2, iA3, iA4, iA5, iA6, iA7, iA8, iO9, iA10, iA11, iA12, iA13, iA14, iA15, iA16, iO17, iA18, iO19, iA20, iA21, iA22, iA23, iO24, iA25, iO26, iA27, iA28, iO29, iA30, iA31, iO32, iA33, iA34, iO35, iA36, iA37, iO38, iA39, iA40, iO41, iA42, iA43, iO44, iA45, iA46, iA47, iA48, iA49, iA50, iA51, iA52, iA53, iO54, iA55, iO56, iA57, iO58, iA59, iO60, iA61, iO62, iA63, iA64, iA65, iA66, iA67, iA68, iA69, iA70, iA71, iA72, iA73, iA74, iA75, iA76, iA77, iA78, iOT, iAT1, iAT2, iOS, iAS, g, q0, Int.reduceEq, decide_true, show k_n true = 1 from rfl, k2, k3, hv, z1, z2, not_true, not_false_eq_true, and_self, or_self, false_and, and_false, or_true, true_or, if_true, if_false]
        · by_cases z2 : ip_w v3 = 0
          · simp (disch := omega) only [s167_0, s167_1, s167_2, s167_4, s167_5, s167_6, s167_7, s167_8, s167_9, s167_10, s167_11, s167_12, s167_13, s167_14, s167_15, s167_16, s167_17, s167_18, s167_19, s167_20, s167_21, s167_22, s167_23, s167_24, s167_25, s167_26, s167_27, s167_28, s167_29, ↓reduceIte, Bool.true_eq_false, Bool.false_eq_true, ip_rfS, true_or, or_true, true_and, and_true, Option.toList_some, Option.toList_none, List.cons_append, List.nil_append, ip_fxn, ip_fxi, ip_fxr, ip_fxl, ip_wid, ip_n998, ip_lt900, iO0, iO1, iA2, iA3, iA4, iA5, iA6, iA7, iA8, iO9, iA10, iA11, iA12, iA13, iA14, iA15, iA16, iO17, iA18, iO19, iA20, iA21, iA22, iA23, iO24, iA25, iO26, iA27, iA28, iO29, iA30, iA31, iO32, iA33, iA34, iO35, iA36, iA37, iO38, iA39, iA40, iO41, iA42, iA43, iO44, iA45, iA46, iA47, iA48, iA49, iA50, iA51, iA52, iA53, iO54, iA55, iO56, iA57, iO58, iA59, iO60, iA61, iO62, iA63, iA64, iA65, iA66, iA67, iA68, iA69, iA70, iA71, iA72, iA73, iA74, iA75, iA76, iA77, iA78, iOT, iAT1, iAT2, iOS, iAS, g, q0, Int.reduceEq, decide_true, show k_n true = 1 from rfl, k2, k3, hv, z1, z2, not_true, not_false_eq_true, and_self, or_self, false_and, and_false, or_true, true_or, if_true, if_false]
          · simp (disch := omega) only [s167_0, s167_1, s167_2, s167_4, s167_5, s167_6, s167_7, s167_8, s167_9, s167_10, s167_11, s167_12, s167_13, s167_14, s167_15, s167_16, s167_17, s167_18, s167_19, s167_20, s167_21, s167_22, s167_23, s167_24, s167_25, s167_26, s167_27, s167_28, s167_29, ↓reduceIte, Bool.true_eq_false, Bool.false_eq_true, ip_rfS, true_or, or_true, true_and, and_true, Option.toList_some, Option.toList_none, List.cons_append, List.nil_append, ip_fxn, ip_fxi, ip_fxr, ip_fxl, ip_wid, ip_n998, ip_lt900, iO0, iO1, iA2, iA3, iA4, iA5, iA6, iA7, iA8, iO9, iA10, iA11, iA12, iA13, iA14, iA15, iA16, iO17, iA18, iO19, iA20, iA21, iA22, iA23, iO24, iA25, iO26, iA27, iA28, iO29, iA30, iA31, iO32, iA33, iA34, iO35, iA36, iA37, iO38, iA39, iA40, iO41, iA42, iA43, iO44, iA45, iA46, iA47, iA48, iA49, iA50, iA51, iA52, iA53, iO54, iA55, iO56, iA57, iO58, iA59, iO60, iA61, iO62, iA63, iA64, iA65, iA66, iA67, iA68, iA69, iA70, iA71, iA72, iA73, iA74, iA75, iA76, iA77, iA78, iOT, iAT1, iAT2, iOS, iAS, g, q0, Int.reduceEq, decide_true, show k_n true = 1 from rfl, k2, k3, hv, z1, z2, not_true, not_false_eq_true, and_self, or_self, false_and, and_false, or_true, true_or, if_true, if_false]
      cases ft
      · obtain ⟨b1, b2⟩ := r2 rfl
        have hL0 : x_loop T la (x_is 4) (fun _ => -26) f0 f false jn = (false, jn, []) := by cases f <;> simp [x_loop]
        rw [hL0]
        refine ⟨⟨by dsimp only; omega, i2⟩, (if ¬ v = 0 ∧ ¬ ip_w v3 = 0 then 1 else 0), h3, t3, a3, w3, bd3, fl3, ⟨fun z => (by cases z), fun _ => ⟨b1, b2⟩⟩, fun Q => ?_⟩
        obtain ⟨v5, e5, k5⟩ := step Q
        subst b1
        rw [k5, s167_3, e5]
        simp (disch := omega) only [s167_0, s167_1, s167_2, s167_4, s167_5, s167_6, s167_7, s167_8, s167_9, s167_10, s167_11, s167_12, s167_13, s167_14, s167_15, s167_16, s167_17, s167_18, s167_19, s167_20, s167_21, s167_22, s167_23, s167_24, s167_25, s167_26, s167_27, s167_28, s167_29, ↓reduceIte, Bool.true_eq_false, Bool.false_eq_true, ip_rfS, true_or, or_true, true_and, and_true, Option.toList_some, Option.toList_none, List.cons_append, List.nil_append, ip_fxn, ip_fxi, ip_fxr, ip_fxl, ip_wid, ip_n998, ip_lt900, iO0, iO1, iA2, iA3, iA4, iA5, iA6, iA7, iA8, iO9, iA10, iA11, iA12, iA13, iA14, iA15, iA16, iO17, iA18, iO19, iA20, iA21, iA22, iA23, iO24, iA25, iO26, iA27, iA28, iO29, iA30, iA31, iO32, iA33, iA34, iO35, iA36, iA37, iO38, iA39, iA40, iO41, iA42, iA43, iO44, iA45, iA46, iA47, iA48, iA49, iA50, iA51, iA52, iA53, iO54, iA55, iO56, iA57, iO58, iA59, iO60, iA61, iO62, iA63, iA64, iA65, iA66, iA67, iA68, iA69, iA70, iA71, iA72, iA73, iA74, iA75, iA76, iA77, iA78, iOT, iAT1, iAT2, iOS, iAS, q140b]
      · obtain ⟨b1, J3, vw, vv⟩ := r1 rfl
        subst b1
        have hev : v_jn (-26) v v3 = (if ¬ v = 0 ∧ ¬ ip_w v3 = 0 then 1 else 0) := by
          rw [vw]
          simp only [v_jn, Int.reduceEq, Int.reduceNeg, if_true, if_false]
        obtain ⟨⟨e1, e2⟩, v4, h4, t4, a4, w4, bd4, fl4, res, k4⟩ := y167l hM hC hs f jn h3 t3 a3 w3 fl3 (v_jn (-26) v v3) (O ++ (on ++ [-26])) (some (vi v3)) (by omega) i2 (by have := i3 rfl; omega) J3 v_jnw (y_val2 hO vv (by omega))
        rw [hev] at k4
        rw [List.append_assoc, List.append_assoc, List.singleton_append] at res
        refine ⟨⟨by omega, e2⟩, v4, h4, t4, a4, w4, bd4, fl4, res, fun Q => ?_⟩
        obtain ⟨v5, e5, k5⟩ := step Q
        rw [k5, e5, k4 Q]
    · have hL : x_loop T la (x_is 4) (fun _ => -26) f0 (f + 1) true j = (true, j, []) := by
        rw [x_loop, if_neg (by simp [x_is, x_pm, q0])]
      rw [hL]
      refine ⟨⟨Int.le_refl _, hj2⟩, v, h, t, a, w, 0, fl, ⟨fun _ => ⟨rfl, J, hv, by rw [List.append_nil]; exact hO⟩, fun z => (by cases z)⟩, fun Q => ?_⟩
      rw [s167_3]
      simp (disch := omega) only [s167_0, s167_1, s167_2, s167_4, s167_5, s167_6, s167_7, s167_8, s167_9, s167_10, s167_11, s167_12, s167_13, s167_14, s167_15, s167_16, s167_17, s167_18, s167_19, s167_20, s167_21, s167_22, s167_23, s167_24, s167_25, s167_26, s167_27, s167_28, s167_29, ↓reduceIte, Bool.true_eq_false, Bool.false_eq_true, ip_rfS, true_or, or_true, true_and, and_true, Option.toList_some, Option.toList_none, List.cons_append, List.nil_append, ip_fxn, ip_fxi, ip_fxr, ip_fxl, ip_wid, ip_n998, ip_lt900, iO0, iO1, iA2, iA3, iA4, iA5, iA6, iA7, iA8, iO9, iA10, iA11, iA12, iA13, iA14, iA15, iA16, iO17, iA18, iO19, iA20, iA21, iA22, iA23, iO24, iA25, iO26, iA27, iA28, iO29, iA30, iA31, iO32, iA33, iA34, iO35, iA36, iA37, iO38, iA39, iA40, iO41, iA42, iA43, iO44, iA45, iA46, iA47, iA48, iA49, iA50, iA51, iA52, iA53, iO54, iA55, iO56, iA57, iO58, iA59, iO60, iA61, iO62, iA63, iA64, iA65, iA66, iA67, iA68, iA69, iA70, iA71, iA72, iA73, iA74, iA75, iA76, iA77, iA78, iOT, iAT1, iAT2, iOS, iAS, g, q0, decide_false, show k_n false = 0 from rfl]
theorem y167 {f0 : Int → x_PR} (hM : x_RM R) (hC : y_C S b sz T P N la) (hs : y_ok S R L b sz T P N la (d + 3) 151 op f0) : y_ok S R L b sz T P N la (d + 4) 167 op (x_rep T la (x_is 4) (fun _ => -26) f0) := by
  intro j h t a w fl hj hj2 J
  obtain ⟨⟨i1, i2, i3⟩, v3, h3, t3, a3, w3, bd3, fl3, ⟨r1, r2⟩, k3⟩ := hs j h t a w fl hj hj2 J
  have hla := hC.2.1.2.1
  have hsz := hC.1.2.2.1
  unfold x_rep
  generalize f0 j = r at *
  obtain ⟨ft, jn, on⟩ := r
  dsimp only at *
  cases ft
  · obtain ⟨b1, b2⟩ := r2 rfl
    subst b1
    have hL0 : x_loop T la (x_is 4) (fun _ => -26) f0 160 false jn = (false, jn, []) := by simp [x_loop]
    rw [hL0]
    refine ⟨⟨i1, i2, fun z => (by cases z)⟩, v3, h3, t3, a3, w3, 1, fl3, ⟨fun z => (by cases z), fun _ => ⟨rfl, b2⟩⟩, fun Q => ?_⟩
    simp (disch := omega) only [c167, s167_0, s167_1, s167_2, s167_3, s167_4, s167_5, s167_6, s167_7, s167_8, s167_9, s167_10, s167_11, s167_12, s167_13, s167_14, s167_15, s167_16, s167_17, s167_18, s167_19, s167_20, s167_21, s167_22, s167_23, s167_24, s167_25, s167_26, s167_27, s167_28, s167_29, ↓reduceIte, Bool.true_eq_false, Bool.false_eq_true, ip_rfS, true_or, or_true, true_and, and_true, Option.toList_some, Option.toList_none, List.cons_append, List.nil_append, ip_fxn, ip_fxi, ip_fxr, ip_fxl, ip_wid, ip_n998, ip_lt900, iO0, iO1, iA2, iA3, iA4, iA5, iA6, iA7, iA8, iO9, iA10, iA11, iA12, iA13, iA14, iA15, iA16, iO17, iA18, iO19, iA20, iA21, iA22, iA23, iO24, iA25, iO26, iA27, iA28, iO29, iA30, iA31, iO32, iA33, iA34, iO35, iA36, iA37, iO38, iA39, iA40, iO41, iA42, iA43, iO44, iA45, iA46, iA47, iA48, iA49, iA50, iA51, iA52, iA53, iO54, iA55, iO56, iA57, iO58, iA59, iO60, iA61, iO62, iA63, iA64, iA65, iA66, iA67, iA68, iA69, iA70, iA71, iA72, iA73, iA74, iA75, iA76, iA77, iA78, iOT, iAT1, iAT2, iOS, iAS, k3, q140b]
  · obtain ⟨b1, J3, vw, vv⟩ := r1 rfl
    subst b1
    have h3j := i3 rfl
    obtain ⟨⟨e1, e2⟩, v4, h4, t4, a4, w4, bd4, fl4, res, k4⟩ := y167l (d := d) hM hC hs 160 jn h3 t3 a3 w3 fl3 v3 on none (by omega) i2 (by omega) J3 vw vv
    refine ⟨⟨by dsimp only; omega, e2, fun _ => by dsimp only; omega⟩, v4, h4, t4, a4, w4, bd4, fl4, res, fun Q => ?_⟩
    simp (disch := omega) only [c167, s167_0, s167_1, s167_2, ↓reduceIte, Bool.true_eq_false, Bool.false_eq_true, ip_rfS, true_or, or_true, true_and, and_true, Option.toList_some, Option.toList_none, List.cons_append, List.nil_append, ip_fxn, ip_fxi, ip_fxr, ip_fxl, ip_wid, ip_n998, ip_lt900, iO0, iO1, iA2, iA3, iA4, iA5, iA6, iA7, iA8, iO9, iA10, iA11, iA12, iA13, iA14, iA15, iA16, iO17, iA18, iO19, iA20, iA21, iA22, iA23, iO24, iA25, iO26, iA27, iA28, iO29, iA30, iA31, iO32, iA33, iA34, iO35, iA36, iA37, iO38, iA39, iA40, iO41, iA42, iA43, iO44, iA45, iA46, iA47, iA48, iA49, iA50, iA51, iA52, iA53, iO54, iA55, iO56, iA57, iO58, iA59, iO60, iA61, iO62, iA63, iA64, iA65, iA66, iA67, iA68, iA69, iA70, iA71, iA72, iA73, iA74, iA75, iA76, iA77, iA78, iOT, iAT1, iAT2, iOS, iAS, k3, k4]

theorem y166l {f0 : Int → x_PR} (hM : x_RM R) (hC : y_C S b sz T P N la) (hs : y_ok S R L b sz T P N la (d + 3) 167 op f0) : ∀ (f : Nat) (j h t a w fl v : Int) (O : List Int) (l2 : Option Value), 0 ≤ j → j ≤ la → la + 1 ≤ j + f → y_J b sz T P N la j h t a w → ip_w v = v → y_val (y_nam S) O v →
    (j ≤ (x_loop T la (x_is 3) (fun _ => -27) f0 f true j).2.1 ∧ (x_loop T la (x_is 3) (fun _ => -27) f0 f true j).2.1 ≤ la) ∧ ∃ v' h' t' a' w' bd' fl', y_res S b sz T P N la ((x_loop T la (x_is 3) (fun _ => -27) f0 f true j).1, (x_loop T la (x_is 3) (fun _ => -27) f0 f true j).2.1, O ++ (x_loop T la (x_is 3) (fun _ => -27) f0 f true j).2.2) v' h' t' a' w' bd' fl' ∧
      ∀ Q, ip_wp (d + 3) 166 3 [some (.ref 62), some (vi v), l2] [] 79 (y_P S h t a op 0 fl) R (ip_up L 62 24 w) Q = Q (some (vi v')) 79 (y_P S h' t' a' op bd' fl') R (ip_up L 62 24 w')
  | 0, j, h, t, a, w, fl, v, O, l2, hj, hj2, hf, J, hv, hO => by omega
  | f + 1, j, h, t, a, w, fl, v, O, l2, hj, hj2, hf, J, hv, hO => by
    have g := fun Q' => q140 (d := d) (op := op) (fl := fl) (L' := ip_up L 62 24 w) (Q := Q') 3 (by omega) (ki := 3) rfl yW3 hM hC hj J (by omega) (by omega) (by omega) (by omega) (by omega) (by omega) (by omega) (by omega)
    by_cases q0 : T j = 3
    · obtain ⟨n1, n2, h2, t2, a2, w2, J2, k2⟩ := q138 (d := d) (L := L) hM hC hj J (by omega) (by omega)
      obtain ⟨⟨i1, i2, i3⟩, v3, h3, t3, a3, w3, bd3, fl3, ⟨r1, r2⟩, k3⟩ := hs (j + 1) h2 t2 a2 w2 fl (by omega) (by omega) J2
      have hL : x_loop T la (x_is 3) (fun _ => -27) f0 (f + 1) true j = ((x_loop T la (x_is 3) (fun _ => -27) f0 f (f0 (j + 1)).1 (f0 (j + 1)).2.1).1, (x_loop T la (x_is 3) (fun _ => -27) f0 f (f0 (j + 1)).1 (f0 (j + 1)).2.1).2.1, (f0 (j + 1)).2.2 ++ -27 :: (x_loop T la (x_is 3) (fun _ => -27) f0 f (f0 (j + 1)).1 (f0 (j + 1)).2.1).2.2) := by
        rw [x_loop, if_pos (by simp [x_is, x_pm, q0]), n2]
        try simp only [x_pmc, q0, Int.reduceEq, if_true, if_false]
      rw [hL]
      generalize f0 (j + 1) = r at *
      obtain ⟨ft, jn, on⟩ := r
      dsimp only at *
      have step : ∀ Q, ∃ v5 : Int, v5 = (if ¬ v = 0 ∨ ¬ ip_w v3 = 0 then 1 else 0) ∧ ip_wp (d + 3) 166 3 [some (.ref 62), some (vi v), l2] [] 79 (y_P S h t a op 0 fl) R (ip_up L 62 24 w) Q = ip_wp (d + 3) 166 3 [some (.ref 62), some (vi v5), some (vi v3)] [] 79 (y_P S h3 t3 a3 op bd3 fl3) R (ip_up L 62 24 w3) Q := fun Q => by
        refine ⟨_, rfl, ?_⟩
        rw [s166_3]
        by_cases z1 : v = 0
        · by_cases z2 : ip_w v3 = 0
          · simp (disch := omega) only [s166_0, s166_1, s166_2, s166_4, s166_5, s166_6, s166_7, s166_8, s166_9, s166_10, s166_11, s166_12, s166_13, s166_14, s166_15, s166_16, s166_17, s166_18, s166_19, s166_20, s166_21, s166_22, s166_23, s166_24, s166_25, s166_26, s166_27, s166_28, s166_29, ↓reduceIte, Bool.true_eq_false, Bool.false_eq_true, ip_rfS, true_or, or_true, true_and, and_true, Option.toList_some, Option.toList_none, List.cons_append, List.nil_append, ip_fxn, ip_fxi, ip_fxr, ip_fxl, ip_wid, ip_n998, ip_lt900, iO0, iO1, iA2, iA3, iA4, iA5, iA6, iA7, iA8, iO9, iA10, iA11, iA12, iA13, iA14, iA15, iA16, iO17, iA18, iO19, iA20, iA21, iA22, iA23, iO24, iA25, iO26, iA27, iA28, iO29, iA30, iA31, iO32, iA33, iA34, iO35, iA36, iA37, iO38, iA39, iA40, iO41, iA42, iA43, iO44, iA45, iA46, iA47, iA48, iA49, iA50, iA51, iA52, iA53, iO54, iA55, iO56, iA57, iO58, iA59, iO60, iA61, iO62, iA63, iA64, iA65, iA66, iA67, iA68, iA69, iA70, iA71, iA72, iA73, iA74, iA75, iA76, iA77, iA78, iOT, iAT1, iAT2, iOS, iAS, g, q0, Int.reduceEq, decide_true, show k_n true = 1 from rfl, k2, k3, hv, z1, z2, not_true, not_false_eq_true, and_self, or_self, false_and, and_false, or_true, true_or, if_true, if_false]
          · simp (disch := omega) only [s166_0, s166_1, s166_2, s166_4, s166_5, s166_6, s166_7, s166_8, s166_9, s166_10, s166_11, s166_12, s166_13, s166_14, s166_15, s166_16, s166_17, s166_18, s166_19, s166_20, s166_21, s166_22, s166_23, s166_24, s166_25, s166_26, s166_27, s166_28, s166_29, ↓reduceIte, Bool.true_eq_false, Bool.false_eq_true, ip_rfS, true_or, or_true, true_and, and_true, Option.toList_some, Option.toList_none, List.cons_append, List.nil_append, ip_fxn, ip_fxi, ip_fxr, ip_fxl, ip_wid, ip_n998, ip_lt900, iO0, iO1, iA2, iA3, iA4, iA5, iA6, iA7, iA8, iO9, iA10, iA11, iA12, iA13, iA14, iA15, iA16, iO17, iA18, iO19, iA20, iA21, iA22, iA23, iO24, iA25, iO26, iA27, iA28, iO29, iA30, iA31, iO32, iA33, iA34, iO35, iA36, iA37, iO38, iA39, iA40, iO41, iA42, iA43, iO44, iA45, iA46, iA47, iA48, iA49, iA50, iA51, iA52, iA53, iO54, iA55, iO56, iA57, iO58, iA59, iO60, iA61, iO62, iA63, iA64, iA65, iA66, iA67, iA68, iA69, iA70, iA71, iA72, iA73, iA74, iA75, iA76, iA77, iA78, iOT, iAT1, iAT2, iOS, iAS, g, q0, Int.reduceEq, decide_true, show k_n true = 1 from rfl, k2, k3, hv, z1, z2, not_true, not_false_eq_true, and_self, or_self, false_and, and_false, or_true, true_or, if_true, if_false]
        · by_cases z2 : ip_w v3 = 0
          · simp (disch := omega) only [s166_0, s166_1, s166_2, s166_4, s166_5, s166_6, s166_7, s166_8, s166_9, s166_10, s166_11, s166_12, s166_13, s166_14, s166_15, s166_16, s166_17, s166_18, s166_19, s166_20, s166_21, s166_22, s166_23, s166_24, s166_25, s166_26, s166_27, s166_28, s166_29, ↓reduceIte, Bool.true_eq_false, Bool.false_eq_true, ip_rfS, true_or, or_true, true_and, and_true, Option.toList_some, Option.toList_none, List.cons_append, List.nil_append, ip_fxn, ip_fxi, ip_fxr, ip_fxl, ip_wid, ip_n998, ip_lt900, iO0, iO1, iA2, iA3, iA4, iA5, iA6, iA7, iA8, iO9, iA10, iA11, iA12, iA13, iA14, iA15, iA16, iO17, iA18, iO19, iA20, iA21, iA22, iA23, iO24, iA25, iO26, iA27, iA28, iO29, iA30, iA31, iO32, iA33, iA34, iO35, iA36, iA37, iO38, iA39, iA40, iO41, iA42, iA43, iO44, iA45, iA46, iA47, iA48, iA49, iA50, iA51, iA52, iA53, iO54, iA55, iO56, iA57, iO58, iA59, iO60, iA61, iO62, iA63, iA64, iA65, iA66, iA67, iA68, iA69, iA70, iA71, iA72, iA73, iA74, iA75, iA76, iA77, iA78, iOT, iAT1, iAT2, iOS, iAS, g, q0, Int.reduceEq, decide_true, show k_n true = 1 from rfl, k2, k3, hv, z1, z2, not_true, not_false_eq_true, and_self, or_self, false_and, and_false, or_true, true_or, if_true, if_false]
          · simp (disch := omega) only [s166_0, s166_1, s166_2, s166_4, s166_5, s166_6, s166_7, s166_8, s166_9, s166_10, s166_11, s166_12, s166_13, s166_14, s166_15, s166_16, s166_17, s166_18, s166_19, s166_20, s166_21, s166_22, s166_23, s166_24, s166_25, s166_26, s166_27, s166_28, s166_29, ↓reduceIte, Bool.true_eq_false, Bool.false_eq_true, ip_rfS, true_or, or_true, true_and, and_true, Option.toList_some, Option.toList_none, List.cons_append, List.nil_append, ip_fxn, ip_fxi, ip_fxr, ip_fxl, ip_wid, ip_n998, ip_lt900, iO0, iO1, iA2, iA3, iA4, iA5, iA6, iA7, iA8, iO9, iA10, iA11, iA12, iA13, iA14, iA15, iA16, iO17, iA18, iO19, iA20, iA21, iA22, iA23, iO24, iA25, iO26, iA27, iA28, iO29, iA30, iA31, iO32, iA33, iA34, iO35, iA36, iA37, iO38, iA39, iA40, iO41, iA42, iA43, iO44, iA45, iA46, iA47, iA48, iA49, iA50, iA51, iA52, iA53, iO54, iA55, iO56, iA57, iO58, iA59, iO60, iA61, iO62, iA63, iA64, iA65, iA66, iA67, iA68, iA69, iA70, iA71, iA72, iA73, iA74, iA75, iA76, iA77, iA78, iOT, iAT1, iAT2, iOS, iAS, g, q0, Int.reduceEq, decide_true, show k_n true = 1 from rfl, k2, k3, hv, z1, z2, not_true, not_false_eq_true, and_self, or_self, false_and, and_false, or_true, true_or, if_true, if_false]
      cases ft
      · obtain ⟨b1, b2⟩ := r2 rfl
        have hL0 : x_loop T la (x_is 3) (fun _ => -27) f0 f false jn = (false, jn, []) := by cases f <;> simp [x_loop]
        rw [hL0]
        refine ⟨⟨by dsimp only; omega, i2⟩, (if ¬ v = 0 ∨ ¬ ip_w v3 = 0 then 1 else 0), h3, t3, a3, w3, bd3, fl3, ⟨fun z => (by cases z), fun _ => ⟨b1, b2⟩⟩, fun Q => ?_⟩
        obtain ⟨v5, e5, k5⟩ := step Q
        subst b1
        rw [k5, s166_3, e5]
        simp (disch := omega) only [s166_0, s166_1, s166_2, s166_4, s166_5, s166_6, s166_7, s166_8, s166_9, s166_10, s166_11, s166_12, s166_13, s166_14, s166_15, s166_16, s166_17, s166_18, s166_19, s166_20, s166_21, s166_22, s166_23, s166_24, s166_25, s166_26, s166_27, s166_28, s166_29, ↓reduceIte, Bool.true_eq_false, Bool.false_eq_true, ip_rfS, true_or, or_true, true_and, and_true, Option.toList_some, Option.toList_none, List.cons_append, List.nil_append, ip_fxn, ip_fxi, ip_fxr, ip_fxl, ip_wid, ip_n998, ip_lt900, iO0, iO1, iA2, iA3, iA4, iA5, iA6, iA7, iA8, iO9, iA10, iA11, iA12, iA13, iA14, iA15, iA16, iO17, iA18, iO19, iA20, iA21, iA22, iA23, iO24, iA25, iO26, iA27, iA28, iO29, iA30, iA31, iO32, iA33, iA34, iO35, iA36, iA37, iO38, iA39, iA40, iO41, iA42, iA43, iO44, iA45, iA46, iA47, iA48, iA49, iA50, iA51, iA52, iA53, iO54, iA55, iO56, iA57, iO58, iA59, iO60, iA61, iO62, iA63, iA64, iA65, iA66, iA67, iA68, iA69, iA70, iA71, iA72, iA73, iA74, iA75, iA76, iA77, iA78, iOT, iAT1, iAT2, iOS, iAS, q140b]
      · obtain ⟨b1, J3, vw, vv⟩ := r1 rfl
        subst b1
        have hev : v_jn (-27) v v3 = (if ¬ v = 0 ∨ ¬ ip_w v3 = 0 then 1 else 0) := by
          rw [vw]
          simp only [v_jn, Int.reduceEq, Int.reduceNeg, if_true, if_false]
        obtain ⟨⟨e1, e2⟩, v4, h4, t4, a4, w4, bd4, fl4, res, k4⟩ := y166l hM hC hs f jn h3 t3 a3 w3 fl3 (v_jn (-27) v v3) (O ++ (on ++ [-27])) (some (vi v3)) (by omega) i2 (by have := i3 rfl; omega) J3 v_jnw (y_val2 hO vv (by omega))
        rw [hev] at k4
        rw [List.append_assoc, List.append_assoc, List.singleton_append] at res
        refine ⟨⟨by omega, e2⟩, v4, h4, t4, a4, w4, bd4, fl4, res, fun Q => ?_⟩
        obtain ⟨v5, e5, k5⟩ := step Q
        rw [k5, e5, k4 Q]
    · have hL : x_loop T la (x_is 3) (fun _ => -27) f0 (f + 1) true j = (true, j, []) := by
        rw [x_loop, if_neg (by simp [x_is, x_pm, q0])]
      rw [hL]
      refine ⟨⟨Int.le_refl _, hj2⟩, v, h, t, a, w, 0, fl, ⟨fun _ => ⟨rfl, J, hv, by rw [List.append_nil]; exact hO⟩, fun z => (by cases z)⟩, fun Q => ?_⟩
      rw [s166_3]
      simp (disch := omega) only [s166_0, s166_1, s166_2, s166_4, s166_5, s166_6, s166_7, s166_8, s166_9, s166_10, s166_11, s166_12, s166_13, s166_14, s166_15, s166_16, s166_17, s166_18, s166_19, s166_20, s166_21, s166_22, s166_23, s166_24, s166_25, s166_26, s166_27, s166_28, s166_29, ↓reduceIte, Bool.true_eq_false, Bool.false_eq_true, ip_rfS, true_or, or_true, true_and, and_true, Option.toList_some, Option.toList_none, List.cons_append, List.nil_append, ip_fxn, ip_fxi, ip_fxr, ip_fxl, ip_wid, ip_n998, ip_lt900, iO0, iO1, iA2, iA3, iA4, iA5, iA6, iA7, iA8, iO9, iA10, iA11, iA12, iA13, iA14, iA15, iA16, iO17, iA18, iO19, iA20, iA21, iA22, iA23, iO24, iA25, iO26, iA27, iA28, iO29, iA30, iA31, iO32, iA33, iA34, iO35, iA36, iA37, iO38, iA39, iA40, iO41, iA42, iA43, iO44, iA45, iA46, iA47, iA48, iA49, iA50, iA51, iA52, iA53, iO54, iA55, iO56, iA57, iO58, iA59, iO60, iA61, iO62, iA63, iA64, iA65, iA66, iA67, iA68, iA69, iA70, iA71, iA72, iA73, iA74, iA75, iA76, iA77, iA78, iOT, iAT1, iAT2, iOS, iAS, g, q0, decide_false, show k_n false = 0 from rfl]
theorem y166 {f0 : Int → x_PR} (hM : x_RM R) (hC : y_C S b sz T P N la) (hs : y_ok S R L b sz T P N la (d + 3) 167 op f0) : y_ok S R L b sz T P N la (d + 4) 166 op (x_rep T la (x_is 3) (fun _ => -27) f0) := by
  intro j h t a w fl hj hj2 J
  obtain ⟨⟨i1, i2, i3⟩, v3, h3, t3, a3, w3, bd3, fl3, ⟨r1, r2⟩, k3⟩ := hs j h t a w fl hj hj2 J
  have hla := hC.2.1.2.1
  have hsz := hC.1.2.2.1
  unfold x_rep
  generalize f0 j = r at *
  obtain ⟨ft, jn, on⟩ := r
  dsimp only at *
  cases ft
  · obtain ⟨b1, b2⟩ := r2 rfl
    subst b1
    have hL0 : x_loop T la (x_is 3) (fun _ => -27) f0 160 false jn = (false, jn, []) := by simp [x_loop]
    rw [hL0]
    refine ⟨⟨i1, i2, fun z => (by cases z)⟩, v3, h3, t3, a3, w3, 1, fl3, ⟨fun z => (by cases z), fun _ => ⟨rfl, b2⟩⟩, fun Q => ?_⟩
    simp (disch := omega) only [c166, s166_0, s166_1, s166_2, s166_3, s166_4, s166_5, s166_6, s166_7, s166_8, s166_9, s166_10, s166_11, s166_12, s166_13, s166_14, s166_15, s166_16, s166_17, s166_18, s166_19, s166_20, s166_21, s166_22, s166_23, s166_24, s166_25, s166_26, s166_27, s166_28, s166_29, ↓reduceIte, Bool.true_eq_false, Bool.false_eq_true, ip_rfS, true_or, or_true, true_and, and_true, Option.toList_some, Option.toList_none, List.cons_append, List.nil_append, ip_fxn, ip_fxi, ip_fxr, ip_fxl, ip_wid, ip_n998, ip_lt900, iO0, iO1, iA2, iA3, iA4, iA5, iA6, iA7, iA8, iO9, iA10, iA11, iA12, iA13, iA14, iA15, iA16, iO17, iA18, iO19, iA20, iA21, iA22, iA23, iO24, iA25, iO26, iA27, iA28, iO29, iA30, iA31, iO32, iA33, iA34, iO35, iA36, iA37, iO38, iA39, iA40, iO41, iA42, iA43, iO44, iA45, iA46, iA47, iA48, iA49, iA50, iA51, iA52, iA53, iO54, iA55, iO56, iA57, iO58, iA59, iO60, iA61, iO62, iA63, iA64, iA65, iA66, iA67, iA68, iA69, iA70, iA71, iA72, iA73, iA74, iA75, iA76, iA77, iA78, iOT, iAT1, iAT2, iOS, iAS, k3, q140b]
  · obtain ⟨b1, J3, vw, vv⟩ := r1 rfl
    subst b1
    have h3j := i3 rfl
    obtain ⟨⟨e1, e2⟩, v4, h4, t4, a4, w4, bd4, fl4, res, k4⟩ := y166l (d := d) hM hC hs 160 jn h3 t3 a3 w3 fl3 v3 on none (by omega) i2 (by omega) J3 vw vv
    refine ⟨⟨by dsimp only; omega, e2, fun _ => by dsimp only; omega⟩, v4, h4, t4, a4, w4, bd4, fl4, res, fun Q => ?_⟩
    simp (disch := omega) only [c166, s166_0, s166_1, s166_2, ↓reduceIte, Bool.true_eq_false, Bool.false_eq_true, ip_rfS, true_or, or_true, true_and, and_true, Option.toList_some, Option.toList_none, List.cons_append, List.nil_append, ip_fxn, ip_fxi, ip_fxr, ip_fxl, ip_wid, ip_n998, ip_lt900, iO0, iO1, iA2, iA3, iA4, iA5, iA6, iA7, iA8, iO9, iA10, iA11, iA12, iA13, iA14, iA15, iA16, iO17, iA18, iO19, iA20, iA21, iA22, iA23, iO24, iA25, iO26, iA27, iA28, iO29, iA30, iA31, iO32, iA33, iA34, iO35, iA36, iA37, iO38, iA39, iA40, iO41, iA42, iA43, iO44, iA45, iA46, iA47, iA48, iA49, iA50, iA51, iA52, iA53, iO54, iA55, iO56, iA57, iO58, iA59, iO60, iA61, iO62, iA63, iA64, iA65, iA66, iA67, iA68, iA69, iA70, iA71, iA72, iA73, iA74, iA75, iA76, iA77, iA78, iOT, iAT1, iAT2, iOS, iAS, k3, k4]

end LV4
