/-! level 1 -/
section LV1
variable {d : Nat} {S : ip_S} {R : ip_R} {L : ip_S} {b : Int → Int} {sz : Int} {T P N : Int → Int} {la j h t a w op bd fl : Int}
theorem y175 {one ee : Int → x_PR} (ho : 0 ≤ op ∧ op < 5) (hM : x_RM R) (hC : y_C S b sz T P N la) (hs : y_ok S R L b sz T P N la (d + 5) 170 (op + 1) one) (he : y_ok S R L b sz T P N la (d + 5) 176 (op + 1) ee) : y_ok S R L b sz T P N la (d + 6) 175 op (x_one T N la (x_opn T la one ee)) := by
  intro j h t a w fl hj hj2 J
  have hla := hC.2.1.2.1
  have hsz := hC.1.2.2.1
  have hjr := J.2.1
  have htr := y_Jt J
  have g1 := fun Q' => q156 (d := d + 4) (S := S) (R := R) (L := L) (op := op) (fl := fl) (Q := Q') J (s := 45) (by omega)
  have g2 := fun Q' => q156 (d := d + 4) (S := S) (R := R) (L := L) (op := op) (fl := fl) (Q := Q') J (s := 40) (by omega)
  have kt : k_n true = 1 := rfl
  have kf : k_n false = 0 := rfl
  by_cases q1 : T j = 20
  · have hL : x_one T N la (x_opn T la one ee) j = (true, j + 1, [N j]) := by
      obtain ⟨n1, n2, -⟩ := q138 (d := d) (L := L) hM hC hj J (by omega) (by omega)
      rw [x_one, if_pos q1, n2]
    obtain ⟨n1, n2, h2, t2, a2, w2, J2, k2⟩ := q138 (d := d + 2) (L := L) hM hC hj J (by omega) (by omega)
    rw [hL]
    have e : t = 2 ∧ w = N j ∧ ip_w w = w ∧ 0 ≤ w := by
      obtain ⟨-, -, J⟩ := J
      rcases J with J | J | J | J | J
      all_goals first | omega | exact ⟨J.2.2.1, J.2.2.2.1, J.2.2.2.2.1, J.2.2.2.2.2.1⟩
    obtain ⟨et, e⟩ := e
    subst et
    have e64 : ip_w64 w = w := by
      have hz := ip_wrange w
      rw [e.2.1] at hz
      exact ip_w64id (by omega) (by omega)
    refine ⟨⟨by dsimp only; omega, by dsimp only; omega, fun _ => by dsimp only; omega⟩, w, h2, t2, a2, w2, 0, fl, ⟨fun _ => ⟨rfl, J2, e.2.1, ?_⟩, fun z => (by cases z)⟩, fun Q => ?_⟩
    · have := y_val0 (F := y_nam S) (c := w) (by omega)
      rw [if_pos e.2.2] at this
      rw [← e.1]
      exact this
    · simp (disch := omega) only [c175, s175_0, s175_1, s175_2, s175_3, s175_4, s175_5, s175_6, s175_7, s175_8, s175_9, s175_10, s175_11, s175_12, s175_13, s175_14, s175_15, s175_16, s175_17, s175_18, s175_19, s175_20, s175_21, s175_22, s175_23, s175_24, s175_25, s175_26, s175_27, s175_28, s175_29, s175_30, s175_31, s175_32, s175_33, s175_34, s175_35, s175_36, s175_37, s175_38, s175_39, s175_40, s175_41, s175_42, s175_43, s175_44, s175_45, s175_46, s175_47, s175_48, s175_49, s175_50, s175_51, s175_52, s175_53, s175_54, s175_55, s175_56, s175_57, s175_58, s175_59, s175_60, s175_61, s175_62, s175_63, s175_64, s175_65, s175_66, s175_67, s175_68, s175_69, s175_70, s175_71, s175_72, s175_73, s175_74, s175_75, s175_76, s175_77, s175_78, s175_79, s175_80, s175_81, ↓reduceIte, Bool.true_eq_false, Bool.false_eq_true, ip_rfS, true_or, or_true, true_and, and_true, Option.toList_some, Option.toList_none, List.cons_append, List.nil_append, ip_fxn, ip_fxi, ip_fxr, ip_fxl, ip_wid, ip_n998, ip_lt900, iO0, iO1, iA2, iA3, iA4, iA5, iA6, iA7, iA8, iO9, iA10, iA11, iA12, iA13, iA14, iA15, iA16, iO17, iA18, iO19, iA20, iA21, iA22, iA23, iO24, iA25, iO26, iA27, iA28, iO29, iA30, iA31, iO32, iA33, iA34, iO35, iA36, iA37, iO38, iA39, iA40, iO41, iA42, iA43, iO44, iA45, iA46, iA47, iA48, iA49, iA50, iA51, iA52, iA53, iO54, iA55, iO56, iA57, iO58, iA59, iO60, iA61, iO62, iA63, iA64, iA65, iA66, iA67, iA68, iA69, iA70, iA71, iA72, iA73, iA74, iA75, iA76, iA77, iA78, iOT, iAT1, iAT2, iOS, iAS, g1, g2, show ¬ T j = 45 by omega, show ¬ T j = 40 by omega, yp_d, yp_t, ip_up_at, e64, k2, Int.reduceEq, decide_true, decide_false, kt, kf]
  · by_cases q2 : 6 ≤ T j ∧ T j < 12
    · obtain ⟨n1, n2, h2, t2, a2, w2, J2, k2⟩ := q138 (d := d + 2) (L := L) hM hC hj J (by omega) (by omega)
      have hL : x_one T N la (x_opn T la one ee) j = (true, j + 1, [-1 - (T j - 6)]) := by rw [x_one, if_neg q1, if_pos q2, n2]
      rw [hL]
      have gn := fun Q' => q157 (d := d + 1) (op := op) (fl := fl) (L' := ip_up L 62 24 w) (Q := Q') hM hC hj J q2
      have e : t = 1 := by
        obtain ⟨-, -, J⟩ := J
        rcases J with J | J | J | J | J
        all_goals first | omega | exact J.2.2.1
      subst e
      refine ⟨⟨by dsimp only; omega, by dsimp only; omega, fun _ => by dsimp only; omega⟩, y_nam S (T j - 6), h2, t2, a2, w2, 0, fl, ⟨fun _ => ⟨rfl, J2, ip_ww _, ?_⟩, fun z => (by cases z)⟩, fun Q => ?_⟩
      · have := y_val0 (F := y_nam S) (c := -1 - (T j - 6)) (by omega)
        rw [if_neg (by omega), show -1 - (-1 - (T j - 6)) = T j - 6 by omega] at this
        exact this
      · simp (disch := omega) only [c175, s175_0, s175_1, s175_2, s175_3, s175_4, s175_5, s175_6, s175_7, s175_8, s175_9, s175_10, s175_11, s175_12, s175_13, s175_14, s175_15, s175_16, s175_17, s175_18, s175_19, s175_20, s175_21, s175_22, s175_23, s175_24, s175_25, s175_26, s175_27, s175_28, s175_29, s175_30, s175_31, s175_32, s175_33, s175_34, s175_35, s175_36, s175_37, s175_38, s175_39, s175_40, s175_41, s175_42, s175_43, s175_44, s175_45, s175_46, s175_47, s175_48, s175_49, s175_50, s175_51, s175_52, s175_53, s175_54, s175_55, s175_56, s175_57, s175_58, s175_59, s175_60, s175_61, s175_62, s175_63, s175_64, s175_65, s175_66, s175_67, s175_68, s175_69, s175_70, s175_71, s175_72, s175_73, s175_74, s175_75, s175_76, s175_77, s175_78, s175_79, s175_80, s175_81, ↓reduceIte, Bool.true_eq_false, Bool.false_eq_true, ip_rfS, true_or, or_true, true_and, and_true, Option.toList_some, Option.toList_none, List.cons_append, List.nil_append, ip_fxn, ip_fxi, ip_fxr, ip_fxl, ip_wid, ip_n998, ip_lt900, iO0, iO1, iA2, iA3, iA4, iA5, iA6, iA7, iA8, iO9, iA10, iA11, iA12, iA13, iA14, iA15, iA16, iO17, iA18, iO19, iA20, iA21, iA22, iA23, iO24, iA25, iO26, iA27, iA28, iO29, iA30, iA31, iO32, iA33, iA34, iO35, iA36, iA37, iO38, iA39, iA40, iO41, iA42, iA43, iO44, iA45, iA46, iA47, iA48, iA49, iA50, iA51, iA52, iA53, iO54, iA55, iO56, iA57, iO58, iA59, iO60, iA61, iO62, iA63, iA64, iA65, iA66, iA67, iA68, iA69, iA70, iA71, iA72, iA73, iA74, iA75, iA76, iA77, iA78, iOT, iAT1, iAT2, iOS, iAS, g1, g2, show ¬ T j = 45 by omega, show ¬ T j = 40 by omega, yp_d, yp_t, gn, k2, Int.reduceEq, decide_true, decide_false, kt, kf]
    · have hL : x_one T N la (x_opn T la one ee) j = x_opn T la one ee j := by rw [x_one, if_neg q1, if_neg q2]
      rw [hL]
      by_cases q3 : T j = 45
      · obtain ⟨n1, n2, h2, t2, a2, w2, J2, k2⟩ := q147 (d := d + 1) (L := L) (op := op) hM hC hj J (by omega) (by omega) ho
        obtain ⟨⟨i1, i2, i3⟩, v3, h3, t3, a3, w3, bd3, fl3, ⟨r1, r2⟩, k3⟩ := hs (j + 1) h2 t2 a2 w2 fl (by omega) (by omega) J2
        have hL2 : x_opn T la one ee j = ((one (j + 1)).1, (one (j + 1)).2.1, (one (j + 1)).2.2 ++ [-11]) := by rw [x_opn, if_pos q3, n2]
        rw [hL2]
        generalize one (j + 1) = r at *
        obtain ⟨ft, jn, on⟩ := r
        dsimp only at *
        have hev : vi (v_tn (-11) v3) = vi (-v3) := by
          rw [show v_tn (-11) v3 = ip_w (-v3) by simp only [v_tn, if_true], ip_viw]
        refine ⟨⟨by dsimp only; omega, i2, fun z => by have := i3 z; dsimp only; omega⟩, v_tn (-11) v3, h3, t3, a3, w3, bd3, fl3, ⟨fun z => ?_, fun z => r2 z⟩, fun Q => ?_⟩
        · obtain ⟨b1, J3, vw, vv⟩ := r1 z
          exact ⟨b1, J3, v_tnw, y_val1 vv (by omega) (by omega)⟩
        · rw [hev]
          simp (disch := omega) only [c175, s175_0, s175_1, s175_2, s175_3, s175_4, s175_5, s175_6, s175_7, s175_8, s175_9, s175_10, s175_11, s175_12, s175_13, s175_14, s175_15, s175_16, s175_17, s175_18, s175_19, s175_20, s175_21, s175_22, s175_23, s175_24, s175_25, s175_26, s175_27, s175_28, s175_29, s175_30, s175_31, s175_32, s175_33, s175_34, s175_35, s175_36, s175_37, s175_38, s175_39, s175_40, s175_41, s175_42, s175_43, s175_44, s175_45, s175_46, s175_47, s175_48, s175_49, s175_50, s175_51, s175_52, s175_53, s175_54, s175_55, s175_56, s175_57, s175_58, s175_59, s175_60, s175_61, s175_62, s175_63, s175_64, s175_65, s175_66, s175_67, s175_68, s175_69, s175_70, s175_71, s175_72, s175_73, s175_74, s175_75, s175_76, s175_77, s175_78, s175_79, s175_80, s175_81, ↓reduceIte, Bool.true_eq_false, Bool.false_eq_true, ip_rfS, true_or, or_true, true_and, and_true, Option.toList_some, Option.toList_none, List.cons_append, List.nil_append, ip_fxn, ip_fxi, ip_fxr, ip_fxl, ip_wid, ip_n998, ip_lt900, iO0, iO1, iA2, iA3, iA4, iA5, iA6, iA7, iA8, iO9, iA10, iA11, iA12, iA13, iA14, iA15, iA16, iO17, iA18, iO19, iA20, iA21, iA22, iA23, iO24, iA25, iO26, iA27, iA28, iO29, iA30, iA31, iO32, iA33, iA34, iO35, iA36, iA37, iO38, iA39, iA40, iO41, iA42, iA43, iO44, iA45, iA46, iA47, iA48, iA49, iA50, iA51, iA52, iA53, iO54, iA55, iO56, iA57, iO58, iA59, iO60, iA61, iO62, iA63, iA64, iA65, iA66, iA67, iA68, iA69, iA70, iA71, iA72, iA73, iA74, iA75, iA76, iA77, iA78, iOT, iAT1, iAT2, iOS, iAS, g1, q3, k2, k3, yp_o, yp_uo, Int.add_sub_cancel, Int.reduceEq, decide_true, decide_false, kt, kf]
      · by_cases q4 : T j = 40
        · obtain ⟨n1, n2, h2, t2, a2, w2, J2, k2⟩ := q147 (d := d + 1) (L := L) (op := op) hM hC hj J (by omega) (by omega) ho
          obtain ⟨⟨i1, i2, i3⟩, v3, h3, t3, a3, w3, bd3, fl3, ⟨r1, r2⟩, k3⟩ := he (j + 1) h2 t2 a2 w2 fl (by omega) (by omega) J2
          have hL2 : x_opn T la one ee j = (if ((ee (j + 1)).1 && decide (T (ee (j + 1)).2.1 = 41)) = true then (true, x_adv la (ee (j + 1)).2.1, (ee (j + 1)).2.2) else (false, (ee (j + 1)).2.1, (ee (j + 1)).2.2)) := by rw [x_opn, if_neg q3, if_pos q4, n2]
          rw [hL2]
          generalize ee (j + 1) = r at *
          obtain ⟨ft, jn, on⟩ := r
          dsimp only at *
          cases ft
          · obtain ⟨b1, b2⟩ := r2 rfl
            subst b1
            rw [if_neg (by simp)]
            refine ⟨⟨by dsimp only; omega, i2, fun z => (by cases z)⟩, v3, h3, t3, a3, w3, 1, fl3, ⟨fun z => (by cases z), fun _ => ⟨rfl, b2⟩⟩, fun Q => ?_⟩
            simp (disch := omega) only [c175, s175_0, s175_1, s175_2, s175_3, s175_4, s175_5, s175_6, s175_7, s175_8, s175_9, s175_10, s175_11, s175_12, s175_13, s175_14, s175_15, s175_16, s175_17, s175_18, s175_19, s175_20, s175_21, s175_22, s175_23, s175_24, s175_25, s175_26, s175_27, s175_28, s175_29, s175_30, s175_31, s175_32, s175_33, s175_34, s175_35, s175_36, s175_37, s175_38, s175_39, s175_40, s175_41, s175_42, s175_43, s175_44, s175_45, s175_46, s175_47, s175_48, s175_49, s175_50, s175_51, s175_52, s175_53, s175_54, s175_55, s175_56, s175_57, s175_58, s175_59, s175_60, s175_61, s175_62, s175_63, s175_64, s175_65, s175_66, s175_67, s175_68, s175_69, s175_70, s175_71, s175_72, s175_73, s175_74, s175_75, s175_76, s175_77, s175_78, s175_79, s175_80, s175_81, ↓reduceIte, Bool.true_eq_false, Bool.false_eq_true, ip_rfS, true_or, or_true, true_and, and_true, Option.toList_some, Option.toList_none, List.cons_append, List.nil_append, ip_fxn, ip_fxi, ip_fxr, ip_fxl, ip_wid, ip_n998, ip_lt900, iO0, iO1, iA2, iA3, iA4, iA5, iA6, iA7, iA8, iO9, iA10, iA11, iA12, iA13, iA14, iA15, iA16, iO17, iA18, iO19, iA20, iA21, iA22, iA23, iO24, iA25, iO26, iA27, iA28, iO29, iA30, iA31, iO32, iA33, iA34, iO35, iA36, iA37, iO38, iA39, iA40, iO41, iA42, iA43, iO44, iA45, iA46, iA47, iA48, iA49, iA50, iA51, iA52, iA53, iO54, iA55, iO56, iA57, iO58, iA59, iO60, iA61, iO62, iA63, iA64, iA65, iA66, iA67, iA68, iA69, iA70, iA71, iA72, iA73, iA74, iA75, iA76, iA77, iA78, iOT, iAT1, iAT2, iOS, iAS, g1, g2, q3, q4, k2, k3, q156b, q143b, yp_o, yp_uo, yp_d, Int.add_sub_cancel, Int.reduceEq, decide_true, decide_false, kt, kf]
          · obtain ⟨b1, J3, vw, vv⟩ := r1 rfl
            subst b1
            have h3j := i3 rfl
            have e1 := fun Q' => q156 (d := d + 4) (S := S) (R := R) (L := L) (op := op + 1) (fl := fl3) (Q := Q') J3 (s := 41) (by omega)
            have h3r := J3.2.1
            by_cases c1 : T jn = 41
            · obtain ⟨m1, m2, h4, t4, a4, w4, J4, k4⟩ := q138 (d := d + 2) (L := L) hM hC (by omega) J3 (by omega) (by omega)
              rw [if_pos (by simp [c1]), m2]
              refine ⟨⟨by dsimp only; omega, by dsimp only; omega, fun _ => by dsimp only; omega⟩, v3, h4, t4, a4, w4, 0, fl3, ⟨fun _ => ⟨rfl, J4, vw, vv⟩, fun z => (by cases z)⟩, fun Q => ?_⟩
              simp (disch := omega) only [c175, s175_0, s175_1, s175_2, s175_3, s175_4, s175_5, s175_6, s175_7, s175_8, s175_9, s175_10, s175_11, s175_12, s175_13, s175_14, s175_15, s175_16, s175_17, s175_18, s175_19, s175_20, s175_21, s175_22, s175_23, s175_24, s175_25, s175_26, s175_27, s175_28, s175_29, s175_30, s175_31, s175_32, s175_33, s175_34, s175_35, s175_36, s175_37, s175_38, s175_39, s175_40, s175_41, s175_42, s175_43, s175_44, s175_45, s175_46, s175_47, s175_48, s175_49, s175_50, s175_51, s175_52, s175_53, s175_54, s175_55, s175_56, s175_57, s175_58, s175_59, s175_60, s175_61, s175_62, s175_63, s175_64, s175_65, s175_66, s175_67, s175_68, s175_69, s175_70, s175_71, s175_72, s175_73, s175_74, s175_75, s175_76, s175_77, s175_78, s175_79, s175_80, s175_81, ↓reduceIte, Bool.true_eq_false, Bool.false_eq_true, ip_rfS, true_or, or_true, true_and, and_true, Option.toList_some, Option.toList_none, List.cons_append, List.nil_append, ip_fxn, ip_fxi, ip_fxr, ip_fxl, ip_wid, ip_n998, ip_lt900, iO0, iO1, iA2, iA3, iA4, iA5, iA6, iA7, iA8, iO9, iA10, iA11, iA12, iA13, iA14, iA15, iA16, iO17, iA18, iO19, iA20, iA21, iA22, iA23, iO24, iA25, iO26, iA27, iA28, iO29, iA30, iA31, iO32, iA33, iA34, iO35, iA36, iA37, iO38, iA39, iA40, iO41, iA42, iA43, iO44, iA45, iA46, iA47, iA48, iA49, iA50, iA51, iA52, iA53, iO54, iA55, iO56, iA57, iO58, iA59, iO60, iA61, iO62, iA63, iA64, iA65, iA66, iA67, iA68, iA69, iA70, iA71, iA72, iA73, iA74, iA75, iA76, iA77, iA78, iOT, iAT1, iAT2, iOS, iAS, g1, g2, q3, q4, k2, k3, e1, c1, yp_o, yp_uo, yp_d, Int.add_sub_cancel, k4, Int.reduceEq, decide_true, decide_false, kt, kf]
            · have gb := fun Q' => q143 (d := d + 4) (S := S) (R := R) (h := h3) (t := t3) (a := a3) (op := op + 1) (fl := fl3) (L' := ip_up L 62 24 w3) (Q := Q') (by omega)
              rw [if_neg (by simp [c1])]
              refine ⟨⟨by dsimp only; omega, i2, fun z => (by cases z)⟩, v3, h3, t3, a3, w3, 1, a3, ⟨fun z => (by cases z), fun _ => ⟨rfl, y_Ja J3⟩⟩, fun Q => ?_⟩
              simp (disch := omega) only [c175, s175_0, s175_1, s175_2, s175_3, s175_4, s175_5, s175_6, s175_7, s175_8, s175_9, s175_10, s175_11, s175_12, s175_13, s175_14, s175_15, s175_16, s175_17, s175_18, s175_19, s175_20, s175_21, s175_22, s175_23, s175_24, s175_25, s175_26, s175_27, s175_28, s175_29, s175_30, s175_31, s175_32, s175_33, s175_34, s175_35, s175_36, s175_37, s175_38, s175_39, s175_40, s175_41, s175_42, s175_43, s175_44, s175_45, s175_46, s175_47, s175_48, s175_49, s175_50, s175_51, s175_52, s175_53, s175_54, s175_55, s175_56, s175_57, s175_58, s175_59, s175_60, s175_61, s175_62, s175_63, s175_64, s175_65, s175_66, s175_67, s175_68, s175_69, s175_70, s175_71, s175_72, s175_73, s175_74, s175_75, s175_76, s175_77, s175_78, s175_79, s175_80, s175_81, ↓reduceIte, Bool.true_eq_false, Bool.false_eq_true, ip_rfS, true_or, or_true, true_and, and_true, Option.toList_some, Option.toList_none, List.cons_append, List.nil_append, ip_fxn, ip_fxi, ip_fxr, ip_fxl, ip_wid, ip_n998, ip_lt900, iO0, iO1, iA2, iA3, iA4, iA5, iA6, iA7, iA8, iO9, iA10, iA11, iA12, iA13, iA14, iA15, iA16, iO17, iA18, iO19, iA20, iA21, iA22, iA23, iO24, iA25, iO26, iA27, iA28, iO29, iA30, iA31, iO32, iA33, iA34, iO35, iA36, iA37, iO38, iA39, iA40, iO41, iA42, iA43, iO44, iA45, iA46, iA47, iA48, iA49, iA50, iA51, iA52, iA53, iO54, iA55, iO56, iA57, iO58, iA59, iO60, iA61, iO62, iA63, iA64, iA65, iA66, iA67, iA68, iA69, iA70, iA71, iA72, iA73, iA74, iA75, iA76, iA77, iA78, iOT, iAT1, iAT2, iOS, iAS, g1, g2, q3, q4, k2, k3, e1, c1, gb, yp_o, yp_uo, yp_d, Int.add_sub_cancel, Int.reduceEq, decide_true, decide_false, kt, kf]
        · have hL2 : x_opn T la one ee j = (false, j, []) := by rw [x_opn, if_neg q3, if_neg q4]
          rw [hL2]
          have gn := fun Q' => q157f (d := d + 1) (op := op) (fl := fl) (L' := ip_up L 62 24 w) (Q := Q') hM hC hj J q2
          have gb := fun Q' => q143 (d := d + 4) (S := S) (R := R) (h := h) (t := t) (a := a) (op := op) (fl := fl) (L' := ip_up L 62 24 w) (Q := Q') (by omega)
          refine ⟨⟨Int.le_refl _, hj2, fun z => (by cases z)⟩, 0, h, t, a, w, 1, a, ⟨fun z => (by cases z), fun _ => ⟨rfl, y_Ja J⟩⟩, fun Q => ?_⟩
          have e2 : ¬ t = 2 := by
            obtain ⟨-, -, J⟩ := J
            rcases J with J | J | J | J | J <;> omega
          by_cases e1 : t = 1
          · subst e1
            simp (disch := omega) only [c175, s175_0, s175_1, s175_2, s175_3, s175_4, s175_5, s175_6, s175_7, s175_8, s175_9, s175_10, s175_11, s175_12, s175_13, s175_14, s175_15, s175_16, s175_17, s175_18, s175_19, s175_20, s175_21, s175_22, s175_23, s175_24, s175_25, s175_26, s175_27, s175_28, s175_29, s175_30, s175_31, s175_32, s175_33, s175_34, s175_35, s175_36, s175_37, s175_38, s175_39, s175_40, s175_41, s175_42, s175_43, s175_44, s175_45, s175_46, s175_47, s175_48, s175_49, s175_50, s175_51, s175_52, s175_53, s175_54, s175_55, s175_56, s175_57, s175_58, s175_59, s175_60, s175_61, s175_62, s175_63, s175_64, s175_65, s175_66, s175_67, s175_68, s175_69, s175_70, s175_71, s175_72, s175_73, s175_74, s175_75, s175_76, s175_77, s175_78, s175_79, s175_80, s175_81, ↓reduceIte, Bool.true_eq_false, Bool.false_eq_true, ip_rfS, true_or, or_true, true_and, and_true, Option.toList_some, Option.toList_none, List.cons_append, List.nil_append, ip_fxn, ip_fxi, ip_fxr, ip_fxl, ip_wid, ip_n998, ip_lt900, iO0, iO1, iA2, iA3, iA4, iA5, iA6, iA7, iA8, iO9, iA10, iA11, iA12, iA13, iA14, iA15, iA16, iO17, iA18, iO19, iA20, iA21, iA22, iA23, iO24, iA25, iO26, iA27, iA28, iO29, iA30, iA31, iO32, iA33, iA34, iO35, iA36, iA37, iO38, iA39, iA40, iO41, iA42, iA43, iO44, iA45, iA46, iA47, iA48, iA49, iA50, iA51, iA52, iA53, iO54, iA55, iO56, iA57, iO58, iA59, iO60, iA61, iO62, iA63, iA64, iA65, iA66, iA67, iA68, iA69, iA70, iA71, iA72, iA73, iA74, iA75, iA76, iA77, iA78, iOT, iAT1, iAT2, iOS, iAS, g1, g2, q3, q4, yp_d, yp_t, gn, Int.reduceEq, decide_true, decide_false, kt, kf]
          · simp (disch := omega) only [c175, s175_0, s175_1, s175_2, s175_3, s175_4, s175_5, s175_6, s175_7, s175_8, s175_9, s175_10, s175_11, s175_12, s175_13, s175_14, s175_15, s175_16, s175_17, s175_18, s175_19, s175_20, s175_21, s175_22, s175_23, s175_24, s175_25, s175_26, s175_27, s175_28, s175_29, s175_30, s175_31, s175_32, s175_33, s175_34, s175_35, s175_36, s175_37, s175_38, s175_39, s175_40, s175_41, s175_42, s175_43, s175_44, s175_45, s175_46, s175_47, s175_48, s175_49, s175_50, s175_51, s175_52, s175_53, s175_54, s175_55, s175_56, s175_57, s175_58, s175_59, s175_60, s175_61, s175_62, s175_63, s175_64, s175_65, s175_66, s175_67, s175_68, s175_69, s175_70, s175_71, s175_72, s175_73, s175_74, s175_75, s175_76, s175_77, s175_78, s175_79, s175_80, s175_81, ↓reduceIte, Bool.true_eq_false, Bool.false_eq_true, ip_rfS, true_or, or_true, true_and, and_true, Option.toList_some, Option.toList_none, List.cons_append, List.nil_append, ip_fxn, ip_fxi, ip_fxr, ip_fxl, ip_wid, ip_n998, ip_lt900, iO0, iO1, iA2, iA3, iA4, iA5, iA6, iA7, iA8, iO9, iA10, iA11, iA12, iA13, iA14, iA15, iA16, iO17, iA18, iO19, iA20, iA21, iA22, iA23, iO24, iA25, iO26, iA27, iA28, iO29, iA30, iA31, iO32, iA33, iA34, iO35, iA36, iA37, iO38, iA39, iA40, iO41, iA42, iA43, iO44, iA45, iA46, iA47, iA48, iA49, iA50, iA51, iA52, iA53, iO54, iA55, iO56, iA57, iO58, iA59, iO60, iA61, iO62, iA63, iA64, iA65, iA66, iA67, iA68, iA69, iA70, iA71, iA72, iA73, iA74, iA75, iA76, iA77, iA78, iOT, iAT1, iAT2, iOS, iAS, g1, g2, q3, q4, yp_d, yp_t, e1, e2, gb, Int.reduceEq, decide_true, decide_false, kt, kf]

theorem y174l {f0 : Int → x_PR} (hM : x_RM R) (hC : y_C S b sz T P N la) (hs : y_ok S R L b sz T P N la (d + 3) 175 op f0) : ∀ (f : Nat) (j h t a w fl v : Int) (O : List Int), 0 ≤ j → j ≤ la → la + 1 ≤ j + f → y_J b sz T P N la j h t a w → ip_w v = v → y_val (y_nam S) O v →
    (j ≤ (x_loop T la (x_is 42) (fun _ => -23) f0 f true j).2.1 ∧ (x_loop T la (x_is 42) (fun _ => -23) f0 f true j).2.1 ≤ la) ∧ ∃ v' h' t' a' w' bd' fl', y_res S b sz T P N la ((x_loop T la (x_is 42) (fun _ => -23) f0 f true j).1, (x_loop T la (x_is 42) (fun _ => -23) f0 f true j).2.1, O ++ (x_loop T la (x_is 42) (fun _ => -23) f0 f true j).2.2) v' h' t' a' w' bd' fl' ∧
      ∀ Q, ip_wp (d + 3) 174 3 [some (.ref 62), some (vi v)] [] 79 (y_P S h t a op 0 fl) R (ip_up L 62 24 w) Q = Q (some (vi v')) 79 (y_P S h' t' a' op bd' fl') R (ip_up L 62 24 w')
  | 0, j, h, t, a, w, fl, v, O, hj, hj2, hf, J, hv, hO => by omega
  | f + 1, j, h, t, a, w, fl, v, O, hj, hj2, hf, J, hv, hO => by
    have g := fun Q' => q156 (d := d + 2) (S := S) (R := R) (L := L) (op := op) (fl := fl) (Q := Q') J (s := 42) (by omega)
    by_cases q0 : T j = 42
    · obtain ⟨n1, n2, h2, t2, a2, w2, J2, k2⟩ := q138 (d := d) (L := L) hM hC hj J (by omega) (by omega)
      obtain ⟨⟨i1, i2, i3⟩, v3, h3, t3, a3, w3, bd3, fl3, ⟨r1, r2⟩, k3⟩ := hs (j + 1) h2 t2 a2 w2 fl (by omega) (by omega) J2
      have hL : x_loop T la (x_is 42) (fun _ => -23) f0 (f + 1) true j = ((x_loop T la (x_is 42) (fun _ => -23) f0 f (f0 (j + 1)).1 (f0 (j + 1)).2.1).1, (x_loop T la (x_is 42) (fun _ => -23) f0 f (f0 (j + 1)).1 (f0 (j + 1)).2.1).2.1, (f0 (j + 1)).2.2 ++ -23 :: (x_loop T la (x_is 42) (fun _ => -23) f0 f (f0 (j + 1)).1 (f0 (j + 1)).2.1).2.2) := by
        rw [x_loop, if_pos (by simp [x_is, x_pm, q0]), n2]
        try simp only [x_pmc, q0, Int.reduceEq, if_true, if_false]
      rw [hL]
      generalize f0 (j + 1) = r at *
      obtain ⟨ft, jn, on⟩ := r
      dsimp only at *
      have step : ∀ Q, ip_wp (d + 3) 174 3 [some (.ref 62), some (vi v)] [] 79 (y_P S h t a op 0 fl) R (ip_up L 62 24 w) Q = ip_wp (d + 3) 174 3 [some (.ref 62), some (vi (v * v3))] [] 79 (y_P S h3 t3 a3 op bd3 fl3) R (ip_up L 62 24 w3) Q := fun Q => by
        rw [s174_3]
        simp (disch := omega) only [s174_0, s174_1, s174_2, s174_4, s174_5, s174_6, s174_7, s174_8, s174_9, s174_10, s174_11, s174_12, s174_13, s174_14, s174_15, s174_16, ↓reduceIte, Bool.true_eq_false, Bool.false_eq_true, ip_rfS, true_or, or_true, true_and, and_true, Option.toList_some, Option.toList_none, List.cons_append, List.nil_append, ip_fxn, ip_fxi, ip_fxr, ip_fxl, ip_wid, ip_n998, ip_lt900, iO0, iO1, iA2, iA3, iA4, iA5, iA6, iA7, iA8, iO9, iA10, iA11, iA12, iA13, iA14, iA15, iA16, iO17, iA18, iO19, iA20, iA21, iA22, iA23, iO24, iA25, iO26, iA27, iA28, iO29, iA30, iA31, iO32, iA33, iA34, iO35, iA36, iA37, iO38, iA39, iA40, iO41, iA42, iA43, iO44, iA45, iA46, iA47, iA48, iA49, iA50, iA51, iA52, iA53, iO54, iA55, iO56, iA57, iO58, iA59, iO60, iA61, iO62, iA63, iA64, iA65, iA66, iA67, iA68, iA69, iA70, iA71, iA72, iA73, iA74, iA75, iA76, iA77, iA78, iOT, iAT1, iAT2, iOS, iAS, g, q0, Int.reduceEq, decide_true, decide_false, show k_n true = 1 from rfl, show k_n false = 0 from rfl, k2, k3]
      cases ft
      · obtain ⟨b1, b2⟩ := r2 rfl
        have hL0 : x_loop T la (x_is 42) (fun _ => -23) f0 f false jn = (false, jn, []) := by cases f <;> simp [x_loop]
        rw [hL0]
        refine ⟨⟨by dsimp only; omega, i2⟩, v * v3, h3, t3, a3, w3, bd3, fl3, ⟨fun z => (by cases z), fun _ => ⟨b1, b2⟩⟩, fun Q => ?_⟩
        subst b1
        rw [step Q, s174_3]
        simp (disch := omega) only [s174_0, s174_1, s174_2, s174_4, s174_5, s174_6, s174_7, s174_8, s174_9, s174_10, s174_11, s174_12, s174_13, s174_14, s174_15, s174_16, ↓reduceIte, Bool.true_eq_false, Bool.false_eq_true, ip_rfS, true_or, or_true, true_and, and_true, Option.toList_some, Option.toList_none, List.cons_append, List.nil_append, ip_fxn, ip_fxi, ip_fxr, ip_fxl, ip_wid, ip_n998, ip_lt900, iO0, iO1, iA2, iA3, iA4, iA5, iA6, iA7, iA8, iO9, iA10, iA11, iA12, iA13, iA14, iA15, iA16, iO17, iA18, iO19, iA20, iA21, iA22, iA23, iO24, iA25, iO26, iA27, iA28, iO29, iA30, iA31, iO32, iA33, iA34, iO35, iA36, iA37, iO38, iA39, iA40, iO41, iA42, iA43, iO44, iA45, iA46, iA47, iA48, iA49, iA50, iA51, iA52, iA53, iO54, iA55, iO56, iA57, iO58, iA59, iO60, iA61, iO62, iA63, iA64, iA65, iA66, iA67, iA68, iA69, iA70, iA71, iA72, iA73, iA74, iA75, iA76, iA77, iA78, iOT, iAT1, iAT2, iOS, iAS, q156b]
      · obtain ⟨b1, J3, vw, vv⟩ := r1 rfl
        subst b1
        have hev : vi (v_jn (-23) v v3) = vi (v * v3) := by
          rw [show v_jn (-23) v v3 = ip_w (v * v3) by simp only [v_jn, Int.reduceEq, Int.reduceNeg, if_true, if_false], ip_viw]
        obtain ⟨⟨e1, e2⟩, v4, h4, t4, a4, w4, bd4, fl4, res, k4⟩ := y174l hM hC hs f jn h3 t3 a3 w3 fl3 (v_jn (-23) v v3) (O ++ (on ++ [-23])) (by omega) i2 (by have := i3 rfl; omega) J3 v_jnw (y_val2 hO vv (by omega))
        rw [hev] at k4
        rw [List.append_assoc, List.append_assoc, List.singleton_append] at res
        exact ⟨⟨by omega, e2⟩, v4, h4, t4, a4, w4, bd4, fl4, res, fun Q => by rw [step Q, k4 Q]⟩
    · have hL : x_loop T la (x_is 42) (fun _ => -23) f0 (f + 1) true j = (true, j, []) := by
        rw [x_loop, if_neg (by simp [x_is, x_pm, q0])]
      rw [hL]
      refine ⟨⟨Int.le_refl _, hj2⟩, v, h, t, a, w, 0, fl, ⟨fun _ => ⟨rfl, J, hv, by rw [List.append_nil]; exact hO⟩, fun z => (by cases z)⟩, fun Q => ?_⟩
      rw [s174_3]
      simp (disch := omega) only [s174_0, s174_1, s174_2, s174_4, s174_5, s174_6, s174_7, s174_8, s174_9, s174_10, s174_11, s174_12, s174_13, s174_14, s174_15, s174_16, ↓reduceIte, Bool.true_eq_false, Bool.false_eq_true, ip_rfS, true_or, or_true, true_and, and_true, Option.toList_some, Option.toList_none, List.cons_append, List.nil_append, ip_fxn, ip_fxi, ip_fxr, ip_fxl, ip_wid, ip_n998, ip_lt900, iO0, iO1, iA2, iA3, iA4, iA5, iA6, iA7, iA8, iO9, iA10, iA11, iA12, iA13, iA14, iA15, iA16, iO17, iA18, iO19, iA20, iA21, iA22, iA23, iO24, iA25, iO26, iA27, iA28, iO29, iA30, iA31, iO32, iA33, iA34, iO35, iA36, iA37, iO38, iA39, iA40, iO41, iA42, iA43, iO44, iA45, iA46, iA47, iA48, iA49, iA50, iA51, iA52, iA53, iO54, iA55, iO56, iA57, iO58, iA59, iO60, iA61, iO62, iA63, iA64, iA65, iA66, iA67, iA68, iA69, iA70, iA71, iA72, iA73, iA74, iA75, iA76, iA77, iA78, iOT, iAT1, iAT2, iOS, iAS, g, q0, decide_false, show k_n false = 0 from rfl]
theorem y174 {f0 : Int → x_PR} (hM : x_RM R) (hC : y_C S b sz T P N la) (hs : y_ok S R L b sz T P N la (d + 3) 175 op f0) : y_ok S R L b sz T P N la (d + 4) 174 op (x_rep T la (x_is 42) (fun _ => -23) f0) := by
  intro j h t a w fl hj hj2 J
  obtain ⟨⟨i1, i2, i3⟩, v3, h3, t3, a3, w3, bd3, fl3, ⟨r1, r2⟩, k3⟩ := hs j h t a w fl hj hj2 J
  have hla := hC.2.1.2.1
  have hsz := hC.1.2.2.1
  unfold x_rep
  generalize f0 j = r at *
  obtain ⟨ft, jn, on⟩ := r
  dsimp only at *
  cases ft
  · obtain ⟨b1, b2⟩ := r2 rfl
    subst b1
    have hL0 : x_loop T la (x_is 42) (fun _ => -23) f0 160 false jn = (false, jn, []) := by simp [x_loop]
    rw [hL0]
    refine ⟨⟨i1, i2, fun z => (by cases z)⟩, v3, h3, t3, a3, w3, 1, fl3, ⟨fun z => (by cases z), fun _ => ⟨rfl, b2⟩⟩, fun Q => ?_⟩
    simp (disch := omega) only [c174, s174_0, s174_1, s174_2, s174_3, s174_4, s174_5, s174_6, s174_7, s174_8, s174_9, s174_10, s174_11, s174_12, s174_13, s174_14, s174_15, s174_16, ↓reduceIte, Bool.true_eq_false, Bool.false_eq_true, ip_rfS, true_or, or_true, true_and, and_true, Option.toList_some, Option.toList_none, List.cons_append, List.nil_append, ip_fxn, ip_fxi, ip_fxr, ip_fxl, ip_wid, ip_n998, ip_lt900, iO0, iO1, iA2, iA3, iA4, iA5, iA6, iA7, iA8, iO9, iA10, iA11, iA12, iA13, iA14, iA15, iA16, iO17, iA18, iO19, iA20, iA21, iA22, iA23, iO24, iA25, iO26, iA27, iA28, iO29, iA30, iA31, iO32, iA33, iA34, iO35, iA36, iA37, iO38, iA39, iA40, iO41, iA42, iA43, iO44, iA45, iA46, iA47, iA48, iA49, iA50, iA51, iA52, iA53, iO54, iA55, iO56, iA57, iO58, iA59, iO60, iA61, iO62, iA63, iA64, iA65, iA66, iA67, iA68, iA69, iA70, iA71, iA72, iA73, iA74, iA75, iA76, iA77, iA78, iOT, iAT1, iAT2, iOS, iAS, k3, q156b]
  · obtain ⟨b1, J3, vw, vv⟩ := r1 rfl
    subst b1
    have h3j := i3 rfl
    obtain ⟨⟨e1, e2⟩, v4, h4, t4, a4, w4, bd4, fl4, res, k4⟩ := y174l (d := d) hM hC hs 160 jn h3 t3 a3 w3 fl3 v3 on (by omega) i2 (by omega) J3 vw vv
    refine ⟨⟨by dsimp only; omega, e2, fun _ => by dsimp only; omega⟩, v4, h4, t4, a4, w4, bd4, fl4, res, fun Q => ?_⟩
    simp (disch := omega) only [c174, s174_0, s174_1, s174_2, ↓reduceIte, Bool.true_eq_false, Bool.false_eq_true, ip_rfS, true_or, or_true, true_and, and_true, Option.toList_some, Option.toList_none, List.cons_append, List.nil_append, ip_fxn, ip_fxi, ip_fxr, ip_fxl, ip_wid, ip_n998, ip_lt900, iO0, iO1, iA2, iA3, iA4, iA5, iA6, iA7, iA8, iO9, iA10, iA11, iA12, iA13, iA14, iA15, iA16, iO17, iA18, iO19, iA20, iA21, iA22, iA23, iO24, iA25, iO26, iA27, iA28, iO29, iA30, iA31, iO32, iA33, iA34, iO35, iA36, iA37, iO38, iA39, iA40, iO41, iA42, iA43, iO44, iA45, iA46, iA47, iA48, iA49, iA50, iA51, iA52, iA53, iO54, iA55, iO56, iA57, iO58, iA59, iO60, iA61, iO62, iA63, iA64, iA65, iA66, iA67, iA68, iA69, iA70, iA71, iA72, iA73, iA74, iA75, iA76, iA77, iA78, iOT, iAT1, iAT2, iOS, iAS, k3, k4]

theorem y173l {f0 : Int → x_PR} (hM : x_RM R) (hC : y_C S b sz T P N la) (hs : y_ok S R L b sz T P N la (d + 3) 174 op f0) : ∀ (f : Nat) (j h t a w fl v : Int) (O : List Int) (l2 l3 : Option Value), 0 ≤ j → j ≤ la → la + 1 ≤ j + f → y_J b sz T P N la j h t a w → ip_w v = v → y_val (y_nam S) O v →
    (j ≤ (x_loop T la x_pm x_pmc f0 f true j).2.1 ∧ (x_loop T la x_pm x_pmc f0 f true j).2.1 ≤ la) ∧ ∃ v' h' t' a' w' bd' fl', y_res S b sz T P N la ((x_loop T la x_pm x_pmc f0 f true j).1, (x_loop T la x_pm x_pmc f0 f true j).2.1, O ++ (x_loop T la x_pm x_pmc f0 f true j).2.2) v' h' t' a' w' bd' fl' ∧
      ∀ Q, ip_wp (d + 3) 173 3 [some (.ref 62), some (vi v), l2, l3] [] 79 (y_P S h t a op 0 fl) R (ip_up L 62 24 w) Q = Q (some (vi v')) 79 (y_P S h' t' a' op bd' fl') R (ip_up L 62 24 w')
  | 0, j, h, t, a, w, fl, v, O, l2, l3, hj, hj2, hf, J, hv, hO => by omega
  | f + 1, j, h, t, a, w, fl, v, O, l2, l3, hj, hj2, hf, J, hv, hO => by
    have g := fun Q' => q156 (d := d + 2) (S := S) (R := R) (L := L) (op := op) (fl := fl) (Q := Q') J (s := 43) (by omega)
    have g2 := fun Q' => q156 (d := d + 2) (S := S) (R := R) (L := L) (op := op) (fl := fl) (Q := Q') J (s := 45) (by omega)
    by_cases q0 : T j = 43
    · obtain ⟨n1, n2, h2, t2, a2, w2, J2, k2⟩ := q138 (d := d) (L := L) hM hC hj J (by omega) (by omega)
      obtain ⟨⟨i1, i2, i3⟩, v3, h3, t3, a3, w3, bd3, fl3, ⟨r1, r2⟩, k3⟩ := hs (j + 1) h2 t2 a2 w2 fl (by omega) (by omega) J2
      have hL : x_loop T la x_pm x_pmc f0 (f + 1) true j = ((x_loop T la x_pm x_pmc f0 f (f0 (j + 1)).1 (f0 (j + 1)).2.1).1, (x_loop T la x_pm x_pmc f0 f (f0 (j + 1)).1 (f0 (j + 1)).2.1).2.1, (f0 (j + 1)).2.2 ++ -21 :: (x_loop T la x_pm x_pmc f0 f (f0 (j + 1)).1 (f0 (j + 1)).2.1).2.2) := by
        rw [x_loop, if_pos (by simp [x_is, x_pm, q0]), n2]
        try simp only [x_pmc, q0, Int.reduceEq, if_true, if_false]
      rw [hL]
      generalize f0 (j + 1) = r at *
      obtain ⟨ft, jn, on⟩ := r
      dsimp only at *
      have ew : w = 43 := by have := y_Jw J (by omega); omega
      have ec : ip_w (ip_cmpl (ip_w64 w) (ip_w64 43)) = 0 := by rw [ew]; decide +kernel
      have step : ∀ Q, ip_wp (d + 3) 173 3 [some (.ref 62), some (vi v), l2, l3] [] 79 (y_P S h t a op 0 fl) R (ip_up L 62 24 w) Q = ip_wp (d + 3) 173 3 [some (.ref 62), some (vi (v + v3)), some (vi 1), some (vi v3)] [] 79 (y_P S h3 t3 a3 op bd3 fl3) R (ip_up L 62 24 w3) Q := fun Q => by
        rw [s173_3]
        simp (disch := omega) only [s173_0, s173_1, s173_2, s173_4, s173_5, s173_6, s173_7, s173_8, s173_9, s173_10, s173_11, s173_12, s173_13, s173_14, s173_15, s173_16, s173_17, s173_18, s173_19, s173_20, s173_21, s173_22, s173_23, s173_24, s173_25, s173_26, s173_27, s173_28, s173_29, s173_30, s173_31, s173_32, s173_33, s173_34, s173_35, s173_36, s173_37, ↓reduceIte, Bool.true_eq_false, Bool.false_eq_true, ip_rfS, true_or, or_true, true_and, and_true, Option.toList_some, Option.toList_none, List.cons_append, List.nil_append, ip_fxn, ip_fxi, ip_fxr, ip_fxl, ip_wid, ip_n998, ip_lt900, iO0, iO1, iA2, iA3, iA4, iA5, iA6, iA7, iA8, iO9, iA10, iA11, iA12, iA13, iA14, iA15, iA16, iO17, iA18, iO19, iA20, iA21, iA22, iA23, iO24, iA25, iO26, iA27, iA28, iO29, iA30, iA31, iO32, iA33, iA34, iO35, iA36, iA37, iO38, iA39, iA40, iO41, iA42, iA43, iO44, iA45, iA46, iA47, iA48, iA49, iA50, iA51, iA52, iA53, iO54, iA55, iO56, iA57, iO58, iA59, iO60, iA61, iO62, iA63, iA64, iA65, iA66, iA67, iA68, iA69, iA70, iA71, iA72, iA73, iA74, iA75, iA76, iA77, iA78, iOT, iAT1, iAT2, iOS, iAS, g, g2, q0, Int.reduceEq, decide_true, decide_false, show k_n true = 1 from rfl, show k_n false = 0 from rfl, k2, k3, ec, ip_up_at]
      cases ft
      · obtain ⟨b1, b2⟩ := r2 rfl
        have hL0 : x_loop T la x_pm x_pmc f0 f false jn = (false, jn, []) := by cases f <;> simp [x_loop]
        rw [hL0]
        refine ⟨⟨by dsimp only; omega, i2⟩, v + v3, h3, t3, a3, w3, bd3, fl3, ⟨fun z => (by cases z), fun _ => ⟨b1, b2⟩⟩, fun Q => ?_⟩
        subst b1
        rw [step Q, s173_3]
        simp (disch := omega) only [s173_0, s173_1, s173_2, s173_4, s173_5, s173_6, s173_7, s173_8, s173_9, s173_10, s173_11, s173_12, s173_13, s173_14, s173_15, s173_16, s173_17, s173_18, s173_19, s173_20, s173_21, s173_22, s173_23, s173_24, s173_25, s173_26, s173_27, s173_28, s173_29, s173_30, s173_31, s173_32, s173_33, s173_34, s173_35, s173_36, s173_37, ↓reduceIte, Bool.true_eq_false, Bool.false_eq_true, ip_rfS, true_or, or_true, true_and, and_true, Option.toList_some, Option.toList_none, List.cons_append, List.nil_append, ip_fxn, ip_fxi, ip_fxr, ip_fxl, ip_wid, ip_n998, ip_lt900, iO0, iO1, iA2, iA3, iA4, iA5, iA6, iA7, iA8, iO9, iA10, iA11, iA12, iA13, iA14, iA15, iA16, iO17, iA18, iO19, iA20, iA21, iA22, iA23, iO24, iA25, iO26, iA27, iA28, iO29, iA30, iA31, iO32, iA33, iA34, iO35, iA36, iA37, iO38, iA39, iA40, iO41, iA42, iA43, iO44, iA45, iA46, iA47, iA48, iA49, iA50, iA51, iA52, iA53, iO54, iA55, iO56, iA57, iO58, iA59, iO60, iA61, iO62, iA63, iA64, iA65, iA66, iA67, iA68, iA69, iA70, iA71, iA72, iA73, iA74, iA75, iA76, iA77, iA78, iOT, iAT1, iAT2, iOS, iAS, q156b]
      · obtain ⟨b1, J3, vw, vv⟩ := r1 rfl
        subst b1
        have hev : vi (v_jn (-21) v v3) = vi (v + v3) := by
          rw [show v_jn (-21) v v3 = ip_w (v + v3) by simp only [v_jn, Int.reduceEq, Int.reduceNeg, if_true, if_false], ip_viw]
        obtain ⟨⟨e1, e2⟩, v4, h4, t4, a4, w4, bd4, fl4, res, k4⟩ := y173l hM hC hs f jn h3 t3 a3 w3 fl3 (v_jn (-21) v v3) (O ++ (on ++ [-21])) (some (vi 1)) (some (vi v3)) (by omega) i2 (by have := i3 rfl; omega) J3 v_jnw (y_val2 hO vv (by omega))
        rw [hev] at k4
        rw [List.append_assoc, List.append_assoc, List.singleton_append] at res
        exact ⟨⟨by omega, e2⟩, v4, h4, t4, a4, w4, bd4, fl4, res, fun Q => by rw [step Q, k4 Q]⟩
    · by_cases q1 : T j = 45
      · obtain ⟨n1, n2, h2, t2, a2, w2, J2, k2⟩ := q138 (d := d) (L := L) hM hC hj J (by omega) (by omega)
        obtain ⟨⟨i1, i2, i3⟩, v3, h3, t3, a3, w3, bd3, fl3, ⟨r1, r2⟩, k3⟩ := hs (j + 1) h2 t2 a2 w2 fl (by omega) (by omega) J2
        have hL : x_loop T la x_pm x_pmc f0 (f + 1) true j = ((x_loop T la x_pm x_pmc f0 f (f0 (j + 1)).1 (f0 (j + 1)).2.1).1, (x_loop T la x_pm x_pmc f0 f (f0 (j + 1)).1 (f0 (j + 1)).2.1).2.1, (f0 (j + 1)).2.2 ++ -22 :: (x_loop T la x_pm x_pmc f0 f (f0 (j + 1)).1 (f0 (j + 1)).2.1).2.2) := by
          rw [x_loop, if_pos (by simp [x_is, x_pm, q1]), n2]
          try simp only [x_pmc, q1, Int.reduceEq, if_true, if_false]
        rw [hL]
        generalize f0 (j + 1) = r at *
        obtain ⟨ft, jn, on⟩ := r
        dsimp only at *
        have ew : w = 45 := by have := y_Jw J (by omega); omega
        have ec : ip_w (ip_cmpl (ip_w64 w) (ip_w64 43)) ≠ 0 := by rw [ew]; decide +kernel
        have step : ∀ Q, ip_wp (d + 3) 173 3 [some (.ref 62), some (vi v), l2, l3] [] 79 (y_P S h t a op 0 fl) R (ip_up L 62 24 w) Q = ip_wp (d + 3) 173 3 [some (.ref 62), some (vi (v - v3)), some (vi 0), some (vi v3)] [] 79 (y_P S h3 t3 a3 op bd3 fl3) R (ip_up L 62 24 w3) Q := fun Q => by
          rw [s173_3]
          simp (disch := omega) only [s173_0, s173_1, s173_2, s173_4, s173_5, s173_6, s173_7, s173_8, s173_9, s173_10, s173_11, s173_12, s173_13, s173_14, s173_15, s173_16, s173_17, s173_18, s173_19, s173_20, s173_21, s173_22, s173_23, s173_24, s173_25, s173_26, s173_27, s173_28, s173_29, s173_30, s173_31, s173_32, s173_33, s173_34, s173_35, s173_36, s173_37, ↓reduceIte, Bool.true_eq_false, Bool.false_eq_true, ip_rfS, true_or, or_true, true_and, and_true, Option.toList_some, Option.toList_none, List.cons_append, List.nil_append, ip_fxn, ip_fxi, ip_fxr, ip_fxl, ip_wid, ip_n998, ip_lt900, iO0, iO1, iA2, iA3, iA4, iA5, iA6, iA7, iA8, iO9, iA10, iA11, iA12, iA13, iA14, iA15, iA16, iO17, iA18, iO19, iA20, iA21, iA22, iA23, iO24, iA25, iO26, iA27, iA28, iO29, iA30, iA31, iO32, iA33, iA34, iO35, iA36, iA37, iO38, iA39, iA40, iO41, iA42, iA43, iO44, iA45, iA46, iA47, iA48, iA49, iA50, iA51, iA52, iA53, iO54, iA55, iO56, iA57, iO58, iA59, iO60, iA61, iO62, iA63, iA64, iA65, iA66, iA67, iA68, iA69, iA70, iA71, iA72, iA73, iA74, iA75, iA76, iA77, iA78, iOT, iAT1, iAT2, iOS, iAS, g, g2, q0, q1, Int.reduceEq, decide_true, decide_false, show k_n true = 1 from rfl, show k_n false = 0 from rfl, k2, k3, ec, ip_up_at]
        cases ft
        · obtain ⟨b1, b2⟩ := r2 rfl
          have hL0 : x_loop T la x_pm x_pmc f0 f false jn = (false, jn, []) := by cases f <;> simp [x_loop]
          rw [hL0]
          refine ⟨⟨by dsimp only; omega, i2⟩, v - v3, h3, t3, a3, w3, bd3, fl3, ⟨fun z => (by cases z), fun _ => ⟨b1, b2⟩⟩, fun Q => ?_⟩
          subst b1
          rw [step Q, s173_3]
          simp (disch := omega) only [s173_0, s173_1, s173_2, s173_4, s173_5, s173_6, s173_7, s173_8, s173_9, s173_10, s173_11, s173_12, s173_13, s173_14, s173_15, s173_16, s173_17, s173_18, s173_19, s173_20, s173_21, s173_22, s173_23, s173_24, s173_25, s173_26, s173_27, s173_28, s173_29, s173_30, s173_31, s173_32, s173_33, s173_34, s173_35, s173_36, s173_37, ↓reduceIte, Bool.true_eq_false, Bool.false_eq_true, ip_rfS, true_or, or_true, true_and, and_true, Option.toList_some, Option.toList_none, List.cons_append, List.nil_append, ip_fxn, ip_fxi, ip_fxr, ip_fxl, ip_wid, ip_n998, ip_lt900, iO0, iO1, iA2, iA3, iA4, iA5, iA6, iA7, iA8, iO9, iA10, iA11, iA12, iA13, iA14, iA15, iA16, iO17, iA18, iO19, iA20, iA21, iA22, iA23, iO24, iA25, iO26, iA27, iA28, iO29, iA30, iA31, iO32, iA33, iA34, iO35, iA36, iA37, iO38, iA39, iA40, iO41, iA42, iA43, iO44, iA45, iA46, iA47, iA48, iA49, iA50, iA51, iA52, iA53, iO54, iA55, iO56, iA57, iO58, iA59, iO60, iA61, iO62, iA63, iA64, iA65, iA66, iA67, iA68, iA69, iA70, iA71, iA72, iA73, iA74, iA75, iA76, iA77, iA78, iOT, iAT1, iAT2, iOS, iAS, q156b]
        · obtain ⟨b1, J3, vw, vv⟩ := r1 rfl
          subst b1
          have hev : vi (v_jn (-22) v v3) = vi (v - v3) := by
            rw [show v_jn (-22) v v3 = ip_w (v - v3) by simp only [v_jn, Int.reduceEq, Int.reduceNeg, if_true, if_false], ip_viw]
          obtain ⟨⟨e1, e2⟩, v4, h4, t4, a4, w4, bd4, fl4, res, k4⟩ := y173l hM hC hs f jn h3 t3 a3 w3 fl3 (v_jn (-22) v v3) (O ++ (on ++ [-22])) (some (vi 0)) (some (vi v3)) (by omega) i2 (by have := i3 rfl; omega) J3 v_jnw (y_val2 hO vv (by omega))
          rw [hev] at k4
          rw [List.append_assoc, List.append_assoc, List.singleton_append] at res
          exact ⟨⟨by omega, e2⟩, v4, h4, t4, a4, w4, bd4, fl4, res, fun Q => by rw [step Q, k4 Q]⟩
      · have hL : x_loop T la x_pm x_pmc f0 (f + 1) true j = (true, j, []) := by
          rw [x_loop, if_neg (by simp [x_is, x_pm, q0, q1])]
        rw [hL]
        refine ⟨⟨Int.le_refl _, hj2⟩, v, h, t, a, w, 0, fl, ⟨fun _ => ⟨rfl, J, hv, by rw [List.append_nil]; exact hO⟩, fun z => (by cases z)⟩, fun Q => ?_⟩
        rw [s173_3]
        simp (disch := omega) only [s173_0, s173_1, s173_2, s173_4, s173_5, s173_6, s173_7, s173_8, s173_9, s173_10, s173_11, s173_12, s173_13, s173_14, s173_15, s173_16, s173_17, s173_18, s173_19, s173_20, s173_21, s173_22, s173_23, s173_24, s173_25, s173_26, s173_27, s173_28, s173_29, s173_30, s173_31, s173_32, s173_33, s173_34, s173_35, s173_36, s173_37, ↓reduceIte, Bool.true_eq_false, Bool.false_eq_true, ip_rfS, true_or, or_true, true_and, and_true, Option.toList_some, Option.toList_none, List.cons_append, List.nil_append, ip_fxn, ip_fxi, ip_fxr, ip_fxl, ip_wid, ip_n998, ip_lt900, iO0, iO1, iA2, iA3, iA4, iA5, iA6, iA7, iA8, iO9, iA10, iA11, iA12, iA13, iA14, iA15, iA16, iO17, iA18, iO19, iA20, iA21, iA22, iA23, iO24, iA25, iO26, iA27, iA28, iO29, iA30, iA31, iO32, iA33, iA34, iO35, iA36, iA37, iO38, iA39, iA40, iO41, iA42, iA43, iO44, iA45, iA46, iA47, iA48, iA49, iA50, iA51, iA52, iA53, iO54, iA55, iO56, iA57, iO58, iA59, iO60, iA61, iO62, iA63, iA64, iA65, iA66, iA67, iA68, iA69, iA70, iA71, iA72, iA73, iA74, iA75, iA76, iA77, iA78, iOT, iAT1, iAT2, iOS, iAS, g, g2, q0, q1, decide_false, show k_n false = 0 from rfl]
theorem y173 {f0 : Int → x_PR} (hM : x_RM R) (hC : y_C S b sz T P N la) (hs : y_ok S R L b sz T P N la (d + 3) 174 op f0) : y_ok S R L b sz T P N la (d + 4) 173 op (x_rep T la x_pm x_pmc f0) := by
  intro j h t a w fl hj hj2 J
  obtain ⟨⟨i1, i2, i3⟩, v3, h3, t3, a3, w3, bd3, fl3, ⟨r1, r2⟩, k3⟩ := hs j h t a w fl hj hj2 J
  have hla := hC.2.1.2.1
  have hsz := hC.1.2.2.1
  unfold x_rep
  generalize f0 j = r at *
  obtain ⟨ft, jn, on⟩ := r
  dsimp only at *
  cases ft
  · obtain ⟨b1, b2⟩ := r2 rfl
    subst b1
    have hL0 : x_loop T la x_pm x_pmc f0 160 false jn = (false, jn, []) := by simp [x_loop]
    rw [hL0]
    refine ⟨⟨i1, i2, fun z => (by cases z)⟩, v3, h3, t3, a3, w3, 1, fl3, ⟨fun z => (by cases z), fun _ => ⟨rfl, b2⟩⟩, fun Q => ?_⟩
    simp (disch := omega) only [c173, s173_0, s173_1, s173_2, s173_3, s173_4, s173_5, s173_6, s173_7, s173_8, s173_9, s173_10, s173_11, s173_12, s173_13, s173_14, s173_15, s173_16, s173_17, s173_18, s173_19, s173_20, s173_21, s173_22, s173_23, s173_24, s173_25, s173_26, s173_27, s173_28, s173_29, s173_30, s173_31, s173_32, s173_33, s173_34, s173_35, s173_36, s173_37, ↓reduceIte, Bool.true_eq_false, Bool.false_eq_true, ip_rfS, true_or, or_true, true_and, and_true, Option.toList_some, Option.toList_none, List.cons_append, List.nil_append, ip_fxn, ip_fxi, ip_fxr, ip_fxl, ip_wid, ip_n998, ip_lt900, iO0, iO1, iA2, iA3, iA4, iA5, iA6, iA7, iA8, iO9, iA10, iA11, iA12, iA13, iA14, iA15, iA16, iO17, iA18, iO19, iA20, iA21, iA22, iA23, iO24, iA25, iO26, iA27, iA28, iO29, iA30, iA31, iO32, iA33, iA34, iO35, iA36, iA37, iO38, iA39, iA40, iO41, iA42, iA43, iO44, iA45, iA46, iA47, iA48, iA49, iA50, iA51, iA52, iA53, iO54, iA55, iO56, iA57, iO58, iA59, iO60, iA61, iO62, iA63, iA64, iA65, iA66, iA67, iA68, iA69, iA70, iA71, iA72, iA73, iA74, iA75, iA76, iA77, iA78, iOT, iAT1, iAT2, iOS, iAS, k3, q156b]
  · obtain ⟨b1, J3, vw, vv⟩ := r1 rfl
    subst b1
    have h3j := i3 rfl
    obtain ⟨⟨e1, e2⟩, v4, h4, t4, a4, w4, bd4, fl4, res, k4⟩ := y173l (d := d) hM hC hs 160 jn h3 t3 a3 w3 fl3 v3 on none none (by omega) i2 (by omega) J3 vw vv
    refine ⟨⟨by dsimp only; omega, e2, fun _ => by dsimp only; omega⟩, v4, h4, t4, a4, w4, bd4, fl4, res, fun Q => ?_⟩
    simp (disch := omega) only [c173, s173_0, s173_1, s173_2, ↓reduceIte, Bool.true_eq_false, Bool.false_eq_true, ip_rfS, true_or, or_true, true_and, and_true, Option.toList_some, Option.toList_none, List.cons_append, List.nil_append, ip_fxn, ip_fxi, ip_fxr, ip_fxl, ip_wid, ip_n998, ip_lt900, iO0, iO1, iA2, iA3, iA4, iA5, iA6, iA7, iA8, iO9, iA10, iA11, iA12, iA13, iA14, iA15, iA16, iO17, iA18, iO19, iA20, iA21, iA22, iA23, iO24, iA25, iO26, iA27, iA28, iO29, iA30, iA31, iO32, iA33, iA34, iO35, iA36, iA37, iO38, iA39, iA40, iO41, iA42, iA43, iO44, iA45, iA46, iA47, iA48, iA49, iA50, iA51, iA52, iA53, iO54, iA55, iO56, iA57, iO58, iA59, iO60, iA61, iO62, iA63, iA64, iA65, iA66, iA67, iA68, iA69, iA70, iA71, iA72, iA73, iA74, iA75, iA76, iA77, iA78, iOT, iAT1, iAT2, iOS, iAS, k3, k4]

theorem y148 {one nt : Int → x_PR} (ho : 0 ≤ op ∧ op < 5) (hM : x_RM R) (hC : y_C S b sz T P N la) (hs : y_ok S R L b sz T P N la (d + 4) 173 op (x_sum T la one)) (hp : y_ok S R L b sz T P N la (d + 4) 149 (op + 1) nt) : y_ok S R L b sz T P N la (d + 5) 148 op (x_not T one la (x_nopn la nt)) := by
  intro j h t a w fl hj hj2 J
  have hla := hC.2.1.2.1
  have hsz := hC.1.2.2.1
  have hjr := J.2.1
  have g := fun Q' => q140 (d := d + 1) (op := op) (fl := fl) (L' := ip_up L 62 24 w) (Q := Q') 5 (by omega) (ki := 5) rfl yW5 hM hC hj J (by omega) (by omega) (by omega) (by omega) (by omega) (by omega) (by omega) (by omega)
  have kt : k_n true = 1 := rfl
  have kf : k_n false = 0 := rfl
  by_cases q0 : T j = 5
  · obtain ⟨n1, n2, h2, t2, a2, w2, J2, k2⟩ := q147 (d := d) (L := L) (op := op) hM hC hj J (by omega) (by omega) ho
    obtain ⟨⟨i1, i2, i3⟩, v3, h3, t3, a3, w3, bd3, fl3, ⟨r1, r2⟩, k3⟩ := hp (j + 1) h2 t2 a2 w2 fl (by omega) (by omega) J2
    have hL : x_not T one la (x_nopn la nt) j = ((nt (j + 1)).1, (nt (j + 1)).2.1, (nt (j + 1)).2.2 ++ [-12]) := by rw [x_not, if_pos q0, x_nopn, n2]
    rw [hL]
    generalize nt (j + 1) = r at *
    obtain ⟨ft, jn, on⟩ := r
    dsimp only at *
    have key : ∀ Q, ip_wc (d + 5) 148 [.ref 62] 79 (y_P S h t a op 0 fl) R (ip_up L 62 24 w) Q = Q (some (vi (if ip_w v3 = 0 then 1 else 0))) 79 (y_P S h3 t3 a3 op bd3 fl3) R (ip_up L 62 24 w3) := fun Q => by
      by_cases z : ip_w v3 = 0
      · simp (disch := omega) only [c148, s148_0, s148_1, s148_2, s148_3, s148_4, s148_5, s148_6, s148_7, s148_8, s148_9, s148_10, s148_11, s148_12, s148_13, s148_14, s148_15, s148_16, s148_17, s148_18, s148_19, s148_20, s148_21, s148_22, s148_23, s148_24, s148_25, s148_26, s148_27, s148_28, s148_29, s148_30, s148_31, s148_32, s148_33, s148_34, s148_35, s148_36, s148_37, s148_38, s148_39, s148_40, s148_41, s148_42, s148_43, s148_44, s148_45, s148_46, s148_47, s148_48, s148_49, s148_50, s148_51, s148_52, s148_53, s148_54, s148_55, s148_56, s148_57, s148_58, s148_59, s148_60, s148_61, s148_62, s148_63, s148_64, s148_65, s148_66, s148_67, s148_68, s148_69, s148_70, ↓reduceIte, Bool.true_eq_false, Bool.false_eq_true, ip_rfS, true_or, or_true, true_and, and_true, Option.toList_some, Option.toList_none, List.cons_append, List.nil_append, ip_fxn, ip_fxi, ip_fxr, ip_fxl, ip_wid, ip_n998, ip_lt900, iO0, iO1, iA2, iA3, iA4, iA5, iA6, iA7, iA8, iO9, iA10, iA11, iA12, iA13, iA14, iA15, iA16, iO17, iA18, iO19, iA20, iA21, iA22, iA23, iO24, iA25, iO26, iA27, iA28, iO29, iA30, iA31, iO32, iA33, iA34, iO35, iA36, iA37, iO38, iA39, iA40, iO41, iA42, iA43, iO44, iA45, iA46, iA47, iA48, iA49, iA50, iA51, iA52, iA53, iO54, iA55, iO56, iA57, iO58, iA59, iO60, iA61, iO62, iA63, iA64, iA65, iA66, iA67, iA68, iA69, iA70, iA71, iA72, iA73, iA74, iA75, iA76, iA77, iA78, iOT, iAT1, iAT2, iOS, iAS, g, q0, k2, k3, z, yp_o, yp_uo, Int.add_sub_cancel, if_true, Int.reduceEq, decide_true, decide_false, kt, kf]
      · simp (disch := omega) only [c148, s148_0, s148_1, s148_2, s148_3, s148_4, s148_5, s148_6, s148_7, s148_8, s148_9, s148_10, s148_11, s148_12, s148_13, s148_14, s148_15, s148_16, s148_17, s148_18, s148_19, s148_20, s148_21, s148_22, s148_23, s148_24, s148_25, s148_26, s148_27, s148_28, s148_29, s148_30, s148_31, s148_32, s148_33, s148_34, s148_35, s148_36, s148_37, s148_38, s148_39, s148_40, s148_41, s148_42, s148_43, s148_44, s148_45, s148_46, s148_47, s148_48, s148_49, s148_50, s148_51, s148_52, s148_53, s148_54, s148_55, s148_56, s148_57, s148_58, s148_59, s148_60, s148_61, s148_62, s148_63, s148_64, s148_65, s148_66, s148_67, s148_68, s148_69, s148_70, ↓reduceIte, Bool.true_eq_false, Bool.false_eq_true, ip_rfS, true_or, or_true, true_and, and_true, Option.toList_some, Option.toList_none, List.cons_append, List.nil_append, ip_fxn, ip_fxi, ip_fxr, ip_fxl, ip_wid, ip_n998, ip_lt900, iO0, iO1, iA2, iA3, iA4, iA5, iA6, iA7, iA8, iO9, iA10, iA11, iA12, iA13, iA14, iA15, iA16, iO17, iA18, iO19, iA20, iA21, iA22, iA23, iO24, iA25, iO26, iA27, iA28, iO29, iA30, iA31, iO32, iA33, iA34, iO35, iA36, iA37, iO38, iA39, iA40, iO41, iA42, iA43, iO44, iA45, iA46, iA47, iA48, iA49, iA50, iA51, iA52, iA53, iO54, iA55, iO56, iA57, iO58, iA59, iO60, iA61, iO62, iA63, iA64, iA65, iA66, iA67, iA68, iA69, iA70, iA71, iA72, iA73, iA74, iA75, iA76, iA77, iA78, iOT, iAT1, iAT2, iOS, iAS, g, q0, k2, k3, z, yp_o, yp_uo, Int.add_sub_cancel, if_false, Int.reduceEq, decide_true, decide_false, kt, kf]
    refine ⟨⟨by dsimp only; omega, i2, fun z => by have := i3 z; dsimp only; omega⟩, (if ip_w v3 = 0 then 1 else 0), h3, t3, a3, w3, bd3, fl3, ⟨fun z => ?_, fun z => r2 z⟩, key⟩
    obtain ⟨b1, J3, vw, vv⟩ := r1 z
    have hev : v_tn (-12) v3 = (if ip_w v3 = 0 then 1 else 0) := by
      rw [vw]
      simp only [v_tn, Int.reduceEq, Int.reduceNeg, if_false]
    exact ⟨b1, J3, by rw [← hev]; exact v_tnw, by rw [← hev]; exact y_val1 vv (by omega) (by omega)⟩
  · have hL : x_not T one la (x_nopn la nt) j = x_cmp T la one j := by rw [x_not, if_neg q0]
    rw [hL]
    obtain ⟨⟨i1, i2, i3⟩, v3, h3, t3, a3, w3, bd3, fl3, ⟨r1, r2⟩, k3⟩ := hs j h t a w fl hj hj2 J
    unfold x_cmp
    generalize hr : x_sum T la one j = r at *
    obtain ⟨ft, jn, on⟩ := r
    dsimp only at *
    cases ft
    · obtain ⟨b1, b2⟩ := r2 rfl
      subst b1
      rw [if_neg (by simp)]
      refine ⟨⟨i1, i2, fun z => (by cases z)⟩, v3, h3, t3, a3, w3, 1, fl3, ⟨fun z => (by cases z), fun _ => ⟨rfl, b2⟩⟩, fun Q => ?_⟩
      simp (disch := omega) only [c148, s148_0, s148_1, s148_2, s148_3, s148_4, s148_5, s148_6, s148_7, s148_8, s148_9, s148_10, s148_11, s148_12, s148_13, s148_14, s148_15, s148_16, s148_17, s148_18, s148_19, s148_20, s148_21, s148_22, s148_23, s148_24, s148_25, s148_26, s148_27, s148_28, s148_29, s148_30, s148_31, s148_32, s148_33, s148_34, s148_35, s148_36, s148_37, s148_38, s148_39, s148_40, s148_41, s148_42, s148_43, s148_44, s148_45, s148_46, s148_47, s148_48, s148_49, s148_50, s148_51, s148_52, s148_53, s148_54, s148_55, s148_56, s148_57, s148_58, s148_59, s148_60, s148_61, s148_62, s148_63, s148_64, s148_65, s148_66, s148_67, s148_68, s148_69, s148_70, ↓reduceIte, Bool.true_eq_false, Bool.false_eq_true, ip_rfS, true_or, or_true, true_and, and_true, Option.toList_some, Option.toList_none, List.cons_append, List.nil_append, ip_fxn, ip_fxi, ip_fxr, ip_fxl, ip_wid, ip_n998, ip_lt900, iO0, iO1, iA2, iA3, iA4, iA5, iA6, iA7, iA8, iO9, iA10, iA11, iA12, iA13, iA14, iA15, iA16, iO17, iA18, iO19, iA20, iA21, iA22, iA23, iO24, iA25, iO26, iA27, iA28, iO29, iA30, iA31, iO32, iA33, iA34, iO35, iA36, iA37, iO38, iA39, iA40, iO41, iA42, iA43, iO44, iA45, iA46, iA47, iA48, iA49, iA50, iA51, iA52, iA53, iO54, iA55, iO56, iA57, iO58, iA59, iO60, iA61, iO62, iA63, iA64, iA65, iA66, iA67, iA68, iA69, iA70, iA71, iA72, iA73, iA74, iA75, iA76, iA77, iA78, iOT, iAT1, iAT2, iOS, iAS, g, q0, k3, q156b, Int.reduceEq, decide_true, decide_false, kt, kf]
    · obtain ⟨b1, J3, vw, vv⟩ := r1 rfl
      subst b1
      have h3j := i3 rfl
      have e1 := fun Q' => q156 (d := d + 3) (S := S) (R := R) (L := L) (op := op) (fl := fl3) (Q := Q') J3 (s := 60) (by omega)
      have e2 := fun Q' => q156 (d := d + 3) (S := S) (R := R) (L := L) (op := op) (fl := fl3) (Q := Q') J3 (s := 61) (by omega)
      by_cases c1 : T jn = 60 ∨ T jn = 61
      · obtain ⟨n1, n2, h4, t4, a4, w4, J4, k4⟩ := q138 (d := d + 1) (L := L) hM hC (by omega) J3 (by omega) (by omega)
        obtain ⟨⟨m1, m2, m3⟩, v5, h5, t5, a5, w5, bd5, fl5, ⟨s1, s2⟩, k5⟩ := hs (jn + 1) h4 t4 a4 w4 fl3 (by omega) (by omega) J4
        rw [if_pos (by simp [c1]), n2]
        generalize x_sum T la one (jn + 1) = u at *
        obtain ⟨ft2, j5, o5⟩ := u
        dsimp only at *
        have ew := y_Jw J3 (by omega)
        rcases c1 with c1 | c1
        · have ec : ip_w (ip_cmpl (ip_w64 w3) (ip_w64 60)) = 0 := by rw [ew, c1]; decide +kernel
          have key : ∀ Q, ip_wc (d + 5) 148 [.ref 62] 79 (y_P S h t a op 0 fl) R (ip_up L 62 24 w) Q = Q (some (vi (if v3 < ip_w v5 then 1 else 0))) 79 (y_P S h5 t5 a5 op bd5 fl5) R (ip_up L 62 24 w5) := fun Q => by
            by_cases z : v3 < ip_w v5
            · simp (disch := omega) only [c148, s148_0, s148_1, s148_2, s148_3, s148_4, s148_5, s148_6, s148_7, s148_8, s148_9, s148_10, s148_11, s148_12, s148_13, s148_14, s148_15, s148_16, s148_17, s148_18, s148_19, s148_20, s148_21, s148_22, s148_23, s148_24, s148_25, s148_26, s148_27, s148_28, s148_29, s148_30, s148_31, s148_32, s148_33, s148_34, s148_35, s148_36, s148_37, s148_38, s148_39, s148_40, s148_41, s148_42, s148_43, s148_44, s148_45, s148_46, s148_47, s148_48, s148_49, s148_50, s148_51, s148_52, s148_53, s148_54, s148_55, s148_56, s148_57, s148_58, s148_59, s148_60, s148_61, s148_62, s148_63, s148_64, s148_65, s148_66, s148_67, s148_68, s148_69, s148_70, ↓reduceIte, Bool.true_eq_false, Bool.false_eq_true, ip_rfS, true_or, or_true, true_and, and_true, Option.toList_some, Option.toList_none, List.cons_append, List.nil_append, ip_fxn, ip_fxi, ip_fxr, ip_fxl, ip_wid, ip_n998, ip_lt900, iO0, iO1, iA2, iA3, iA4, iA5, iA6, iA7, iA8, iO9, iA10, iA11, iA12, iA13, iA14, iA15, iA16, iO17, iA18, iO19, iA20, iA21, iA22, iA23, iO24, iA25, iO26, iA27, iA28, iO29, iA30, iA31, iO32, iA33, iA34, iO35, iA36, iA37, iO38, iA39, iA40, iO41, iA42, iA43, iO44, iA45, iA46, iA47, iA48, iA49, iA50, iA51, iA52, iA53, iO54, iA55, iO56, iA57, iO58, iA59, iO60, iA61, iO62, iA63, iA64, iA65, iA66, iA67, iA68, iA69, iA70, iA71, iA72, iA73, iA74, iA75, iA76, iA77, iA78, iOT, iAT1, iAT2, iOS, iAS, g, q0, k3, e1, c1, k4, k5, ip_up_at, ec, vw, z, if_true, Int.reduceEq, decide_true, decide_false, kt, kf]
            · simp (disch := omega) only [c148, s148_0, s148_1, s148_2, s148_3, s148_4, s148_5, s148_6, s148_7, s148_8, s148_9, s148_10, s148_11, s148_12, s148_13, s148_14, s148_15, s148_16, s148_17, s148_18, s148_19, s148_20, s148_21, s148_22, s148_23, s148_24, s148_25, s148_26, s148_27, s148_28, s148_29, s148_30, s148_31, s148_32, s148_33, s148_34, s148_35, s148_36, s148_37, s148_38, s148_39, s148_40, s148_41, s148_42, s148_43, s148_44, s148_45, s148_46, s148_47, s148_48, s148_49, s148_50, s148_51, s148_52, s148_53, s148_54, s148_55, s148_56, s148_57, s148_58, s148_59, s148_60, s148_61, s148_62, s148_63, s148_64, s148_65, s148_66, s148_67, s148_68, s148_69, s148_70, ↓reduceIte, Bool.true_eq_false, Bool.false_eq_true, ip_rfS, true_or, or_true, true_and, and_true, Option.toList_some, Option.toList_none, List.cons_append, List.nil_append, ip_fxn, ip_fxi, ip_fxr, ip_fxl, ip_wid, ip_n998, ip_lt900, iO0, iO1, iA2, iA3, iA4, iA5, iA6, iA7, iA8, iO9, iA10, iA11, iA12, iA13, iA14, iA15, iA16, iO17, iA18, iO19, iA20, iA21, iA22, iA23, iO24, iA25, iO26, iA27, iA28, iO29, iA30, iA31, iO32, iA33, iA34, iO35, iA36, iA37, iO38, iA39, iA40, iO41, iA42, iA43, iO44, iA45, iA46, iA47, iA48, iA49, iA50, iA51, iA52, iA53, iO54, iA55, iO56, iA57, iO58, iA59, iO60, iA61, iO62, iA63, iA64, iA65, iA66, iA67, iA68, iA69, iA70, iA71, iA72, iA73, iA74, iA75, iA76, iA77, iA78, iOT, iAT1, iAT2, iOS, iAS, g, q0, k3, e1, c1, k4, k5, ip_up_at, ec, vw, z, if_false, Int.reduceEq, decide_true, decide_false, kt, kf]
          refine ⟨⟨by dsimp only; omega, m2, fun z => by have := m3 z; dsimp only; omega⟩, (if v3 < ip_w v5 then 1 else 0), h5, t5, a5, w5, bd5, fl5, ⟨fun z => ?_, fun z => s2 z⟩, key⟩
          obtain ⟨d1, J5, d3, d4⟩ := s1 z
          have hev : v_jn (-24) v3 v5 = (if v3 < ip_w v5 then 1 else 0) := by
            rw [d3]
            simp only [v_jn, Int.reduceEq, Int.reduceNeg, if_true, if_false]
          rw [if_pos c1]
          exact ⟨d1, J5, by rw [← hev]; exact v_jnw, by rw [← hev]; exact y_val2 vv d4 (by omega)⟩
        · have ec : ¬ ip_w (ip_cmpl (ip_w64 w3) (ip_w64 60)) = 0 := by rw [ew, c1]; decide +kernel
          have key : ∀ Q, ip_wc (d + 5) 148 [.ref 62] 79 (y_P S h t a op 0 fl) R (ip_up L 62 24 w) Q = Q (some (vi (if v3 = ip_w v5 then 1 else 0))) 79 (y_P S h5 t5 a5 op bd5 fl5) R (ip_up L 62 24 w5) := fun Q => by
            by_cases z : v3 = ip_w v5
            · simp (disch := omega) only [c148, s148_0, s148_1, s148_2, s148_3, s148_4, s148_5, s148_6, s148_7, s148_8, s148_9, s148_10, s148_11, s148_12, s148_13, s148_14, s148_15, s148_16, s148_17, s148_18, s148_19, s148_20, s148_21, s148_22, s148_23, s148_24, s148_25, s148_26, s148_27, s148_28, s148_29, s148_30, s148_31, s148_32, s148_33, s148_34, s148_35, s148_36, s148_37, s148_38, s148_39, s148_40, s148_41, s148_42, s148_43, s148_44, s148_45, s148_46, s148_47, s148_48, s148_49, s148_50, s148_51, s148_52, s148_53, s148_54, s148_55, s148_56, s148_57, s148_58, s148_59, s148_60, s148_61, s148_62, s148_63, s148_64, s148_65, s148_66, s148_67, s148_68, s148_69, s148_70, ↓reduceIte, Bool.true_eq_false, Bool.false_eq_true, ip_rfS, true_or, or_true, true_and, and_true, Option.toList_some, Option.toList_none, List.cons_append, List.nil_append, ip_fxn, ip_fxi, ip_fxr, ip_fxl, ip_wid, ip_n998, ip_lt900, iO0, iO1, iA2, iA3, iA4, iA5, iA6, iA7, iA8, iO9, iA10, iA11, iA12, iA13, iA14, iA15, iA16, iO17, iA18, iO19, iA20, iA21, iA22, iA23, iO24, iA25, iO26, iA27, iA28, iO29, iA30, iA31, iO32, iA33, iA34, iO35, iA36, iA37, iO38, iA39, iA40, iO41, iA42, iA43, iO44, iA45, iA46, iA47, iA48, iA49, iA50, iA51, iA52, iA53, iO54, iA55, iO56, iA57, iO58, iA59, iO60, iA61, iO62, iA63, iA64, iA65, iA66, iA67, iA68, iA69, iA70, iA71, iA72, iA73, iA74, iA75, iA76, iA77, iA78, iOT, iAT1, iAT2, iOS, iAS, g, q0, k3, e1, e2, c1, k4, k5, ip_up_at, ec, vw, eq_true z, if_true, Int.reduceEq, decide_true, decide_false, kt, kf]
            · simp (disch := omega) only [c148, s148_0, s148_1, s148_2, s148_3, s148_4, s148_5, s148_6, s148_7, s148_8, s148_9, s148_10, s148_11, s148_12, s148_13, s148_14, s148_15, s148_16, s148_17, s148_18, s148_19, s148_20, s148_21, s148_22, s148_23, s148_24, s148_25, s148_26, s148_27, s148_28, s148_29, s148_30, s148_31, s148_32, s148_33, s148_34, s148_35, s148_36, s148_37, s148_38, s148_39, s148_40, s148_41, s148_42, s148_43, s148_44, s148_45, s148_46, s148_47, s148_48, s148_49, s148_50, s148_51, s148_52, s148_53, s148_54, s148_55, s148_56, s148_57, s148_58, s148_59, s148_60, s148_61, s148_62, s148_63, s148_64, s148_65, s148_66, s148_67, s148_68, s148_69, s148_70, ↓reduceIte, Bool.true_eq_false, Bool.false_eq_true, ip_rfS, true_or, or_true, true_and, and_true, Option.toList_some, Option.toList_none, List.cons_append, List.nil_append, ip_fxn, ip_fxi, ip_fxr, ip_fxl, ip_wid, ip_n998, ip_lt900, iO0, iO1, iA2, iA3, iA4, iA5, iA6, iA7, iA8, iO9, iA10, iA11, iA12, iA13, iA14, iA15, iA16, iO17, iA18, iO19, iA20, iA21, iA22, iA23, iO24, iA25, iO26, iA27, iA28, iO29, iA30, iA31, iO32, iA33, iA34, iO35, iA36, iA37, iO38, iA39, iA40, iO41, iA42, iA43, iO44, iA45, iA46, iA47, iA48, iA49, iA50, iA51, iA52, iA53, iO54, iA55, iO56, iA57, iO58, iA59, iO60, iA61, iO62, iA63, iA64, iA65, iA66, iA67, iA68, iA69, iA70, iA71, iA72, iA73, iA74, iA75, iA76, iA77, iA78, iOT, iAT1, iAT2, iOS, iAS, g, q0, k3, e1, e2, c1, k4, k5, ip_up_at, ec, vw, z, if_false, Int.reduceEq, decide_true, decide_false, kt, kf]
          refine ⟨⟨by dsimp only; omega, m2, fun z => by have := m3 z; dsimp only; omega⟩, (if v3 = ip_w v5 then 1 else 0), h5, t5, a5, w5, bd5, fl5, ⟨fun z => ?_, fun z => s2 z⟩, key⟩
          obtain ⟨d1, J5, d3, d4⟩ := s1 z
          have hev : v_jn (-25) v3 v5 = (if v3 = ip_w v5 then 1 else 0) := by
            rw [d3]
            simp only [v_jn, Int.reduceEq, Int.reduceNeg, if_true, if_false]
          rw [if_neg (by omega)]
          exact ⟨d1, J5, by rw [← hev]; exact v_jnw, by rw [← hev]; exact y_val2 vv d4 (by omega)⟩
      · rw [if_neg (by simp [c1])]
        refine ⟨⟨i1, i2, i3⟩, v3, h3, t3, a3, w3, 0, fl3, ⟨fun _ => ⟨rfl, J3, vw, vv⟩, fun z => (by cases z)⟩, fun Q => ?_⟩
        simp (disch := omega) only [c148, s148_0, s148_1, s148_2, s148_3, s148_4, s148_5, s148_6, s148_7, s148_8, s148_9, s148_10, s148_11, s148_12, s148_13, s148_14, s148_15, s148_16, s148_17, s148_18, s148_19, s148_20, s148_21, s148_22, s148_23, s148_24, s148_25, s148_26, s148_27, s148_28, s148_29, s148_30, s148_31, s148_32, s148_33, s148_34, s148_35, s148_36, s148_37, s148_38, s148_39, s148_40, s148_41, s148_42, s148_43, s148_44, s148_45, s148_46, s148_47, s148_48, s148_49, s148_50, s148_51, s148_52, s148_53, s148_54, s148_55, s148_56, s148_57, s148_58, s148_59, s148_60, s148_61, s148_62, s148_63, s148_64, s148_65, s148_66, s148_67, s148_68, s148_69, s148_70, ↓reduceIte, Bool.true_eq_false, Bool.false_eq_true, ip_rfS, true_or, or_true, true_and, and_true, Option.toList_some, Option.toList_none, List.cons_append, List.nil_append, ip_fxn, ip_fxi, ip_fxr, ip_fxl, ip_wid, ip_n998, ip_lt900, iO0, iO1, iA2, iA3, iA4, iA5, iA6, iA7, iA8, iO9, iA10, iA11, iA12, iA13, iA14, iA15, iA16, iO17, iA18, iO19, iA20, iA21, iA22, iA23, iO24, iA25, iO26, iA27, iA28, iO29, iA30, iA31, iO32, iA33, iA34, iO35, iA36, iA37, iO38, iA39, iA40, iO41, iA42, iA43, iO44, iA45, iA46, iA47, iA48, iA49, iA50, iA51, iA52, iA53, iO54, iA55, iO56, iA57, iO58, iA59, iO60, iA61, iO62, iA63, iA64, iA65, iA66, iA67, iA68, iA69, iA70, iA71, iA72, iA73, iA74, iA75, iA76, iA77, iA78, iOT, iAT1, iAT2, iOS, iAS, g, q0, k3, e1, e2, show ¬ T jn = 60 by omega, show ¬ T jn = 61 by omega, Int.reduceEq, decide_true, decide_false, kt, kf]

theorem y182l {f0 : Int → x_PR} (hM : x_RM R) (hC : y_C S b sz T P N la) (hs : y_ok S R L b sz T P N la (d + 3) 148 op f0) : ∀ (f : Nat) (j h t a w fl v : Int) (O : List Int) (l2 : Option Value), 0 ≤ j → j ≤ la → la + 1 ≤ j + f → y_J b sz T P N la j h t a w → ip_w v = v → y_val (y_nam S) O v →
    (j ≤ (x_loop T la (x_is 4) (fun _ => -26) f0 f true j).2.1 ∧ (x_loop T la (x_is 4) (fun _ => -26) f0 f true j).2.1 ≤ la) ∧ ∃ v' h' t' a' w' bd' fl', y_res S b sz T P N la ((x_loop T la (x_is 4) (fun _ => -26) f0 f true j).1, (x_loop T la (x_is 4) (fun _ => -26) f0 f true j).2.1, O ++ (x_loop T la (x_is 4) (fun _ => -26) f0 f true j).2.2) v' h' t' a' w' bd' fl' ∧
      ∀ Q, ip_wp (d + 3) 182 3 [some (.ref 62), some (vi v), l2] [] 79 (y_P S h t a op 0 fl) R (ip_up L 62 24 w) Q = Q (some (vi v')) 79 (y_P S h' t' a' op bd' fl') R (ip_up L 62 24 w')
  | 0, j, h, t, a, w, fl, v, O, l2, hj, hj2, hf, J, hv, hO => by omega
  | f + 1, j, h, t, a, w, fl, v, O, l2, hj, hj2, hf, J, hv, hO => by
    have g := fun Q' => q140 (d := d) (op := op) (fl := fl) (L' := ip_up L 62 24 w) (Q := Q') 4 (by omega) (ki := 4) rfl yW4 hM hC hj J (by omega) (by omega) (by omega) (by omega) (by omega) (by omega) (by omega) (by omega)
    by_cases q0 : T j = 4
    · obtain ⟨n1, n2, h2, t2, a2, w2, J2, k2⟩ := q138 (d := d) (L := L) hM hC hj J (by omega) (by omega)
      obtain ⟨⟨i1, i2, i3⟩, v3, h3, t3, a3, w3, bd3, fl3, ⟨r1, r2⟩, k3⟩ := hs (j + 1) h2 t2 a2 w2 fl (by omega) (by omega) J2
      have hL : x_loop T la (x_is 4) (fun _ => -26) f0 (f + 1) true j = ((x_loop T la (x_is 4) (fun _ => -26) f0 f (f0 (j + 1)).1 (f0 (j + 1)).2.1).1, (x_loop T la (x_is 4) (fun _ => -26) f0 f (f0 (j + 1)).1 (f0 (j + 1)).2.1).2.1, (f0 (j + 1)).2.2 ++ -26 :: (x_loop T la (x_is 4) (fun _ => -26) f0 f (f0 (j + 1)).1 (f0 (j + 1)).2.1).2.2) := by
        rw [x_loop, if_pos (by simp [x_is, x_pm, q0]), n2]
        try simp only [x_pmc, q0, Int.reduceEq, if_true, if_false]
      rw [hL]
      generalize f0 (j + 1) = r at *
      obtain ⟨ft, jn, on⟩ := r
      dsimp only at *
      have step : ∀ Q, ∃ v5 : Int, v5 = (if ¬ v = 0 ∧ ¬ ip_w v3 = 0 then 1 else 0) ∧ ip_wp (d + 3) 182 3 [some (.ref 62), some (vi v), l2] [] 79 (y_P S h t a op 0 fl) R (ip_up L 62 24 w) Q = ip_wp (d + 3) 182 3 [some (.ref 62), some (vi v5), some (vi v3)] [] 79 (y_P S h3 t3 a3 op bd3 fl3) R (ip_up L 62 24 w3) Q := fun Q => by
        refine ⟨_, rfl, ?_⟩
        rw [s182_3]
        by_cases z1 : v = 0
        · by_cases z2 : ip_w v3 = 0
          · simp (disch := omega) only [s182_0, s182_1, s182_2, s182_4, s182_5, s182_6, s182_7, s182_8, s182_9, s182_10, s182_11, s182_12, s182_13, s182_14, s182_15, s182_16, s182_17, s182_18, s182_19, s182_20, s182_21, s182_22, s182_23, s182_24, s182_25, s182_26, s182_27, s182_28, s182_29, ↓reduceIte, Bool.true_eq_false, Bool.false_eq_true, ip_rfS, true_or, or_true, true_and, and_true, Option.toList_some, Option.toList_none, List.cons_append, List.nil_append, ip_fxn, ip_fxi, ip_fxr, ip_fxl, ip_wid, ip_n998, ip_lt900, iO0, iO1, iA2, iA3, iA4, iA5, iA6, iA7, iA8, iO9, iA10, iA11, iA12, iA13, iA14, iA15, iA16, iO17, iA18, iO19, iA20, iA21, iA22, iA23, iO24, iA25, iO26, iA27, iA28, iO29, iA30, iA31, iO32, iA33, iA34, iO35, iA36, iA37, iO38, iA39, iA40, iO41, iA42, iA43, iO44, iA45, iA46, iA47, iA48, iA49, iA50, iA51, iA52, iA53, iO54, iA55, iO56, iA57, iO58, iA59, iO60, iA61, iO62, iA63, iA64, iA65, iA66, iA67, iA68, iA69, iA70, iA71, iA72, iA73, iA74, iA75, iA76, iA77, iA78, iOT, iAT1, iAT2, iOS, iAS, g, q0, Int.reduceEq, decide_true, show k_n true = 1 from rfl, k2, k3, hv, z1, z2, not_true, not_false_eq_true, and_self, or_self, false_and, and_false, or_true, true_or, if_true, if_false]
          · simp (disch := omega) only [s182_0, s182_1, s182_2, s182_4, s182_5, s182_6, s182_7, s182_8, s182_9, s182_10, s182_11, s182_12, s182_13, s182_14, s182_15, s182_16, s182_17, s182_18, s182_19, s182_20, s182_21, s182_22, s182_23, s182_24, s182_25, s182_26, s182_27, s182_28, s182_29, ↓reduceIte, Bool.true_eq_false, Bool.false_eq_true, ip_rfS, true_or, or_true, true_and, and_true, Option.toList_some, Option.toList_none, List.cons_append, List.nil_append, ip_fxn, ip_fxi, ip_fxr, ip_fxl, ip_wid, ip_n998, ip_lt900, iO0, iO1, iA2, iA3, iA4, iA5, iA6, iA7, iA8, iO9, iA10, iA11, iA12, iA13, iA14, iA15, iA16, iO17, iA18, iO19, iA20, iA21, iA22, iA23, iO24, iA25, iO26, iA27, iA28, iO29, iA30, iA31, iO32, iA33, iA34, iO35, iA36, iA37, iO38, iA39, iA40, iO41, iA42, iA43, iO44, iA45, iA46, iA47, iA48, iA49, iA50, iA51, iA52, iA53, iO54, iA55, iO56, iA57, iO58, iA59, iO60, iA61, iO62, iA63, iA64, iA65, iA66, iA67, iA68, iA69, iA70, iA71, iA72, iA73, iA74, iA75, iA76, iA77, iA78, iOT, iAT1, iAT2, iOS, iAS, g, q0, Int.reduceEq, decide_true, show k_n true = 1 from rfl, k2, k3, hv, z1, z2, not_true, not_false_eq_true, and_self, or_self, false_and, and_false, or_true, true_or, if_true, if_false]
        · by_cases z2 : ip_w v3 = 0
          · simp (disch := omega) only [s182_0, s182_1, s182_2, s182_4, s182_5, s182_6, s182_7, s182_8, s182_9, s182_10, s182_11, s182_12, s182_13, s182_14, s182_15, s182_16, s182_17, s182_18, s182_19, s182_20, s182_21, s182_22, s182_23, s182_24, s182_25, s182_26, s182_27, s182_28, s182_29, ↓reduceIte, Bool.true_eq_false, Bool.false_eq_true, ip_rfS, true_or, or_true, true_and, and_true, Option.toList_some, Option.toList_none, List.cons_append, List.nil_append, ip_fxn, ip_fxi, ip_fxr, ip_fxl, ip_wid, ip_n998, ip_lt900, iO0, iO1, iA2, iA3, iA4, iA5, iA6, iA7, iA8, iO9, iA10, iA11, iA12, iA13, iA14, iA15, iA16, iO17, iA18, iO19, iA20, iA21, iA22, iA23, iO24, iA25, iO26, iA27, iA28, iO29, iA30, iA31, iO32, iA33, iA34, iO35, iA36, iA37, iO38, iA39, iA40, iO41, iA42, iA43, iO44, iA45, iA46, iA47, iA48, iA49, iA50, iA51, iA52, iA53, iO54, iA55, iO56, iA57, iO58, iA59, iO60, iA61, iO62, iA63, iA64, iA65, iA66, iA67, iA68, iA69, iA70, iA71, iA72, iA73, iA74, iA75, iA76, iA77, iA78, iOT, iAT1, iAT2, iOS, iAS, g, q0, Int.reduceEq, decide_true, show k_n true = 1 from rfl, k2, k3, hv, z1, z2, not_true, not_false_eq_true, and_self, or_self, false_and, and_false, or_true, true_or, if_true, if_false]
          · simp (disch := omega) only [s182_0, s182_1, s182_2, s182_4, s182_5, s182_6, s182_7, s182_8, s182_9, s182_10, s182_11, s182_12, s182_13, s182_14, s182_15, s182_16, s182_17, s182_18, s182_19, s182_20, s182_21, s182_22, s182_23, s182_24, s182_25, s182_26, s182_27, s182_28, s182_29, ↓reduceIte, Bool.true_eq_false, Bool.false_eq_true, ip_rfS, true_or, or_true, true_and, and_true, Option.toList_some, Option.toList_none, List.cons_append, List.nil_append, ip_fxn, ip_fxi, ip_fxr, ip_fxl, ip_wid, ip_n998, ip_lt900, iO0, iO1, iA2, iA3, iA4, iA5, iA6, iA7, iA8, iO9, iA10, iA11, iA12, iA13, iA14, iA15, iA16, iO17, iA18, iO19, iA20, iA21, iA22, iA23, iO24, iA25, iO26, iA27, iA28, iO29, iA30, iA31, iO32, iA33, iA34, iO35, iA36, iA37, iO38, iA39, iA40, iO41, iA42, iA43, iO44, iA45, iA46, iA47, iA48, iA49, iA50, iA51, iA52, iA53, iO54, iA55, iO56, iA57, iO58, iA59, iO60, iA61, iO62, iA63, iA64, iA65, iA66, iA67, iA68, iA69, iA70, iA71, iA72, iA73, iA74, iA75, iA76, iA77, iA78, iOT, iAT1, iAT2, iOS, iAS, g, q0, Int.reduceEq, decide_true, show k_n true = 1 from rfl, k2, k3, hv, z1, z2, not_true, not_false_eq_true, and_self, or_self, false_and, and_false, or_true, true_or, if_true, if_false]
      cases ft
      · obtain ⟨b1, b2⟩ := r2 rfl
        have hL0 : x_loop T la (x_is 4) (fun _ => -26) f0 f false jn = (false, jn, []) := by cases f <;> simp [x_loop]
        rw [hL0]
        refine ⟨⟨by dsimp only; omega, i2⟩, (if ¬ v = 0 ∧ ¬ ip_w v3 = 0 then 1 else 0), h3, t3, a3, w3, bd3, fl3, ⟨fun z => (by cases z), fun _ => ⟨b1, b2⟩⟩, fun Q => ?_⟩
        obtain ⟨v5, e5, k5⟩ := step Q
        subst b1
        rw [k5, s182_3, e5]
        simp (disch := omega) only [s182_0, s182_1, s182_2, s182_4, s182_5, s182_6, s182_7, s182_8, s182_9, s182_10, s182_11, s182_12, s182_13, s182_14, s182_15, s182_16, s182_17, s182_18, s182_19, s182_20, s182_21, s182_22, s182_23, s182_24, s182_25, s182_26, s182_27, s182_28, s182_29, ↓reduceIte, Bool.true_eq_false, Bool.false_eq_true, ip_rfS, true_or, or_true, true_and, and_true, Option.toList_some, Option.toList_none, List.cons_append, List.nil_append, ip_fxn, ip_fxi, ip_fxr, ip_fxl, ip_wid, ip_n998, ip_lt900, iO0, iO1, iA2, iA3, iA4, iA5, iA6, iA7, iA8, iO9, iA10, iA11, iA12, iA13, iA14, iA15, iA16, iO17, iA18, iO19, iA20, iA21, iA22, iA23, iO24, iA25, iO26, iA27, iA28, iO29, iA30, iA31, iO32, iA33, iA34, iO35, iA36, iA37, iO38, iA39, iA40, iO41, iA42, iA43, iO44, iA45, iA46, iA47, iA48, iA49, iA50, iA51, iA52, iA53, iO54, iA55, iO56, iA57, iO58, iA59, iO60, iA61, iO62, iA63, iA64, iA65, iA66, iA67, iA68, iA69, iA70, iA71, iA72, iA73, iA74, iA75, iA76, iA77, iA78, iOT, iAT1, iAT2, iOS, iAS, q140b]
      · obtain ⟨b1, J3, vw, vv⟩ := r1 rfl
        subst b1
        have hev : v_jn (-26) v v3 = (if ¬ v = 0 ∧ ¬ ip_w v3 = 0 then 1 else 0) := by
          rw [vw]
          simp only [v_jn, Int.reduceEq, Int.reduceNeg, if_true, if_false]
        obtain ⟨⟨e1, e2⟩, v4, h4, t4, a4, w4, bd4, fl4, res, k4⟩ := y182l hM hC hs f jn h3 t3 a3 w3 fl3 (v_jn (-26) v v3) (O ++ (on ++ [-26])) (some (vi v3)) (by omega) i2 (by have := i3 rfl; omega) J3 v_jnw (y_val2 hO vv (by omega))
        rw [hev] at k4
        rw [List.append_assoc, List.append_assoc, List.singleton_append] at res
        refine ⟨⟨by omega, e2⟩, v4, h4, t4, a4, w4, bd4, fl4, res, fun Q => ?_⟩
        obtain ⟨v5, e5, k5⟩ := step Q
        rw [k5, e5, k4 Q]
    · have hL : x_loop T la (x_is 4) (fun _ => -26) f0 (f + 1) true j = (true, j, []) := by
        rw [x_loop, if_neg (by simp [x_is, x_pm, q0])]
      rw [hL]
      refine ⟨⟨Int.le_refl _, hj2⟩, v, h, t, a, w, 0, fl, ⟨fun _ => ⟨rfl, J, hv, by rw [List.append_nil]; exact hO⟩, fun z => (by cases z)⟩, fun Q => ?_⟩
      rw [s182_3]
      simp (disch := omega) only [s182_0, s182_1, s182_2, s182_4, s182_5, s182_6, s182_7, s182_8, s182_9, s182_10, s182_11, s182_12, s182_13, s182_14, s182_15, s182_16, s182_17, s182_18, s182_19, s182_20, s182_21, s182_22, s182_23, s182_24, s182_25, s182_26, s182_27, s182_28, s182_29, ↓reduceIte, Bool.true_eq_false, Bool.false_eq_true, ip_rfS, true_or, or_true, true_and, and_true, Option.toList_some, Option.toList_none, List.cons_append, List.nil_append, ip_fxn, ip_fxi, ip_fxr, ip_fxl, ip_wid, ip_n998, ip_lt900, iO0, iO1, iA2, iA3, iA4, iA5, iA6, iA7, iA8, iO9, iA10, iA11, iA12, iA13, iA14, iA15, iA16, iO17, iA18, iO19, iA20, iA21, iA22, iA23, iO24, iA25, iO26, iA27, iA28, iO29, iA30, iA31, iO32, iA33, iA34, iO35, iA36, iA37, iO38, iA39, iA40, iO41, iA42, iA43, iO44, iA45, iA46, iA47, iA48, iA49, iA50, iA51, iA52, iA53, iO54, iA55, iO56, iA57, iO58, iA59, iO60, iA61, iO62, iA63, iA64, iA65, iA66, iA67, iA68, iA69, iA70, iA71, iA72, iA73, iA74, iA75, iA76, iA77, iA78, iOT, iAT1, iAT2, iOS, iAS, g, q0, decide_false, show k_n false = 0 from rfl]
theorem y182 {f0 : Int → x_PR} (hM : x_RM R) (hC : y_C S b sz T P N la) (hs : y_ok S R L b sz T P N la (d + 3) 148 op f0) : y_ok S R L b sz T P N la (d + 4) 182 op (x_rep T la (x_is 4) (fun _ => -26) f0) := by
  intro j h t a w fl hj hj2 J
  obtain ⟨⟨i1, i2, i3⟩, v3, h3, t3, a3, w3, bd3, fl3, ⟨r1, r2⟩, k3⟩ := hs j h t a w fl hj hj2 J
  have hla := hC.2.1.2.1
  have hsz := hC.1.2.2.1
  unfold x_rep
  generalize f0 j = r at *
  obtain ⟨ft, jn, on⟩ := r
  dsimp only at *
  cases ft
  · obtain ⟨b1, b2⟩ := r2 rfl
    subst b1
    have hL0 : x_loop T la (x_is 4) (fun _ => -26) f0 160 false jn = (false, jn, []) := by simp [x_loop]
    rw [hL0]
    refine ⟨⟨i1, i2, fun z => (by cases z)⟩, v3, h3, t3, a3, w3, 1, fl3, ⟨fun z => (by cases z), fun _ => ⟨rfl, b2⟩⟩, fun Q => ?_⟩
    simp (disch := omega) only [c182, s182_0, s182_1, s182_2, s182_3, s182_4, s182_5, s182_6, s182_7, s182_8, s182_9, s182_10, s182_11, s182_12, s182_13, s182_14, s182_15, s182_16, s182_17, s182_18, s182_19, s182_20, s182_21, s182_22, s182_23, s182_24, s182_25, s182_26, s182_27, s182_28, s182_29, ↓reduceIte, Bool.true_eq_false, Bool.false_eq_true, ip_rfS, true_or, or_true, true_and, and_true, Option.toList_some, Option.toList_none, List.cons_append, List.nil_append, ip_fxn, ip_fxi, ip_fxr, ip_fxl, ip_wid, ip_n998, ip_lt900, iO0, iO1, iA2, iA3, iA4, iA5, iA6, iA7, iA8, iO9, iA10, iA11, iA12, iA13, iA14, iA15, iA16, iO17, iA18, iO19, iA20, iA21, iA22, iA23, iO24, iA25, iO26, iA27, iA28, iO29, iA30, iA31, iO32, iA33, iA34, iO35, iA36, iA37, iO38, iA39, iA40, iO41, iA42, iA43, iO44, iA45, iA46, iA47, iA48, iA49, iA50, iA51, iA52, iA53, iO54, iA55, iO56, iA57, iO58, iA59, iO60, iA61, iO62, iA63, iA64, iA65, iA66, iA67, iA68, iA69, iA70, iA71, iA72, iA73, iA74, iA75, iA76, iA77, iA78, iOT, iAT1, iAT2, iOS, iAS, k3, q140b]
  · obtain ⟨b1, J3, vw, vv⟩ := r1 rfl
    subst b1
    have h3j := i3 rfl
    obtain ⟨⟨e1, e2⟩, v4, h4, t4, a4, w4, bd4, fl4, res, k4⟩ := y182l (d := d) hM hC hs 160 jn h3 t3 a3 w3 fl3 v3 on none (by omega) i2 (by omega) J3 vw vv
    refine ⟨⟨by dsimp only; omega, e2, fun _ => by dsimp only; omega⟩, v4, h4, t4, a4, w4, bd4, fl4, res, fun Q => ?_⟩
    simp (disch := omega) only [c182, s182_0, s182_1, s182_2, ↓reduceIte, Bool.true_eq_false, Bool.false_eq_true, ip_rfS, true_or, or_true, true_and, and_true, Option.toList_some, Option.toList_none, List.cons_append, List.nil_append, ip_fxn, ip_fxi, ip_fxr, ip_fxl, ip_wid, ip_n998, ip_lt900, iO0, iO1, iA2, iA3, iA4, iA5, iA6, iA7, iA8, iO9, iA10, iA11, iA12, iA13, iA14, iA15, iA16, iO17, iA18, iO19, iA20, iA21, iA22, iA23, iO24, iA25, iO26, iA27, iA28, iO29, iA30, iA31, iO32, iA33, iA34, iO35, iA36, iA37, iO38, iA39, iA40, iO41, iA42, iA43, iO44, iA45, iA46, iA47, iA48, iA49, iA50, iA51, iA52, iA53, iO54, iA55, iO56, iA57, iO58, iA59, iO60, iA61, iO62, iA63, iA64, iA65, iA66, iA67, iA68, iA69, iA70, iA71, iA72, iA73, iA74, iA75, iA76, iA77, iA78, iOT, iAT1, iAT2, iOS, iAS, k3, k4]

theorem y181l {f0 : Int → x_PR} (hM : x_RM R) (hC : y_C S b sz T P N la) (hs : y_ok S R L b sz T P N la (d + 3) 182 op f0) : ∀ (f : Nat) (j h t a w fl v : Int) (O : List Int) (l2 : Option Value), 0 ≤ j → j ≤ la → la + 1 ≤ j + f → y_J b sz T P N la j h t a w → ip_w v = v → y_val (y_nam S) O v →
    (j ≤ (x_loop T la (x_is 3) (fun _ => -27) f0 f true j).2.1 ∧ (x_loop T la (x_is 3) (fun _ => -27) f0 f true j).2.1 ≤ la) ∧ ∃ v' h' t' a' w' bd' fl', y_res S b sz T P N la ((x_loop T la (x_is 3) (fun _ => -27) f0 f true j).1, (x_loop T la (x_is 3) (fun _ => -27) f0 f true j).2.1, O ++ (x_loop T la (x_is 3) (fun _ => -27) f0 f true j).2.2) v' h' t' a' w' bd' fl' ∧
      ∀ Q, ip_wp (d + 3) 181 3 [some (.ref 62), some (vi v), l2] [] 79 (y_P S h t a op 0 fl) R (ip_up L 62 24 w) Q = Q (some (vi v')) 79 (y_P S h' t' a' op bd' fl') R (ip_up L 62 24 w')
  | 0, j, h, t, a, w, fl, v, O, l2, hj, hj2, hf, J, hv, hO => by omega
  | f + 1, j, h, t, a, w, fl, v, O, l2, hj, hj2, hf, J, hv, hO => by
    have g := fun Q' => q140 (d := d) (op := op) (fl := fl) (L' := ip_up L 62 24 w) (Q := Q') 3 (by omega) (ki := 3) rfl yW3 hM hC hj J (by omega) (by omega) (by omega) (by omega) (by omega) (by omega) (by omega) (by omega)
    by_cases q0 : T j = 3
    · obtain ⟨n1, n2, h2, t2, a2, w2, J2, k2⟩ := q138 (d := d) (L := L) hM hC hj J (by omega) (by omega)
      obtain ⟨⟨i1, i2, i3⟩, v3, h3, t3, a3, w3, bd3, fl3, ⟨r1, r2⟩, k3⟩ := hs (j + 1) h2 t2 a2 w2 fl (by omega) (by omega) J2
      have hL : x_loop T la (x_is 3) (fun _ => -27) f0 (f + 1) true j = ((x_loop T la (x_is 3) (fun _ => -27) f0 f (f0 (j + 1)).1 (f0 (j + 1)).2.1).1, (x_loop T la (x_is 3) (fun _ => -27) f0 f (f0 (j + 1)).1 (f0 (j + 1)).2.1).2.1, (f0 (j + 1)).2.2 ++ -27 :: (x_loop T la (x_is 3) (fun _ => -27) f0 f (f0 (j + 1)).1 (f0 (j + 1)).2.1).2.2) := by
        rw [x_loop, if_pos (by simp [x_is, x_pm, q0]), n2]
        try simp only [x_pmc, q0, Int.reduceEq, if_true, if_false]
      rw [hL]
      generalize f0 (j + 1) = r at *
      obtain ⟨ft, jn, on⟩ := r
      dsimp only at *
      have step : ∀ Q, ∃ v5 : Int, v5 = (if ¬ v = 0 ∨ ¬ ip_w v3 = 0 then 1 else 0) ∧ ip_wp (d + 3) 181 3 [some (.ref 62), some (vi v), l2] [] 79 (y_P S h t a op 0 fl) R (ip_up L 62 24 w) Q = ip_wp (d + 3) 181 3 [some (.ref 62), some (vi v5), some (vi v3)] [] 79 (y_P S h3 t3 a3 op bd3 fl3) R (ip_up L 62 24 w3) Q := fun Q => by
        refine ⟨_, rfl, ?_⟩
        rw [s181_3]
        by_cases z1 : v = 0
        · by_cases z2 : ip_w v3 = 0
          · simp (disch := omega) only [s181_0, s181_1, s181_2, s181_4, s181_5, s181_6, s181_7, s181_8, s181_9, s181_10, s181_11, s181_12, s181_13, s181_14, s181_15, s181_16, s181_17, s181_18, s181_19, s181_20, s181_21, s181_22, s181_23, s181_24, s181_25, s181_26, s181_27, s181_28, s181_29, ↓reduceIte, Bool.true_eq_false, Bool.false_eq_true, ip_rfS, true_or, or_true, true_and, and_true, Option.toList_some, Option.toList_none, List.cons_append, List.nil_append, ip_fxn, ip_fxi, ip_fxr, ip_fxl, ip_wid, ip_n998, ip_lt900, iO0, iO1, iA2, iA3, iA4, iA5, iA6, iA7, iA8, iO9, iA10, iA11, iA12, iA13, iA14, iA15, iA16, iO17, iA18, iO19, iA20, iA21, iA22, iA23, iO24, iA25, iO26, iA27, iA28, iO29, iA30, iA31, iO32, iA33, iA34, iO35, iA36, iA37, iO38, iA39, iA40, iO41, iA42, iA43, iO44, iA45, iA46, iA47, iA48, iA49, iA50, iA51, iA52, iA53, iO54, iA55, iO56, iA57, iO58, iA59, iO60, iA61, iO62, iA63, iA64, iA65, iA66, iA67, iA68, iA69, iA70, iA71, iA72, iA73, iA74, iA75, iA76, iA77, iA78, iOT, iAT1, iAT2, iOS, iAS, g, q0, Int.reduceEq, decide_true, show k_n true = 1 from rfl, k2, k3, hv, z1, z2, not_true, not_false_eq_true, and_self, or_self, false_and, and_false, or_true, true_or, if_true, if_false]
          · simp (disch := omega) only [s181_0, s181_1, s181_2, s181_4, s181_5, s181_6, s181_7, s181_8, s181_9, s181_10, s181_11, s181_12, s181_13, s181_14, s181_15, s181_16, s181_17, s181_18, s181_19, s181_20, s181_21, s181_22, s181_23, s181_24, s181_25, s181_26, s181_27, s181_28, s181_29, ↓reduceIte, Bool.true_eq_false, Bool.false_eq_true, ip_rfS, true_or, or_true, true_and, and_true, Option.toList_some, Option.toList_none, List.cons_append, List.nil_append, ip_fxn, ip_fxi, ip_fxr, ip_fxl, ip_wid, ip_n998, ip_lt900, iO0, iO1, iA2, iA3, iA4, iA5, iA6, iA7, iA8, iO9, iA10, iA11, iA12, iA13, iA14, iA15, iA16, iO17, iA18, iO19, iA20, iA21, iA22, iA23, iO24, iA25, iO26, iA27, iA28, iO29, iA30, iA31, iO32, iA33, iA34, iO35, iA36, iA37, iO38, iA39, iA40, iO41, iA42, iA43, iO44, iA45, iA46, iA47, iA48, iA49, iA50, iA51, iA52, iA53, iO54, iA55, iO56, iA57, iO58, iA59, iO60, iA61, iO62, iA63, iA64, iA65, iA66, iA67, iA68, iA69, iA70, iA71, iA72, iA73, iA74, iA75, iA76, iA77, iA78, iOT, iAT1, iAT2, iOS, iAS, g, q0, Int.reduceEq, decide_true, show k_n true = 1 from rfl, k2, k3, hv, z1, z2, not_true, not_false_eq_true, and_self, or_self, false_and, and_false, or_true, true_or, if_true, if_false]
        · by_cases z2 : ip_w v3 = 0
          · simp (disch := omega) only [s181_0, s181_1, s181_2, s181_4, s181_5, s181_6, s181_7, s181_8, s181_9, s181_10, s181_11, s181_12, s181_13, s181_14, s181_15, s181_16, s181_17, s181_18, s181_19, s181_20, s181_21, s181_22, s181_23, s181_24, s181_25, s181_26, s181_27, s181_28, s181_29, ↓reduceIte, Bool.true_eq_false, Bool.false_eq_true, ip_rfS, true_or, or_true, true_and, and_true, Option.toList_some, Option.toList_none, List.cons_append, List.nil_append, ip_fxn, ip_fxi, ip_fxr, ip_fxl, ip_wid, ip_n998, ip_lt900, iO0, iO1, iA2, iA3, iA4, iA5, iA6, iA7, iA8, iO9, iA10, iA11, iA12, iA13, iA14, iA15, iA16, iO17, iA18, iO19, iA20, iA21, iA22, iA23, iO24, iA25, iO26, iA27, iA28, iO29, iA30, iA31, iO32, iA33, iA34, iO35, iA36, iA37, iO38, iA39, iA40, iO41, iA42, iA43, iO44, iA45, iA46, iA47, iA48, iA49, iA50, iA51, iA52, iA53, iO54, iA55, iO56, iA57, iO58, iA59, iO60, iA61, iO62, iA63, iA64, iA65, iA66, iA67, iA68, iA69, iA70, iA71, iA72, iA73, iA74, iA75, iA76, iA77, iA78, iOT, iAT1, iAT2, iOS, iAS, g, q0, Int.reduceEq, decide_true, show k_n true = 1 from rfl, k2, k3, hv, z1, z2, not_true, not_false_eq_true, and_self, or_self, false_and, and_false, or_true, true_or, if_true, if_false]
          · simp (disch := omega) only [s181_0, s181_1, s181_2, s181_4, s181_5, s181_6, s181_7, s181_8, s181_9, s181_10, s181_11, s181_12, s181_13, s181_14, s181_15, s181_16, s181_17, s181_18, s181_19, s181_20, s181_21, s181_22, s181_23, s181_24, s181_25, s181_26, s181_27, s181_28, s181_29, ↓reduceIte, Bool.true_eq_false, Bool.false_eq_true, ip_rfS, true_or, or_true, true_and, and_true, Option.toList_some, Option.toList_none, List.cons_append, List.nil_append, ip_fxn, ip_fxi, ip_fxr, ip_fxl, ip_wid, ip_n998, ip_lt900, iO0, iO1, iA2, iA3, iA4, iA5, iA6, iA7, iA8, iO9, iA10, iA11, iA12, iA13, iA14, iA15, iA16, iO17, iA18, iO19, iA20, iA21, iA22, iA23, iO24, iA25, iO26, iA27, iA28, iO29, iA30, iA31, iO32, iA33, iA34, iO35, iA36, iA37, iO38, iA39, iA40, iO41, iA42, iA43, iO44, iA45, iA46, iA47, iA48, iA49, iA50, iA51, iA52, iA53, iO54, iA55, iO56, iA57, iO58, iA59, iO60, iA61, iO62, iA63, iA64, iA65, iA66, iA67, iA68, iA69, iA70, iA71, iA72, iA73, iA74, iA75, iA76, iA77, iA78, iOT, iAT1, iAT2, iOS, iAS, g, q0, Int.reduceEq, decide_true, show k_n true = 1 from rfl, k2, k3, hv, z1, z2, not_true, not_false_eq_true, and_self, or_self, false_and, and_false, or_true, true_or, if_true, if_false]
      cases ft
      · obtain ⟨b1, b2⟩ := r2 rfl
        have hL0 : x_loop T la (x_is 3) (fun _ => -27) f0 f false jn = (false, jn, []) := by cases f <;> simp [x_loop]
        rw [hL0]
        refine ⟨⟨by dsimp only; omega, i2⟩, (if ¬ v = 0 ∨ ¬ ip_w v3 = 0 then 1 else 0), h3, t3, a3, w3, bd3, fl3, ⟨fun z => (by cases z), fun _ => ⟨b1, b2⟩⟩, fun Q => ?_⟩
        obtain ⟨v5, e5, k5⟩ := step Q
        subst b1
        rw [k5, s181_3, e5]
        simp (disch := omega) only [s181_0, s181_1, s181_2, s181_4, s181_5, s181_6, s181_7, s181_8, s181_9, s181_10, s181_11, s181_12, s181_13, s181_14, s181_15, s181_16, s181_17, s181_18, s181_19, s181_20, s181_21, s181_22, s181_23, s181_24, s181_25, s181_26, s181_27, s181_28, s181_29, ↓reduceIte, Bool.true_eq_false, Bool.false_eq_true, ip_rfS, true_or, or_true, true_and, and_true, Option.toList_some, Option.toList_none, List.cons_append, List.nil_append, ip_fxn, ip_fxi, ip_fxr, ip_fxl, ip_wid, ip_n998, ip_lt900, iO0, iO1, iA2, iA3, iA4, iA5, iA6, iA7, iA8, iO9, iA10, iA11, iA12, iA13, iA14, iA15, iA16, iO17, iA18, iO19, iA20, iA21, iA22, iA23, iO24, iA25, iO26, iA27, iA28, iO29, iA30, iA31, iO32, iA33, iA34, iO35, iA36, iA37, iO38, iA39, iA40, iO41, iA42, iA43, iO44, iA45, iA46, iA47, iA48, iA49, iA50, iA51, iA52, iA53, iO54, iA55, iO56, iA57, iO58, iA59, iO60, iA61, iO62, iA63, iA64, iA65, iA66, iA67, iA68, iA69, iA70, iA71, iA72, iA73, iA74, iA75, iA76, iA77, iA78, iOT, iAT1, iAT2, iOS, iAS, q140b]
      · obtain ⟨b1, J3, vw, vv⟩ := r1 rfl
        subst b1
        have hev : v_jn (-27) v v3 = (if ¬ v = 0 ∨ ¬ ip_w v3 = 0 then 1 else 0) := by
          rw [vw]
          simp only [v_jn, Int.reduceEq, Int.reduceNeg, if_true, if_false]
        obtain ⟨⟨e1, e2⟩, v4, h4, t4, a4, w4, bd4, fl4, res, k4⟩ := y181l hM hC hs f jn h3 t3 a3 w3 fl3 (v_jn (-27) v v3) (O ++ (on ++ [-27])) (some (vi v3)) (by omega) i2 (by have := i3 rfl; omega) J3 v_jnw (y_val2 hO vv (by omega))
        rw [hev] at k4
        rw [List.append_assoc, List.append_assoc, List.singleton_append] at res
        refine ⟨⟨by omega, e2⟩, v4, h4, t4, a4, w4, bd4, fl4, res, fun Q => ?_⟩
        obtain ⟨v5, e5, k5⟩ := step Q
        rw [k5, e5, k4 Q]
    · have hL : x_loop T la (x_is 3) (fun _ => -27) f0 (f + 1) true j = (true, j, []) := by
        rw [x_loop, if_neg (by simp [x_is, x_pm, q0])]
      rw [hL]
      refine ⟨⟨Int.le_refl _, hj2⟩, v, h, t, a, w, 0, fl, ⟨fun _ => ⟨rfl, J, hv, by rw [List.append_nil]; exact hO⟩, fun z => (by cases z)⟩, fun Q => ?_⟩
      rw [s181_3]
      simp (disch := omega) only [s181_0, s181_1, s181_2, s181_4, s181_5, s181_6, s181_7, s181_8, s181_9, s181_10, s181_11, s181_12, s181_13, s181_14, s181_15, s181_16, s181_17, s181_18, s181_19, s181_20, s181_21, s181_22, s181_23, s181_24, s181_25, s181_26, s181_27, s181_28, s181_29, ↓reduceIte, Bool.true_eq_false, Bool.false_eq_true, ip_rfS, true_or, or_true, true_and, and_true, Option.toList_some, Option.toList_none, List.cons_append, List.nil_append, ip_fxn, ip_fxi, ip_fxr, ip_fxl, ip_wid, ip_n998, ip_lt900, iO0, iO1, iA2, iA3, iA4, iA5, iA6, iA7, iA8, iO9, iA10, iA11, iA12, iA13, iA14, iA15, iA16, iO17, iA18, iO19, iA20, iA21, iA22, iA23, iO24, iA25, iO26, iA27, iA28, iO29, iA30, iA31, iO32, iA33, iA34, iO35, iA36, iA37, iO38, iA39, iA40, iO41, iA42, iA43, iO44, iA45, iA46, iA47, iA48, iA49, iA50, iA51, iA52, iA53, iO54, iA55, iO56, iA57, iO58, iA59, iO60, iA61, iO62, iA63, iA64, iA65, iA66, iA67, iA68, iA69, iA70, iA71, iA72, iA73, iA74, iA75, iA76, iA77, iA78, iOT, iAT1, iAT2, iOS, iAS, g, q0, decide_false, show k_n false = 0 from rfl]
theorem y181 {f0 : Int → x_PR} (hM : x_RM R) (hC : y_C S b sz T P N la) (hs : y_ok S R L b sz T P N la (d + 3) 182 op f0) : y_ok S R L b sz T P N la (d + 4) 181 op (x_rep T la (x_is 3) (fun _ => -27) f0) := by
  intro j h t a w fl hj hj2 J
  obtain ⟨⟨i1, i2, i3⟩, v3, h3, t3, a3, w3, bd3, fl3, ⟨r1, r2⟩, k3⟩ := hs j h t a w fl hj hj2 J
  have hla := hC.2.1.2.1
  have hsz := hC.1.2.2.1
  unfold x_rep
  generalize f0 j = r at *
  obtain ⟨ft, jn, on⟩ := r
  dsimp only at *
  cases ft
  · obtain ⟨b1, b2⟩ := r2 rfl
    subst b1
    have hL0 : x_loop T la (x_is 3) (fun _ => -27) f0 160 false jn = (false, jn, []) := by simp [x_loop]
    rw [hL0]
    refine ⟨⟨i1, i2, fun z => (by cases z)⟩, v3, h3, t3, a3, w3, 1, fl3, ⟨fun z => (by cases z), fun _ => ⟨rfl, b2⟩⟩, fun Q => ?_⟩
    simp (disch := omega) only [c181, s181_0, s181_1, s181_2, s181_3, s181_4, s181_5, s181_6, s181_7, s181_8, s181_9, s181_10, s181_11, s181_12, s181_13, s181_14, s181_15, s181_16, s181_17, s181_18, s181_19, s181_20, s181_21, s181_22, s181_23, s181_24, s181_25, s181_26, s181_27, s181_28, s181_29, ↓reduceIte, Bool.true_eq_false, Bool.false_eq_true, ip_rfS, true_or, or_true, true_and, and_true, Option.toList_some, Option.toList_none, List.cons_append, List.nil_append, ip_fxn, ip_fxi, ip_fxr, ip_fxl, ip_wid, ip_n998, ip_lt900, iO0, iO1, iA2, iA3, iA4, iA5, iA6, iA7, iA8, iO9, iA10, iA11, iA12, iA13, iA14, iA15, iA16, iO17, iA18, iO19, iA20, iA21, iA22, iA23, iO24, iA25, iO26, iA27, iA28, iO29, iA30, iA31, iO32, iA33, iA34, iO35, iA36, iA37, iO38, iA39, iA40, iO41, iA42, iA43, iO44, iA45, iA46, iA47, iA48, iA49, iA50, iA51, iA52, iA53, iO54, iA55, iO56, iA57, iO58, iA59, iO60, iA61, iO62, iA63, iA64, iA65, iA66, iA67, iA68, iA69, iA70, iA71, iA72, iA73, iA74, iA75, iA76, iA77, iA78, iOT, iAT1, iAT2, iOS, iAS, k3, q140b]
  · obtain ⟨b1, J3, vw, vv⟩ := r1 rfl
    subst b1
    have h3j := i3 rfl
    obtain ⟨⟨e1, e2⟩, v4, h4, t4, a4, w4, bd4, fl4, res, k4⟩ := y181l (d := d) hM hC hs 160 jn h3 t3 a3 w3 fl3 v3 on none (by omega) i2 (by omega) J3 vw vv
    refine ⟨⟨by dsimp only; omega, e2, fun _ => by dsimp only; omega⟩, v4, h4, t4, a4, w4, bd4, fl4, res, fun Q => ?_⟩
    simp (disch := omega) only [c181, s181_0, s181_1, s181_2, ↓reduceIte, Bool.true_eq_false, Bool.false_eq_true, ip_rfS, true_or, or_true, true_and, and_true, Option.toList_some, Option.toList_none, List.cons_append, List.nil_append, ip_fxn, ip_fxi, ip_fxr, ip_fxl, ip_wid, ip_n998, ip_lt900, iO0, iO1, iA2, iA3, iA4, iA5, iA6, iA7, iA8, iO9, iA10, iA11, iA12, iA13, iA14, iA15, iA16, iO17, iA18, iO19, iA20, iA21, iA22, iA23, iO24, iA25, iO26, iA27, iA28, iO29, iA30, iA31, iO32, iA33, iA34, iO35, iA36, iA37, iO38, iA39, iA40, iO41, iA42, iA43, iO44, iA45, iA46, iA47, iA48, iA49, iA50, iA51, iA52, iA53, iO54, iA55, iO56, iA57, iO58, iA59, iO60, iA61, iO62, iA63, iA64, iA65, iA66, iA67, iA68, iA69, iA70, iA71, iA72, iA73, iA74, iA75, iA76, iA77, iA78, iOT, iAT1, iAT2, iOS, iAS, k3, k4]

end LV1
