/-! level 0 -/
section LV0
variable {d : Nat} {S : ip_S} {R : ip_R} {L : ip_S} {b : Int → Int} {sz : Int} {T P N : Int → Int} {la j h t a w op bd fl : Int}
theorem y180 {one ee : Int → x_PR} (ho : 0 ≤ op ∧ op < 5) (hM : x_RM R) (hC : y_C S b sz T P N la) (hs : y_ok S R L b sz T P N la (d + 5) 175 (op + 1) one) (he : y_ok S R L b sz T P N la (d + 5) 181 (op + 1) ee) : y_ok S R L b sz T P N la (d + 6) 180 op (x_one T N la (x_opn T la one ee)) := by
  intro j h t a w fl hj hj2 J
  have hla := hC.2.1.2.1
  have hsz := hC.1.2.2.1
  have hjr := J.2.1
  have htr := y_Jt J
  have g1 := fun Q' => q156 (d := d + 4) (S := S) (R := R) (L := L) (op := op) (fl := fl) (Q := Q') J (s := 45) (by omega)
  have g2 := fun Q' => q156 (d := d + 4) (S := S) (R := R) (L := L) (op := op) (fl := fl) (Q := Q') J (s := 40) (by omega)
  have kt : k_n true = 1 := rfl
  have kf : k_n false = 0 := rfl
  by_cases q1 : T j = 20
  · have hL : x_one T N la (x_opn T la one ee) j = (true, j + 1, [N j]) := by
      obtain ⟨n1, n2, -⟩ := q138 (d := d) (L := L) hM hC hj J (by omega) (by omega)
      rw [x_one, if_pos q1, n2]
    obtain ⟨n1, n2, h2, t2, a2, w2, J2, k2⟩ := q138 (d := d + 2) (L := L) hM hC hj J (by omega) (by omega)
    rw [hL]
    have e : t = 2 ∧ w = N j ∧ ip_w w = w ∧ 0 ≤ w := by
      obtain ⟨-, -, J⟩ := J
      rcases J with J | J | J | J | J
      all_goals first | omega | exact ⟨J.2.2.1, J.2.2.2.1, J.2.2.2.2.1, J.2.2.2.2.2.1⟩
    obtain ⟨et, e⟩ := e
    subst et
    have e64 : ip_w64 w = w := by
      have hz := ip_wrange w
      rw [e.2.1] at hz
      exact ip_w64id (by omega) (by omega)
    refine ⟨⟨by dsimp only; omega, by dsimp only; omega, fun _ => by dsimp only; omega⟩, w, h2, t2, a2, w2, 0, fl, ⟨fun _ => ⟨rfl, J2, e.2.1, ?_⟩, fun z => (by cases z)⟩, fun Q => ?_⟩
    · have := y_val0 (F := y_nam S) (c := w) (by omega)
      rw [if_pos e.2.2] at this
      rw [← e.1]
      exact this
    · simp (disch := omega) only [c180, s180_0, s180_1, s180_2, s180_3, s180_4, s180_5, s180_6, s180_7, s180_8, s180_9, s180_10, s180_11, s180_12, s180_13, s180_14, s180_15, s180_16, s180_17, s180_18, s180_19, s180_20, s180_21, s180_22, s180_23, s180_24, s180_25, s180_26, s180_27, s180_28, s180_29, s180_30, s180_31, s180_32, s180_33, s180_34, s180_35, s180_36, s180_37, s180_38, s180_39, s180_40, s180_41, s180_42, s180_43, s180_44, s180_45, s180_46, s180_47, s180_48, s180_49, s180_50, s180_51, s180_52, s180_53, s180_54, s180_55, s180_56, s180_57, s180_58, s180_59, s180_60, s180_61, s180_62, s180_63, s180_64, s180_65, s180_66, s180_67, s180_68, s180_69, s180_70, s180_71, s180_72, s180_73, s180_74, s180_75, s180_76, s180_77, s180_78, s180_79, s180_80, s180_81, ↓reduceIte, Bool.true_eq_false, Bool.false_eq_true, ip_rfS, true_or, or_true, true_and, and_true, Option.toList_some, Option.toList_none, List.cons_append, List.nil_append, ip_fxn, ip_fxi, ip_fxr, ip_fxl, ip_wid, ip_n998, ip_lt900, iO0, iO1, iA2, iA3, iA4, iA5, iA6, iA7, iA8, iO9, iA10, iA11, iA12, iA13, iA14, iA15, iA16, iO17, iA18, iO19, iA20, iA21, iA22, iA23, iO24, iA25, iO26, iA27, iA28, iO29, iA30, iA31, iO32, iA33, iA34, iO35, iA36, iA37, iO38, iA39, iA40, iO41, iA42, iA43, iO44, iA45, iA46, iA47, iA48, iA49, iA50, iA51, iA52, iA53, iO54, iA55, iO56, iA57, iO58, iA59, iO60, iA61, iO62, iA63, iA64, iA65, iA66, iA67, iA68, iA69, iA70, iA71, iA72, iA73, iA74, iA75, iA76, iA77, iA78, iOT, iAT1, iAT2, iOS, iAS, g1, g2, show ¬ T j = 45 by omega, show ¬ T j = 40 by omega, yp_d, yp_t, ip_up_at, e64, k2, Int.reduceEq, decide_true, decide_false, kt, kf]
  · by_cases q2 : 6 ≤ T j ∧ T j < 12
    · obtain ⟨n1, n2, h2, t2, a2, w2, J2, k2⟩ := q138 (d := d + 2) (L := L) hM hC hj J (by omega) (by omega)
      have hL : x_one T N la (x_opn T la one ee) j = (true, j + 1, [-1 - (T j - 6)]) := by rw [x_one, if_neg q1, if_pos q2, n2]
      rw [hL]
      have gn := fun Q' => q157 (d := d + 1) (op := op) (fl := fl) (L' := ip_up L 62 24 w) (Q := Q') hM hC hj J q2
      have e : t = 1 := by
        obtain ⟨-, -, J⟩ := J
        rcases J with J | J | J | J | J
        all_goals first | omega | exact J.2.2.1
      subst e
      refine ⟨⟨by dsimp only; omega, by dsimp only; omega, fun _ => by dsimp only; omega⟩, y_nam S (T j - 6), h2, t2, a2, w2, 0, fl, ⟨fun _ => ⟨rfl, J2, ip_ww _, ?_⟩, fun z => (by cases z)⟩, fun Q => ?_⟩
      · have := y_val0 (F := y_nam S) (c := -1 - (T j - 6)) (by omega)
        rw [if_neg (by omega), show -1 - (-1 - (T j - 6)) = T j - 6 by omega] at this
        exact this
      · simp (disch := omega) only [c180, s180_0, s180_1, s180_2, s180_3, s180_4, s180_5, s180_6, s180_7, s180_8, s180_9, s180_10, s180_11, s180_12, s180_13, s180_14, s180_15, s180_16, s180_17, s180_18, s180_19, s180_20, s180_21, s180_22, s180_23, s180_24, s180_25, s180_26, s180_27, s180_28, s180_29, s180_30, s180_31, s180_32, s180_33, s180_34, s180_35, s180_36, s180_37, s180_38, s180_39, s180_40, s180_41, s180_42, s180_43, s180_44, s180_45, s180_46, s180_47, s180_48, s180_49, s180_50, s180_51, s180_52, s180_53, s180_54, s180_55, s180_56, s180_57, s180_58, s180_59, s180_60, s180_61, s180_62, s180_63, s180_64, s180_65, s180_66, s180_67, s180_68, s180_69, s180_70, s180_71, s180_72, s180_73, s180_74, s180_75, s180_76, s180_77, s180_78, s180_79, s180_80, s180_81, ↓reduceIte, Bool.true_eq_false, Bool.false_eq_true, ip_rfS, true_or, or_true, true_and, and_true, Option.toList_some, Option.toList_none, List.cons_append, List.nil_append, ip_fxn, ip_fxi, ip_fxr, ip_fxl, ip_wid, ip_n998, ip_lt900, iO0, iO1, iA2, iA3, iA4, iA5, iA6, iA7, iA8, iO9, iA10, iA11, iA12, iA13, iA14, iA15, iA16, iO17, iA18, iO19, iA20, iA21, iA22, iA23, iO24, iA25, iO26, iA27, iA28, iO29, iA30, iA31, iO32, iA33, iA34, iO35, iA36, iA37, iO38, iA39, iA40, iO41, iA42, iA43, iO44, iA45, iA46, iA47, iA48, iA49, iA50, iA51, iA52, iA53, iO54, iA55, iO56, iA57, iO58, iA59, iO60, iA61, iO62, iA63, iA64, iA65, iA66, iA67, iA68, iA69, iA70, iA71, iA72, iA73, iA74, iA75, iA76, iA77, iA78, iOT, iAT1, iAT2, iOS, iAS, g1, g2, show ¬ T j = 45 by omega, show ¬ T j = 40 by omega, yp_d, yp_t, gn, k2, Int.reduceEq, decide_true, decide_false, kt, kf]
    · have hL : x_one T N la (x_opn T la one ee) j = x_opn T la one ee j := by rw [x_one, if_neg q1, if_neg q2]
      rw [hL]
      by_cases q3 : T j = 45
      · obtain ⟨n1, n2, h2, t2, a2, w2, J2, k2⟩ := q147 (d := d + 1) (L := L) (op := op) hM hC hj J (by omega) (by omega) ho
        obtain ⟨⟨i1, i2, i3⟩, v3, h3, t3, a3, w3, bd3, fl3, ⟨r1, r2⟩, k3⟩ := hs (j + 1) h2 t2 a2 w2 fl (by omega) (by omega) J2
        have hL2 : x_opn T la one ee j = ((one (j + 1)).1, (one (j + 1)).2.1, (one (j + 1)).2.2 ++ [-11]) := by rw [x_opn, if_pos q3, n2]
        rw [hL2]
        generalize one (j + 1) = r at *
        obtain ⟨ft, jn, on⟩ := r
        dsimp only at *
        have hev : vi (v_tn (-11) v3) = vi (-v3) := by
          rw [show v_tn (-11) v3 = ip_w (-v3) by simp only [v_tn, if_true], ip_viw]
        refine ⟨⟨by dsimp only; omega, i2, fun z => by have := i3 z; dsimp only; omega⟩, v_tn (-11) v3, h3, t3, a3, w3, bd3, fl3, ⟨fun z => ?_, fun z => r2 z⟩, fun Q => ?_⟩
        · obtain ⟨b1, J3, vw, vv⟩ := r1 z
          exact ⟨b1, J3, v_tnw, y_val1 vv (by omega) (by omega)⟩
        · rw [hev]
          simp (disch := omega) only [c180, s180_0, s180_1, s180_2, s180_3, s180_4, s180_5, s180_6, s180_7, s180_8, s180_9, s180_10, s180_11, s180_12, s180_13, s180_14, s180_15, s180_16, s180_17, s180_18, s180_19, s180_20, s180_21, s180_22, s180_23, s180_24, s180_25, s180_26, s180_27, s180_28, s180_29, s180_30, s180_31, s180_32, s180_33, s180_34, s180_35, s180_36, s180_37, s180_38, s180_39, s180_40, s180_41, s180_42, s180_43, s180_44, s180_45, s180_46, s180_47, s180_48, s180_49, s180_50, s180_51, s180_52, s180_53, s180_54, s180_55, s180_56, s180_57, s180_58, s180_59, s180_60, s180_61, s180_62, s180_63, s180_64, s180_65, s180_66, s180_67, s180_68, s180_69, s180_70, s180_71, s180_72, s180_73, s180_74, s180_75, s180_76, s180_77, s180_78, s180_79, s180_80, s180_81, ↓reduceIte, Bool.true_eq_false, Bool.false_eq_true, ip_rfS, true_or, or_true, true_and, and_true, Option.toList_some, Option.toList_none, List.cons_append, List.nil_append, ip_fxn, ip_fxi, ip_fxr, ip_fxl, ip_wid, ip_n998, ip_lt900, iO0, iO1, iA2, iA3, iA4, iA5, iA6, iA7, iA8, iO9, iA10, iA11, iA12, iA13, iA14, iA15, iA16, iO17, iA18, iO19, iA20, iA21, iA22, iA23, iO24, iA25, iO26, iA27, iA28, iO29, iA30, iA31, iO32, iA33, iA34, iO35, iA36, iA37, iO38, iA39, iA40, iO41, iA42, iA43, iO44, iA45, iA46, iA47, iA48, iA49, iA50, iA51, iA52, iA53, iO54, iA55, iO56, iA57, iO58, iA59, iO60, iA61, iO62, iA63, iA64, iA65, iA66, iA67, iA68, iA69, iA70, iA71, iA72, iA73, iA74, iA75, iA76, iA77, iA78, iOT, iAT1, iAT2, iOS, iAS, g1, q3, k2, k3, yp_o, yp_uo, Int.add_sub_cancel, Int.reduceEq, decide_true, decide_false, kt, kf]
      · by_cases q4 : T j = 40
        · obtain ⟨n1, n2, h2, t2, a2, w2, J2, k2⟩ := q147 (d := d + 1) (L := L) (op := op) hM hC hj J (by omega) (by omega) ho
          obtain ⟨⟨i1, i2, i3⟩, v3, h3, t3, a3, w3, bd3, fl3, ⟨r1, r2⟩, k3⟩ := he (j + 1) h2 t2 a2 w2 fl (by omega) (by omega) J2
          have hL2 : x_opn T la one ee j = (if ((ee (j + 1)).1 && decide (T (ee (j + 1)).2.1 = 41)) = true then (true, x_adv la (ee (j + 1)).2.1, (ee (j + 1)).2.2) else (false, (ee (j + 1)).2.1, (ee (j + 1)).2.2)) := by rw [x_opn, if_neg q3, if_pos q4, n2]
          rw [hL2]
          generalize ee (j + 1) = r at *
          obtain ⟨ft, jn, on⟩ := r
          dsimp only at *
          cases ft
          · obtain ⟨b1, b2⟩ := r2 rfl
            subst b1
            rw [if_neg (by simp)]
            refine ⟨⟨by dsimp only; omega, i2, fun z => (by cases z)⟩, v3, h3, t3, a3, w3, 1, fl3, ⟨fun z => (by cases z), fun _ => ⟨rfl, b2⟩⟩, fun Q => ?_⟩
            simp (disch := omega) only [c180, s180_0, s180_1, s180_2, s180_3, s180_4, s180_5, s180_6, s180_7, s180_8, s180_9, s180_10, s180_11, s180_12, s180_13, s180_14, s180_15, s180_16, s180_17, s180_18, s180_19, s180_20, s180_21, s180_22, s180_23, s180_24, s180_25, s180_26, s180_27, s180_28, s180_29, s180_30, s180_31, s180_32, s180_33, s180_34, s180_35, s180_36, s180_37, s180_38, s180_39, s180_40, s180_41, s180_42, s180_43, s180_44, s180_45, s180_46, s180_47, s180_48, s180_49, s180_50, s180_51, s180_52, s180_53, s180_54, s180_55, s180_56, s180_57, s180_58, s180_59, s180_60, s180_61, s180_62, s180_63, s180_64, s180_65, s180_66, s180_67, s180_68, s180_69, s180_70, s180_71, s180_72, s180_73, s180_74, s180_75, s180_76, s180_77, s180_78, s180_79, s180_80, s180_81, ↓reduceIte, Bool.true_eq_false, Bool.false_eq_true, ip_rfS, true_or, or_true, true_and, and_true, Option.toList_some, Option.toList_none, List.cons_append, List.nil_append, ip_fxn, ip_fxi, ip_fxr, ip_fxl, ip_wid, ip_n998, ip_lt900, iO0, iO1, iA2, iA3, iA4, iA5, iA6, iA7, iA8, iO9, iA10, iA11, iA12, iA13, iA14, iA15, iA16, iO17, iA18, iO19, iA20, iA21, iA22, iA23, iO24, iA25, iO26, iA27, iA28, iO29, iA30, iA31, iO32, iA33, iA34, iO35, iA36, iA37, iO38, iA39, iA40, iO41, iA42, iA43, iO44, iA45, iA46, iA47, iA48, iA49, iA50, iA51, iA52, iA53, iO54, iA55, iO56, iA57, iO58, iA59, iO60, iA61, iO62, iA63, iA64, iA65, iA66, iA67, iA68, iA69, iA70, iA71, iA72, iA73, iA74, iA75, iA76, iA77, iA78, iOT, iAT1, iAT2, iOS, iAS, g1, g2, q3, q4, k2, k3, q156b, q143b, yp_o, yp_uo, yp_d, Int.add_sub_cancel, Int.reduceEq, decide_true, decide_false, kt, kf]
          · obtain ⟨b1, J3, vw, vv⟩ := r1 rfl
            subst b1
            have h3j := i3 rfl
            have e1 := fun Q' => q156 (d := d + 4) (S := S) (R := R) (L := L) (op := op + 1) (fl := fl3) (Q := Q') J3 (s := 41) (by omega)
            have h3r := J3.2.1
            by_cases c1 : T jn = 41
            · obtain ⟨m1, m2, h4, t4, a4, w4, J4, k4⟩ := q138 (d := d + 2) (L := L) hM hC (by omega) J3 (by omega) (by omega)
              rw [if_pos (by simp [c1]), m2]
              refine ⟨⟨by dsimp only; omega, by dsimp only; omega, fun _ => by dsimp only; omega⟩, v3, h4, t4, a4, w4, 0, fl3, ⟨fun _ => ⟨rfl, J4, vw, vv⟩, fun z => (by cases z)⟩, fun Q => ?_⟩
              simp (disch := omega) only [c180, s180_0, s180_1, s180_2, s180_3, s180_4, s180_5, s180_6, s180_7, s180_8, s180_9, s180_10, s180_11, s180_12, s180_13, s180_14, s180_15, s180_16, s180_17, s180_18, s180_19, s180_20, s180_21, s180_22, s180_23, s180_24, s180_25, s180_26, s180_27, s180_28, s180_29, s180_30, s180_31, s180_32, s180_33, s180_34, s180_35, s180_36, s180_37, s180_38, s180_39, s180_40, s180_41, s180_42, s180_43, s180_44, s180_45, s180_46, s180_47, s180_48, s180_49, s180_50, s180_51, s180_52, s180_53, s180_54, s180_55, s180_56, s180_57, s180_58, s180_59, s180_60, s180_61, s180_62, s180_63, s180_64, s180_65, s180_66, s180_67, s180_68, s180_69, s180_70, s180_71, s180_72, s180_73, s180_74, s180_75, s180_76, s180_77, s180_78, s180_79, s180_80, s180_81, ↓reduceIte, Bool.true_eq_false, Bool.false_eq_true, ip_rfS, true_or, or_true, true_and, and_true, Option.toList_some, Option.toList_none, List.cons_append, List.nil_append, ip_fxn, ip_fxi, ip_fxr, ip_fxl, ip_wid, ip_n998, ip_lt900, iO0, iO1, iA2, iA3, iA4, iA5, iA6, iA7, iA8, iO9, iA10, iA11, iA12, iA13, iA14, iA15, iA16, iO17, iA18, iO19, iA20, iA21, iA22, iA23, iO24, iA25, iO26, iA27, iA28, iO29, iA30, iA31, iO32, iA33, iA34, iO35, iA36, iA37, iO38, iA39, iA40, iO41, iA42, iA43, iO44, iA45, iA46, iA47, iA48, iA49, iA50, iA51, iA52, iA53, iO54, iA55, iO56, iA57, iO58, iA59, iO60, iA61, iO62, iA63, iA64, iA65, iA66, iA67, iA68, iA69, iA70, iA71, iA72, iA73, iA74, iA75, iA76, iA77, iA78, iOT, iAT1, iAT2, iOS, iAS, g1, g2, q3, q4, k2, k3, e1, c1, yp_o, yp_uo, yp_d, Int.add_sub_cancel, k4, Int.reduceEq, decide_true, decide_false, kt, kf]
            · have gb := fun Q' => q143 (d := d + 4) (S := S) (R := R) (h := h3) (t := t3) (a := a3) (op := op + 1) (fl := fl3) (L' := ip_up L 62 24 w3) (Q := Q') (by omega)
              rw [if_neg (by simp [c1])]
              refine ⟨⟨by dsimp only; omega, i2, fun z => (by cases z)⟩, v3, h3, t3, a3, w3, 1, a3, ⟨fun z => (by cases z), fun _ => ⟨rfl, y_Ja J3⟩⟩, fun Q => ?_⟩
              simp (disch := omega) only [c180, s180_0, s180_1, s180_2, s180_3, s180_4, s180_5, s180_6, s180_7, s180_8, s180_9, s180_10, s180_11, s180_12, s180_13, s180_14, s180_15, s180_16, s180_17, s180_18, s180_19, s180_20, s180_21, s180_22, s180_23, s180_24, s180_25, s180_26, s180_27, s180_28, s180_29, s180_30, s180_31, s180_32, s180_33, s180_34, s180_35, s180_36, s180_37, s180_38, s180_39, s180_40, s180_41, s180_42, s180_43, s180_44, s180_45, s180_46, s180_47, s180_48, s180_49, s180_50, s180_51, s180_52, s180_53, s180_54, s180_55, s180_56, s180_57, s180_58, s180_59, s180_60, s180_61, s180_62, s180_63, s180_64, s180_65, s180_66, s180_67, s180_68, s180_69, s180_70, s180_71, s180_72, s180_73, s180_74, s180_75, s180_76, s180_77, s180_78, s180_79, s180_80, s180_81, ↓reduceIte, Bool.true_eq_false, Bool.false_eq_true, ip_rfS, true_or, or_true, true_and, and_true, Option.toList_some, Option.toList_none, List.cons_append, List.nil_append, ip_fxn, ip_fxi, ip_fxr, ip_fxl, ip_wid, ip_n998, ip_lt900, iO0, iO1, iA2, iA3, iA4, iA5, iA6, iA7, iA8, iO9, iA10, iA11, iA12, iA13, iA14, iA15, iA16, iO17, iA18, iO19, iA20, iA21, iA22, iA23, iO24, iA25, iO26, iA27, iA28, iO29, iA30, iA31, iO32, iA33, iA34, iO35, iA36, iA37, iO38, iA39, iA40, iO41, iA42, iA43, iO44, iA45, iA46, iA47, iA48, iA49, iA50, iA51, iA52, iA53, iO54, iA55, iO56, iA57, iO58, iA59, iO60, iA61, iO62, iA63, iA64, iA65, iA66, iA67, iA68, iA69, iA70, iA71, iA72, iA73, iA74, iA75, iA76, iA77, iA78, iOT, iAT1, iAT2, iOS, iAS, g1, g2, q3, q4, k2, k3, e1, c1, gb, yp_o, yp_uo, yp_d, Int.add_sub_cancel, Int.reduceEq, decide_true, decide_false, kt, kf]
        · have hL2 : x_opn T la one ee j = (false, j, []) := by rw [x_opn, if_neg q3, if_neg q4]
          rw [hL2]
          have gn := fun Q' => q157f (d := d + 1) (op := op) (fl := fl) (L' := ip_up L 62 24 w) (Q := Q') hM hC hj J q2
          have gb := fun Q' => q143 (d := d + 4) (S := S) (R := R) (h := h) (t := t) (a := a) (op := op) (fl := fl) (L' := ip_up L 62 24 w) (Q := Q') (by omega)
          refine ⟨⟨Int.le_refl _, hj2, fun z => (by cases z)⟩, 0, h, t, a, w, 1, a, ⟨fun z => (by cases z), fun _ => ⟨rfl, y_Ja J⟩⟩, fun Q => ?_⟩
          have e2 : ¬ t = 2 := by
            obtain ⟨-, -, J⟩ := J
            rcases J with J | J | J | J | J <;> omega
          by_cases e1 : t = 1
          · subst e1
            simp (disch := omega) only [c180, s180_0, s180_1, s180_2, s180_3, s180_4, s180_5, s180_6, s180_7, s180_8, s180_9, s180_10, s180_11, s180_12, s180_13, s180_14, s180_15, s180_16, s180_17, s180_18, s180_19, s180_20, s180_21, s180_22, s180_23, s180_24, s180_25, s180_26, s180_27, s180_28, s180_29, s180_30, s180_31, s180_32, s180_33, s180_34, s180_35, s180_36, s180_37, s180_38, s180_39, s180_40, s180_41, s180_42, s180_43, s180_44, s180_45, s180_46, s180_47, s180_48, s180_49, s180_50, s180_51, s180_52, s180_53, s180_54, s180_55, s180_56, s180_57, s180_58, s180_59, s180_60, s180_61, s180_62, s180_63, s180_64, s180_65, s180_66, s180_67, s180_68, s180_69, s180_70, s180_71, s180_72, s180_73, s180_74, s180_75, s180_76, s180_77, s180_78, s180_79, s180_80, s180_81, ↓reduceIte, Bool.true_eq_false, Bool.false_eq_true, ip_rfS, true_or, or_true, true_and, and_true, Option.toList_some, Option.toList_none, List.cons_append, List.nil_append, ip_fxn, ip_fxi, ip_fxr, ip_fxl, ip_wid, ip_n998, ip_lt900, iO0, iO1, iA2, iA3, iA4, iA5, iA6, iA7, iA8, iO9, iA10, iA11, iA12, iA13, iA14, iA15, iA16, iO17, iA18, iO19, iA20, iA21, iA22, iA23, iO24, iA25, iO26, iA27, iA28, iO29, iA30, iA31, iO32, iA33, iA34, iO35, iA36, iA37, iO38, iA39, iA40, iO41, iA42, iA43, iO44, iA45, iA46, iA47, iA48, iA49, iA50, iA51, iA52, iA53, iO54, iA55, iO56, iA57, iO58, iA59, iO60, iA61, iO62, iA63, iA64, iA65, iA66, iA67, iA68, iA69, iA70, iA71, iA72, iA73, iA74, iA75, iA76, iA77, iA78, iOT, iAT1, iAT2, iOS, iAS, g1, g2, q3, q4, yp_d, yp_t, gn, Int.reduceEq, decide_true, decide_false, kt, kf]
          · simp (disch := omega) only [c180, s180_0, s180_1, s180_2, s180_3, s180_4, s180_5, s180_6, s180_7, s180_8, s180_9, s180_10, s180_11, s180_12, s180_13, s180_14, s180_15, s180_16, s180_17, s180_18, s180_19, s180_20, s180_21, s180_22, s180_23, s180_24, s180_25, s180_26, s180_27, s180_28, s180_29, s180_30, s180_31, s180_32, s180_33, s180_34, s180_35, s180_36, s180_37, s180_38, s180_39, s180_40, s180_41, s180_42, s180_43, s180_44, s180_45, s180_46, s180_47, s180_48, s180_49, s180_50, s180_51, s180_52, s180_53, s180_54, s180_55, s180_56, s180_57, s180_58, s180_59, s180_60, s180_61, s180_62, s180_63, s180_64, s180_65, s180_66, s180_67, s180_68, s180_69, s180_70, s180_71, s180_72, s180_73, s180_74, s180_75, s180_76, s180_77, s180_78, s180_79, s180_80, s180_81, ↓reduceIte, Bool.true_eq_false, Bool.false_eq_true, ip_rfS, true_or, or_true, true_and, and_true, Option.toList_some, Option.toList_none, List.cons_append, List.nil_append, ip_fxn, ip_fxi, ip_fxr, ip_fxl, ip_wid, ip_n998, ip_lt900, iO0, iO1, iA2, iA3, iA4, iA5, iA6, iA7, iA8, iO9, iA10, iA11, iA12, iA13, iA14, iA15, iA16, iO17, iA18, iO19, iA20, iA21, iA22, iA23, iO24, iA25, iO26, iA27, iA28, iO29, iA30, iA31, iO32, iA33, iA34, iO35, iA36, iA37, iO38, iA39, iA40, iO41, iA42, iA43, iO44, iA45, iA46, iA47, iA48, iA49, iA50, iA51, iA52, iA53, iO54, iA55, iO56, iA57, iO58, iA59, iO60, iA61, iO62, iA63, iA64, iA65, iA66, iA67, iA68, iA69, iA70, iA71, iA72, iA73, iA74, iA75, iA76, iA77, iA78, iOT, iAT1, iAT2, iOS, iAS, g1, g2, q3, q4, yp_d, yp_t, e1, e2, gb, Int.reduceEq, decide_true, decide_false, kt, kf]

theorem y179l {f0 : Int → x_PR} (hM : x_RM R) (hC : y_C S b sz T P N la) (hs : y_ok S R L b sz T P N la (d + 3) 180 op f0) : ∀ (f : Nat) (j h t a w fl v : Int) (O : List Int), 0 ≤ j → j ≤ la → la + 1 ≤ j + f → y_J b sz T P N la j h t a w → ip_w v = v → y_val (y_nam S) O v →
    (j ≤ (x_loop T la (x_is 42) (fun _ => -23) f0 f true j).2.1 ∧ (x_loop T la (x_is 42) (fun _ => -23) f0 f true j).2.1 ≤ la) ∧ ∃ v' h' t' a' w' bd' fl', y_res S b sz T P N la ((x_loop T la (x_is 42) (fun _ => -23) f0 f true j).1, (x_loop T la (x_is 42) (fun _ => -23) f0 f true j).2.1, O ++ (x_loop T la (x_is 42) (fun _ => -23) f0 f true j).2.2) v' h' t' a' w' bd' fl' ∧
      ∀ Q, ip_wp (d + 3) 179 3 [some (.ref 62), some (vi v)] [] 79 (y_P S h t a op 0 fl) R (ip_up L 62 24 w) Q = Q (some (vi v')) 79 (y_P S h' t' a' op bd' fl') R (ip_up L 62 24 w')
  | 0, j, h, t, a, w, fl, v, O, hj, hj2, hf, J, hv, hO => by omega
  | f + 1, j, h, t, a, w, fl, v, O, hj, hj2, hf, J, hv, hO => by
    have g := fun Q' => q156 (d := d + 2) (S := S) (R := R) (L := L) (op := op) (fl := fl) (Q := Q') J (s := 42) (by omega)
    by_cases q0 : T j = 42
    · obtain ⟨n1, n2, h2, t2, a2, w2, J2, k2⟩ := q138 (d := d) (L := L) hM hC hj J (by omega) (by omega)
      obtain ⟨⟨i1, i2, i3⟩, v3, h3, t3, a3, w3, bd3, fl3, ⟨r1, r2⟩, k3⟩ := hs (j + 1) h2 t2 a2 w2 fl (by omega) (by omega) J2
      have hL : x_loop T la (x_is 42) (fun _ => -23) f0 (f + 1) true j = ((x_loop T la (x_is 42) (fun _ => -23) f0 f (f0 (j + 1)).1 (f0 (j + 1)).2.1).1, (x_loop T la (x_is 42) (fun _ => -23) f0 f (f0 (j + 1)).1 (f0 (j + 1)).2.1).2.1, (f0 (j + 1)).2.2 ++ -23 :: (x_loop T la (x_is 42) (fun _ => -23) f0 f (f0 (j + 1)).1 (f0 (j + 1)).2.1).2.2) := by
        rw [x_loop, if_pos (by simp [x_is, x_pm, q0]), n2]
        try simp only [x_pmc, q0, Int.reduceEq, if_true, if_false]
      rw [hL]
      generalize f0 (j + 1) = r at *
      obtain ⟨ft, jn, on⟩ := r
      dsimp only at *
      have step : ∀ Q, ip_wp (d + 3) 179 3 [some (.ref 62), some (vi v)] [] 79 (y_P S h t a op 0 fl) R (ip_up L 62 24 w) Q = ip_wp (d + 3) 179 3 [some (.ref 62), some (vi (v * v3))] [] 79 (y_P S h3 t3 a3 op bd3 fl3) R (ip_up L 62 24 w3) Q := fun Q => by
        rw [s179_3]
        simp (disch := omega) only [s179_0, s179_1, s179_2, s179_4, s179_5, s179_6, s179_7, s179_8, s179_9, s179_10, s179_11, s179_12, s179_13, s179_14, s179_15, s179_16, ↓reduceIte, Bool.true_eq_false, Bool.false_eq_true, ip_rfS, true_or, or_true, true_and, and_true, Option.toList_some, Option.toList_none, List.cons_append, List.nil_append, ip_fxn, ip_fxi, ip_fxr, ip_fxl, ip_wid, ip_n998, ip_lt900, iO0, iO1, iA2, iA3, iA4, iA5, iA6, iA7, iA8, iO9, iA10, iA11, iA12, iA13, iA14, iA15, iA16, iO17, iA18, iO19, iA20, iA21, iA22, iA23, iO24, iA25, iO26, iA27, iA28, iO29, iA30, iA31, iO32, iA33, iA34, iO35, iA36, iA37, iO38, iA39, iA40, iO41, iA42, iA43, iO44, iA45, iA46, iA47, iA48, iA49, iA50, iA51, iA52, iA53, iO54, iA55, iO56, iA57, iO58, iA59, iO60, iA61, iO62, iA63, iA64, iA65, iA66, iA67, iA68, iA69, iA70, iA71, iA72, iA73, iA74, iA75, iA76, iA77, iA78, iOT, iAT1, iAT2, iOS, iAS, g, q0, Int.reduceEq, decide_true, decide_false, show k_n true = 1 from rfl, show k_n false = 0 from rfl, k2, k3]
      cases ft
      · obtain ⟨b1, b2⟩ := r2 rfl
        have hL0 : x_loop T la (x_is 42) (fun _ => -23) f0 f false jn = (false, jn, []) := by cases f <;> simp [x_loop]
        rw [hL0]
        refine ⟨⟨by dsimp only; omega, i2⟩, v * v3, h3, t3, a3, w3, bd3, fl3, ⟨fun z => (by cases z), fun _ => ⟨b1, b2⟩⟩, fun Q => ?_⟩
        subst b1
        rw [step Q, s179_3]
        simp (disch := omega) only [s179_0, s179_1, s179_2, s179_4, s179_5, s179_6, s179_7, s179_8, s179_9, s179_10, s179_11, s179_12, s179_13, s179_14, s179_15, s179_16, ↓reduceIte, Bool.true_eq_false, Bool.false_eq_true, ip_rfS, true_or, or_true, true_and, and_true, Option.toList_some, Option.toList_none, List.cons_append, List.nil_append, ip_fxn, ip_fxi, ip_fxr, ip_fxl, ip_wid, ip_n998, ip_lt900, iO0, iO1, iA2, iA3, iA4, iA5, iA6, iA7, iA8, iO9, iA10, iA11, iA12, iA13, iA14, iA15, iA16, iO17, iA18, iO19, iA20, iA21, iA22, iA23, iO24, iA25, iO26, iA27, iA28, iO29, iA30, iA31, iO32, iA33, iA34, iO35, iA36, iA37, iO38, iA39, iA40, iO41, iA42, iA43, iO44, iA45, iA46, iA47, iA48, iA49, iA50, iA51, iA52, iA53, iO54, iA55, iO56, iA57, iO58, iA59, iO60, iA61, iO62, iA63, iA64, iA65, iA66, iA67, iA68, iA69, iA70, iA71, iA72, iA73, iA74, iA75, iA76, iA77, iA78, iOT, iAT1, iAT2, iOS, iAS, q156b]
      · obtain ⟨b1, J3, vw, vv⟩ := r1 rfl
        subst b1
        have hev : vi (v_jn (-23) v v3) = vi (v * v3) := by
          rw [show v_jn (-23) v v3 = ip_w (v * v3) by simp only [v_jn, Int.reduceEq, Int.reduceNeg, if_true, if_false], ip_viw]
        obtain ⟨⟨e1, e2⟩, v4, h4, t4, a4, w4, bd4, fl4, res, k4⟩ := y179l hM hC hs f jn h3 t3 a3 w3 fl3 (v_jn (-23) v v3) (O ++ (on ++ [-23])) (by omega) i2 (by have := i3 rfl; omega) J3 v_jnw (y_val2 hO vv (by omega))
        rw [hev] at k4
        rw [List.append_assoc, List.append_assoc, List.singleton_append] at res
        exact ⟨⟨by omega, e2⟩, v4, h4, t4, a4, w4, bd4, fl4, res, fun Q => by rw [step Q, k4 Q]⟩
    · have hL : x_loop T la (x_is 42) (fun _ => -23) f0 (f + 1) true j = (true, j, []) := by
        rw [x_loop, if_neg (by simp [x_is, x_pm, q0])]
      rw [hL]
      refine ⟨⟨Int.le_refl _, hj2⟩, v, h, t, a, w, 0, fl, ⟨fun _ => ⟨rfl, J, hv, by rw [List.append_nil]; exact hO⟩, fun z => (by cases z)⟩, fun Q => ?_⟩
      rw [s179_3]
      simp (disch := omega) only [s179_0, s179_1, s179_2, s179_4, s179_5, s179_6, s179_7, s179_8, s179_9, s179_10, s179_11, s179_12, s179_13, s179_14, s179_15, s179_16, ↓reduceIte, Bool.true_eq_false, Bool.false_eq_true, ip_rfS, true_or, or_true, true_and, and_true, Option.toList_some, Option.toList_none, List.cons_append, List.nil_append, ip_fxn, ip_fxi, ip_fxr, ip_fxl, ip_wid, ip_n998, ip_lt900, iO0, iO1, iA2, iA3, iA4, iA5, iA6, iA7, iA8, iO9, iA10, iA11, iA12, iA13, iA14, iA15, iA16, iO17, iA18, iO19, iA20, iA21, iA22, iA23, iO24, iA25, iO26, iA27, iA28, iO29, iA30, iA31, iO32, iA33, iA34, iO35, iA36, iA37, iO38, iA39, iA40, iO41, iA42, iA43, iO44, iA45, iA46, iA47, iA48, iA49, iA50, iA51, iA52, iA53, iO54, iA55, iO56, iA57, iO58, iA59, iO60, iA61, iO62, iA63, iA64, iA65, iA66, iA67, iA68, iA69, iA70, iA71, iA72, iA73, iA74, iA75, iA76, iA77, iA78, iOT, iAT1, iAT2, iOS, iAS, g, q0, decide_false, show k_n false = 0 from rfl]
theorem y179 {f0 : Int → x_PR} (hM : x_RM R) (hC : y_C S b sz T P N la) (hs : y_ok S R L b sz T P N la (d + 3) 180 op f0) : y_ok S R L b sz T P N la (d + 4) 179 op (x_rep T la (x_is 42) (fun _ => -23) f0) := by
  intro j h t a w fl hj hj2 J
  obtain ⟨⟨i1, i2, i3⟩, v3, h3, t3, a3, w3, bd3, fl3, ⟨r1, r2⟩, k3⟩ := hs j h t a w fl hj hj2 J
  have hla := hC.2.1.2.1
  have hsz := hC.1.2.2.1
  unfold x_rep
  generalize f0 j = r at *
  obtain ⟨ft, jn, on⟩ := r
  dsimp only at *
  cases ft
  · obtain ⟨b1, b2⟩ := r2 rfl
    subst b1
    have hL0 : x_loop T la (x_is 42) (fun _ => -23) f0 160 false jn = (false, jn, []) := by simp [x_loop]
    rw [hL0]
    refine ⟨⟨i1, i2, fun z => (by cases z)⟩, v3, h3, t3, a3, w3, 1, fl3, ⟨fun z => (by cases z), fun _ => ⟨rfl, b2⟩⟩, fun Q => ?_⟩
    simp (disch := omega) only [c179, s179_0, s179_1, s179_2, s179_3, s179_4, s179_5, s179_6, s179_7, s179_8, s179_9, s179_10, s179_11, s179_12, s179_13, s179_14, s179_15, s179_16, ↓reduceIte, Bool.true_eq_false, Bool.false_eq_true, ip_rfS, true_or, or_true, true_and, and_true, Option.toList_some, Option.toList_none, List.cons_append, List.nil_append, ip_fxn, ip_fxi, ip_fxr, ip_fxl, ip_wid, ip_n998, ip_lt900, iO0, iO1, iA2, iA3, iA4, iA5, iA6, iA7, iA8, iO9, iA10, iA11, iA12, iA13, iA14, iA15, iA16, iO17, iA18, iO19, iA20, iA21, iA22, iA23, iO24, iA25, iO26, iA27, iA28, iO29, iA30, iA31, iO32, iA33, iA34, iO35, iA36, iA37, iO38, iA39, iA40, iO41, iA42, iA43, iO44, iA45, iA46, iA47, iA48, iA49, iA50, iA51, iA52, iA53, iO54, iA55, iO56, iA57, iO58, iA59, iO60, iA61, iO62, iA63, iA64, iA65, iA66, iA67, iA68, iA69, iA70, iA71, iA72, iA73, iA74, iA75, iA76, iA77, iA78, iOT, iAT1, iAT2, iOS, iAS, k3, q156b]
  · obtain ⟨b1, J3, vw, vv⟩ := r1 rfl
    subst b1
    have h3j := i3 rfl
    obtain ⟨⟨e1, e2⟩, v4, h4, t4, a4, w4, bd4, fl4, res, k4⟩ := y179l (d := d) hM hC hs 160 jn h3 t3 a3 w3 fl3 v3 on (by omega) i2 (by omega) J3 vw vv
    refine ⟨⟨by dsimp only; omega, e2, fun _ => by dsimp only; omega⟩, v4, h4, t4, a4, w4, bd4, fl4, res, fun Q => ?_⟩
    simp (disch := omega) only [c179, s179_0, s179_1, s179_2, ↓reduceIte, Bool.true_eq_false, Bool.false_eq_true, ip_rfS, true_or, or_true, true_and, and_true, Option.toList_some, Option.toList_none, List.cons_append, List.nil_append, ip_fxn, ip_fxi, ip_fxr, ip_fxl, ip_wid, ip_n998, ip_lt900, iO0, iO1, iA2, iA3, iA4, iA5, iA6, iA7, iA8, iO9, iA10, iA11, iA12, iA13, iA14, iA15, iA16, iO17, iA18, iO19, iA20, iA21, iA22, iA23, iO24, iA25, iO26, iA27, iA28, iO29, iA30, iA31, iO32, iA33, iA34, iO35, iA36, iA37, iO38, iA39, iA40, iO41, iA42, iA43, iO44, iA45, iA46, iA47, iA48, iA49, iA50, iA51, iA52, iA53, iO54, iA55, iO56, iA57, iO58, iA59, iO60, iA61, iO62, iA63, iA64, iA65, iA66, iA67, iA68, iA69, iA70, iA71, iA72, iA73, iA74, iA75, iA76, iA77, iA78, iOT, iAT1, iAT2, iOS, iAS, k3, k4]

theorem y178l {f0 : Int → x_PR} (hM : x_RM R) (hC : y_C S b sz T P N la) (hs : y_ok S R L b sz T P N la (d + 3) 179 op f0) : ∀ (f : Nat) (j h t a w fl v : Int) (O : List Int) (l2 l3 : Option Value), 0 ≤ j → j ≤ la → la + 1 ≤ j + f → y_J b sz T P N la j h t a w → ip_w v = v → y_val (y_nam S) O v →
    (j ≤ (x_loop T la x_pm x_pmc f0 f true j).2.1 ∧ (x_loop T la x_pm x_pmc f0 f true j).2.1 ≤ la) ∧ ∃ v' h' t' a' w' bd' fl', y_res S b sz T P N la ((x_loop T la x_pm x_pmc f0 f true j).1, (x_loop T la x_pm x_pmc f0 f true j).2.1, O ++ (x_loop T la x_pm x_pmc f0 f true j).2.2) v' h' t' a' w' bd' fl' ∧
      ∀ Q, ip_wp (d + 3) 178 3 [some (.ref 62), some (vi v), l2, l3] [] 79 (y_P S h t a op 0 fl) R (ip_up L 62 24 w) Q = Q (some (vi v')) 79 (y_P S h' t' a' op bd' fl') R (ip_up L 62 24 w')
  | 0, j, h, t, a, w, fl, v, O, l2, l3, hj, hj2, hf, J, hv, hO => by omega
  | f + 1, j, h, t, a, w, fl, v, O, l2, l3, hj, hj2, hf, J, hv, hO => by
    have g := fun Q' => q156 (d := d + 2) (S := S) (R := R) (L := L) (op := op) (fl := fl) (Q := Q') J (s := 43) (by omega)
    have g2 := fun Q' => q156 (d := d + 2) (S := S) (R := R) (L := L) (op := op) (fl := fl) (Q := Q') J (s := 45) (by omega)
    by_cases q0 : T j = 43
    · obtain ⟨n1, n2, h2, t2, a2, w2, J2, k2⟩ := q138 (d := d) (L := L) hM hC hj J (by omega) (by omega)
      obtain ⟨⟨i1, i2, i3⟩, v3, h3, t3, a3, w3, bd3, fl3, ⟨r1, r2⟩, k3⟩ := hs (j + 1) h2 t2 a2 w2 fl (by omega) (by omega) J2
      have hL : x_loop T la x_pm x_pmc f0 (f + 1) true j = ((x_loop T la x_pm x_pmc f0 f (f0 (j + 1)).1 (f0 (j + 1)).2.1).1, (x_loop T la x_pm x_pmc f0 f (f0 (j + 1)).1 (f0 (j + 1)).2.1).2.1, (f0 (j + 1)).2.2 ++ -21 :: (x_loop T la x_pm x_pmc f0 f (f0 (j + 1)).1 (f0 (j + 1)).2.1).2.2) := by
        rw [x_loop, if_pos (by simp [x_is, x_pm, q0]), n2]
        try simp only [x_pmc, q0, Int.reduceEq, if_true, if_false]
      rw [hL]
      generalize f0 (j + 1) = r at *
      obtain ⟨ft, jn, on⟩ := r
      dsimp only at *
      have ew : w = 43 := by have := y_Jw J (by omega); omega
      have ec : ip_w (ip_cmpl (ip_w64 w) (ip_w64 43)) = 0 := by rw [ew]; decide +kernel
      have step : ∀ Q, ip_wp (d + 3) 178 3 [some (.ref 62), some (vi v), l2, l3] [] 79 (y_P S h t a op 0 fl) R (ip_up L 62 24 w) Q = ip_wp (d + 3) 178 3 [some (.ref 62), some (vi (v + v3)), some (vi 1), some (vi v3)] [] 79 (y_P S h3 t3 a3 op bd3 fl3) R (ip_up L 62 24 w3) Q := fun Q => by
        rw [s178_3]
        simp (disch := omega) only [s178_0, s178_1, s178_2, s178_4, s178_5, s178_6, s178_7, s178_8, s178_9, s178_10, s178_11, s178_12, s178_13, s178_14, s178_15, s178_16, s178_17, s178_18, s178_19, s178_20, s178_21, s178_22, s178_23, s178_24, s178_25, s178_26, s178_27, s178_28, s178_29, s178_30, s178_31, s178_32, s178_33, s178_34, s178_35, s178_36, s178_37, ↓reduceIte, Bool.true_eq_false, Bool.false_eq_true, ip_rfS, true_or, or_true, true_and, and_true, Option.toList_some, Option.toList_none, List.cons_append, List.nil_append, ip_fxn, ip_fxi, ip_fxr, ip_fxl, ip_wid, ip_n998, ip_lt900, iO0, iO1, iA2, iA3, iA4, iA5, iA6, iA7, iA8, iO9, iA10, iA11, iA12, iA13, iA14, iA15, iA16, iO17, iA18, iO19, iA20, iA21, iA22, iA23, iO24, iA25, iO26, iA27, iA28, iO29, iA30, iA31, iO32, iA33, iA34, iO35, iA36, iA37, iO38, iA39, iA40, iO41, iA42, iA43, iO44, iA45, iA46, iA47, iA48, iA49, iA50, iA51, iA52, iA53, iO54, iA55, iO56, iA57, iO58, iA59, iO60, iA61, iO62, iA63, iA64, iA65, iA66, iA67, iA68, iA69, iA70, iA71, iA72, iA73, iA74, iA75, iA76, iA77, iA78, iOT, iAT1, iAT2, iOS, iAS, g, g2, q0, Int.reduceEq, decide_true, decide_false, show k_n true = 1 from rfl, show k_n false = 0 from rfl, k2, k3, ec, ip_up_at]
      cases ft
      · obtain ⟨b1, b2⟩ := r2 rfl
        have hL0 : x_loop T la x_pm x_pmc f0 f false jn = (false, jn, []) := by cases f <;> simp [x_loop]
        rw [hL0]
        refine ⟨⟨by dsimp only; omega, i2⟩, v + v3, h3, t3, a3, w3, bd3, fl3, ⟨fun z => (by cases z), fun _ => ⟨b1, b2⟩⟩, fun Q => ?_⟩
        subst b1
        rw [step Q, s178_3]
        simp (disch := omega) only [s178_0, s178_1, s178_2, s178_4, s178_5, s178_6, s178_7, s178_8, s178_9, s178_10, s178_11, s178_12, s178_13, s178_14, s178_15, s178_16, s178_17, s178_18, s178_19, s178_20, s178_21, s178_22, s178_23, s178_24, s178_25, s178_26, s178_27, s178_28, s178_29, s178_30, s178_31, s178_32, s178_33, s178_34, s178_35, s178_36, s178_37, ↓reduceIte, Bool.true_eq_false, Bool.false_eq_true, ip_rfS, true_or, or_true, true_and, and_true, Option.toList_some, Option.toList_none, List.cons_append, List.nil_append, ip_fxn, ip_fxi, ip_fxr, ip_fxl, ip_wid, ip_n998, ip_lt900, iO0, iO1, iA2, iA3, iA4, iA5, iA6, iA7, iA8, iO9, iA10, iA11, iA12, iA13, iA14, iA15, iA16, iO17, iA18, iO19, iA20, iA21, iA22, iA23, iO24, iA25, iO26, iA27, iA28, iO29, iA30, iA31, iO32, iA33, iA34, iO35, iA36, iA37, iO38, iA39, iA40, iO41, iA42, iA43, iO44, iA45, iA46, iA47, iA48, iA49, iA50, iA51, iA52, iA53, iO54, iA55, iO56, iA57, iO58, iA59, iO60, iA61, iO62, iA63, iA64, iA65, iA66, iA67, iA68, iA69, iA70, iA71, iA72, iA73, iA74, iA75, iA76, iA77, iA78, iOT, iAT1, iAT2, iOS, iAS, q156b]
      · obtain ⟨b1, J3, vw, vv⟩ := r1 rfl
        subst b1
        have hev : vi (v_jn (-21) v v3) = vi (v + v3) := by
          rw [show v_jn (-21) v v3 = ip_w (v + v3) by simp only [v_jn, Int.reduceEq, Int.reduceNeg, if_true, if_false], ip_viw]
        obtain ⟨⟨e1, e2⟩, v4, h4, t4, a4, w4, bd4, fl4, res, k4⟩ := y178l hM hC hs f jn h3 t3 a3 w3 fl3 (v_jn (-21) v v3) (O ++ (on ++ [-21])) (some (vi 1)) (some (vi v3)) (by omega) i2 (by have := i3 rfl; omega) J3 v_jnw (y_val2 hO vv (by omega))
        rw [hev] at k4
        rw [List.append_assoc, List.append_assoc, List.singleton_append] at res
        exact ⟨⟨by omega, e2⟩, v4, h4, t4, a4, w4, bd4, fl4, res, fun Q => by rw [step Q, k4 Q]⟩
    · by_cases q1 : T j = 45
      · obtain ⟨n1, n2, h2, t2, a2, w2, J2, k2⟩ := q138 (d := d) (L := L) hM hC hj J (by omega) (by omega)
        obtain ⟨⟨i1, i2, i3⟩, v3, h3, t3, a3, w3, bd3, fl3, ⟨r1, r2⟩, k3⟩ := hs (j + 1) h2 t2 a2 w2 fl (by omega) (by omega) J2
        have hL : x_loop T la x_pm x_pmc f0 (f + 1) true j = ((x_loop T la x_pm x_pmc f0 f (f0 (j + 1)).1 (f0 (j + 1)).2.1).1, (x_loop T la x_pm x_pmc f0 f (f0 (j + 1)).1 (f0 (j + 1)).2.1).2.1, (f0 (j + 1)).2.2 ++ -22 :: (x_loop T la x_pm x_pmc f0 f (f0 (j + 1)).1 (f0 (j + 1)).2.1).2.2) := by
          rw [x_loop, if_pos (by simp [x_is, x_pm, q1]), n2]
          try simp only [x_pmc, q1, Int.reduceEq, if_true, if_false]
        rw [hL]
        generalize f0 (j + 1) = r at *
        obtain ⟨ft, jn, on⟩ := r
        dsimp only at *
        have ew : w = 45 := by have := y_Jw J (by omega); omega
        have ec : ip_w (ip_cmpl (ip_w64 w) (ip_w64 43)) ≠ 0 := by rw [ew]; decide +kernel
        have step : ∀ Q, ip_wp (d + 3) 178 3 [some (.ref 62), some (vi v), l2, l3] [] 79 (y_P S h t a op 0 fl) R (ip_up L 62 24 w) Q = ip_wp (d + 3) 178 3 [some (.ref 62), some (vi (v - v3)), some (vi 0), some (vi v3)] [] 79 (y_P S h3 t3 a3 op bd3 fl3) R (ip_up L 62 24 w3) Q := fun Q => by
          rw [s178_3]
          simp (disch := omega) only [s178_0, s178_1, s178_2, s178_4, s178_5, s178_6, s178_7, s178_8, s178_9, s178_10, s178_11, s178_12, s178_13, s178_14, s178_15, s178_16, s178_17, s178_18, s178_19, s178_20, s178_21, s178_22, s178_23, s178_24, s178_25, s178_26, s178_27, s178_28, s178_29, s178_30, s178_31, s178_32, s178_33, s178_34, s178_35, s178_36, s178_37, ↓reduceIte, Bool.true_eq_false, Bool.false_eq_true, ip_rfS, true_or, or_true, true_and, and_true, Option.toList_some, Option.toList_none, List.cons_append, List.nil_append, ip_fxn, ip_fxi, ip_fxr, ip_fxl, ip_wid, ip_n998, ip_lt900, iO0, iO1, iA2, iA3, iA4, iA5, iA6, iA7, iA8, iO9, iA10, iA11, iA12, iA13, iA14, iA15, iA16, iO17, iA18, iO19, iA20, iA21, iA22, iA23, iO24, iA25, iO26, iA27, iA28, iO29, iA30, iA31, iO32, iA33, iA34, iO35, iA36, iA37, iO38, iA39, iA40, iO41, iA42, iA43, iO44, iA45, iA46, iA47, iA48, iA49, iA50, iA51, iA52, iA53, iO54, iA55, iO56, iA57, iO58, iA59, iO60, iA61, iO62, iA63, iA64, iA65, iA66, iA67, iA68, iA69, iA70, iA71, iA72, iA73, iA74, iA75, iA76, iA77, iA78, iOT, iAT1, iAT2, iOS, iAS, g, g2, q0, q1, Int.reduceEq, decide_true, decide_false, show k_n true = 1 from rfl, show k_n false = 0 from rfl, k2, k3, ec, ip_up_at]
        cases ft
        · obtain ⟨b1, b2⟩ := r2 rfl
          have hL0 : x_loop T la x_pm x_pmc f0 f false jn = (false, jn, []) := by cases f <;> simp [x_loop]
          rw [hL0]
          refine ⟨⟨by dsimp only; omega, i2⟩, v - v3, h3, t3, a3, w3, bd3, fl3, ⟨fun z => (by cases z), fun _ => ⟨b1, b2⟩⟩, fun Q => ?_⟩
          subst b1
          rw [step Q, s178_3]
          simp (disch := omega) only [s178_0, s178_1, s178_2, s178_4, s178_5, s178_6, s178_7, s178_8, s178_9, s178_10, s178_11, s178_12, s178_13, s178_14, s178_15, s178_16, s178_17, s178_18, s178_19, s178_20, s178_21, s178_22, s178_23, s178_24, s178_25, s178_26, s178_27, s178_28, s178_29, s178_30, s178_31, s178_32, s178_33, s178_34, s178_35, s178_36, s178_37, ↓reduceIte, Bool.true_eq_false, Bool.false_eq_true, ip_rfS, true_or, or_true, true_and, and_true, Option.toList_some, Option.toList_none, List.cons_append, List.nil_append, ip_fxn, ip_fxi, ip_fxr, ip_fxl, ip_wid, ip_n998, ip_lt900, iO0, iO1, iA2, iA3, iA4, iA5, iA6, iA7, iA8, iO9, iA10, iA11, iA12, iA13, iA14, iA15, iA16, iO17, iA18, iO19, iA20, iA21, iA22, iA23, iO24, iA25, iO26, iA27, iA28, iO29, iA30, iA31, iO32, iA33, iA34, iO35, iA36, iA37, iO38, iA39, iA40, iO41, iA42, iA43, iO44, iA45, iA46, iA47, iA48, iA49, iA50, iA51, iA52, iA53, iO54, iA55, iO56, iA57, iO58, iA59, iO60, iA61, iO62, iA63, iA64, iA65, iA66, iA67, iA68, iA69, iA70, iA71, iA72, iA73, iA74, iA75, iA76, iA77, iA78, iOT, iAT1, iAT2, iOS, iAS, q156b]
        · obtain ⟨b1, J3, vw, vv⟩ := r1 rfl
          subst b1
          have hev : vi (v_jn (-22) v v3) = vi (v - v3) := by
            rw [show v_jn (-22) v v3 = ip_w (v - v3) by simp only [v_jn, Int.reduceEq, Int.reduceNeg, if_true, if_false], ip_viw]
          obtain ⟨⟨e1, e2⟩, v4, h4, t4, a4, w4, bd4, fl4, res, k4⟩ := y178l hM hC hs f jn h3 t3 a3 w3 fl3 (v_jn (-22) v v3) (O ++ (on ++ [-22])) (some (vi 0)) (some (vi v3)) (by omega) i2 (by have := i3 rfl; omega) J3 v_jnw (y_val2 hO vv (by omega))
          rw [hev] at k4
          rw [List.append_assoc, List.append_assoc, List.singleton_append] at res
          exact ⟨⟨by omega, e2⟩, v4, h4, t4, a4, w4, bd4, fl4, res, fun Q => by rw [step Q, k4 Q]⟩
      · have hL : x_loop T la x_pm x_pmc f0 (f + 1) true j = (true, j, []) := by
          rw [x_loop, if_neg (by simp [x_is, x_pm, q0, q1])]
        rw [hL]
        refine ⟨⟨Int.le_refl _, hj2⟩, v, h, t, a, w, 0, fl, ⟨fun _ => ⟨rfl, J, hv, by rw [List.append_nil]; exact hO⟩, fun z => (by cases z)⟩, fun Q => ?_⟩
        rw [s178_3]
        simp (disch := omega) only [s178_0, s178_1, s178_2, s178_4, s178_5, s178_6, s178_7, s178_8, s178_9, s178_10, s178_11, s178_12, s178_13, s178_14, s178_15, s178_16, s178_17, s178_18, s178_19, s178_20, s178_21, s178_22, s178_23, s178_24, s178_25, s178_26, s178_27, s178_28, s178_29, s178_30, s178_31, s178_32, s178_33, s178_34, s178_35, s178_36, s178_37, ↓reduceIte, Bool.true_eq_false, Bool.false_eq_true, ip_rfS, true_or, or_true, true_and, and_true, Option.toList_some, Option.toList_none, List.cons_append, List.nil_append, ip_fxn, ip_fxi, ip_fxr, ip_fxl, ip_wid, ip_n998, ip_lt900, iO0, iO1, iA2, iA3, iA4, iA5, iA6, iA7, iA8, iO9, iA10, iA11, iA12, iA13, iA14, iA15, iA16, iO17, iA18, iO19, iA20, iA21, iA22, iA23, iO24, iA25, iO26, iA27, iA28, iO29, iA30, iA31, iO32, iA33, iA34, iO35, iA36, iA37, iO38, iA39, iA40, iO41, iA42, iA43, iO44, iA45, iA46, iA47, iA48, iA49, iA50, iA51, iA52, iA53, iO54, iA55, iO56, iA57, iO58, iA59, iO60, iA61, iO62, iA63, iA64, iA65, iA66, iA67, iA68, iA69, iA70, iA71, iA72, iA73, iA74, iA75, iA76, iA77, iA78, iOT, iAT1, iAT2, iOS, iAS, g, g2, q0, q1, decide_false, show k_n false = 0 from rfl]
theorem y178 {f0 : Int → x_PR} (hM : x_RM R) (hC : y_C S b sz T P N la) (hs : y_ok S R L b sz T P N la (d + 3) 179 op f0) : y_ok S R L b sz T P N la (d + 4) 178 op (x_rep T la x_pm x_pmc f0) := by
  intro j h t a w fl hj hj2 J
  obtain ⟨⟨i1, i2, i3⟩, v3, h3, t3, a3, w3, bd3, fl3, ⟨r1, r2⟩, k3⟩ := hs j h t a w fl hj hj2 J
  have hla := hC.2.1.2.1
  have hsz := hC.1.2.2.1
  unfold x_rep
  generalize f0 j = r at *
  obtain ⟨ft, jn, on⟩ := r
  dsimp only at *
  cases ft
  · obtain ⟨b1, b2⟩ := r2 rfl
    subst b1
    have hL0 : x_loop T la x_pm x_pmc f0 160 false jn = (false, jn, []) := by simp [x_loop]
    rw [hL0]
    refine ⟨⟨i1, i2, fun z => (by cases z)⟩, v3, h3, t3, a3, w3, 1, fl3, ⟨fun z => (by cases z), fun _ => ⟨rfl, b2⟩⟩, fun Q => ?_⟩
    simp (disch := omega) only [c178, s178_0, s178_1, s178_2, s178_3, s178_4, s178_5, s178_6, s178_7, s178_8, s178_9, s178_10, s178_11, s178_12, s178_13, s178_14, s178_15, s178_16, s178_17, s178_18, s178_19, s178_20, s178_21, s178_22, s178_23, s178_24, s178_25, s178_26, s178_27, s178_28, s178_29, s178_30, s178_31, s178_32, s178_33, s178_34, s178_35, s178_36, s178_37, ↓reduceIte, Bool.true_eq_false, Bool.false_eq_true, ip_rfS, true_or, or_true, true_and, and_true, Option.toList_some, Option.toList_none, List.cons_append, List.nil_append, ip_fxn, ip_fxi, ip_fxr, ip_fxl, ip_wid, ip_n998, ip_lt900, iO0, iO1, iA2, iA3, iA4, iA5, iA6, iA7, iA8, iO9, iA10, iA11, iA12, iA13, iA14, iA15, iA16, iO17, iA18, iO19, iA20, iA21, iA22, iA23, iO24, iA25, iO26, iA27, iA28, iO29, iA30, iA31, iO32, iA33, iA34, iO35, iA36, iA37, iO38, iA39, iA40, iO41, iA42, iA43, iO44, iA45, iA46, iA47, iA48, iA49, iA50, iA51, iA52, iA53, iO54, iA55, iO56, iA57, iO58, iA59, iO60, iA61, iO62, iA63, iA64, iA65, iA66, iA67, iA68, iA69, iA70, iA71, iA72, iA73, iA74, iA75, iA76, iA77, iA78, iOT, iAT1, iAT2, iOS, iAS, k3, q156b]
  · obtain ⟨b1, J3, vw, vv⟩ := r1 rfl
    subst b1
    have h3j := i3 rfl
    obtain ⟨⟨e1, e2⟩, v4, h4, t4, a4, w4, bd4, fl4, res, k4⟩ := y178l (d := d) hM hC hs 160 jn h3 t3 a3 w3 fl3 v3 on none none (by omega) i2 (by omega) J3 vw vv
    refine ⟨⟨by dsimp only; omega, e2, fun _ => by dsimp only; omega⟩, v4, h4, t4, a4, w4, bd4, fl4, res, fun Q => ?_⟩
    simp (disch := omega) only [c178, s178_0, s178_1, s178_2, ↓reduceIte, Bool.true_eq_false, Bool.false_eq_true, ip_rfS, true_or, or_true, true_and, and_true, Option.toList_some, Option.toList_none, List.cons_append, List.nil_append, ip_fxn, ip_fxi, ip_fxr, ip_fxl, ip_wid, ip_n998, ip_lt900, iO0, iO1, iA2, iA3, iA4, iA5, iA6, iA7, iA8, iO9, iA10, iA11, iA12, iA13, iA14, iA15, iA16, iO17, iA18, iO19, iA20, iA21, iA22, iA23, iO24, iA25, iO26, iA27, iA28, iO29, iA30, iA31, iO32, iA33, iA34, iO35, iA36, iA37, iO38, iA39, iA40, iO41, iA42, iA43, iO44, iA45, iA46, iA47, iA48, iA49, iA50, iA51, iA52, iA53, iO54, iA55, iO56, iA57, iO58, iA59, iO60, iA61, iO62, iA63, iA64, iA65, iA66, iA67, iA68, iA69, iA70, iA71, iA72, iA73, iA74, iA75, iA76, iA77, iA78, iOT, iAT1, iAT2, iOS, iAS, k3, k4]

theorem y146 {one nt : Int → x_PR} (ho : 0 ≤ op ∧ op < 5) (hM : x_RM R) (hC : y_C S b sz T P N la) (hs : y_ok S R L b sz T P N la (d + 4) 178 op (x_sum T la one)) (hp : y_ok S R L b sz T P N la (d + 4) 148 (op + 1) nt) : y_ok S R L b sz T P N la (d + 5) 146 op (x_not T one la (x_nopn la nt)) := by
  intro j h t a w fl hj hj2 J
  have hla := hC.2.1.2.1
  have hsz := hC.1.2.2.1
  have hjr := J.2.1
  have g := fun Q' => q140 (d := d + 1) (op := op) (fl := fl) (L' := ip_up L 62 24 w) (Q := Q') 5 (by omega) (ki := 5) rfl yW5 hM hC hj J (by omega) (by omega) (by omega) (by omega) (by omega) (by omega) (by omega) (by omega)
  have kt : k_n true = 1 := rfl
  have kf : k_n false = 0 := rfl
  by_cases q0 : T j = 5
  · obtain ⟨n1, n2, h2, t2, a2, w2, J2, k2⟩ := q147 (d := d) (L := L) (op := op) hM hC hj J (by omega) (by omega) ho
    obtain ⟨⟨i1, i2, i3⟩, v3, h3, t3, a3, w3, bd3, fl3, ⟨r1, r2⟩, k3⟩ := hp (j + 1) h2 t2 a2 w2 fl (by omega) (by omega) J2
    have hL : x_not T one la (x_nopn la nt) j = ((nt (j + 1)).1, (nt (j + 1)).2.1, (nt (j + 1)).2.2 ++ [-12]) := by rw [x_not, if_pos q0, x_nopn, n2]
    rw [hL]
    generalize nt (j + 1) = r at *
    obtain ⟨ft, jn, on⟩ := r
    dsimp only at *
    have key : ∀ Q, ip_wc (d + 5) 146 [.ref 62] 79 (y_P S h t a op 0 fl) R (ip_up L 62 24 w) Q = Q (some (vi (if ip_w v3 = 0 then 1 else 0))) 79 (y_P S h3 t3 a3 op bd3 fl3) R (ip_up L 62 24 w3) := fun Q => by
      by_cases z : ip_w v3 = 0
      · simp (disch := omega) only [c146, s146_0, s146_1, s146_2, s146_3, s146_4, s146_5, s146_6, s146_7, s146_8, s146_9, s146_10, s146_11, s146_12, s146_13, s146_14, s146_15, s146_16, s146_17, s146_18, s146_19, s146_20, s146_21, s146_22, s146_23, s146_24, s146_25, s146_26, s146_27, s146_28, s146_29, s146_30, s146_31, s146_32, s146_33, s146_34, s146_35, s146_36, s146_37, s146_38, s146_39, s146_40, s146_41, s146_42, s146_43, s146_44, s146_45, s146_46, s146_47, s146_48, s146_49, s146_50, s146_51, s146_52, s146_53, s146_54, s146_55, s146_56, s146_57, s146_58, s146_59, s146_60, s146_61, s146_62, s146_63, s146_64, s146_65, s146_66, s146_67, s146_68, s146_69, s146_70, ↓reduceIte, Bool.true_eq_false, Bool.false_eq_true, ip_rfS, true_or, or_true, true_and, and_true, Option.toList_some, Option.toList_none, List.cons_append, List.nil_append, ip_fxn, ip_fxi, ip_fxr, ip_fxl, ip_wid, ip_n998, ip_lt900, iO0, iO1, iA2, iA3, iA4, iA5, iA6, iA7, iA8, iO9, iA10, iA11, iA12, iA13, iA14, iA15, iA16, iO17, iA18, iO19, iA20, iA21, iA22, iA23, iO24, iA25, iO26, iA27, iA28, iO29, iA30, iA31, iO32, iA33, iA34, iO35, iA36, iA37, iO38, iA39, iA40, iO41, iA42, iA43, iO44, iA45, iA46, iA47, iA48, iA49, iA50, iA51, iA52, iA53, iO54, iA55, iO56, iA57, iO58, iA59, iO60, iA61, iO62, iA63, iA64, iA65, iA66, iA67, iA68, iA69, iA70, iA71, iA72, iA73, iA74, iA75, iA76, iA77, iA78, iOT, iAT1, iAT2, iOS, iAS, g, q0, k2, k3, z, yp_o, yp_uo, Int.add_sub_cancel, if_true, Int.reduceEq, decide_true, decide_false, kt, kf]
      · simp (disch := omega) only [c146, s146_0, s146_1, s146_2, s146_3, s146_4, s146_5, s146_6, s146_7, s146_8, s146_9, s146_10, s146_11, s146_12, s146_13, s146_14, s146_15, s146_16, s146_17, s146_18, s146_19, s146_20, s146_21, s146_22, s146_23, s146_24, s146_25, s146_26, s146_27, s146_28, s146_29, s146_30, s146_31, s146_32, s146_33, s146_34, s146_35, s146_36, s146_37, s146_38, s146_39, s146_40, s146_41, s146_42, s146_43, s146_44, s146_45, s146_46, s146_47, s146_48, s146_49, s146_50, s146_51, s146_52, s146_53, s146_54, s146_55, s146_56, s146_57, s146_58, s146_59, s146_60, s146_61, s146_62, s146_63, s146_64, s146_65, s146_66, s146_67, s146_68, s146_69, s146_70, ↓reduceIte, Bool.true_eq_false, Bool.false_eq_true, ip_rfS, true_or, or_true, true_and, and_true, Option.toList_some, Option.toList_none, List.cons_append, List.nil_append, ip_fxn, ip_fxi, ip_fxr, ip_fxl, ip_wid, ip_n998, ip_lt900, iO0, iO1, iA2, iA3, iA4, iA5, iA6, iA7, iA8, iO9, iA10, iA11, iA12, iA13, iA14, iA15, iA16, iO17, iA18, iO19, iA20, iA21, iA22, iA23, iO24, iA25, iO26, iA27, iA28, iO29, iA30, iA31, iO32, iA33, iA34, iO35, iA36, iA37, iO38, iA39, iA40, iO41, iA42, iA43, iO44, iA45, iA46, iA47, iA48, iA49, iA50, iA51, iA52, iA53, iO54, iA55, iO56, iA57, iO58, iA59, iO60, iA61, iO62, iA63, iA64, iA65, iA66, iA67, iA68, iA69, iA70, iA71, iA72, iA73, iA74, iA75, iA76, iA77, iA78, iOT, iAT1, iAT2, iOS, iAS, g, q0, k2, k3, z, yp_o, yp_uo, Int.add_sub_cancel, if_false, Int.reduceEq, decide_true, decide_false, kt, kf]
    refine ⟨⟨by dsimp only; omega, i2, fun z => by have := i3 z; dsimp only; omega⟩, (if ip_w v3 = 0 then 1 else 0), h3, t3, a3, w3, bd3, fl3, ⟨fun z => ?_, fun z => r2 z⟩, key⟩
    obtain ⟨b1, J3, vw, vv⟩ := r1 z
    have hev : v_tn (-12) v3 = (if ip_w v3 = 0 then 1 else 0) := by
      rw [vw]
      simp only [v_tn, Int.reduceEq, Int.reduceNeg, if_false]
    exact ⟨b1, J3, by rw [← hev]; exact v_tnw, by rw [← hev]; exact y_val1 vv (by omega) (by omega)⟩
  · have hL : x_not T one la (x_nopn la nt) j = x_cmp T la one j := by rw [x_not, if_neg q0]
    rw [hL]
    obtain ⟨⟨i1, i2, i3⟩, v3, h3, t3, a3, w3, bd3, fl3, ⟨r1, r2⟩, k3⟩ := hs j h t a w fl hj hj2 J
    unfold x_cmp
    generalize hr : x_sum T la one j = r at *
    obtain ⟨ft, jn, on⟩ := r
    dsimp only at *
    cases ft
    · obtain ⟨b1, b2⟩ := r2 rfl
      subst b1
      rw [if_neg (by simp)]
      refine ⟨⟨i1, i2, fun z => (by cases z)⟩, v3, h3, t3, a3, w3, 1, fl3, ⟨fun z => (by cases z), fun _ => ⟨rfl, b2⟩⟩, fun Q => ?_⟩
      simp (disch := omega) only [c146, s146_0, s146_1, s146_2, s146_3, s146_4, s146_5, s146_6, s146_7, s146_8, s146_9, s146_10, s146_11, s146_12, s146_13, s146_14, s146_15, s146_16, s146_17, s146_18, s146_19, s146_20, s146_21, s146_22, s146_23, s146_24, s146_25, s146_26, s146_27, s146_28, s146_29, s146_30, s146_31, s146_32, s146_33, s146_34, s146_35, s146_36, s146_37, s146_38, s146_39, s146_40, s146_41, s146_42, s146_43, s146_44, s146_45, s146_46, s146_47, s146_48, s146_49, s146_50, s146_51, s146_52, s146_53, s146_54, s146_55, s146_56, s146_57, s146_58, s146_59, s146_60, s146_61, s146_62, s146_63, s146_64, s146_65, s146_66, s146_67, s146_68, s146_69, s146_70, ↓reduceIte, Bool.true_eq_false, Bool.false_eq_true, ip_rfS, true_or, or_true, true_and, and_true, Option.toList_some, Option.toList_none, List.cons_append, List.nil_append, ip_fxn, ip_fxi, ip_fxr, ip_fxl, ip_wid, ip_n998, ip_lt900, iO0, iO1, iA2, iA3, iA4, iA5, iA6, iA7, iA8, iO9, iA10, iA11, iA12, iA13, iA14, iA15, iA16, iO17, iA18, iO19, iA20, iA21, iA22, iA23, iO24, iA25, iO26, iA27, iA28, iO29, iA30, iA31, iO32, iA33, iA34, iO35, iA36, iA37, iO38, iA39, iA40, iO41, iA42, iA43, iO44, iA45, iA46, iA47, iA48, iA49, iA50, iA51, iA52, iA53, iO54, iA55, iO56, iA57, iO58, iA59, iO60, iA61, iO62, iA63, iA64, iA65, iA66, iA67, iA68, iA69, iA70, iA71, iA72, iA73, iA74, iA75, iA76, iA77, iA78, iOT, iAT1, iAT2, iOS, iAS, g, q0, k3, q156b, Int.reduceEq, decide_true, decide_false, kt, kf]
    · obtain ⟨b1, J3, vw, vv⟩ := r1 rfl
      subst b1
      have h3j := i3 rfl
      have e1 := fun Q' => q156 (d := d + 3) (S := S) (R := R) (L := L) (op := op) (fl := fl3) (Q := Q') J3 (s := 60) (by omega)
      have e2 := fun Q' => q156 (d := d + 3) (S := S) (R := R) (L := L) (op := op) (fl := fl3) (Q := Q') J3 (s := 61) (by omega)
      by_cases c1 : T jn = 60 ∨ T jn = 61
      · obtain ⟨n1, n2, h4, t4, a4, w4, J4, k4⟩ := q138 (d := d + 1) (L := L) hM hC (by omega) J3 (by omega) (by omega)
        obtain ⟨⟨m1, m2, m3⟩, v5, h5, t5, a5, w5, bd5, fl5, ⟨s1, s2⟩, k5⟩ := hs (jn + 1) h4 t4 a4 w4 fl3 (by omega) (by omega) J4
        rw [if_pos (by simp [c1]), n2]
        generalize x_sum T la one (jn + 1) = u at *
        obtain ⟨ft2, j5, o5⟩ := u
        dsimp only at *
        have ew := y_Jw J3 (by omega)
        rcases c1 with c1 | c1
        · have ec : ip_w (ip_cmpl (ip_w64 w3) (ip_w64 60)) = 0 := by rw [ew, c1]; decide +kernel
          have key : ∀ Q, ip_wc (d + 5) 146 [.ref 62] 79 (y_P S h t a op 0 fl) R (ip_up L 62 24 w) Q = Q (some (vi (if v3 < ip_w v5 then 1 else 0))) 79 (y_P S h5 t5 a5 op bd5 fl5) R (ip_up L 62 24 w5) := fun Q => by
            by_cases z : v3 < ip_w v5
            · simp (disch := omega) only [c146, s146_0, s146_1, s146_2, s146_3, s146_4, s146_5, s146_6, s146_7, s146_8, s146_9, s146_10, s146_11, s146_12, s146_13, s146_14, s146_15, s146_16, s146_17, s146_18, s146_19, s146_20, s146_21, s146_22, s146_23, s146_24, s146_25, s146_26, s146_27, s146_28, s146_29, s146_30, s146_31, s146_32, s146_33, s146_34, s146_35, s146_36, s146_37, s146_38, s146_39, s146_40, s146_41, s146_42, s146_43, s146_44, s146_45, s146_46, s146_47, s146_48, s146_49, s146_50, s146_51, s146_52, s146_53, s146_54, s146_55, s146_56, s146_57, s146_58, s146_59, s146_60, s146_61, s146_62, s146_63, s146_64, s146_65, s146_66, s146_67, s146_68, s146_69, s146_70, ↓reduceIte, Bool.true_eq_false, Bool.false_eq_true, ip_rfS, true_or, or_true, true_and, and_true, Option.toList_some, Option.toList_none, List.cons_append, List.nil_append, ip_fxn, ip_fxi, ip_fxr, ip_fxl, ip_wid, ip_n998, ip_lt900, iO0, iO1, iA2, iA3, iA4, iA5, iA6, iA7, iA8, iO9, iA10, iA11, iA12, iA13, iA14, iA15, iA16, iO17, iA18, iO19, iA20, iA21, iA22, iA23, iO24, iA25, iO26, iA27, iA28, iO29, iA30, iA31, iO32, iA33, iA34, iO35, iA36, iA37, iO38, iA39, iA40, iO41, iA42, iA43, iO44, iA45, iA46, iA47, iA48, iA49, iA50, iA51, iA52, iA53, iO54, iA55, iO56, iA57, iO58, iA59, iO60, iA61, iO62, iA63, iA64, iA65, iA66, iA67, iA68, iA69, iA70, iA71, iA72, iA73, iA74, iA75, iA76, iA77, iA78, iOT, iAT1, iAT2, iOS, iAS, g, q0, k3, e1, c1, k4, k5, ip_up_at, ec, vw, z, if_true, Int.reduceEq, decide_true, decide_false, kt, kf]
            · simp (disch := omega) only [c146, s146_0, s146_1, s146_2, s146_3, s146_4, s146_5, s146_6, s146_7, s146_8, s146_9, s146_10, s146_11, s146_12, s146_13, s146_14, s146_15, s146_16, s146_17, s146_18, s146_19, s146_20, s146_21, s146_22, s146_23, s146_24, s146_25, s146_26, s146_27, s146_28, s146_29, s146_30, s146_31, s146_32, s146_33, s146_34, s146_35, s146_36, s146_37, s146_38, s146_39, s146_40, s146_41, s146_42, s146_43, s146_44, s146_45, s146_46, s146_47, s146_48, s146_49, s146_50, s146_51, s146_52, s146_53, s146_54, s146_55, s146_56, s146_57, s146_58, s146_59, s146_60, s146_61, s146_62, s146_63, s146_64, s146_65, s146_66, s146_67, s146_68, s146_69, s146_70, ↓reduceIte, Bool.true_eq_false, Bool.false_eq_true, ip_rfS, true_or, or_true, true_and, and_true, Option.toList_some, Option.toList_none, List.cons_append, List.nil_append, ip_fxn, ip_fxi, ip_fxr, ip_fxl, ip_wid, ip_n998, ip_lt900, iO0, iO1, iA2, iA3, iA4, iA5, iA6, iA7, iA8, iO9, iA10, iA11, iA12, iA13, iA14, iA15, iA16, iO17, iA18, iO19, iA20, iA21, iA22, iA23, iO24, iA25, iO26, iA27, iA28, iO29, iA30, iA31, iO32, iA33, iA34, iO35, iA36, iA37, iO38, iA39, iA40, iO41, iA42, iA43, iO44, iA45, iA46, iA47, iA48, iA49, iA50, iA51, iA52, iA53, iO54, iA55, iO56, iA57, iO58, iA59, iO60, iA61, iO62, iA63, iA64, iA65, iA66, iA67, iA68, iA69, iA70, iA71, iA72, iA73, iA74, iA75, iA76, iA77, iA78, iOT, iAT1, iAT2, iOS, iAS, g, q0, k3, e1, c1, k4, k5, ip_up_at, ec, vw, z, if_false, Int.reduceEq, decide_true, decide_false, kt, kf]
          refine ⟨⟨by dsimp only; omega, m2, fun z => by have := m3 z; dsimp only; omega⟩, (if v3 < ip_w v5 then 1 else 0), h5, t5, a5, w5, bd5, fl5, ⟨fun z => ?_, fun z => s2 z⟩, key⟩
          obtain ⟨d1, J5, d3, d4⟩ := s1 z
          have hev : v_jn (-24) v3 v5 = (if v3 < ip_w v5 then 1 else 0) := by
            rw [d3]
            simp only [v_jn, Int.reduceEq, Int.reduceNeg, if_true, if_false]
          rw [if_pos c1]
          exact ⟨d1, J5, by rw [← hev]; exact v_jnw, by rw [← hev]; exact y_val2 vv d4 (by omega)⟩
        · have ec : ¬ ip_w (ip_cmpl (ip_w64 w3) (ip_w64 60)) = 0 := by rw [ew, c1]; decide +kernel
          have key : ∀ Q, ip_wc (d + 5) 146 [.ref 62] 79 (y_P S h t a op 0 fl) R (ip_up L 62 24 w) Q = Q (some (vi (if v3 = ip_w v5 then 1 else 0))) 79 (y_P S h5 t5 a5 op bd5 fl5) R (ip_up L 62 24 w5) := fun Q => by
            by_cases z : v3 = ip_w v5
            · simp (disch := omega) only [c146, s146_0, s146_1, s146_2, s146_3, s146_4, s146_5, s146_6, s146_7, s146_8, s146_9, s146_10, s146_11, s146_12, s146_13, s146_14, s146_15, s146_16, s146_17, s146_18, s146_19, s146_20, s146_21, s146_22, s146_23, s146_24, s146_25, s146_26, s146_27, s146_28, s146_29, s146_30, s146_31, s146_32, s146_33, s146_34, s146_35, s146_36, s146_37, s146_38, s146_39, s146_40, s146_41, s146_42, s146_43, s146_44, s146_45, s146_46, s146_47, s146_48, s146_49, s146_50, s146_51, s146_52, s146_53, s146_54, s146_55, s146_56, s146_57, s146_58, s146_59, s146_60, s146_61, s146_62, s146_63, s146_64, s146_65, s146_66, s146_67, s146_68, s146_69, s146_70, ↓reduceIte, Bool.true_eq_false, Bool.false_eq_true, ip_rfS, true_or, or_true, true_and, and_true, Option.toList_some, Option.toList_none, List.cons_append, List.nil_append, ip_fxn, ip_fxi, ip_fxr, ip_fxl, ip_wid, ip_n998, ip_lt900, iO0, iO1, iA2, iA3, iA4, iA5, iA6, iA7, iA8, iO9, iA10, iA11, iA12, iA13, iA14, iA15, iA16, iO17, iA18, iO19, iA20, iA21, iA22, iA23, iO24, iA25, iO26, iA27, iA28, iO29, iA30, iA31, iO32, iA33, iA34, iO35, iA36, iA37, iO38, iA39, iA40, iO41, iA42, iA43, iO44, iA45, iA46, iA47, iA48, iA49, iA50, iA51, iA52, iA53, iO54, iA55, iO56, iA57, iO58, iA59, iO60, iA61, iO62, iA63, iA64, iA65, iA66, iA67, iA68, iA69, iA70, iA71, iA72, iA73, iA74, iA75, iA76, iA77, iA78, iOT, iAT1, iAT2, iOS, iAS, g, q0, k3, e1, e2, c1, k4, k5, ip_up_at, ec, vw, eq_true z, if_true, Int.reduceEq, decide_true, decide_false, kt, kf]
            · simp (disch := omega) only [c146, s146_0, s146_1, s146_2, s146_3, s146_4, s146_5, s146_6, s146_7, s146_8, s146_9, s146_10, s146_11, s146_12, s146_13, s146_14, s146_15, s146_16, s146_17, s146_18, s146_19, s146_20, s146_21, s146_22, s146_23, s146_24, s146_25, s146_26, s146_27, s146_28, s146_29, s146_30, s146_31, s146_32, s146_33, s146_34, s146_35, s146_36, s146_37, s146_38, s146_39, s146_40, s146_41, s146_42, s146_43, s146_44, s146_45, s146_46, s146_47, s146_48, s146_49, s146_50, s146_51, s146_52, s146_53, s146_54, s146_55, s146_56, s146_57, s146_58, s146_59, s146_60, s146_61, s146_62, s146_63, s146_64, s146_65, s146_66, s146_67, s146_68, s146_69, s146_70, ↓reduceIte, Bool.true_eq_false, Bool.false_eq_true, ip_rfS, true_or, or_true, true_and, and_true, Option.toList_some, Option.toList_none, List.cons_append, List.nil_append, ip_fxn, ip_fxi, ip_fxr, ip_fxl, ip_wid, ip_n998, ip_lt900, iO0, iO1, iA2, iA3, iA4, iA5, iA6, iA7, iA8, iO9, iA10, iA11, iA12, iA13, iA14, iA15, iA16, iO17, iA18, iO19, iA20, iA21, iA22, iA23, iO24, iA25, iO26, iA27, iA28, iO29, iA30, iA31, iO32, iA33, iA34, iO35, iA36, iA37, iO38, iA39, iA40, iO41, iA42, iA43, iO44, iA45, iA46, iA47, iA48, iA49, iA50, iA51, iA52, iA53, iO54, iA55, iO56, iA57, iO58, iA59, iO60, iA61, iO62, iA63, iA64, iA65, iA66, iA67, iA68, iA69, iA70, iA71, iA72, iA73, iA74, iA75, iA76, iA77, iA78, iOT, iAT1, iAT2, iOS, iAS, g, q0, k3, e1, e2, c1, k4, k5, ip_up_at, ec, vw, z, if_false, Int.reduceEq, decide_true, decide_false, kt, kf]
          refine ⟨⟨by dsimp only; omega, m2, fun z => by have := m3 z; dsimp only; omega⟩, (if v3 = ip_w v5 then 1 else 0), h5, t5, a5, w5, bd5, fl5, ⟨fun z => ?_, fun z => s2 z⟩, key⟩
          obtain ⟨d1, J5, d3, d4⟩ := s1 z
          have hev : v_jn (-25) v3 v5 = (if v3 = ip_w v5 then 1 else 0) := by
            rw [d3]
            simp only [v_jn, Int.reduceEq, Int.reduceNeg, if_true, if_false]
          rw [if_neg (by omega)]
          exact ⟨d1, J5, by rw [← hev]; exact v_jnw, by rw [← hev]; exact y_val2 vv d4 (by omega)⟩
      · rw [if_neg (by simp [c1])]
        refine ⟨⟨i1, i2, i3⟩, v3, h3, t3, a3, w3, 0, fl3, ⟨fun _ => ⟨rfl, J3, vw, vv⟩, fun z => (by cases z)⟩, fun Q => ?_⟩
        simp (disch := omega) only [c146, s146_0, s146_1, s146_2, s146_3, s146_4, s146_5, s146_6, s146_7, s146_8, s146_9, s146_10, s146_11, s146_12, s146_13, s146_14, s146_15, s146_16, s146_17, s146_18, s146_19, s146_20, s146_21, s146_22, s146_23, s146_24, s146_25, s146_26, s146_27, s146_28, s146_29, s146_30, s146_31, s146_32, s146_33, s146_34, s146_35, s146_36, s146_37, s146_38, s146_39, s146_40, s146_41, s146_42, s146_43, s146_44, s146_45, s146_46, s146_47, s146_48, s146_49, s146_50, s146_51, s146_52, s146_53, s146_54, s146_55, s146_56, s146_57, s146_58, s146_59, s146_60, s146_61, s146_62, s146_63, s146_64, s146_65, s146_66, s146_67, s146_68, s146_69, s146_70, ↓reduceIte, Bool.true_eq_false, Bool.false_eq_true, ip_rfS, true_or, or_true, true_and, and_true, Option.toList_some, Option.toList_none, List.cons_append, List.nil_append, ip_fxn, ip_fxi, ip_fxr, ip_fxl, ip_wid, ip_n998, ip_lt900, iO0, iO1, iA2, iA3, iA4, iA5, iA6, iA7, iA8, iO9, iA10, iA11, iA12, iA13, iA14, iA15, iA16, iO17, iA18, iO19, iA20, iA21, iA22, iA23, iO24, iA25, iO26, iA27, iA28, iO29, iA30, iA31, iO32, iA33, iA34, iO35, iA36, iA37, iO38, iA39, iA40, iO41, iA42, iA43, iO44, iA45, iA46, iA47, iA48, iA49, iA50, iA51, iA52, iA53, iO54, iA55, iO56, iA57, iO58, iA59, iO60, iA61, iO62, iA63, iA64, iA65, iA66, iA67, iA68, iA69, iA70, iA71, iA72, iA73, iA74, iA75, iA76, iA77, iA78, iOT, iAT1, iAT2, iOS, iAS, g, q0, k3, e1, e2, show ¬ T jn = 60 by omega, show ¬ T jn = 61 by omega, Int.reduceEq, decide_true, decide_false, kt, kf]

theorem y145l {f0 : Int → x_PR} (hM : x_RM R) (hC : y_C S b sz T P N la) (hs : y_ok S R L b sz T P N la (d + 3) 146 op f0) : ∀ (f : Nat) (j h t a w fl v : Int) (O : List Int) (l2 : Option Value), 0 ≤ j → j ≤ la → la + 1 ≤ j + f → y_J b sz T P N la j h t a w → ip_w v = v → y_val (y_nam S) O v →
    (j ≤ (x_loop T la (x_is 4) (fun _ => -26) f0 f true j).2.1 ∧ (x_loop T la (x_is 4) (fun _ => -26) f0 f true j).2.1 ≤ la) ∧ ∃ v' h' t' a' w' bd' fl', y_res S b sz T P N la ((x_loop T la (x_is 4) (fun _ => -26) f0 f true j).1, (x_loop T la (x_is 4) (fun _ => -26) f0 f true j).2.1, O ++ (x_loop T la (x_is 4) (fun _ => -26) f0 f true j).2.2) v' h' t' a' w' bd' fl' ∧
      ∀ Q, ip_wp (d + 3) 145 3 [some (.ref 62), some (vi v), l2] [] 79 (y_P S h t a op 0 fl) R (ip_up L 62 24 w) Q = Q (some (vi v')) 79 (y_P S h' t' a' op bd' fl') R (ip_up L 62 24 w')
  | 0, j, h, t, a, w, fl, v, O, l2, hj, hj2, hf, J, hv, hO => by omega
  | f + 1, j, h, t, a, w, fl, v, O, l2, hj, hj2, hf, J, hv, hO => by
    have g := fun Q' => q140 (d := d) (op := op) (fl := fl) (L' := ip_up L 62 24 w) (Q := Q') 4 (by omega) (ki := 4) rfl yW4 hM hC hj J (by omega) (by omega) (by omega) (by omega) (by omega) (by omega) (by omega) (by omega)
    by_cases q0 : T j = 4
    · obtain ⟨n1, n2, h2, t2, a2, w2, J2, k2⟩ := q138 (d := d) (L := L) hM hC hj J (by omega) (by omega)
      obtain ⟨⟨i1, i2, i3⟩, v3, h3, t3, a3, w3, bd3, fl3, ⟨r1, r2⟩, k3⟩ := hs (j + 1) h2 t2 a2 w2 fl (by omega) (by omega) J2
      have hL : x_loop T la (x_is 4) (fun _ => -26) f0 (f + 1) true j = ((x_loop T la (x_is 4) (fun _ => -26) f0 f (f0 (j + 1)).1 (f0 (j + 1)).2.1).1, (x_loop T la (x_is 4) (fun _ => -26) f0 f (f0 (j + 1)).1 (f0 (j + 1)).2.1).2.1, (f0 (j + 1)).2.2 ++ -26 :: (x_loop T la (x_is 4) (fun _ => -26) f0 f (f0 (j + 1)).1 (f0 (j + 1)).2.1).2.2) := by
        rw [x_loop, if_pos (by simp [x_is, x_pm, q0]), n2]
        try simp only [x_pmc, q0, Int.reduceEq, if_true, if_false]
      rw [hL]
      generalize f0 (j + 1) = r at *
      obtain ⟨ft, jn, on⟩ := r
      dsimp only at *
      have step : ∀ Q, ∃ v5 : Int, v5 = (if ¬ v = 0 ∧ ¬ ip_w v3 = 0 then 1 else 0) ∧ ip_wp (d + 3) 145 3 [some (.ref 62), some (vi v), l2] [] 79 (y_P S h t a op 0 fl) R (ip_up L 62 24 w) Q = ip_wp (d + 3) 145 3 [some (.ref 62), some (vi v5), some (vi v3)] [] 79 (y_P S h3 t3 a3 op bd3 fl3) R (ip_up L 62 24 w3) Q := fun Q => by
        refine ⟨_, rfl, ?_⟩
        rw [s145_3]
        by_cases z1 : v = 0
        · by_cases z2 : ip_w v3 = 0
          · simp (disch := omega) only [s145_0, s145_1, s145_2, s145_4, s145_5, s145_6, s145_7, s145_8, s145_9, s145_10, s145_11, s145_12, s145_13, s145_14, s145_15, s145_16, s145_17, s145_18, s145_19, s145_20, s145_21, s145_22, s145_23, s145_24, s145_25, s145_26, s145_27, s145_28, s145_29, ↓reduceIte, Bool.true_eq_false, Bool.false_eq_true, ip_rfS, true_or, or_true, true_and, and_true, Option.toList_some, Option.toList_none, List.cons_append, List.nil_append, ip_fxn, ip_fxi, ip_fxr, ip_fxl, ip_wid, ip_n998, ip_lt900, iO0, iO1, iA2, iA3, iA4, iA5, iA6, iA7, iA8, iO9, iA10, iA11, iA12, iA13, iA14, iA15, iA16, iO17, iA18, iO19, iA20, iA21, iA22, iA23, iO24, iA25, iO26, iA27, iA28, iO29, iA30, iA31, iO32, iA33, iA34, iO35, iA36, iA37, iO38, iA39, iA40, iO41, iA42, iA43, iO44, iA45, iA46, iA47, iA48, iA49, iA50, iA51, iA52, iA53, iO54, iA55, iO56, iA57, iO58, iA59, iO60, iA61, iO62, iA63, iA64, iA65, iA66, iA67, iA68, iA69, iA70, iA71, iA72, iA73, iA74, iA75, iA76, iA77, iA78, iOT, iAT1, iAT2, iOS, iAS, g, q0, Int.reduceEq, decide_true, show k_n true = 1 from rfl, k2, k3, hv, z1, z2, not_true, not_false_eq_true, and_self, or_self, false_and, and_false, or_true, true_or, if_true, if_false]
          · simp (disch := omega) only [s145_0, s145_1, s145_2, s145_4, s145_5, s145_6, s145_7, s145_8, s145_9, s145_10, s145_11, s145_12, s145_13, s145_14, s145_15, s145_16, s145_17, s145_18, s145_19, s145_20, s145_21, s145_22, s145_23, s145_24, s145_25, s145_26, s145_27, s145_28, s145_29, ↓reduceIte, Bool.true_eq_false, Bool.false_eq_true, ip_rfS, true_or, or_true, true_and, and_true, Option.toList_some, Option.toList_none, List.cons_append, List.nil_append, ip_fxn, ip_fxi, ip_fxr, ip_fxl, ip_wid, ip_n998, ip_lt900, iO0, iO1, iA2, iA3, iA4, iA5, iA6, iA7, iA8, iO9, iA10, iA11, iA12, iA13, iA14, iA15, iA16, iO17, iA18, iO19, iA20, iA21, iA22, iA23, iO24, iA25, iO26, iA27, iA28, iO29, iA30, iA31, iO32, iA33, iA34, iO35, iA36, iA37, iO38, iA39, iA40, iO41, iA42, iA43, iO44, iA45, iA46, iA47, iA48, iA49, iA50, iA51, iA52, iA53, iO54, iA55, iO56, iA57, iO58, iA59, iO60, iA61, iO62, iA63, iA64, iA65, iA66, iA67, iA68, iA69, iA70, iA71, iA72, iA73, iA74, iA75, iA76, iA77, iA78, iOT, iAT1, iAT2, iOS, iAS, g, q0, Int.reduceEq, decide_true, show k_n true = 1 from rfl, k2, k3, hv, z1, z2, not_true, not_false_eq_true, and_self, or_self, false_and, and_false, or_true, true_or, if_true, if_false]
        · by_cases z2 : ip_w v3 = 0
          · simp (disch := omega) only [s145_0, s145_1, s145_2, s145_4, s145_5, s145_6, s145_7, s145_8, s145_9, s145_10, s145_11, s145_12, s145_13, s145_14, s145_15, s145_16, s145_17, s145_18, s145_19, s145_20, s145_21, s145_22, s145_23, s145_24, s145_25, s145_26, s145_27, s145_28, s145_29, ↓reduceIte, Bool.true_eq_false, Bool.false_eq_true, ip_rfS, true_or, or_true, true_and, and_true, Option.toList_some, Option.toList_none, List.cons_append, List.nil_append, ip_fxn, ip_fxi, ip_fxr, ip_fxl, ip_wid, ip_n998, ip_lt900, iO0, iO1, iA2, iA3, iA4, iA5, iA6, iA7, iA8, iO9, iA10, iA11, iA12, iA13, iA14, iA15, iA16, iO17, iA18, iO19, iA20, iA21, iA22, iA23, iO24, iA25, iO26, iA27, iA28, iO29, iA30, iA31, iO32, iA33, iA34, iO35, iA36, iA37, iO38, iA39, iA40, iO41, iA42, iA43, iO44, iA45, iA46, iA47, iA48, iA49, iA50, iA51, iA52, iA53, iO54, iA55, iO56, iA57, iO58, iA59, iO60, iA61, iO62, iA63, iA64, iA65, iA66, iA67, iA68, iA69, iA70, iA71, iA72, iA73, iA74, iA75, iA76, iA77, iA78, iOT, iAT1, iAT2, iOS, iAS, g, q0, Int.reduceEq, decide_true, show k_n true = 1 from rfl, k2, k3, hv, z1, z2, not_true, not_false_eq_true, and_self, or_self, false_and, and_false, or_true, true_or, if_true, if_false]
          · simp (disch := omega) only [s145_0, s145_1, s145_2, s145_4, s145_5, s145_6, s145_7, s145_8, s145_9, s145_10, s145_11, s145_12, s145_13, s145_14, s145_15, s145_16, s145_17, s145_18, s145_19, s145_20, s145_21, s145_22, s145_23, s145_24, s145_25, s145_26, s145_27, s145_28, s145_29, ↓reduceIte, Bool.true_eq_false, Bool.false_eq_true, ip_rfS, true_or, or_true, true_and, and_true, Option.toList_some, Option.toList_none, List.cons_append, List.nil_append, ip_fxn, ip_fxi, ip_fxr, ip_fxl, ip_wid, ip_n998, ip_lt900, iO0, iO1, iA2, iA3, iA4, iA5, iA6, iA7, iA8, iO9, iA10, iA11, iA12, iA13, iA14, iA15, iA16, iO17, iA18, iO19, iA20, iA21, iA22, iA23, iO24, iA25, iO26, iA27, iA28, iO29, iA30, iA31, iO32, iA33, iA34, iO35, iA36, iA37, iO38, iA39, iA40, iO41, iA42, iA43, iO44, iA45, iA46, iA47, iA48, iA49, iA50, iA51, iA52, iA53, iO54, iA55, iO56, iA57, iO58, iA59, iO60, iA61, iO62, iA63, iA64, iA65, iA66, iA67, iA68, iA69, iA70, iA71, iA72, iA73, iA74, iA75, iA76, iA77, iA78, iOT, iAT1, iAT2, iOS, iAS, g, q0, Int.reduceEq, decide_true, show k_n true = 1 from rfl, k2, k3, hv, z1, z2, not_true, not_false_eq_true, and_self, or_self, false_and, and_false, or_true, true_or, if_true, if_false]
      cases ft
      · obtain ⟨b1, b2⟩ := r2 rfl
        have hL0 : x_loop T la (x_is 4) (fun _ => -26) f0 f false jn = (false, jn, []) := by cases f <;> simp [x_loop]
        rw [hL0]
        refine ⟨⟨by dsimp only; omega, i2⟩, (if ¬ v = 0 ∧ ¬ ip_w v3 = 0 then 1 else 0), h3, t3, a3, w3, bd3, fl3, ⟨fun z => (by cases z), fun _ => ⟨b1, b2⟩⟩, fun Q => ?_⟩
        obtain ⟨v5, e5, k5⟩ := step Q
        subst b1
        rw [k5, s145_3, e5]
        simp (disch := omega) only [s145_0, s145_1, s145_2, s145_4, s145_5, s145_6, s145_7, s145_8, s145_9, s145_10, s145_11, s145_12, s145_13, s145_14, s145_15, s145_16, s145_17, s145_18, s145_19, s145_20, s145_21, s145_22, s145_23, s145_24, s145_25, s145_26, s145_27, s145_28, s145_29, ↓reduceIte, Bool.true_eq_false, Bool.false_eq_true, ip_rfS, true_or, or_true, true_and, and_true, Option.toList_some, Option.toList_none, List.cons_append, List.nil_append, ip_fxn, ip_fxi, ip_fxr, ip_fxl, ip_wid, ip_n998, ip_lt900, iO0, iO1, iA2, iA3, iA4, iA5, iA6, iA7, iA8, iO9, iA10, iA11, iA12, iA13, iA14, iA15, iA16, iO17, iA18, iO19, iA20, iA21, iA22, iA23, iO24, iA25, iO26, iA27, iA28, iO29, iA30, iA31, iO32, iA33, iA34, iO35, iA36, iA37, iO38, iA39, iA40, iO41, iA42, iA43, iO44, iA45, iA46, iA47, iA48, iA49, iA50, iA51, iA52, iA53, iO54, iA55, iO56, iA57, iO58, iA59, iO60, iA61, iO62, iA63, iA64, iA65, iA66, iA67, iA68, iA69, iA70, iA71, iA72, iA73, iA74, iA75, iA76, iA77, iA78, iOT, iAT1, iAT2, iOS, iAS, q140b]
      · obtain ⟨b1, J3, vw, vv⟩ := r1 rfl
        subst b1
        have hev : v_jn (-26) v v3 = (if ¬ v = 0 ∧ ¬ ip_w v3 = 0 then 1 else 0) := by
          rw [vw]
          simp only [v_jn, Int.reduceEq, Int.reduceNeg, if_true, if_false]
        obtain ⟨⟨e1, e2⟩, v4, h4, t4, a4, w4, bd4, fl4, res, k4⟩ := y145l hM hC hs f jn h3 t3 a3 w3 fl3 (v_jn (-26) v v3) (O ++ (on ++ [-26])) (some (vi v3)) (by omega) i2 (by have := i3 rfl; omega) J3 v_jnw (y_val2 hO vv (by omega))
        rw [hev] at k4
        rw [List.append_assoc, List.append_assoc, List.singleton_append] at res
        refine ⟨⟨by omega, e2⟩, v4, h4, t4, a4, w4, bd4, fl4, res, fun Q => ?_⟩
        obtain ⟨v5, e5, k5⟩ := step Q
        rw [k5, e5, k4 Q]
    · have hL : x_loop T la (x_is 4) (fun _ => -26) f0 (f + 1) true j = (true, j, []) := by
        rw [x_loop, if_neg (by simp [x_is, x_pm, q0])]
      rw [hL]
      refine ⟨⟨Int.le_refl _, hj2⟩, v, h, t, a, w, 0, fl, ⟨fun _ => ⟨rfl, J, hv, by rw [List.append_nil]; exact hO⟩, fun z => (by cases z)⟩, fun Q => ?_⟩
      rw [s145_3]
      simp (disch := omega) only [s145_0, s145_1, s145_2, s145_4, s145_5, s145_6, s145_7, s145_8, s145_9, s145_10, s145_11, s145_12, s145_13, s145_14, s145_15, s145_16, s145_17, s145_18, s145_19, s145_20, s145_21, s145_22, s145_23, s145_24, s145_25, s145_26, s145_27, s145_28, s145_29, ↓reduceIte, Bool.true_eq_false, Bool.false_eq_true, ip_rfS, true_or, or_true, true_and, and_true, Option.toList_some, Option.toList_none, List.cons_append, List.nil_append, ip_fxn, ip_fxi, ip_fxr, ip_fxl, ip_wid, ip_n998, ip_lt900, iO0, iO1, iA2, iA3, iA4, iA5, iA6, iA7, iA8, iO9, iA10, iA11, iA12, iA13, iA14, iA15, iA16, iO17, iA18, iO19, iA20, iA21, iA22, iA23, iO24, iA25, iO26, iA27, iA28, iO29, iA30, iA31, iO32, iA33, iA34, iO35, iA36, iA37, iO38, iA39, iA40, iO41, iA42, iA43, iO44, iA45, iA46, iA47, iA48, iA49, iA50, iA51, iA52, iA53, iO54, iA55, iO56, iA57, iO58, iA59, iO60, iA61, iO62, iA63, iA64, iA65, iA66, iA67, iA68, iA69, iA70, iA71, iA72, iA73, iA74, iA75, iA76, iA77, iA78, iOT, iAT1, iAT2, iOS, iAS, g, q0, decide_false, show k_n false = 0 from rfl]
theorem y145 {f0 : Int → x_PR} (hM : x_RM R) (hC : y_C S b sz T P N la) (hs : y_ok S R L b sz T P N la (d + 3) 146 op f0) : y_ok S R L b sz T P N la (d + 4) 145 op (x_rep T la (x_is 4) (fun _ => -26) f0) := by
  intro j h t a w fl hj hj2 J
  obtain ⟨⟨i1, i2, i3⟩, v3, h3, t3, a3, w3, bd3, fl3, ⟨r1, r2⟩, k3⟩ := hs j h t a w fl hj hj2 J
  have hla := hC.2.1.2.1
  have hsz := hC.1.2.2.1
  unfold x_rep
  generalize f0 j = r at *
  obtain ⟨ft, jn, on⟩ := r
  dsimp only at *
  cases ft
  · obtain ⟨b1, b2⟩ := r2 rfl
    subst b1
    have hL0 : x_loop T la (x_is 4) (fun _ => -26) f0 160 false jn = (false, jn, []) := by simp [x_loop]
    rw [hL0]
    refine ⟨⟨i1, i2, fun z => (by cases z)⟩, v3, h3, t3, a3, w3, 1, fl3, ⟨fun z => (by cases z), fun _ => ⟨rfl, b2⟩⟩, fun Q => ?_⟩
    simp (disch := omega) only [c145, s145_0, s145_1, s145_2, s145_3, s145_4, s145_5, s145_6, s145_7, s145_8, s145_9, s145_10, s145_11, s145_12, s145_13, s145_14, s145_15, s145_16, s145_17, s145_18, s145_19, s145_20, s145_21, s145_22, s145_23, s145_24, s145_25, s145_26, s145_27, s145_28, s145_29, ↓reduceIte, Bool.true_eq_false, Bool.false_eq_true, ip_rfS, true_or, or_true, true_and, and_true, Option.toList_some, Option.toList_none, List.cons_append, List.nil_append, ip_fxn, ip_fxi, ip_fxr, ip_fxl, ip_wid, ip_n998, ip_lt900, iO0, iO1, iA2, iA3, iA4, iA5, iA6, iA7, iA8, iO9, iA10, iA11, iA12, iA13, iA14, iA15, iA16, iO17, iA18, iO19, iA20, iA21, iA22, iA23, iO24, iA25, iO26, iA27, iA28, iO29, iA30, iA31, iO32, iA33, iA34, iO35, iA36, iA37, iO38, iA39, iA40, iO41, iA42, iA43, iO44, iA45, iA46, iA47, iA48, iA49, iA50, iA51, iA52, iA53, iO54, iA55, iO56, iA57, iO58, iA59, iO60, iA61, iO62, iA63, iA64, iA65, iA66, iA67, iA68, iA69, iA70, iA71, iA72, iA73, iA74, iA75, iA76, iA77, iA78, iOT, iAT1, iAT2, iOS, iAS, k3, q140b]
  · obtain ⟨b1, J3, vw, vv⟩ := r1 rfl
    subst b1
    have h3j := i3 rfl
    obtain ⟨⟨e1, e2⟩, v4, h4, t4, a4, w4, bd4, fl4, res, k4⟩ := y145l (d := d) hM hC hs 160 jn h3 t3 a3 w3 fl3 v3 on none (by omega) i2 (by omega) J3 vw vv
    refine ⟨⟨by dsimp only; omega, e2, fun _ => by dsimp only; omega⟩, v4, h4, t4, a4, w4, bd4, fl4, res, fun Q => ?_⟩
    simp (disch := omega) only [c145, s145_0, s145_1, s145_2, ↓reduceIte, Bool.true_eq_false, Bool.false_eq_true, ip_rfS, true_or, or_true, true_and, and_true, Option.toList_some, Option.toList_none, List.cons_append, List.nil_append, ip_fxn, ip_fxi, ip_fxr, ip_fxl, ip_wid, ip_n998, ip_lt900, iO0, iO1, iA2, iA3, iA4, iA5, iA6, iA7, iA8, iO9, iA10, iA11, iA12, iA13, iA14, iA15, iA16, iO17, iA18, iO19, iA20, iA21, iA22, iA23, iO24, iA25, iO26, iA27, iA28, iO29, iA30, iA31, iO32, iA33, iA34, iO35, iA36, iA37, iO38, iA39, iA40, iO41, iA42, iA43, iO44, iA45, iA46, iA47, iA48, iA49, iA50, iA51, iA52, iA53, iO54, iA55, iO56, iA57, iO58, iA59, iO60, iA61, iO62, iA63, iA64, iA65, iA66, iA67, iA68, iA69, iA70, iA71, iA72, iA73, iA74, iA75, iA76, iA77, iA78, iOT, iAT1, iAT2, iOS, iAS, k3, k4]

theorem y144l {f0 : Int → x_PR} (hM : x_RM R) (hC : y_C S b sz T P N la) (hs : y_ok S R L b sz T P N la (d + 3) 145 op f0) : ∀ (f : Nat) (j h t a w fl v : Int) (O : List Int) (l2 : Option Value), 0 ≤ j → j ≤ la → la + 1 ≤ j + f → y_J b sz T P N la j h t a w → ip_w v = v → y_val (y_nam S) O v →
    (j ≤ (x_loop T la (x_is 3) (fun _ => -27) f0 f true j).2.1 ∧ (x_loop T la (x_is 3) (fun _ => -27) f0 f true j).2.1 ≤ la) ∧ ∃ v' h' t' a' w' bd' fl', y_res S b sz T P N la ((x_loop T la (x_is 3) (fun _ => -27) f0 f true j).1, (x_loop T la (x_is 3) (fun _ => -27) f0 f true j).2.1, O ++ (x_loop T la (x_is 3) (fun _ => -27) f0 f true j).2.2) v' h' t' a' w' bd' fl' ∧
      ∀ Q, ip_wp (d + 3) 144 3 [some (.ref 62), some (vi v), l2] [] 79 (y_P S h t a op 0 fl) R (ip_up L 62 24 w) Q = Q (some (vi v')) 79 (y_P S h' t' a' op bd' fl') R (ip_up L 62 24 w')
  | 0, j, h, t, a, w, fl, v, O, l2, hj, hj2, hf, J, hv, hO => by omega
  | f + 1, j, h, t, a, w, fl, v, O, l2, hj, hj2, hf, J, hv, hO => by
    have g := fun Q' => q140 (d := d) (op := op) (fl := fl) (L' := ip_up L 62 24 w) (Q := Q') 3 (by omega) (ki := 3) rfl yW3 hM hC hj J (by omega) (by omega) (by omega) (by omega) (by omega) (by omega) (by omega) (by omega)
    by_cases q0 : T j = 3
    · obtain ⟨n1, n2, h2, t2, a2, w2, J2, k2⟩ := q138 (d := d) (L := L) hM hC hj J (by omega) (by omega)
      obtain ⟨⟨i1, i2, i3⟩, v3, h3, t3, a3, w3, bd3, fl3, ⟨r1, r2⟩, k3⟩ := hs (j + 1) h2 t2 a2 w2 fl (by omega) (by omega) J2
      have hL : x_loop T la (x_is 3) (fun _ => -27) f0 (f + 1) true j = ((x_loop T la (x_is 3) (fun _ => -27) f0 f (f0 (j + 1)).1 (f0 (j + 1)).2.1).1, (x_loop T la (x_is 3) (fun _ => -27) f0 f (f0 (j + 1)).1 (f0 (j + 1)).2.1).2.1, (f0 (j + 1)).2.2 ++ -27 :: (x_loop T la (x_is 3) (fun _ => -27) f0 f (f0 (j + 1)).1 (f0 (j + 1)).2.1).2.2) := by
        rw [x_loop, if_pos (by simp [x_is, x_pm, q0]), n2]
        try simp only [x_pmc, q0, Int.reduceEq, if_true, if_false]
      rw [hL]
      generalize f0 (j + 1) = r at *
      obtain ⟨ft, jn, on⟩ := r
      dsimp only at *
      have step : ∀ Q, ∃ v5 : Int, v5 = (if ¬ v = 0 ∨ ¬ ip_w v3 = 0 then 1 else 0) ∧ ip_wp (d + 3) 144 3 [some (.ref 62), some (vi v), l2] [] 79 (y_P S h t a op 0 fl) R (ip_up L 62 24 w) Q = ip_wp (d + 3) 144 3 [some (.ref 62), some (vi v5), some (vi v3)] [] 79 (y_P S h3 t3 a3 op bd3 fl3) R (ip_up L 62 24 w3) Q := fun Q => by
        refine ⟨_, rfl, ?_⟩
        rw [s144_3]
        by_cases z1 : v = 0
        · by_cases z2 : ip_w v3 = 0
          · simp (disch := omega) only [s144_0, s144_1, s144_2, s144_4, s144_5, s144_6, s144_7, s144_8, s144_9, s144_10, s144_11, s144_12, s144_13, s144_14, s144_15, s144_16, s144_17, s144_18, s144_19, s144_20, s144_21, s144_22, s144_23, s144_24, s144_25, s144_26, s144_27, s144_28, s144_29, ↓reduceIte, Bool.true_eq_false, Bool.false_eq_true, ip_rfS, true_or, or_true, true_and, and_true, Option.toList_some, Option.toList_none, List.cons_append, List.nil_append, ip_fxn, ip_fxi, ip_fxr, ip_fxl, ip_wid, ip_n998, ip_lt900, iO0, iO1, iA2, iA3, iA4, iA5, iA6, iA7, iA8, iO9, iA10, iA11, iA12, iA13, iA14, iA15, iA16, iO17, iA18, iO19, iA20, iA21, iA22, iA23, iO24, iA25, iO26, iA27, iA28, iO29, iA30, iA31, iO32, iA33, iA34, iO35, iA36, iA37, iO38, iA39, iA40, iO41, iA42, iA43, iO44, iA45, iA46, iA47, iA48, iA49, iA50, iA51, iA52, iA53, iO54, iA55, iO56, iA57, iO58, iA59, iO60, iA61, iO62, iA63, iA64, iA65, iA66, iA67, iA68, iA69, iA70, iA71, iA72, iA73, iA74, iA75, iA76, iA77, iA78, iOT, iAT1, iAT2, iOS, iAS, g, q0, Int.reduceEq, decide_true, show k_n true = 1 from rfl, k2, k3, hv, z1, z2, not_true, not_false_eq_true, and_self, or_self, false_and, and_false, or_true, true_or, if_true, if_false]
          · simp (disch := omega) only [s144_0, s144_1, s144_2, s144_4, s144_5, s144_6, s144_7, s144_8, s144_9, s144_10, s144_11, s144_12, s144_13, s144_14, s144_15, s144_16, s144_17, s144_18, s144_19, s144_20, s144_21, s144_22, s144_23, s144_24, s144_25, s144_26, s144_27, s144_28, s144_29, ↓reduceIte, Bool.true_eq_false, Bool.false_eq_true, ip_rfS, true_or, or_true, true_and, and_true, Option.toList_some, Option.toList_none, List.cons_append, List.nil_append, ip_fxn, ip_fxi, ip_fxr, ip_fxl, ip_wid, ip_n998, ip_lt900, iO0, iO1, iA2, iA3, iA4, iA5, iA6, iA7, iA8, iO9, iA10, iA11, iA12, iA13, iA14, iA15, iA16, iO17, iA18, iO19, iA20, iA21, iA22, iA23, iO24, iA25, iO26, iA27, iA28, iO29, iA30, iA31, iO32, iA33, iA34, iO35, iA36, iA37, iO38, iA39, iA40, iO41, iA42, iA43, iO44, iA45, iA46, iA47, iA48, iA49, iA50, iA51, iA52, iA53, iO54, iA55, iO56, iA57, iO58, iA59, iO60, iA61, iO62, iA63, iA64, iA65, iA66, iA67, iA68, iA69, iA70, iA71, iA72, iA73, iA74, iA75, iA76, iA77, iA78, iOT, iAT1, iAT2, iOS, iAS, g, q0, Int.reduceEq, decide_true, show k_n true = 1 from rfl, k2, k3, hv, z1, z2, not_true, not_false_eq_true, and_self, or_self, false_and, and_false, or_true, true_or, if_true, if_false]
        · by_cases z2 : ip_w v3 = 0
          · simp (disch := omega) only [s144_0, s144_1, s144_2, s144_4, s144_5, s144_6, s144_7, s144_8, s144_9, s144_10, s144_11, s144_12, s144_13, s144_14, s144_15, s144_16, s144_17, s144_18, s144_19, s144_20, s144_21, s144_22, s144_23, s144_24, s144_25, s144_26, s144_27, s144_28, s144_29, ↓reduceIte, Bool.true_eq_false, Bool.false_eq_true, ip_rfS, true_or, or_true, true_and, and_true, Option.toList_some, Option.toList_none, List.cons_append, List.nil_append, ip_fxn, ip_fxi, ip_fxr, ip_fxl, ip_wid, ip_n998, ip_lt900, iO0, iO1, iA2, iA3, iA4, iA5, iA6, iA7, iA8, iO9, iA10, iA11, iA12, iA13, iA14, iA15, iA16, iO17, iA18, iO19, iA20, iA21, iA22, iA23, iO24, iA25, iO26, iA27, iA28, iO29, iA30, iA31, iO32, iA33, iA34, iO35, iA36, iA37, iO38, iA39, iA40, iO41, iA42, iA43, iO44, iA45, iA46, iA47, iA48, iA49, iA50, iA51, iA52, iA53, iO54, iA55, iO56, iA57, iO58, iA59, iO60, iA61, iO62, iA63, iA64, iA65, iA66, iA67, iA68, iA69, iA70, iA71, iA72, iA73, iA74, iA75, iA76, iA77, iA78, iOT, iAT1, iAT2, iOS, iAS, g, q0, Int.reduceEq, decide_true, show k_n true = 1 from rfl, k2, k3, hv, z1, z2, not_true, not_false_eq_true, and_self, or_self, false_and, and_false, or_true, true_or, if_true, if_false]
          · simp (disch := omega) only [s144_0, s144_1, s144_2, s144_4, s144_5, s144_6, s144_7, s144_8, s144_9, s144_10, s144_11, s144_12, s144_13, s144_14, s144_15, s144_16, s144_17, s144_18, s144_19, s144_20, s144_21, s144_22, s144_23, s144_24, s144_25, s144_26, s144_27, s144_28, s144_29, ↓reduceIte, Bool.true_eq_false, Bool.false_eq_true, ip_rfS, true_or, or_true, true_and, and_true, Option.toList_some, Option.toList_none, List.cons_append, List.nil_append, ip_fxn, ip_fxi, ip_fxr, ip_fxl, ip_wid, ip_n998, ip_lt900, iO0, iO1, iA2, iA3, iA4, iA5, iA6, iA7, iA8, iO9, iA10, iA11, iA12, iA13, iA14, iA15, iA16, iO17, iA18, iO19, iA20, iA21, iA22, iA23, iO24, iA25, iO26, iA27, iA28, iO29, iA30, iA31, iO32, iA33, iA34, iO35, iA36, iA37, iO38, iA39, iA40, iO41, iA42, iA43, iO44, iA45, iA46, iA47, iA48, iA49, iA50, iA51, iA52, iA53, iO54, iA55, iO56, iA57, iO58, iA59, iO60, iA61, iO62, iA63, iA64, iA65, iA66, iA67, iA68, iA69, iA70, iA71, iA72, iA73, iA74, iA75, iA76, iA77, iA78, iOT, iAT1, iAT2, iOS, iAS, g, q0, Int.reduceEq, decide_true, show k_n true = 1 from rfl, k2, k3, hv, z1, z2, not_true, not_false_eq_true, and_self, or_self, false_and, and_false, or_true, true_or, if_true, if_false]
      cases ft
      · obtain ⟨b1, b2⟩ := r2 rfl
        have hL0 : x_loop T la (x_is 3) (fun _ => -27) f0 f false jn = (false, jn, []) := by cases f <;> simp [x_loop]
        rw [hL0]
        refine ⟨⟨by dsimp only; omega, i2⟩, (if ¬ v = 0 ∨ ¬ ip_w v3 = 0 then 1 else 0), h3, t3, a3, w3, bd3, fl3, ⟨fun z => (by cases z), fun _ => ⟨b1, b2⟩⟩, fun Q => ?_⟩
        obtain ⟨v5, e5, k5⟩ := step Q
        subst b1
        rw [k5, s144_3, e5]
        simp (disch := omega) only [s144_0, s144_1, s144_2, s144_4, s144_5, s144_6, s144_7, s144_8, s144_9, s144_10, s144_11, s144_12, s144_13, s144_14, s144_15, s144_16, s144_17, s144_18, s144_19, s144_20, s144_21, s144_22, s144_23, s144_24, s144_25, s144_26, s144_27, s144_28, s144_29, ↓reduceIte, Bool.true_eq_false, Bool.false_eq_true, ip_rfS, true_or, or_true, true_and, and_true, Option.toList_some, Option.toList_none, List.cons_append, List.nil_append, ip_fxn, ip_fxi, ip_fxr, ip_fxl, ip_wid, ip_n998, ip_lt900, iO0, iO1, iA2, iA3, iA4, iA5, iA6, iA7, iA8, iO9, iA10, iA11, iA12, iA13, iA14, iA15, iA16, iO17, iA18, iO19, iA20, iA21, iA22, iA23, iO24, iA25, iO26, iA27, iA28, iO29, iA30, iA31, iO32, iA33, iA34, iO35, iA36, iA37, iO38, iA39, iA40, iO41, iA42, iA43, iO44, iA45, iA46, iA47, iA48, iA49, iA50, iA51, iA52, iA53, iO54, iA55, iO56, iA57, iO58, iA59, iO60, iA61, iO62, iA63, iA64, iA65, iA66, iA67, iA68, iA69, iA70, iA71, iA72, iA73, iA74, iA75, iA76, iA77, iA78, iOT, iAT1, iAT2, iOS, iAS, q140b]
      · obtain ⟨b1, J3, vw, vv⟩ := r1 rfl
        subst b1
        have hev : v_jn (-27) v v3 = (if ¬ v = 0 ∨ ¬ ip_w v3 = 0 then 1 else 0) := by
          rw [vw]
          simp only [v_jn, Int.reduceEq, Int.reduceNeg, if_true, if_false]
        obtain ⟨⟨e1, e2⟩, v4, h4, t4, a4, w4, bd4, fl4, res, k4⟩ := y144l hM hC hs f jn h3 t3 a3 w3 fl3 (v_jn (-27) v v3) (O ++ (on ++ [-27])) (some (vi v3)) (by omega) i2 (by have := i3 rfl; omega) J3 v_jnw (y_val2 hO vv (by omega))
        rw [hev] at k4
        rw [List.append_assoc, List.append_assoc, List.singleton_append] at res
        refine ⟨⟨by omega, e2⟩, v4, h4, t4, a4, w4, bd4, fl4, res, fun Q => ?_⟩
        obtain ⟨v5, e5, k5⟩ := step Q
        rw [k5, e5, k4 Q]
    · have hL : x_loop T la (x_is 3) (fun _ => -27) f0 (f + 1) true j = (true, j, []) := by
        rw [x_loop, if_neg (by simp [x_is, x_pm, q0])]
      rw [hL]
      refine ⟨⟨Int.le_refl _, hj2⟩, v, h, t, a, w, 0, fl, ⟨fun _ => ⟨rfl, J, hv, by rw [List.append_nil]; exact hO⟩, fun z => (by cases z)⟩, fun Q => ?_⟩
      rw [s144_3]
      simp (disch := omega) only [s144_0, s144_1, s144_2, s144_4, s144_5, s144_6, s144_7, s144_8, s144_9, s144_10, s144_11, s144_12, s144_13, s144_14, s144_15, s144_16, s144_17, s144_18, s144_19, s144_20, s144_21, s144_22, s144_23, s144_24, s144_25, s144_26, s144_27, s144_28, s144_29, ↓reduceIte, Bool.true_eq_false, Bool.false_eq_true, ip_rfS, true_or, or_true, true_and, and_true, Option.toList_some, Option.toList_none, List.cons_append, List.nil_append, ip_fxn, ip_fxi, ip_fxr, ip_fxl, ip_wid, ip_n998, ip_lt900, iO0, iO1, iA2, iA3, iA4, iA5, iA6, iA7, iA8, iO9, iA10, iA11, iA12, iA13, iA14, iA15, iA16, iO17, iA18, iO19, iA20, iA21, iA22, iA23, iO24, iA25, iO26, iA27, iA28, iO29, iA30, iA31, iO32, iA33, iA34, iO35, iA36, iA37, iO38, iA39, iA40, iO41, iA42, iA43, iO44, iA45, iA46, iA47, iA48, iA49, iA50, iA51, iA52, iA53, iO54, iA55, iO56, iA57, iO58, iA59, iO60, iA61, iO62, iA63, iA64, iA65, iA66, iA67, iA68, iA69, iA70, iA71, iA72, iA73, iA74, iA75, iA76, iA77, iA78, iOT, iAT1, iAT2, iOS, iAS, g, q0, decide_false, show k_n false = 0 from rfl]
theorem y144 {f0 : Int → x_PR} (hM : x_RM R) (hC : y_C S b sz T P N la) (hs : y_ok S R L b sz T P N la (d + 3) 145 op f0) : y_ok S R L b sz T P N la (d + 4) 144 op (x_rep T la (x_is 3) (fun _ => -27) f0) := by
  intro j h t a w fl hj hj2 J
  obtain ⟨⟨i1, i2, i3⟩, v3, h3, t3, a3, w3, bd3, fl3, ⟨r1, r2⟩, k3⟩ := hs j h t a w fl hj hj2 J
  have hla := hC.2.1.2.1
  have hsz := hC.1.2.2.1
  unfold x_rep
  generalize f0 j = r at *
  obtain ⟨ft, jn, on⟩ := r
  dsimp only at *
  cases ft
  · obtain ⟨b1, b2⟩ := r2 rfl
    subst b1
    have hL0 : x_loop T la (x_is 3) (fun _ => -27) f0 160 false jn = (false, jn, []) := by simp [x_loop]
    rw [hL0]
    refine ⟨⟨i1, i2, fun z => (by cases z)⟩, v3, h3, t3, a3, w3, 1, fl3, ⟨fun z => (by cases z), fun _ => ⟨rfl, b2⟩⟩, fun Q => ?_⟩
    simp (disch := omega) only [c144, s144_0, s144_1, s144_2, s144_3, s144_4, s144_5, s144_6, s144_7, s144_8, s144_9, s144_10, s144_11, s144_12, s144_13, s144_14, s144_15, s144_16, s144_17, s144_18, s144_19, s144_20, s144_21, s144_22, s144_23, s144_24, s144_25, s144_26, s144_27, s144_28, s144_29, ↓reduceIte, Bool.true_eq_false, Bool.false_eq_true, ip_rfS, true_or, or_true, true_and, and_true, Option.toList_some, Option.toList_none, List.cons_append, List.nil_append, ip_fxn, ip_fxi, ip_fxr, ip_fxl, ip_wid, ip_n998, ip_lt900, iO0, iO1, iA2, iA3, iA4, iA5, iA6, iA7, iA8, iO9, iA10, iA11, iA12, iA13, iA14, iA15, iA16, iO17, iA18, iO19, iA20, iA21, iA22, iA23, iO24, iA25, iO26, iA27, iA28, iO29, iA30, iA31, iO32, iA33, iA34, iO35, iA36, iA37, iO38, iA39, iA40, iO41, iA42, iA43, iO44, iA45, iA46, iA47, iA48, iA49, iA50, iA51, iA52, iA53, iO54, iA55, iO56, iA57, iO58, iA59, iO60, iA61, iO62, iA63, iA64, iA65, iA66, iA67, iA68, iA69, iA70, iA71, iA72, iA73, iA74, iA75, iA76, iA77, iA78, iOT, iAT1, iAT2, iOS, iAS, k3, q140b]
  · obtain ⟨b1, J3, vw, vv⟩ := r1 rfl
    subst b1
    have h3j := i3 rfl
    obtain ⟨⟨e1, e2⟩, v4, h4, t4, a4, w4, bd4, fl4, res, k4⟩ := y144l (d := d) hM hC hs 160 jn h3 t3 a3 w3 fl3 v3 on none (by omega) i2 (by omega) J3 vw vv
    refine ⟨⟨by dsimp only; omega, e2, fun _ => by dsimp only; omega⟩, v4, h4, t4, a4, w4, bd4, fl4, res, fun Q => ?_⟩
    simp (disch := omega) only [c144, s144_0, s144_1, s144_2, ↓reduceIte, Bool.true_eq_false, Bool.false_eq_true, ip_rfS, true_or, or_true, true_and, and_true, Option.toList_some, Option.toList_none, List.cons_append, List.nil_append, ip_fxn, ip_fxi, ip_fxr, ip_fxl, ip_wid, ip_n998, ip_lt900, iO0, iO1, iA2, iA3, iA4, iA5, iA6, iA7, iA8, iO9, iA10, iA11, iA12, iA13, iA14, iA15, iA16, iO17, iA18, iO19, iA20, iA21, iA22, iA23, iO24, iA25, iO26, iA27, iA28, iO29, iA30, iA31, iO32, iA33, iA34, iO35, iA36, iA37, iO38, iA39, iA40, iO41, iA42, iA43, iO44, iA45, iA46, iA47, iA48, iA49, iA50, iA51, iA52, iA53, iO54, iA55, iO56, iA57, iO58, iA59, iO60, iA61, iO62, iA63, iA64, iA65, iA66, iA67, iA68, iA69, iA70, iA71, iA72, iA73, iA74, iA75, iA76, iA77, iA78, iOT, iAT1, iAT2, iOS, iAS, k3, k4]

end LV0
