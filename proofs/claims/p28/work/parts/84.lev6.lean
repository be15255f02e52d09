/-! level 3 -/
section LV3
variable {d : Nat} {S : ip_S} {R : ip_R} {L : ip_S} {b : Int → Int} {sz : Int} {T P N : Int → Int} {la j h t a w op bd fl : Int}
theorem y165 {one ee : Int → x_PR} (ho : 0 ≤ op ∧ op < 5) (hM : x_RM R) (hC : y_C S b sz T P N la) (hs : y_ok S R L b sz T P N la (d + 5) 160 (op + 1) one) (he : y_ok S R L b sz T P N la (d + 5) 166 (op + 1) ee) : y_ok S R L b sz T P N la (d + 6) 165 op (x_one T N la (x_opn T la one ee)) := by
  intro j h t a w fl hj hj2 J
  have hla := hC.2.1.2.1
  have hsz := hC.1.2.2.1
  have hjr := J.2.1
  have htr := y_Jt J
  have g1 := fun Q' => q156 (d := d + 4) (S := S) (R := R) (L := L) (op := op) (fl := fl) (Q := Q') J (s := 45) (by omega)
  have g2 := fun Q' => q156 (d := d + 4) (S := S) (R := R) (L := L) (op := op) (fl := fl) (Q := Q') J (s := 40) (by omega)
  have kt : k_n true = 1 := rfl
  have kf : k_n false = 0 := rfl
  by_cases q1 : T j = 20
  · have hL : x_one T N la (x_opn T la one ee) j = (true, j + 1, [N j]) := by
      obtain ⟨n1, n2, -⟩ := q138 (d := d) (L := L) hM hC hj J (by omega) (by omega)
      rw [x_one, if_pos q1, n2]
    obtain ⟨n1, n2, h2, t2, a2, w2, J2, k2⟩ := q138 (d := d + 2) (L := L) hM hC hj J (by omega) (by omega)
    rw [hL]
    have e : t = 2 ∧ w = N j ∧ ip_w w = w ∧ 0 ≤ w := by
      obtain ⟨-, -, J⟩ := J
      rcases J with J | J | J | J | J
      all_goals first | omega | exact ⟨J.2.2.1, J.2.2.2.1, J.2.2.2.2.1, J.2.2.2.2.2.1⟩
    obtain ⟨et, e⟩ := e
    subst et
    have e64 : ip_w64 w = w := by
      have hz := ip_wrange w
      rw [e.2.1] at hz
      exact ip_w64id (by omega) (by omega)
    refine ⟨⟨by dsimp only; omega, by dsimp only; omega, fun _ => by dsimp only; omega⟩, w, h2, t2, a2, w2, 0, fl, ⟨fun _ => ⟨rfl, J2, e.2.1, ?_⟩, fun z => (by cases z)⟩, fun Q => ?_⟩
    · have := y_val0 (F := y_nam S) (c := w) (by omega)
      rw [if_pos e.2.2] at this
      rw [← e.1]
      exact this
    · simp (disch := omega) only [c165, s165_0, s165_1, s165_2, s165_3, s165_4, s165_5, s165_6, s165_7, s165_8, s165_9, s165_10, s165_11, s165_12, s165_13, s165_14, s165_15, s165_16, s165_17, s165_18, s165_19, s165_20, s165_21, s165_22, s165_23, s165_24, s165_25, s165_26, s165_27, s165_28, s165_29, s165_30, s165_31, s165_32, s165_33, s165_34, s165_35, s165_36, s165_37, s165_38, s165_39, s165_40, s165_41, s165_42, s165_43, s165_44, s165_45, s165_46, s165_47, s165_48, s165_49, s165_50, s165_51, s165_52, s165_53, s165_54, s165_55, s165_56, s165_57, s165_58, s165_59, s165_60, s165_61, s165_62, s165_63, s165_64, s165_65, s165_66, s165_67, s165_68, s165_69, s165_70, s165_71, s165_72, s165_73, s165_74, s165_75, s165_76, s165_77, s165_78, s165_79, s165_80, s165_81, ↓reduceIte, Bool.true_eq_false, Bool.false_eq_true, ip_rfS, true_or, or_true, true_and, and_true, Option.toList_some, Option.toList_none, List.cons_append, List.nil_append, ip_fxn, ip_fxi, ip_fxr, ip_fxl, ip_wid, ip_n998, ip_lt900, iO0, iO1, iA2, iA3, iA4, iA5, iA6, iA7, iA8, iO9, iA10, iA11, iA12, iA13, iA14, iA15, iA16, iO17, iA18, iO19, iA20, iA21, iA22, iA23, iO24, iA25, iO26, iA27, iA28, iO29, iA30, iA31, iO32, iA33, iA34, iO35, iA36, iA37, iO38, iA39, iA40, iO41, iA42, iA43, iO44, iA45, iA46, iA47, iA48, iA49, iA50, iA51, iA52, iA53, iO54, iA55, iO56, iA57, iO58, iA59, iO60, iA61, iO62, iA63, iA64, iA65, iA66, iA67, iA68, iA69, iA70, iA71, iA72, iA73, iA74, iA75, iA76, iA77, iA78, iOT, iAT1, iAT2, iOS, iAS, g1, g2, show ¬ T j = 45 by omega, show ¬ T j = 40 by omega, yp_d, yp_t, ip_up_at, e64, k2, Int.reduceEq, decide_true, decide_false, kt, kf]
  · by_cases q2 : 6 ≤ T j ∧ T j < 12
    · obtain ⟨n1, n2, h2, t2, a2, w2, J2, k2⟩ := q138 (d := d + 2) (L := L) hM hC hj J (by omega) (by omega)
      have hL : x_one T N la (x_opn T la one ee) j = (true, j + 1, [-1 - (T j - 6)]) := by rw [x_one, if_neg q1, if_pos q2, n2]
      rw [hL]
      have gn := fun Q' => q157 (d := d + 1) (op := op) (fl := fl) (L' := ip_up L 62 24 w) (Q := Q') hM hC hj J q2
      have e : t = 1 := by
        obtain ⟨-, -, J⟩ := J
        rcases J with J | J | J | J | J
        all_goals first | omega | exact J.2.2.1
      subst e
      refine ⟨⟨by dsimp only; omega, by dsimp only; omega, fun _ => by dsimp only; omega⟩, y_nam S (T j - 6), h2, t2, a2, w2, 0, fl, ⟨fun _ => ⟨rfl, J2, ip_ww _, ?_⟩, fun z => (by cases z)⟩, fun Q => ?_⟩
      · have := y_val0 (F := y_nam S) (c := -1 - (T j - 6)) (by omega)
        rw [if_neg (by omega), show -1 - (-1 - (T j - 6)) = T j - 6 by omega] at this
        exact this
      · simp (disch := omega) only [c165, s165_0, s165_1, s165_2, s165_3, s165_4, s165_5, s165_6, s165_7, s165_8, s165_9, s165_10, s165_11, s165_12, s165_13, s165_14, s165_15, s165_16, s165_17, s165_18, s165_19, s165_20, s165_21, s165_22, s165_23, s165_24, s165_25, s165_26, s165_27, s165_28, s165_29, s165_30, s165_31, s165_32, s165_33, s165_34, s165_35, s165_36, s165_37, s165_38, s165_39, s165_40, s165_41, s165_42, s165_43, s165_44, s165_45, s165_46, s165_47, s165_48, s165_49, s165_50, s165_51, s165_52, s165_53, s165_54, s165_55, s165_56, s165_57, s165_58, s165_59, s165_60, s165_61, s165_62, s165_63, s165_64, s165_65, s165_66, s165_67, s165_68, s165_69, s165_70, s165_71, s165_72, s165_73, s165_74, s165_75, s165_76, s165_77, s165_78, s165_79, s165_80, s165_81, ↓reduceIte, Bool.true_eq_false, Bool.false_eq_true, ip_rfS, true_or, or_true, true_and, and_true, Option.toList_some, Option.toList_none, List.cons_append, List.nil_append, ip_fxn, ip_fxi, ip_fxr, ip_fxl, ip_wid, ip_n998, ip_lt900, iO0, iO1, iA2, iA3, iA4, iA5, iA6, iA7, iA8, iO9, iA10, iA11, iA12, iA13, iA14, iA15, iA16, iO17, iA18, iO19, iA20, iA21, iA22, iA23, iO24, iA25, iO26, iA27, iA28, iO29, iA30, iA31, iO32, iA33, iA34, iO35, iA36, iA37, iO38, iA39, iA40, iO41, iA42, iA43, iO44, iA45, iA46, iA47, iA48, iA49, iA50, iA51, iA52, iA53, iO54, iA55, iO56, iA57, iO58, iA59, iO60, iA61, iO62, iA63, iA64, iA65, iA66, iA67, iA68, iA69, iA70, iA71, iA72, iA73, iA74, iA75, iA76, iA77, iA78, iOT, iAT1, iAT2, iOS, iAS, g1, g2, show ¬ T j = 45 by omega, show ¬ T j = 40 by omega, yp_d, yp_t, gn, k2, Int.reduceEq, decide_true, decide_false, kt, kf]
    · have hL : x_one T N la (x_opn T la one ee) j = x_opn T la one ee j := by rw [x_one, if_neg q1, if_neg q2]
      rw [hL]
      by_cases q3 : T j = 45
      · obtain ⟨n1, n2, h2, t2, a2, w2, J2, k2⟩ := q147 (d := d + 1) (L := L) (op := op) hM hC hj J (by omega) (by omega) ho
        obtain ⟨⟨i1, i2, i3⟩, v3, h3, t3, a3, w3, bd3, fl3, ⟨r1, r2⟩, k3⟩ := hs (j + 1) h2 t2 a2 w2 fl (by omega) (by omega) J2
        have hL2 : x_opn T la one ee j = ((one (j + 1)).1, (one (j + 1)).2.1, (one (j + 1)).2.2 ++ [-11]) := by rw [x_opn, if_pos q3, n2]
        rw [hL2]
        generalize one (j + 1) = r at *
        obtain ⟨ft, jn, on⟩ := r
        dsimp only at *
        have hev : vi (v_tn (-11) v3) = vi (-v3) := by
          rw [show v_tn (-11) v3 = ip_w (-v3) by simp only [v_tn, if_true], ip_viw]
        refine ⟨⟨by dsimp only; omega, i2, fun z => by have := i3 z; dsimp only; omega⟩, v_tn (-11) v3, h3, t3, a3, w3, bd3, fl3, ⟨fun z => ?_, fun z => r2 z⟩, fun Q => ?_⟩
        · obtain ⟨b1, J3, vw, vv⟩ := r1 z
          exact ⟨b1, J3, v_tnw, y_val1 vv (by omega) (by omega)⟩
        · rw [hev]
          simp (disch := omega) only [c165, s165_0, s165_1, s165_2, s165_3, s165_4, s165_5, s165_6, s165_7, s165_8, s165_9, s165_10, s165_11, s165_12, s165_13, s165_14, s165_15, s165_16, s165_17, s165_18, s165_19, s165_20, s165_21, s165_22, s165_23, s165_24, s165_25, s165_26, s165_27, s165_28, s165_29, s165_30, s165_31, s165_32, s165_33, s165_34, s165_35, s165_36, s165_37, s165_38, s165_39, s165_40, s165_41, s165_42, s165_43, s165_44, s165_45, s165_46, s165_47, s165_48, s165_49, s165_50, s165_51, s165_52, s165_53, s165_54, s165_55, s165_56, s165_57, s165_58, s165_59, s165_60, s165_61, s165_62, s165_63, s165_64, s165_65, s165_66, s165_67, s165_68, s165_69, s165_70, s165_71, s165_72, s165_73, s165_74, s165_75, s165_76, s165_77, s165_78, s165_79, s165_80, s165_81, ↓reduceIte, Bool.true_eq_false, Bool.false_eq_true, ip_rfS, true_or, or_true, true_and, and_true, Option.toList_some, Option.toList_none, List.cons_append, List.nil_append, ip_fxn, ip_fxi, ip_fxr, ip_fxl, ip_wid, ip_n998, ip_lt900, iO0, iO1, iA2, iA3, iA4, iA5, iA6, iA7, iA8, iO9, iA10, iA11, iA12, iA13, iA14, iA15, iA16, iO17, iA18, iO19, iA20, iA21, iA22, iA23, iO24, iA25, iO26, iA27, iA28, iO29, iA30, iA31, iO32, iA33, iA34, iO35, iA36, iA37, iO38, iA39, iA40, iO41, iA42, iA43, iO44, iA45, iA46, iA47, iA48, iA49, iA50, iA51, iA52, iA53, iO54, iA55, iO56, iA57, iO58, iA59, iO60, iA61, iO62, iA63, iA64, iA65, iA66, iA67, iA68, iA69, iA70, iA71, iA72, iA73, iA74, iA75, iA76, iA77, iA78, iOT, iAT1, iAT2, iOS, iAS, g1, q3, k2, k3, yp_o, yp_uo, Int.add_sub_cancel, Int.reduceEq, decide_true, decide_false, kt, kf]
      · by_cases q4 : T j = 40
        · obtain ⟨n1, n2, h2, t2, a2, w2, J2, k2⟩ := q147 (d := d + 1) (L := L) (op := op) hM hC hj J (by omega) (by omega) ho
          obtain ⟨⟨i1, i2, i3⟩, v3, h3, t3, a3, w3, bd3, fl3, ⟨r1, r2⟩, k3⟩ := he (j + 1) h2 t2 a2 w2 fl (by omega) (by omega) J2
          have hL2 : x_opn T la one ee j = (if ((ee (j + 1)).1 && decide (T (ee (j + 1)).2.1 = 41)) = true then (true, x_adv la (ee (j + 1)).2.1, (ee (j + 1)).2.2) else (false, (ee (j + 1)).2.1, (ee (j + 1)).2.2)) := by rw [x_opn, if_neg q3, if_pos q4, n2]
          rw [hL2]
          generalize ee (j + 1) = r at *
          obtain ⟨ft, jn, on⟩ := r
          dsimp only at *
          cases ft
          · obtain ⟨b1, b2⟩ := r2 rfl
            subst b1
            rw [if_neg (by simp)]
            refine ⟨⟨by dsimp only; omega, i2, fun z => (by cases z)⟩, v3, h3, t3, a3, w3, 1, fl3, ⟨fun z => (by cases z), fun _ => ⟨rfl, b2⟩⟩, fun Q => ?_⟩
            simp (disch := omega) only [c165, s165_0, s165_1, s165_2, s165_3, s165_4, s165_5, s165_6, s165_7, s165_8, s165_9, s165_10, s165_11, s165_12, s165_13, s165_14, s165_15, s165_16, s165_17, s165_18, s165_19, s165_20, s165_21, s165_22, s165_23, s165_24, s165_25, s165_26, s165_27, s165_28, s165_29, s165_30, s165_31, s165_32, s165_33, s165_34, s165_35, s165_36, s165_37, s165_38, s165_39, s165_40, s165_41, s165_42, s165_43, s165_44, s165_45, s165_46, s165_47, s165_48, s165_49, s165_50, s165_51, s165_52, s165_53, s165_54, s165_55, s165_56, s165_57, s165_58, s165_59, s165_60, s165_61, s165_62, s165_63, s165_64, s165_65, s165_66, s165_67, s165_68, s165_69, s165_70, s165_71, s165_72, s165_73, s165_74, s165_75, s165_76, s165_77, s165_78, s165_79, s165_80, s165_81, ↓reduceIte, Bool.true_eq_false, Bool.false_eq_true, ip_rfS, true_or, or_true, true_and, and_true, Option.toList_some, Option.toList_none, List.cons_append, List.nil_append, ip_fxn, ip_fxi, ip_fxr, ip_fxl, ip_wid, ip_n998, ip_lt900, iO0, iO1, iA2, iA3, iA4, iA5, iA6, iA7, iA8, iO9, iA10, iA11, iA12, iA13, iA14, iA15, iA16, iO17, iA18, iO19, iA20, iA21, iA22, iA23, iO24, iA25, iO26, iA27, iA28, iO29, iA30, iA31, iO32, iA33, iA34, iO35, iA36, iA37, iO38, iA39, iA40, iO41, iA42, iA43, iO44, iA45, iA46, iA47, iA48, iA49, iA50, iA51, iA52, iA53, iO54, iA55, iO56, iA57, iO58, iA59, iO60, iA61, iO62, iA63, iA64, iA65, iA66, iA67, iA68, iA69, iA70, iA71, iA72, iA73, iA74, iA75, iA76, iA77, iA78, iOT, iAT1, iAT2, iOS, iAS, g1, g2, q3, q4, k2, k3, q156b, q143b, yp_o, yp_uo, yp_d, Int.add_sub_cancel, Int.reduceEq, decide_true, decide_false, kt, kf]
          · obtain ⟨b1, J3, vw, vv⟩ := r1 rfl
            subst b1
            have h3j := i3 rfl
            have e1 := fun Q' => q156 (d := d + 4) (S := S) (R := R) (L := L) (op := op + 1) (fl := fl3) (Q := Q') J3 (s := 41) (by omega)
            have h3r := J3.2.1
            by_cases c1 : T jn = 41
            · obtain ⟨m1, m2, h4, t4, a4, w4, J4, k4⟩ := q138 (d := d + 2) (L := L) hM hC (by omega) J3 (by omega) (by omega)
              rw [if_pos (by simp [c1]), m2]
              refine ⟨⟨by dsimp only; omega, by dsimp only; omega, fun _ => by dsimp only; omega⟩, v3, h4, t4, a4, w4, 0, fl3, ⟨fun _ => ⟨rfl, J4, vw, vv⟩, fun z => (by cases z)⟩, fun Q => ?_⟩
              simp (disch := omega) only [c165, s165_0, s165_1, s165_2, s165_3, s165_4, s165_5, s165_6, s165_7, s165_8, s165_9, s165_10, s165_11, s165_12, s165_13, s165_14, s165_15, s165_16, s165_17, s165_18, s165_19, s165_20, s165_21, s165_22, s165_23, s165_24, s165_25, s165_26, s165_27, s165_28, s165_29, s165_30, s165_31, s165_32, s165_33, s165_34, s165_35, s165_36, s165_37, s165_38, s165_39, s165_40, s165_41, s165_42, s165_43, s165_44, s165_45, s165_46, s165_47, s165_48, s165_49, s165_50, s165_51, s165_52, s165_53, s165_54, s165_55, s165_56, s165_57, s165_58, s165_59, s165_60, s165_61, s165_62, s165_63, s165_64, s165_65, s165_66, s165_67, s165_68, s165_69, s165_70, s165_71, s165_72, s165_73, s165_74, s165_75, s165_76, s165_77, s165_78, s165_79, s165_80, s165_81, ↓reduceIte, Bool.true_eq_false, Bool.false_eq_true, ip_rfS, true_or, or_true, true_and, and_true, Option.toList_some, Option.toList_none, List.cons_append, List.nil_append, ip_fxn, ip_fxi, ip_fxr, ip_fxl, ip_wid, ip_n998, ip_lt900, iO0, iO1, iA2, iA3, iA4, iA5, iA6, iA7, iA8, iO9, iA10, iA11, iA12, iA13, iA14, iA15, iA16, iO17, iA18, iO19, iA20, iA21, iA22, iA23, iO24, iA25, iO26, iA27, iA28, iO29, iA30, iA31, iO32, iA33, iA34, iO35, iA36, iA37, iO38, iA39, iA40, iO41, iA42, iA43, iO44, iA45, iA46, iA47, iA48, iA49, iA50, iA51, iA52, iA53, iO54, iA55, iO56, iA57, iO58, iA59, iO60, iA61, iO62, iA63, iA64, iA65, iA66, iA67, iA68, iA69, iA70, iA71, iA72, iA73, iA74, iA75, iA76, iA77, iA78, iOT, iAT1, iAT2, iOS, iAS, g1, g2, q3, q4, k2, k3, e1, c1, yp_o, yp_uo, yp_d, Int.add_sub_cancel, k4, Int.reduceEq, decide_true, decide_false, kt, kf]
            · have gb := fun Q' => q143 (d := d + 4) (S := S) (R := R) (h := h3) (t := t3) (a := a3) (op := op + 1) (fl := fl3) (L' := ip_up L 62 24 w3) (Q := Q') (by omega)
              rw [if_neg (by simp [c1])]
              refine ⟨⟨by dsimp only; omega, i2, fun z => (by cases z)⟩, v3, h3, t3, a3, w3, 1, a3, ⟨fun z => (by cases z), fun _ => ⟨rfl, y_Ja J3⟩⟩, fun Q => ?_⟩
              simp (disch := omega) only [c165, s165_0, s165_1, s165_2, s165_3, s165_4, s165_5, s165_6, s165_7, s165_8, s165_9, s165_10, s165_11, s165_12, s165_13, s165_14, s165_15, s165_16, s165_17, s165_18, s165_19, s165_20, s165_21, s165_22, s165_23, s165_24, s165_25, s165_26, s165_27, s165_28, s165_29, s165_30, s165_31, s165_32, s165_33, s165_34, s165_35, s165_36, s165_37, s165_38, s165_39, s165_40, s165_41, s165_42, s165_43, s165_44, s165_45, s165_46, s165_47, s165_48, s165_49, s165_50, s165_51, s165_52, s165_53, s165_54, s165_55, s165_56, s165_57, s165_58, s165_59, s165_60, s165_61, s165_62, s165_63, s165_64, s165_65, s165_66, s165_67, s165_68, s165_69, s165_70, s165_71, s165_72, s165_73, s165_74, s165_75, s165_76, s165_77, s165_78, s165_79, s165_80, s165_81, ↓reduceIte, Bool.true_eq_false, Bool.false_eq_true, ip_rfS, true_or, or_true, true_and, and_true, Option.toList_some, Option.toList_none, List.cons_append, List.nil_append, ip_fxn, ip_fxi, ip_fxr, ip_fxl, ip_wid, ip_n998, ip_lt900, iO0, iO1, iA2, iA3, iA4, iA5, iA6, iA7, iA8, iO9, iA10, iA11, iA12, iA13, iA14, iA15, iA16, iO17, iA18, iO19, iA20, iA21, iA22, iA23, iO24, iA25, iO26, iA27, iA28, iO29, iA30, iA31, iO32, iA33, iA34, iO35, iA36, iA37, iO38, iA39, iA40, iO41, iA42, iA43, iO44, iA45, iA46, iA47, iA48, iA49, iA50, iA51, iA52, iA53, iO54, iA55, iO56, iA57, iO58, iA59, iO60, iA61, iO62, iA63, iA64, iA65, iA66, iA67, iA68, iA69, iA70, iA71, iA72, iA73, iA74, iA75, iA76, iA77, iA78, iOT, iAT1, iAT2, iOS, iAS, g1, g2, q3, q4, k2, k3, e1, c1, gb, yp_o, yp_uo, yp_d, Int.add_sub_cancel, Int.reduceEq, decide_true, decide_false, kt, kf]
        · have hL2 : x_opn T la one ee j = (false, j, []) := by rw [x_opn, if_neg q3, if_neg q4]
          rw [hL2]
          have gn := fun Q' => q157f (d := d + 1) (op := op) (fl := fl) (L' := ip_up L 62 24 w) (Q := Q') hM hC hj J q2
          have gb := fun Q' => q143 (d := d + 4) (S := S) (R := R) (h := h) (t := t) (a := a) (op := op) (fl := fl) (L' := ip_up L 62 24 w) (Q := Q') (by omega)
          refine ⟨⟨Int.le_refl _, hj2, fun z => (by cases z)⟩, 0, h, t, a, w, 1, a, ⟨fun z => (by cases z), fun _ => ⟨rfl, y_Ja J⟩⟩, fun Q => ?_⟩
          have e2 : ¬ t = 2 := by
            obtain ⟨-, -, J⟩ := J
            rcases J with J | J | J | J | J <;> omega
          by_cases e1 : t = 1
          · subst e1
            simp (disch := omega) only [c165, s165_0, s165_1, s165_2, s165_3, s165_4, s165_5, s165_6, s165_7, s165_8, s165_9, s165_10, s165_11, s165_12, s165_13, s165_14, s165_15, s165_16, s165_17, s165_18, s165_19, s165_20, s165_21, s165_22, s165_23, s165_24, s165_25, s165_26, s165_27, s165_28, s165_29, s165_30, s165_31, s165_32, s165_33, s165_34, s165_35, s165_36, s165_37, s165_38, s165_39, s165_40, s165_41, s165_42, s165_43, s165_44, s165_45, s165_46, s165_47, s165_48, s165_49, s165_50, s165_51, s165_52, s165_53, s165_54, s165_55, s165_56, s165_57, s165_58, s165_59, s165_60, s165_61, s165_62, s165_63, s165_64, s165_65, s165_66, s165_67, s165_68, s165_69, s165_70, s165_71, s165_72, s165_73, s165_74, s165_75, s165_76, s165_77, s165_78, s165_79, s165_80, s165_81, ↓reduceIte, Bool.true_eq_false, Bool.false_eq_true, ip_rfS, true_or, or_true, true_and, and_true, Option.toList_some, Option.toList_none, List.cons_append, List.nil_append, ip_fxn, ip_fxi, ip_fxr, ip_fxl, ip_wid, ip_n998, ip_lt900, iO0, iO1, iA2, iA3, iA4, iA5, iA6, iA7, iA8, iO9, iA10, iA11, iA12, iA13, iA14, iA15, iA16, iO17, iA18, iO19, iA20, iA21, iA22, iA23, iO24, iA25, iO26, iA27, iA28, iO29, iA30, iA31, iO32, iA33, iA34, iO35, iA36, iA37, iO38, iA39, iA40, iO41, iA42, iA43, iO44, iA45, iA46, iA47, iA48, iA49, iA50, iA51, iA52, iA53, iO54, iA55, iO56, iA57, iO58, iA59, iO60, iA61, iO62, iA63, iA64, iA65, iA66, iA67, iA68, iA69, iA70, iA71, iA72, iA73, iA74, iA75, iA76, iA77, iA78, iOT, iAT1, iAT2, iOS, iAS, g1, g2, q3, q4, yp_d, yp_t, gn, Int.reduceEq, decide_true, decide_false, kt, kf]
          · simp (disch := omega) only [c165, s165_0, s165_1, s165_2, s165_3, s165_4, s165_5, s165_6, s165_7, s165_8, s165_9, s165_10, s165_11, s165_12, s165_13, s165_14, s165_15, s165_16, s165_17, s165_18, s165_19, s165_20, s165_21, s165_22, s165_23, s165_24, s165_25, s165_26, s165_27, s165_28, s165_29, s165_30, s165_31, s165_32, s165_33, s165_34, s165_35, s165_36, s165_37, s165_38, s165_39, s165_40, s165_41, s165_42, s165_43, s165_44, s165_45, s165_46, s165_47, s165_48, s165_49, s165_50, s165_51, s165_52, s165_53, s165_54, s165_55, s165_56, s165_57, s165_58, s165_59, s165_60, s165_61, s165_62, s165_63, s165_64, s165_65, s165_66, s165_67, s165_68, s165_69, s165_70, s165_71, s165_72, s165_73, s165_74, s165_75, s165_76, s165_77, s165_78, s165_79, s165_80, s165_81, ↓reduceIte, Bool.true_eq_false, Bool.false_eq_true, ip_rfS, true_or, or_true, true_and, and_true, Option.toList_some, Option.toList_none, List.cons_append, List.nil_append, ip_fxn, ip_fxi, ip_fxr, ip_fxl, ip_wid, ip_n998, ip_lt900, iO0, iO1, iA2, iA3, iA4, iA5, iA6, iA7, iA8, iO9, iA10, iA11, iA12, iA13, iA14, iA15, iA16, iO17, iA18, iO19, iA20, iA21, iA22, iA23, iO24, iA25, iO26, iA27, iA28, iO29, iA30, iA31, iO32, iA33, iA34, iO35, iA36, iA37, iO38, iA39, iA40, iO41, iA42, iA43, iO44, iA45, iA46, iA47, iA48, iA49, iA50, iA51, iA52, iA53, iO54, iA55, iO56, iA57, iO58, iA59, iO60, iA61, iO62, iA63, iA64, iA65, iA66, iA67, iA68, iA69, iA70, iA71, iA72, iA73, iA74, iA75, iA76, iA77, iA78, iOT, iAT1, iAT2, iOS, iAS, g1, g2, q3, q4, yp_d, yp_t, e1, e2, gb, Int.reduceEq, decide_true, decide_false, kt, kf]

theorem y164l {f0 : Int → x_PR} (hM : x_RM R) (hC : y_C S b sz T P N la) (hs : y_ok S R L b sz T P N la (d + 3) 165 op f0) : ∀ (f : Nat) (j h t a w fl v : Int) (O : List Int), 0 ≤ j → j ≤ la → la + 1 ≤ j + f → y_J b sz T P N la j h t a w → ip_w v = v → y_val (y_nam S) O v →
    (j ≤ (x_loop T la (x_is 42) (fun _ => -23) f0 f true j).2.1 ∧ (x_loop T la (x_is 42) (fun _ => -23) f0 f true j).2.1 ≤ la) ∧ ∃ v' h' t' a' w' bd' fl', y_res S b sz T P N la ((x_loop T la (x_is 42) (fun _ => -23) f0 f true j).1, (x_loop T la (x_is 42) (fun _ => -23) f0 f true j).2.1, O ++ (x_loop T la (x_is 42) (fun _ => -23) f0 f true j).2.2) v' h' t' a' w' bd' fl' ∧
      ∀ Q, ip_wp (d + 3) 164 3 [some (.ref 62), some (vi v)] [] 79 (y_P S h t a op 0 fl) R (ip_up L 62 24 w) Q = Q (some (vi v')) 79 (y_P S h' t' a' op bd' fl') R (ip_up L 62 24 w')
  | 0, j, h, t, a, w, fl, v, O, hj, hj2, hf, J, hv, hO => by omega
  | f + 1, j, h, t, a, w, fl, v, O, hj, hj2, hf, J, hv, hO => by
    have g := fun Q' => q156 (d := d + 2) (S := S) (R := R) (L := L) (op := op) (fl := fl) (Q := Q') J (s := 42) (by omega)
    by_cases q0 : T j = 42
    · obtain ⟨n1, n2, h2, t2, a2, w2, J2, k2⟩ := q138 (d := d) (L := L) hM hC hj J (by omega) (by omega)
      obtain ⟨⟨i1, i2, i3⟩, v3, h3, t3, a3, w3, bd3, fl3, ⟨r1, r2⟩, k3⟩ := hs (j + 1) h2 t2 a2 w2 fl (by omega) (by omega) J2
      have hL : x_loop T la (x_is 42) (fun _ => -23) f0 (f + 1) true j = ((x_loop T la (x_is 42) (fun _ => -23) f0 f (f0 (j + 1)).1 (f0 (j + 1)).2.1).1, (x_loop T la (x_is 42) (fun _ => -23) f0 f (f0 (j + 1)).1 (f0 (j + 1)).2.1).2.1, (f0 (j + 1)).2.2 ++ -23 :: (x_loop T la (x_is 42) (fun _ => -23) f0 f (f0 (j + 1)).1 (f0 (j + 1)).2.1).2.2) := by
        rw [x_loop, if_pos (by simp [x_is, x_pm, q0]), n2]
        try simp only [x_pmc, q0, Int.reduceEq, if_true, if_false]
      rw [hL]
      generalize f0 (j + 1) = r at *
      obtain ⟨ft, jn, on⟩ := r
      dsimp only at *
      have step : ∀ Q, ip_wp (d + 3) 164 3 [some (.ref 62), some (vi v)] [] 79 (y_P S h t a op 0 fl) R (ip_up L 62 24 w) Q = ip_wp (d + 3) 164 3 [some (.ref 62), some (vi (v * v3))] [] 79 (y_P S h3 t3 a3 op bd3 fl3) R (ip_up L 62 24 w3) Q := fun Q => by
        rw [s164_3]
        simp (disch := omega) only [s164_0, s164_1, s164_2, s164_4, s164_5, s164_6, s164_7, s164_8, s164_9, s164_10, s164_11, s164_12, s164_13, s164_14, s164_15, s164_16, ↓reduceIte, Bool.true_eq_false, Bool.false_eq_true, ip_rfS, true_or, or_true, true_and, and_true, Option.toList_some, Option.toList_none, List.cons_append, List.nil_append, ip_fxn, ip_fxi, ip_fxr, ip_fxl, ip_wid, ip_n998, ip_lt900, iO0, iO1, iA2, iA3, iA4, iA5, iA6, iA7, iA8, iO9, iA10, iA11, iA12, iA13, iA14, iA15, iA16, iO17, iA18, iO19, iA20, iA21, iA22, iA23, iO24, iA25, iO26, iA27, iA28, iO29, iA30, iA31, iO32, iA33, iA34, iO35, iA36, iA37, iO38, iA39, iA40, iO41, iA42, iA43, iO44, iA45, iA46, iA47, iA48, iA49, iA50, iA51, iA52, iA53, iO54, iA55, iO56, iA57, iO58, iA59, iO60, iA61, iO62, iA63, iA64, iA65, iA66, iA67, iA68, iA69, iA70, iA71, iA72, iA73, iA74, iA75, iA76, iA77, iA78, iOT, iAT1, iAT2, iOS, iAS, g, q0, Int.reduceEq, decide_true, decide_false, show k_n true = 1 from rfl, show k_n false = 0 from rfl, k2, k3]
      cases ft
      · obtain ⟨b1, b2⟩ := r2 rfl
        have hL0 : x_loop T la (x_is 42) (fun _ => -23) f0 f false jn = (false, jn, []) := by cases f <;> simp [x_loop]
        rw [hL0]
        refine ⟨⟨by dsimp only; omega, i2⟩, v * v3, h3, t3, a3, w3, bd3, fl3, ⟨fun z => (by cases z), fun _ => ⟨b1, b2⟩⟩, fun Q => ?_⟩
        subst b1
        rw [step Q, s164_3]
        simp (disch := omega) only [s164_0, s164_1, s164_2, s164_4, s164_5, s164_6, s164_7, s164_8, s164_9, s164_10, s164_11, s164_12, s164_13, s164_14, s164_15, s164_16, ↓reduceIte, Bool.true_eq_false, Bool.false_eq_true, ip_rfS, true_or, or_true, true_and, and_true, Option.toList_some, Option.toList_none, List.cons_append, List.nil_append, ip_fxn, ip_fxi, ip_fxr, ip_fxl, ip_wid, ip_n998, ip_lt900, iO0, iO1, iA2, iA3, iA4, iA5, iA6, iA7, iA8, iO9, iA10, iA11, iA12, iA13, iA14, iA15, iA16, iO17, iA18, iO19, iA20, iA21, iA22, iA23, iO24, iA25, iO26, iA27, iA28, iO29, iA30, iA31, iO32, iA33, iA34, iO35, iA36, iA37, iO38, iA39, iA40, iO41, iA42, iA43, iO44, iA45, iA46, iA47, iA48, iA49, iA50, iA51, iA52, iA53, iO54, iA55, iO56, iA57, iO58, iA59, iO60, iA61, iO62, iA63, iA64, iA65, iA66, iA67, iA68, iA69, iA70, iA71, iA72, iA73, iA74, iA75, iA76, iA77, iA78, iOT, iAT1, iAT2, iOS, iAS, q156b]
      · obtain ⟨b1, J3, vw, vv⟩ := r1 rfl
        subst b1
        have hev : vi (v_jn (-23) v v3) = vi (v * v3) := by
          rw [show v_jn (-23) v v3 = ip_w (v * v3) by simp only [v_jn, Int.reduceEq, Int.reduceNeg, if_true, if_false], ip_viw]
        obtain ⟨⟨e1, e2⟩, v4, h4, t4, a4, w4, bd4, fl4, res, k4⟩ := y164l hM hC hs f jn h3 t3 a3 w3 fl3 (v_jn (-23) v v3) (O ++ (on ++ [-23])) (by omega) i2 (by have := i3 rfl; omega) J3 v_jnw (y_val2 hO vv (by omega))
        rw [hev] at k4
        rw [List.append_assoc, List.append_assoc, List.singleton_append] at res
        exact ⟨⟨by omega, e2⟩, v4, h4, t4, a4, w4, bd4, fl4, res, fun Q => by rw [step Q, k4 Q]⟩
    · have hL : x_loop T la (x_is 42) (fun _ => -23) f0 (f + 1) true j = (true, j, []) := by
        rw [x_loop, if_neg (by simp [x_is, x_pm, q0])]
      rw [hL]
      refine ⟨⟨Int.le_refl _, hj2⟩, v, h, t, a, w, 0, fl, ⟨fun _ => ⟨rfl, J, hv, by rw [List.append_nil]; exact hO⟩, fun z => (by cases z)⟩, fun Q => ?_⟩
      rw [s164_3]
      simp (disch := omega) only [s164_0, s164_1, s164_2, s164_4, s164_5, s164_6, s164_7, s164_8, s164_9, s164_10, s164_11, s164_12, s164_13, s164_14, s164_15, s164_16, ↓reduceIte, Bool.true_eq_false, Bool.false_eq_true, ip_rfS, true_or, or_true, true_and, and_true, Option.toList_some, Option.toList_none, List.cons_append, List.nil_append, ip_fxn, ip_fxi, ip_fxr, ip_fxl, ip_wid, ip_n998, ip_lt900, iO0, iO1, iA2, iA3, iA4, iA5, iA6, iA7, iA8, iO9, iA10, iA11, iA12, iA13, iA14, iA15, iA16, iO17, iA18, iO19, iA20, iA21, iA22, iA23, iO24, iA25, iO26, iA27, iA28, iO29, iA30, iA31, iO32, iA33, iA34, iO35, iA36, iA37, iO38, iA39, iA40, iO41, iA42, iA43, iO44, iA45, iA46, iA47, iA48, iA49, iA50, iA51, iA52, iA53, iO54, iA55, iO56, iA57, iO58, iA59, iO60, iA61, iO62, iA63, iA64, iA65, iA66, iA67, iA68, iA69, iA70, iA71, iA72, iA73, iA74, iA75, iA76, iA77, iA78, iOT, iAT1, iAT2, iOS, iAS, g, q0, decide_false, show k_n false = 0 from rfl]
theorem y164 {f0 : Int → x_PR} (hM : x_RM R) (hC : y_C S b sz T P N la) (hs : y_ok S R L b sz T P N la (d + 3) 165 op f0) : y_ok S R L b sz T P N la (d + 4) 164 op (x_rep T la (x_is 42) (fun _ => -23) f0) := by
  intro j h t a w fl hj hj2 J
  obtain ⟨⟨i1, i2, i3⟩, v3, h3, t3, a3, w3, bd3, fl3, ⟨r1, r2⟩, k3⟩ := hs j h t a w fl hj hj2 J
  have hla := hC.2.1.2.1
  have hsz := hC.1.2.2.1
  unfold x_rep
  generalize f0 j = r at *
  obtain ⟨ft, jn, on⟩ := r
  dsimp only at *
  cases ft
  · obtain ⟨b1, b2⟩ := r2 rfl
    subst b1
    have hL0 : x_loop T la (x_is 42) (fun _ => -23) f0 160 false jn = (false, jn, []) := by simp [x_loop]
    rw [hL0]
    refine ⟨⟨i1, i2, fun z => (by cases z)⟩, v3, h3, t3, a3, w3, 1, fl3, ⟨fun z => (by cases z), fun _ => ⟨rfl, b2⟩⟩, fun Q => ?_⟩
    simp (disch := omega) only [c164, s164_0, s164_1, s164_2, s164_3, s164_4, s164_5, s164_6, s164_7, s164_8, s164_9, s164_10, s164_11, s164_12, s164_13, s164_14, s164_15, s164_16, ↓reduceIte, Bool.true_eq_false, Bool.false_eq_true, ip_rfS, true_or, or_true, true_and, and_true, Option.toList_some, Option.toList_none, List.cons_append, List.nil_append, ip_fxn, ip_fxi, ip_fxr, ip_fxl, ip_wid, ip_n998, ip_lt900, iO0, iO1, iA2, iA3, iA4, iA5, iA6, iA7, iA8, iO9, iA10, iA11, iA12, iA13, iA14, iA15, iA16, iO17, iA18, iO19, iA20, iA21, iA22, iA23, iO24, iA25, iO26, iA27, iA28, iO29, iA30, iA31, iO32, iA33, iA34, iO35, iA36, iA37, iO38, iA39, iA40, iO41, iA42, iA43, iO44, iA45, iA46, iA47, iA48, iA49, iA50, iA51, iA52, iA53, iO54, iA55, iO56, iA57, iO58, iA59, iO60, iA61, iO62, iA63, iA64, iA65, iA66, iA67, iA68, iA69, iA70, iA71, iA72, iA73, iA74, iA75, iA76, iA77, iA78, iOT, iAT1, iAT2, iOS, iAS, k3, q156b]
  · obtain ⟨b1, J3, vw, vv⟩ := r1 rfl
    subst b1
    have h3j := i3 rfl
    obtain ⟨⟨e1, e2⟩, v4, h4, t4, a4, w4, bd4, fl4, res, k4⟩ := y164l (d := d) hM hC hs 160 jn h3 t3 a3 w3 fl3 v3 on (by omega) i2 (by omega) J3 vw vv
    refine ⟨⟨by dsimp only; omega, e2, fun _ => by dsimp only; omega⟩, v4, h4, t4, a4, w4, bd4, fl4, res, fun Q => ?_⟩
    simp (disch := omega) only [c164, s164_0, s164_1, s164_2, ↓reduceIte, Bool.true_eq_false, Bool.false_eq_true, ip_rfS, true_or, or_true, true_and, and_true, Option.toList_some, Option.toList_none, List.cons_append, List.nil_append, ip_fxn, ip_fxi, ip_fxr, ip_fxl, ip_wid, ip_n998, ip_lt900, iO0, iO1, iA2, iA3, iA4, iA5, iA6, iA7, iA8, iO9, iA10, iA11, iA12, iA13, iA14, iA15, iA16, iO17, iA18, iO19, iA20, iA21, iA22, iA23, iO24, iA25, iO26, iA27, iA28, iO29, iA30, iA31, iO32, iA33, iA34, iO35, iA36, iA37, iO38, iA39, iA40, iO41, iA42, iA43, iO44, iA45, iA46, iA47, iA48, iA49, iA50, iA51, iA52, iA53, iO54, iA55, iO56, iA57, iO58, iA59, iO60, iA61, iO62, iA63, iA64, iA65, iA66, iA67, iA68, iA69, iA70, iA71, iA72, iA73, iA74, iA75, iA76, iA77, iA78, iOT, iAT1, iAT2, iOS, iAS, k3, k4]

theorem y163l {f0 : Int → x_PR} (hM : x_RM R) (hC : y_C S b sz T P N la) (hs : y_ok S R L b sz T P N la (d + 3) 164 op f0) : ∀ (f : Nat) (j h t a w fl v : Int) (O : List Int) (l2 l3 : Option Value), 0 ≤ j → j ≤ la → la + 1 ≤ j + f → y_J b sz T P N la j h t a w → ip_w v = v → y_val (y_nam S) O v →
    (j ≤ (x_loop T la x_pm x_pmc f0 f true j).2.1 ∧ (x_loop T la x_pm x_pmc f0 f true j).2.1 ≤ la) ∧ ∃ v' h' t' a' w' bd' fl', y_res S b sz T P N la ((x_loop T la x_pm x_pmc f0 f true j).1, (x_loop T la x_pm x_pmc f0 f true j).2.1, O ++ (x_loop T la x_pm x_pmc f0 f true j).2.2) v' h' t' a' w' bd' fl' ∧
      ∀ Q, ip_wp (d + 3) 163 3 [some (.ref 62), some (vi v), l2, l3] [] 79 (y_P S h t a op 0 fl) R (ip_up L 62 24 w) Q = Q (some (vi v')) 79 (y_P S h' t' a' op bd' fl') R (ip_up L 62 24 w')
  | 0, j, h, t, a, w, fl, v, O, l2, l3, hj, hj2, hf, J, hv, hO => by omega
  | f + 1, j, h, t, a, w, fl, v, O, l2, l3, hj, hj2, hf, J, hv, hO => by
    have g := fun Q' => q156 (d := d + 2) (S := S) (R := R) (L := L) (op := op) (fl := fl) (Q := Q') J (s := 43) (by omega)
    have g2 := fun Q' => q156 (d := d + 2) (S := S) (R := R) (L := L) (op := op) (fl := fl) (Q := Q') J (s := 45) (by omega)
    by_cases q0 : T j = 43
    · obtain ⟨n1, n2, h2, t2, a2, w2, J2, k2⟩ := q138 (d := d) (L := L) hM hC hj J (by omega) (by omega)
      obtain ⟨⟨i1, i2, i3⟩, v3, h3, t3, a3, w3, bd3, fl3, ⟨r1, r2⟩, k3⟩ := hs (j + 1) h2 t2 a2 w2 fl (by omega) (by omega) J2
      have hL : x_loop T la x_pm x_pmc f0 (f + 1) true j = ((x_loop T la x_pm x_pmc f0 f (f0 (j + 1)).1 (f0 (j + 1)).2.1).1, (x_loop T la x_pm x_pmc f0 f (f0 (j + 1)).1 (f0 (j + 1)).2.1).2.1, (f0 (j + 1)).2.2 ++ -21 :: (x_loop T la x_pm x_pmc f0 f (f0 (j + 1)).1 (f0 (j + 1)).2.1).2.2) := by
        rw [x_loop, if_pos (by simp [x_is, x_pm, q0]), n2]
        try simp only [x_pmc, q0, Int.reduceEq, if_true, if_false]
      rw [hL]
      generalize f0 (j + 1) = r at *
      obtain ⟨ft, jn, on⟩ := r
      dsimp only at *
      have ew : w = 43 := by have := y_Jw J (by omega); omega
      have ec : ip_w (ip_cmpl (ip_w64 w) (ip_w64 43)) = 0 := by rw [ew]; decide +kernel
      have step : ∀ Q, ip_wp (d + 3) 163 3 [some (.ref 62), some (vi v), l2, l3] [] 79 (y_P S h t a op 0 fl) R (ip_up L 62 24 w) Q = ip_wp (d + 3) 163 3 [some (.ref 62), some (vi (v + v3)), some (vi 1), some (vi v3)] [] 79 (y_P S h3 t3 a3 op bd3 fl3) R (ip_up L 62 24 w3) Q := fun Q => by
        rw [s163_3]
        simp (disch := omega) only [s163_0, s163_1, s163_2, s163_4, s163_5, s163_6, s163_7, s163_8, s163_9, s163_10, s163_11, s163_12, s163_13, s163_14, s163_15, s163_16, s163_17, s163_18, s163_19, s163_20, s163_21, s163_22, s163_23, s163_24, s163_25, s163_26, s163_27, s163_28, s163_29, s163_30, s163_31, s163_32, s163_33, s163_34, s163_35, s163_36, s163_37, ↓reduceIte, Bool.true_eq_false, Bool.false_eq_true, ip_rfS, true_or, or_true, true_and, and_true, Option.toList_some, Option.toList_none, List.cons_append, List.nil_append, ip_fxn, ip_fxi, ip_fxr, ip_fxl, ip_wid, ip_n998, ip_lt900, iO0, iO1, iA2, iA3, iA4, iA5, iA6, iA7, iA8, iO9, iA10, iA11, iA12, iA13, iA14, iA15, iA16, iO17, iA18, iO19, iA20, iA21, iA22, iA23, iO24, iA25, iO26, iA27, iA28, iO29, iA30, iA31, iO32, iA33, iA34, iO35, iA36, iA37, iO38, iA39, iA40, iO41, iA42, iA43, iO44, iA45, iA46, iA47, iA48, iA49, iA50, iA51, iA52, iA53, iO54, iA55, iO56, iA57, iO58, iA59, iO60, iA61, iO62, iA63, iA64, iA65, iA66, iA67, iA68, iA69, iA70, iA71, iA72, iA73, iA74, iA75, iA76, iA77, iA78, iOT, iAT1, iAT2, iOS, iAS, g, g2, q0, Int.reduceEq, decide_true, decide_false, show k_n true = 1 from rfl, show k_n false = 0 from rfl, k2, k3, ec, ip_up_at]
      cases ft
      · obtain ⟨b1, b2⟩ := r2 rfl
        have hL0 : x_loop T la x_pm x_pmc f0 f false jn = (false, jn, []) := by cases f <;> simp [x_loop]
        rw [hL0]
        refine ⟨⟨by dsimp only; omega, i2⟩, v + v3, h3, t3, a3, w3, bd3, fl3, ⟨fun z => (by cases z), fun _ => ⟨b1, b2⟩⟩, fun Q => ?_⟩
        subst b1
        rw [step Q, s163_3]
        simp (disch := omega) only [s163_0, s163_1, s163_2, s163_4, s163_5, s163_6, s163_7, s163_8, s163_9, s163_10, s163_11, s163_12, s163_13, s163_14, s163_15, s163_16, s163_17, s163_18, s163_19, s163_20, s163_21, s163_22, s163_23, s163_24, s163_25, s163_26, s163_27, s163_28, s163_29, s163_30, s163_31, s163_32, s163_33, s163_34, s163_35, s163_36, s163_37, ↓reduceIte, Bool.true_eq_false, Bool.false_eq_true, ip_rfS, true_or, or_true, true_and, and_true, Option.toList_some, Option.toList_none, List.cons_append, List.nil_append, ip_fxn, ip_fxi, ip_fxr, ip_fxl, ip_wid, ip_n998, ip_lt900, iO0, iO1, iA2, iA3, iA4, iA5, iA6, iA7, iA8, iO9, iA10, iA11, iA12, iA13, iA14, iA15, iA16, iO17, iA18, iO19, iA20, iA21, iA22, iA23, iO24, iA25, iO26, iA27, iA28, iO29, iA30, iA31, iO32, iA33, iA34, iO35, iA36, iA37, iO38, iA39, iA40, iO41, iA42, iA43, iO44, iA45, iA46, iA47, iA48, iA49, iA50, iA51, iA52, iA53, iO54, iA55, iO56, iA57, iO58, iA59, iO60, iA61, iO62, iA63, iA64, iA65, iA66, iA67, iA68, iA69, iA70, iA71, iA72, iA73, iA74, iA75, iA76, iA77, iA78, iOT, iAT1, iAT2, iOS, iAS, q156b]
      · obtain ⟨b1, J3, vw, vv⟩ := r1 rfl
        subst b1
        have hev : vi (v_jn (-21) v v3) = vi (v + v3) := by
          rw [show v_jn (-21) v v3 = ip_w (v + v3) by simp only [v_jn, Int.reduceEq, Int.reduceNeg, if_true, if_false], ip_viw]
        obtain ⟨⟨e1, e2⟩, v4, h4, t4, a4, w4, bd4, fl4, res, k4⟩ := y163l hM hC hs f jn h3 t3 a3 w3 fl3 (v_jn (-21) v v3) (O ++ (on ++ [-21])) (some (vi 1)) (some (vi v3)) (by omega) i2 (by have := i3 rfl; omega) J3 v_jnw (y_val2 hO vv (by omega))
        rw [hev] at k4
        rw [List.append_assoc, List.append_assoc, List.singleton_append] at res
        exact ⟨⟨by omega, e2⟩, v4, h4, t4, a4, w4, bd4, fl4, res, fun Q => by rw [step Q, k4 Q]⟩
    · by_cases q1 : T j = 45
      · obtain ⟨n1, n2, h2, t2, a2, w2, J2, k2⟩ := q138 (d := d) (L := L) hM hC hj J (by omega) (by omega)
        obtain ⟨⟨i1, i2, i3⟩, v3, h3, t3, a3, w3, bd3, fl3, ⟨r1, r2⟩, k3⟩ := hs (j + 1) h2 t2 a2 w2 fl (by omega) (by omega) J2
        have hL : x_loop T la x_pm x_pmc f0 (f + 1) true j = ((x_loop T la x_pm x_pmc f0 f (f0 (j + 1)).1 (f0 (j + 1)).2.1).1, (x_loop T la x_pm x_pmc f0 f (f0 (j + 1)).1 (f0 (j + 1)).2.1).2.1, (f0 (j + 1)).2.2 ++ -22 :: (x_loop T la x_pm x_pmc f0 f (f0 (j + 1)).1 (f0 (j + 1)).2.1).2.2) := by
          rw [x_loop, if_pos (by simp [x_is, x_pm, q1]), n2]
          try simp only [x_pmc, q1, Int.reduceEq, if_true, if_false]
        rw [hL]
        generalize f0 (j + 1) = r at *
        obtain ⟨ft, jn, on⟩ := r
        dsimp only at *
        have ew : w = 45 := by have := y_Jw J (by omega); omega
        have ec : ip_w (ip_cmpl (ip_w64 w) (ip_w64 43)) ≠ 0 := by rw [ew]; decide +kernel
        have step : ∀ Q, ip_wp (d + 3) 163 3 [some (.ref 62), some (vi v), l2, l3] [] 79 (y_P S h t a op 0 fl) R (ip_up L 62 24 w) Q = ip_wp (d + 3) 163 3 [some (.ref 62), some (vi (v - v3)), some (vi 0), some (vi v3)] [] 79 (y_P S h3 t3 a3 op bd3 fl3) R (ip_up L 62 24 w3) Q := fun Q => by
          rw [s163_3]
          simp (disch := omega) only [s163_0, s163_1, s163_2, s163_4, s163_5, s163_6, s163_7, s163_8, s163_9, s163_10, s163_11, s163_12, s163_13, s163_14, s163_15, s163_16, s163_17, s163_18, s163_19, s163_20, s163_21, s163_22, s163_23, s163_24, s163_25, s163_26, s163_27, s163_28, s163_29, s163_30, s163_31, s163_32, s163_33, s163_34, s163_35, s163_36, s163_37, ↓reduceIte, Bool.true_eq_false, Bool.false_eq_true, ip_rfS, true_or, or_true, true_and, and_true, Option.toList_some, Option.toList_none, List.cons_append, List.nil_append, ip_fxn, ip_fxi, ip_fxr, ip_fxl, ip_wid, ip_n998, ip_lt900, iO0, iO1, iA2, iA3, iA4, iA5, iA6, iA7, iA8, iO9, iA10, iA11, iA12, iA13, iA14, iA15, iA16, iO17, iA18, iO19, iA20, iA21, iA22, iA23, iO24, iA25, iO26, iA27, iA28, iO29, iA30, iA31, iO32, iA33, iA34, iO35, iA36, iA37, iO38, iA39, iA40, iO41, iA42, iA43, iO44, iA45, iA46, iA47, iA48, iA49, iA50, iA51, iA52, iA53, iO54, iA55, iO56, iA57, iO58, iA59, iO60, iA61, iO62, iA63, iA64, iA65, iA66, iA67, iA68, iA69, iA70, iA71, iA72, iA73, iA74, iA75, iA76, iA77, iA78, iOT, iAT1, iAT2, iOS, iAS, g, g2, q0, q1, Int.reduceEq, decide_true, decide_false, show k_n true = 1 from rfl, show k_n false = 0 from rfl, k2, k3, ec, ip_up_at]
        cases ft
        · obtain ⟨b1, b2⟩ := r2 rfl
          have hL0 : x_loop T la x_pm x_pmc f0 f false jn = (false, jn, []) := by cases f <;> simp [x_loop]
          rw [hL0]
          refine ⟨⟨by dsimp only; omega, i2⟩, v - v3, h3, t3, a3, w3, bd3, fl3, ⟨fun z => (by cases z), fun _ => ⟨b1, b2⟩⟩, fun Q => ?_⟩
          subst b1
          rw [step Q, s163_3]
          simp (disch := omega) only [s163_0, s163_1, s163_2, s163_4, s163_5, s163_6, s163_7, s163_8, s163_9, s163_10, s163_11, s163_12, s163_13, s163_14, s163_15, s163_16, s163_17, s163_18, s163_19, s163_20, s163_21, s163_22, s163_23, s163_24, s163_25, s163_26, s163_27, s163_28, s163_29, s163_30, s163_31, s163_32, s163_33, s163_34, s163_35, s163_36, s163_37, ↓reduceIte, Bool.true_eq_false, Bool.false_eq_true, ip_rfS, true_or, or_true, true_and, and_true, Option.toList_some, Option.toList_none, List.cons_append, List.nil_append, ip_fxn, ip_fxi, ip_fxr, ip_fxl, ip_wid, ip_n998, ip_lt900, iO0, iO1, iA2, iA3, iA4, iA5, iA6, iA7, iA8, iO9, iA10, iA11, iA12, iA13, iA14, iA15, iA16, iO17, iA18, iO19, iA20, iA21, iA22, iA23, iO24, iA25, iO26, iA27, iA28, iO29, iA30, iA31, iO32, iA33, iA34, iO35, iA36, iA37, iO38, iA39, iA40, iO41, iA42, iA43, iO44, iA45, iA46, iA47, iA48, iA49, iA50, iA51, iA52, iA53, iO54, iA55, iO56, iA57, iO58, iA59, iO60, iA61, iO62, iA63, iA64, iA65, iA66, iA67, iA68, iA69, iA70, iA71, iA72, iA73, iA74, iA75, iA76, iA77, iA78, iOT, iAT1, iAT2, iOS, iAS, q156b]
        · obtain ⟨b1, J3, vw, vv⟩ := r1 rfl
          subst b1
          have hev : vi (v_jn (-22) v v3) = vi (v - v3) := by
            rw [show v_jn (-22) v v3 = ip_w (v - v3) by simp only [v_jn, Int.reduceEq, Int.reduceNeg, if_true, if_false], ip_viw]
          obtain ⟨⟨e1, e2⟩, v4, h4, t4, a4, w4, bd4, fl4, res, k4⟩ := y163l hM hC hs f jn h3 t3 a3 w3 fl3 (v_jn (-22) v v3) (O ++ (on ++ [-22])) (some (vi 0)) (some (vi v3)) (by omega) i2 (by have := i3 rfl; omega) J3 v_jnw (y_val2 hO vv (by omega))
          rw [hev] at k4
          rw [List.append_assoc, List.append_assoc, List.singleton_append] at res
          exact ⟨⟨by omega, e2⟩, v4, h4, t4, a4, w4, bd4, fl4, res, fun Q => by rw [step Q, k4 Q]⟩
      · have hL : x_loop T la x_pm x_pmc f0 (f + 1) true j = (true, j, []) := by
          rw [x_loop, if_neg (by simp [x_is, x_pm, q0, q1])]
        rw [hL]
        refine ⟨⟨Int.le_refl _, hj2⟩, v, h, t, a, w, 0, fl, ⟨fun _ => ⟨rfl, J, hv, by rw [List.append_nil]; exact hO⟩, fun z => (by cases z)⟩, fun Q => ?_⟩
        rw [s163_3]
        simp (disch := omega) only [s163_0, s163_1, s163_2, s163_4, s163_5, s163_6, s163_7, s163_8, s163_9, s163_10, s163_11, s163_12, s163_13, s163_14, s163_15, s163_16, s163_17, s163_18, s163_19, s163_20, s163_21, s163_22, s163_23, s163_24, s163_25, s163_26, s163_27, s163_28, s163_29, s163_30, s163_31, s163_32, s163_33, s163_34, s163_35, s163_36, s163_37, ↓reduceIte, Bool.true_eq_false, Bool.false_eq_true, ip_rfS, true_or, or_true, true_and, and_true, Option.toList_some, Option.toList_none, List.cons_append, List.nil_append, ip_fxn, ip_fxi, ip_fxr, ip_fxl, ip_wid, ip_n998, ip_lt900, iO0, iO1, iA2, iA3, iA4, iA5, iA6, iA7, iA8, iO9, iA10, iA11, iA12, iA13, iA14, iA15, iA16, iO17, iA18, iO19, iA20, iA21, iA22, iA23, iO24, iA25, iO26, iA27, iA28, iO29, iA30, iA31, iO32, iA33, iA34, iO35, iA36, iA37, iO38, iA39, iA40, iO41, iA42, iA43, iO44, iA45, iA46, iA47, iA48, iA49, iA50, iA51, iA52, iA53, iO54, iA55, iO56, iA57, iO58, iA59, iO60, iA61, iO62, iA63, iA64, iA65, iA66, iA67, iA68, iA69, iA70, iA71, iA72, iA73, iA74, iA75, iA76, iA77, iA78, iOT, iAT1, iAT2, iOS, iAS, g, g2, q0, q1, decide_false, show k_n false = 0 from rfl]
theorem y163 {f0 : Int → x_PR} (hM : x_RM R) (hC : y_C S b sz T P N la) (hs : y_ok S R L b sz T P N la (d + 3) 164 op f0) : y_ok S R L b sz T P N la (d + 4) 163 op (x_rep T la x_pm x_pmc f0) := by
  intro j h t a w fl hj hj2 J
  obtain ⟨⟨i1, i2, i3⟩, v3, h3, t3, a3, w3, bd3, fl3, ⟨r1, r2⟩, k3⟩ := hs j h t a w fl hj hj2 J
  have hla := hC.2.1.2.1
  have hsz := hC.1.2.2.1
  unfold x_rep
  generalize f0 j = r at *
  obtain ⟨ft, jn, on⟩ := r
  dsimp only at *
  cases ft
  · obtain ⟨b1, b2⟩ := r2 rfl
    subst b1
    have hL0 : x_loop T la x_pm x_pmc f0 160 false jn = (false, jn, []) := by simp [x_loop]
    rw [hL0]
    refine ⟨⟨i1, i2, fun z => (by cases z)⟩, v3, h3, t3, a3, w3, 1, fl3, ⟨fun z => (by cases z), fun _ => ⟨rfl, b2⟩⟩, fun Q => ?_⟩
    simp (disch := omega) only [c163, s163_0, s163_1, s163_2, s163_3, s163_4, s163_5, s163_6, s163_7, s163_8, s163_9, s163_10, s163_11, s163_12, s163_13, s163_14, s163_15, s163_16, s163_17, s163_18, s163_19, s163_20, s163_21, s163_22, s163_23, s163_24, s163_25, s163_26, s163_27, s163_28, s163_29, s163_30, s163_31, s163_32, s163_33, s163_34, s163_35, s163_36, s163_37, ↓reduceIte, Bool.true_eq_false, Bool.false_eq_true, ip_rfS, true_or, or_true, true_and, and_true, Option.toList_some, Option.toList_none, List.cons_append, List.nil_append, ip_fxn, ip_fxi, ip_fxr, ip_fxl, ip_wid, ip_n998, ip_lt900, iO0, iO1, iA2, iA3, iA4, iA5, iA6, iA7, iA8, iO9, iA10, iA11, iA12, iA13, iA14, iA15, iA16, iO17, iA18, iO19, iA20, iA21, iA22, iA23, iO24, iA25, iO26, iA27, iA28, iO29, iA30, iA31, iO32, iA33, iA34, iO35, iA36, iA37, iO38, iA39, iA40, iO41, iA42, iA43, iO44, iA45, iA46, iA47, iA48, iA49, iA50, iA51, iA52, iA53, iO54, iA55, iO56, iA57, iO58, iA59, iO60, iA61, iO62, iA63, iA64, iA65, iA66, iA67, iA68, iA69, iA70, iA71, iA72, iA73, iA74, iA75, iA76, iA77, iA78, iOT, iAT1, iAT2, iOS, iAS, k3, q156b]
  · obtain ⟨b1, J3, vw, vv⟩ := r1 rfl
    subst b1
    have h3j := i3 rfl
    obtain ⟨⟨e1, e2⟩, v4, h4, t4, a4, w4, bd4, fl4, res, k4⟩ := y163l (d := d) hM hC hs 160 jn h3 t3 a3 w3 fl3 v3 on none none (by omega) i2 (by omega) J3 vw vv
    refine ⟨⟨by dsimp only; omega, e2, fun _ => by dsimp only; omega⟩, v4, h4, t4, a4, w4, bd4, fl4, res, fun Q => ?_⟩
    simp (disch := omega) only [c163, s163_0, s163_1, s163_2, ↓reduceIte, Bool.true_eq_false, Bool.false_eq_true, ip_rfS, true_or, or_true, true_and, and_true, Option.toList_some, Option.toList_none, List.cons_append, List.nil_append, ip_fxn, ip_fxi, ip_fxr, ip_fxl, ip_wid, ip_n998, ip_lt900, iO0, iO1, iA2, iA3, iA4, iA5, iA6, iA7, iA8, iO9, iA10, iA11, iA12, iA13, iA14, iA15, iA16, iO17, iA18, iO19, iA20, iA21, iA22, iA23, iO24, iA25, iO26, iA27, iA28, iO29, iA30, iA31, iO32, iA33, iA34, iO35, iA36, iA37, iO38, iA39, iA40, iO41, iA42, iA43, iO44, iA45, iA46, iA47, iA48, iA49, iA50, iA51, iA52, iA53, iO54, iA55, iO56, iA57, iO58, iA59, iO60, iA61, iO62, iA63, iA64, iA65, iA66, iA67, iA68, iA69, iA70, iA71, iA72, iA73, iA74, iA75, iA76, iA77, iA78, iOT, iAT1, iAT2, iOS, iAS, k3, k4]

theorem y150 {one nt : Int → x_PR} (ho : 0 ≤ op ∧ op < 5) (hM : x_RM R) (hC : y_C S b sz T P N la) (hs : y_ok S R L b sz T P N la (d + 4) 163 op (x_sum T la one)) (hp : y_ok S R L b sz T P N la (d + 4) 151 (op + 1) nt) : y_ok S R L b sz T P N la (d + 5) 150 op (x_not T one la (x_nopn la nt)) := by
  intro j h t a w fl hj hj2 J
  have hla := hC.2.1.2.1
  have hsz := hC.1.2.2.1
  have hjr := J.2.1
  have g := fun Q' => q140 (d := d + 1) (op := op) (fl := fl) (L' := ip_up L 62 24 w) (Q := Q') 5 (by omega) (ki := 5) rfl yW5 hM hC hj J (by omega) (by omega) (by omega) (by omega) (by omega) (by omega) (by omega) (by omega)
  have kt : k_n true = 1 := rfl
  have kf : k_n false = 0 := rfl
  by_cases q0 : T j = 5
  · obtain ⟨n1, n2, h2, t2, a2, w2, J2, k2⟩ := q147 (d := d) (L := L) (op := op) hM hC hj J (by omega) (by omega) ho
    obtain ⟨⟨i1, i2, i3⟩, v3, h3, t3, a3, w3, bd3, fl3, ⟨r1, r2⟩, k3⟩ := hp (j + 1) h2 t2 a2 w2 fl (by omega) (by omega) J2
    have hL : x_not T one la (x_nopn la nt) j = ((nt (j + 1)).1, (nt (j + 1)).2.1, (nt (j + 1)).2.2 ++ [-12]) := by rw [x_not, if_pos q0, x_nopn, n2]
    rw [hL]
    generalize nt (j + 1) = r at *
    obtain ⟨ft, jn, on⟩ := r
    dsimp only at *
    have key : ∀ Q, ip_wc (d + 5) 150 [.ref 62] 79 (y_P S h t a op 0 fl) R (ip_up L 62 24 w) Q = Q (some (vi (if ip_w v3 = 0 then 1 else 0))) 79 (y_P S h3 t3 a3 op bd3 fl3) R (ip_up L 62 24 w3) := fun Q => by
      by_cases z : ip_w v3 = 0
      · simp (disch := omega) only [c150, s150_0, s150_1, s150_2, s150_3, s150_4, s150_5, s150_6, s150_7, s150_8, s150_9, s150_10, s150_11, s150_12, s150_13, s150_14, s150_15, s150_16, s150_17, s150_18, s150_19, s150_20, s150_21, s150_22, s150_23, s150_24, s150_25, s150_26, s150_27, s150_28, s150_29, s150_30, s150_31, s150_32, s150_33, s150_34, s150_35, s150_36, s150_37, s150_38, s150_39, s150_40, s150_41, s150_42, s150_43, s150_44, s150_45, s150_46, s150_47, s150_48, s150_49, s150_50, s150_51, s150_52, s150_53, s150_54, s150_55, s150_56, s150_57, s150_58, s150_59, s150_60, s150_61, s150_62, s150_63, s150_64, s150_65, s150_66, s150_67, s150_68, s150_69, s150_70, ↓reduceIte, Bool.true_eq_false, Bool.false_eq_true, ip_rfS, true_or, or_true, true_and, and_true, Option.toList_some, Option.toList_none, List.cons_append, List.nil_append, ip_fxn, ip_fxi, ip_fxr, ip_fxl, ip_wid, ip_n998, ip_lt900, iO0, iO1, iA2, iA3, iA4, iA5, iA6, iA7, iA8, iO9, iA10, iA11, iA12, iA13, iA14, iA15, iA16, iO17, iA18, iO19, iA20, iA21, iA22, iA23, iO24, iA25, iO26, iA27, iA28, iO29, iA30, iA31, iO32, iA33, iA34, iO35, iA36, iA37, iO38, iA39, iA40, iO41, iA42, iA43, iO44, iA45, iA46, iA47, iA48, iA49, iA50, iA51, iA52, iA53, iO54, iA55, iO56, iA57, iO58, iA59, iO60, iA61, iO62, iA63, iA64, iA65, iA66, iA67, iA68, iA69, iA70, iA71, iA72, iA73, iA74, iA75, iA76, iA77, iA78, iOT, iAT1, iAT2, iOS, iAS, g, q0, k2, k3, z, yp_o, yp_uo, Int.add_sub_cancel, if_true, Int.reduceEq, decide_true, decide_false, kt, kf]
      · simp (disch := omega) only [c150, s150_0, s150_1, s150_2, s150_3, s150_4, s150_5, s150_6, s150_7, s150_8, s150_9, s150_10, s150_11, s150_12, s150_13, s150_14, s150_15, s150_16, s150_17, s150_18, s150_19, s150_20, s150_21, s150_22, s150_23, s150_24, s150_25, s150_26, s150_27, s150_28, s150_29, s150_30, s150_31, s150_32, s150_33, s150_34, s150_35, s150_36, s150_37, s150_38, s150_39, s150_40, s150_41, s150_42, s150_43, s150_44, s150_45, s150_46, s150_47, s150_48, s150_49, s150_50, s150_51, s150_52, s150_53, s150_54, s150_55, s150_56, s150_57, s150_58, s150_59, s150_60, s150_61, s150_62, s150_63, s150_64, s150_65, s150_66, s150_67, s150_68, s150_69, s150_70, ↓reduceIte, Bool.true_eq_false, Bool.false_eq_true, ip_rfS, true_or, or_true, true_and, and_true, Option.toList_some, Option.toList_none, List.cons_append, List.nil_append, ip_fxn, ip_fxi, ip_fxr, ip_fxl, ip_wid, ip_n998, ip_lt900, iO0, iO1, iA2, iA3, iA4, iA5, iA6, iA7, iA8, iO9, iA10, iA11, iA12, iA13, iA14, iA15, iA16, iO17, iA18, iO19, iA20, iA21, iA22, iA23, iO24, iA25, iO26, iA27, iA28, iO29, iA30, iA31, iO32, iA33, iA34, iO35, iA36, iA37, iO38, iA39, iA40, iO41, iA42, iA43, iO44, iA45, iA46, iA47, iA48, iA49, iA50, iA51, iA52, iA53, iO54, iA55, iO56, iA57, iO58, iA59, iO60, iA61, iO62, iA63, iA64, iA65, iA66, iA67, iA68, iA69, iA70, iA71, iA72, iA73, iA74, iA75, iA76, iA77, iA78, iOT, iAT1, iAT2, iOS, iAS, g, q0, k2, k3, z, yp_o, yp_uo, Int.add_sub_cancel, if_false, Int.reduceEq, decide_true, decide_false, kt, kf]
    refine ⟨⟨by dsimp only; omega, i2, fun z => by have := i3 z; dsimp only; omega⟩, (if ip_w v3 = 0 then 1 else 0), h3, t3, a3, w3, bd3, fl3, ⟨fun z => ?_, fun z => r2 z⟩, key⟩
    obtain ⟨b1, J3, vw, vv⟩ := r1 z
    have hev : v_tn (-12) v3 = (if ip_w v3 = 0 then 1 else 0) := by
      rw [vw]
      simp only [v_tn, Int.reduceEq, Int.reduceNeg, if_false]
    exact ⟨b1, J3, by rw [← hev]; exact v_tnw, by rw [← hev]; exact y_val1 vv (by omega) (by omega)⟩
  · have hL : x_not T one la (x_nopn la nt) j = x_cmp T la one j := by rw [x_not, if_neg q0]
    rw [hL]
    obtain ⟨⟨i1, i2, i3⟩, v3, h3, t3, a3, w3, bd3, fl3, ⟨r1, r2⟩, k3⟩ := hs j h t a w fl hj hj2 J
    unfold x_cmp
    generalize hr : x_sum T la one j = r at *
    obtain ⟨ft, jn, on⟩ := r
    dsimp only at *
    cases ft
    · obtain ⟨b1, b2⟩ := r2 rfl
      subst b1
      rw [if_neg (by simp)]
      refine ⟨⟨i1, i2, fun z => (by cases z)⟩, v3, h3, t3, a3, w3, 1, fl3, ⟨fun z => (by cases z), fun _ => ⟨rfl, b2⟩⟩, fun Q => ?_⟩
      simp (disch := omega) only [c150, s150_0, s150_1, s150_2, s150_3, s150_4, s150_5, s150_6, s150_7, s150_8, s150_9, s150_10, s150_11, s150_12, s150_13, s150_14, s150_15, s150_16, s150_17, s150_18, s150_19, s150_20, s150_21, s150_22, s150_23, s150_24, s150_25, s150_26, s150_27, s150_28, s150_29, s150_30, s150_31, s150_32, s150_33, s150_34, s150_35, s150_36, s150_37, s150_38, s150_39, s150_40, s150_41, s150_42, s150_43, s150_44, s150_45, s150_46, s150_47, s150_48, s150_49, s150_50, s150_51, s150_52, s150_53, s150_54, s150_55, s150_56, s150_57, s150_58, s150_59, s150_60, s150_61, s150_62, s150_63, s150_64, s150_65, s150_66, s150_67, s150_68, s150_69, s150_70, ↓reduceIte, Bool.true_eq_false, Bool.false_eq_true, ip_rfS, true_or, or_true, true_and, and_true, Option.toList_some, Option.toList_none, List.cons_append, List.nil_append, ip_fxn, ip_fxi, ip_fxr, ip_fxl, ip_wid, ip_n998, ip_lt900, iO0, iO1, iA2, iA3, iA4, iA5, iA6, iA7, iA8, iO9, iA10, iA11, iA12, iA13, iA14, iA15, iA16, iO17, iA18, iO19, iA20, iA21, iA22, iA23, iO24, iA25, iO26, iA27, iA28, iO29, iA30, iA31, iO32, iA33, iA34, iO35, iA36, iA37, iO38, iA39, iA40, iO41, iA42, iA43, iO44, iA45, iA46, iA47, iA48, iA49, iA50, iA51, iA52, iA53, iO54, iA55, iO56, iA57, iO58, iA59, iO60, iA61, iO62, iA63, iA64, iA65, iA66, iA67, iA68, iA69, iA70, iA71, iA72, iA73, iA74, iA75, iA76, iA77, iA78, iOT, iAT1, iAT2, iOS, iAS, g, q0, k3, q156b, Int.reduceEq, decide_true, decide_false, kt, kf]
    · obtain ⟨b1, J3, vw, vv⟩ := r1 rfl
      subst b1
      have h3j := i3 rfl
      have e1 := fun Q' => q156 (d := d + 3) (S := S) (R := R) (L := L) (op := op) (fl := fl3) (Q := Q') J3 (s := 60) (by omega)
      have e2 := fun Q' => q156 (d := d + 3) (S := S) (R := R) (L := L) (op := op) (fl := fl3) (Q := Q') J3 (s := 61) (by omega)
      by_cases c1 : T jn = 60 ∨ T jn = 61
      · obtain ⟨n1, n2, h4, t4, a4, w4, J4, k4⟩ := q138 (d := d + 1) (L := L) hM hC (by omega) J3 (by omega) (by omega)
        obtain ⟨⟨m1, m2, m3⟩, v5, h5, t5, a5, w5, bd5, fl5, ⟨s1, s2⟩, k5⟩ := hs (jn + 1) h4 t4 a4 w4 fl3 (by omega) (by omega) J4
        rw [if_pos (by simp [c1]), n2]
        generalize x_sum T la one (jn + 1) = u at *
        obtain ⟨ft2, j5, o5⟩ := u
        dsimp only at *
        have ew := y_Jw J3 (by omega)
        rcases c1 with c1 | c1
        · have ec : ip_w (ip_cmpl (ip_w64 w3) (ip_w64 60)) = 0 := by rw [ew, c1]; decide +kernel
          have key : ∀ Q, ip_wc (d + 5) 150 [.ref 62] 79 (y_P S h t a op 0 fl) R (ip_up L 62 24 w) Q = Q (some (vi (if v3 < ip_w v5 then 1 else 0))) 79 (y_P S h5 t5 a5 op bd5 fl5) R (ip_up L 62 24 w5) := fun Q => by
            by_cases z : v3 < ip_w v5
            · simp (disch := omega) only [c150, s150_0, s150_1, s150_2, s150_3, s150_4, s150_5, s150_6, s150_7, s150_8, s150_9, s150_10, s150_11, s150_12, s150_13, s150_14, s150_15, s150_16, s150_17, s150_18, s150_19, s150_20, s150_21, s150_22, s150_23, s150_24, s150_25, s150_26, s150_27, s150_28, s150_29, s150_30, s150_31, s150_32, s150_33, s150_34, s150_35, s150_36, s150_37, s150_38, s150_39, s150_40, s150_41, s150_42, s150_43, s150_44, s150_45, s150_46, s150_47, s150_48, s150_49, s150_50, s150_51, s150_52, s150_53, s150_54, s150_55, s150_56, s150_57, s150_58, s150_59, s150_60, s150_61, s150_62, s150_63, s150_64, s150_65, s150_66, s150_67, s150_68, s150_69, s150_70, ↓reduceIte, Bool.true_eq_false, Bool.false_eq_true, ip_rfS, true_or, or_true, true_and, and_true, Option.toList_some, Option.toList_none, List.cons_append, List.nil_append, ip_fxn, ip_fxi, ip_fxr, ip_fxl, ip_wid, ip_n998, ip_lt900, iO0, iO1, iA2, iA3, iA4, iA5, iA6, iA7, iA8, iO9, iA10, iA11, iA12, iA13, iA14, iA15, iA16, iO17, iA18, iO19, iA20, iA21, iA22, iA23, iO24, iA25, iO26, iA27, iA28, iO29, iA30, iA31, iO32, iA33, iA34, iO35, iA36, iA37, iO38, iA39, iA40, iO41, iA42, iA43, iO44, iA45, iA46, iA47, iA48, iA49, iA50, iA51, iA52, iA53, iO54, iA55, iO56, iA57, iO58, iA59, iO60, iA61, iO62, iA63, iA64, iA65, iA66, iA67, iA68, iA69, iA70, iA71, iA72, iA73, iA74, iA75, iA76, iA77, iA78, iOT, iAT1, iAT2, iOS, iAS, g, q0, k3, e1, c1, k4, k5, ip_up_at, ec, vw, z, if_true, Int.reduceEq, decide_true, decide_false, kt, kf]
            · simp (disch := omega) only [c150, s150_0, s150_1, s150_2, s150_3, s150_4, s150_5, s150_6, s150_7, s150_8, s150_9, s150_10, s150_11, s150_12, s150_13, s150_14, s150_15, s150_16, s150_17, s150_18, s150_19, s150_20, s150_21, s150_22, s150_23, s150_24, s150_25, s150_26, s150_27, s150_28, s150_29, s150_30, s150_31, s150_32, s150_33, s150_34, s150_35, s150_36, s150_37, s150_38, s150_39, s150_40, s150_41, s150_42, s150_43, s150_44, s150_45, s150_46, s150_47, s150_48, s150_49, s150_50, s150_51, s150_52, s150_53, s150_54, s150_55, s150_56, s150_57, s150_58, s150_59, s150_60, s150_61, s150_62, s150_63, s150_64, s150_65, s150_66, s150_67, s150_68, s150_69, s150_70, ↓reduceIte, Bool.true_eq_false, Bool.false_eq_true, ip_rfS, true_or, or_true, true_and, and_true, Option.toList_some, Option.toList_none, List.cons_append, List.nil_append, ip_fxn, ip_fxi, ip_fxr, ip_fxl, ip_wid, ip_n998, ip_lt900, iO0, iO1, iA2, iA3, iA4, iA5, iA6, iA7, iA8, iO9, iA10, iA11, iA12, iA13, iA14, iA15, iA16, iO17, iA18, iO19, iA20, iA21, iA22, iA23, iO24, iA25, iO26, iA27, iA28, iO29, iA30, iA31, iO32, iA33, iA34, iO35, iA36, iA37, iO38, iA39, iA40, iO41, iA42, iA43, iO44, iA45, iA46, iA47, iA48, iA49, iA50, iA51, iA52, iA53, iO54, iA55, iO56, iA57, iO58, iA59, iO60, iA61, iO62, iA63, iA64, iA65, iA66, iA67, iA68, iA69, iA70, iA71, iA72, iA73, iA74, iA75, iA76, iA77, iA78, iOT, iAT1, iAT2, iOS, iAS, g, q0, k3, e1, c1, k4, k5, ip_up_at, ec, vw, z, if_false, Int.reduceEq, decide_true, decide_false, kt, kf]
          refine ⟨⟨by dsimp only; omega, m2, fun z => by have := m3 z; dsimp only; omega⟩, (if v3 < ip_w v5 then 1 else 0), h5, t5, a5, w5, bd5, fl5, ⟨fun z => ?_, fun z => s2 z⟩, key⟩
          obtain ⟨d1, J5, d3, d4⟩ := s1 z
          have hev : v_jn (-24) v3 v5 = (if v3 < ip_w v5 then 1 else 0) := by
            rw [d3]
            simp only [v_jn, Int.reduceEq, Int.reduceNeg, if_true, if_false]
          rw [if_pos c1]
          exact ⟨d1, J5, by rw [← hev]; exact v_jnw, by rw [← hev]; exact y_val2 vv d4 (by omega)⟩
        · have ec : ¬ ip_w (ip_cmpl (ip_w64 w3) (ip_w64 60)) = 0 := by rw [ew, c1]; decide +kernel
          have key : ∀ Q, ip_wc (d + 5) 150 [.ref 62] 79 (y_P S h t a op 0 fl) R (ip_up L 62 24 w) Q = Q (some (vi (if v3 = ip_w v5 then 1 else 0))) 79 (y_P S h5 t5 a5 op bd5 fl5) R (ip_up L 62 24 w5) := fun Q => by
            by_cases z : v3 = ip_w v5
            · simp (disch := omega) only [c150, s150_0, s150_1, s150_2, s150_3, s150_4, s150_5, s150_6, s150_7, s150_8, s150_9, s150_10, s150_11, s150_12, s150_13, s150_14, s150_15, s150_16, s150_17, s150_18, s150_19, s150_20, s150_21, s150_22, s150_23, s150_24, s150_25, s150_26, s150_27, s150_28, s150_29, s150_30, s150_31, s150_32, s150_33, s150_34, s150_35, s150_36, s150_37, s150_38, s150_39, s150_40, s150_41, s150_42, s150_43, s150_44, s150_45, s150_46, s150_47, s150_48, s150_49, s150_50, s150_51, s150_52, s150_53, s150_54, s150_55, s150_56, s150_57, s150_58, s150_59, s150_60, s150_61, s150_62, s150_63, s150_64, s150_65, s150_66, s150_67, s150_68, s150_69, s150_70, ↓reduceIte, Bool.true_eq_false, Bool.false_eq_true, ip_rfS, true_or, or_true, true_and, and_true, Option.toList_some, Option.toList_none, List.cons_append, List.nil_append, ip_fxn, ip_fxi, ip_fxr, ip_fxl, ip_wid, ip_n998, ip_lt900, iO0, iO1, iA2, iA3, iA4, iA5, iA6, iA7, iA8, iO9, iA10, iA11, iA12, iA13, iA14, iA15, iA16, iO17, iA18, iO19, iA20, iA21, iA22, iA23, iO24, iA25, iO26, iA27, iA28, iO29, iA30, iA31, iO32, iA33, iA34, iO35, iA36, iA37, iO38, iA39, iA40, iO41, iA42, iA43, iO44, iA45, iA46, iA47, iA48, iA49, iA50, iA51, iA52, iA53, iO54, iA55, iO56, iA57, iO58, iA59, iO60, iA61, iO62, iA63, iA64, iA65, iA66, iA67, iA68, iA69, iA70, iA71, iA72, iA73, iA74, iA75, iA76, iA77, iA78, iOT, iAT1, iAT2, iOS, iAS, g, q0, k3, e1, e2, c1, k4, k5, ip_up_at, ec, vw, eq_true z, if_true, Int.reduceEq, decide_true, decide_false, kt, kf]
            · simp (disch := omega) only [c150, s150_0, s150_1, s150_2, s150_3, s150_4, s150_5, s150_6, s150_7, s150_8, s150_9, s150_10, s150_11, s150_12, s150_13, s150_14, s150_15, s150_16, s150_17, s150_18, s150_19, s150_20, s150_21, s150_22, s150_23, s150_24, s150_25, s150_26, s150_27, s150_28, s150_29, s150_30, s150_31, s150_32, s150_33, s150_34, s150_35, s150_36, s150_37, s150_38, s150_39, s150_40, s150_41, s150_42, s150_43, s150_44, s150_45, s150_46, s150_47, s150_48, s150_49, s150_50, s150_51, s150_52, s150_53, s150_54, s150_55, s150_56, s150_57, s150_58, s150_59, s150_60, s150_61, s150_62, s150_63, s150_64, s150_65, s150_66, s150_67, s150_68, s150_69, s150_70, ↓reduceIte, Bool.true_eq_false, Bool.false_eq_true, ip_rfS, true_or, or_true, true_and, and_true, Option.toList_some, Option.toList_none, List.cons_append, List.nil_append, ip_fxn, ip_fxi, ip_fxr, ip_fxl, ip_wid, ip_n998, ip_lt900, iO0, iO1, iA2, iA3, iA4, iA5, iA6, iA7, iA8, iO9, iA10, iA11, iA12, iA13, iA14, iA15, iA16, iO17, iA18, iO19, iA20, iA21, iA22, iA23, iO24, iA25, iO26, iA27, iA28, iO29, iA30, iA31, iO32, iA33, iA34, iO35, iA36, iA37, iO38, iA39, iA40, iO41, iA42, iA43, iO44, iA45, iA46, iA47, iA48, iA49, iA50, iA51, iA52, iA53, iO54, iA55, iO56, iA57, iO58, iA59, iO60, iA61, iO62, iA63, iA64, iA65, iA66, iA67, iA68, iA69, iA70, iA71, iA72, iA73, iA74, iA75, iA76, iA77, iA78, iOT, iAT1, iAT2, iOS, iAS, g, q0, k3, e1, e2, c1, k4, k5, ip_up_at, ec, vw, z, if_false, Int.reduceEq, decide_true, decide_false, kt, kf]
          refine ⟨⟨by dsimp only; omega, m2, fun z => by have := m3 z; dsimp only; omega⟩, (if v3 = ip_w v5 then 1 else 0), h5, t5, a5, w5, bd5, fl5, ⟨fun z => ?_, fun z => s2 z⟩, key⟩
          obtain ⟨d1, J5, d3, d4⟩ := s1 z
          have hev : v_jn (-25) v3 v5 = (if v3 = ip_w v5 then 1 else 0) := by
            rw [d3]
            simp only [v_jn, Int.reduceEq, Int.reduceNeg, if_true, if_false]
          rw [if_neg (by omega)]
          exact ⟨d1, J5, by rw [← hev]; exact v_jnw, by rw [← hev]; exact y_val2 vv d4 (by omega)⟩
      · rw [if_neg (by simp [c1])]
        refine ⟨⟨i1, i2, i3⟩, v3, h3, t3, a3, w3, 0, fl3, ⟨fun _ => ⟨rfl, J3, vw, vv⟩, fun z => (by cases z)⟩, fun Q => ?_⟩
        simp (disch := omega) only [c150, s150_0, s150_1, s150_2, s150_3, s150_4, s150_5, s150_6, s150_7, s150_8, s150_9, s150_10, s150_11, s150_12, s150_13, s150_14, s150_15, s150_16, s150_17, s150_18, s150_19, s150_20, s150_21, s150_22, s150_23, s150_24, s150_25, s150_26, s150_27, s150_28, s150_29, s150_30, s150_31, s150_32, s150_33, s150_34, s150_35, s150_36, s150_37, s150_38, s150_39, s150_40, s150_41, s150_42, s150_43, s150_44, s150_45, s150_46, s150_47, s150_48, s150_49, s150_50, s150_51, s150_52, s150_53, s150_54, s150_55, s150_56, s150_57, s150_58, s150_59, s150_60, s150_61, s150_62, s150_63, s150_64, s150_65, s150_66, s150_67, s150_68, s150_69, s150_70, ↓reduceIte, Bool.true_eq_false, Bool.false_eq_true, ip_rfS, true_or, or_true, true_and, and_true, Option.toList_some, Option.toList_none, List.cons_append, List.nil_append, ip_fxn, ip_fxi, ip_fxr, ip_fxl, ip_wid, ip_n998, ip_lt900, iO0, iO1, iA2, iA3, iA4, iA5, iA6, iA7, iA8, iO9, iA10, iA11, iA12, iA13, iA14, iA15, iA16, iO17, iA18, iO19, iA20, iA21, iA22, iA23, iO24, iA25, iO26, iA27, iA28, iO29, iA30, iA31, iO32, iA33, iA34, iO35, iA36, iA37, iO38, iA39, iA40, iO41, iA42, iA43, iO44, iA45, iA46, iA47, iA48, iA49, iA50, iA51, iA52, iA53, iO54, iA55, iO56, iA57, iO58, iA59, iO60, iA61, iO62, iA63, iA64, iA65, iA66, iA67, iA68, iA69, iA70, iA71, iA72, iA73, iA74, iA75, iA76, iA77, iA78, iOT, iAT1, iAT2, iOS, iAS, g, q0, k3, e1, e2, show ¬ T jn = 60 by omega, show ¬ T jn = 61 by omega, Int.reduceEq, decide_true, decide_false, kt, kf]

theorem y172l {f0 : Int → x_PR} (hM : x_RM R) (hC : y_C S b sz T P N la) (hs : y_ok S R L b sz T P N la (d + 3) 150 op f0) : ∀ (f : Nat) (j h t a w fl v : Int) (O : List Int) (l2 : Option Value), 0 ≤ j → j ≤ la → la + 1 ≤ j + f → y_J b sz T P N la j h t a w → ip_w v = v → y_val (y_nam S) O v →
    (j ≤ (x_loop T la (x_is 4) (fun _ => -26) f0 f true j).2.1 ∧ (x_loop T la (x_is 4) (fun _ => -26) f0 f true j).2.1 ≤ la) ∧ ∃ v' h' t' a' w' bd' fl', y_res S b sz T P N la ((x_loop T la (x_is 4) (fun _ => -26) f0 f true j).1, (x_loop T la (x_is 4) (fun _ => -26) f0 f true j).2.1, O ++ (x_loop T la (x_is 4) (fun _ => -26) f0 f true j).2.2) v' h' t' a' w' bd' fl' ∧
      ∀ Q, ip_wp (d + 3) 172 3 [some (.ref 62), some (vi v), l2] [] 79 (y_P S h t a op 0 fl) R (ip_up L 62 24 w) Q = Q (some (vi v')) 79 (y_P S h' t' a' op bd' fl') R (ip_up L 62 24 w')
  | 0, j, h, t, a, w, fl, v, O, l2, hj, hj2, hf, J, hv, hO => by omega
  | f + 1, j, h, t, a, w, fl, v, O, l2, hj, hj2, hf, J, hv, hO => by
    have g := fun Q' => q140 (d := d) (op := op) (fl := fl) (L' := ip_up L 62 24 w) (Q := Q') 4 (by omega) (ki := 4) rfl yW4 hM hC hj J (by omega) (by omega) (by omega) (by omega) (by omega) (by omega) (by omega) (by omega)
    by_cases q0 : T j = 4
    · obtain ⟨n1, n2, h2, t2, a2, w2, J2, k2⟩ := q138 (d := d) (L := L) hM hC hj J (by omega) (by omega)
      obtain ⟨⟨i1, i2, i3⟩, v3, h3, t3, a3, w3, bd3, fl3, ⟨r1, r2⟩, k3⟩ := hs (j + 1) h2 t2 a2 w2 fl (by omega) (by omega) J2
      have hL : x_loop T la (x_is 4) (fun _ => -26) f0 (f + 1) true j = ((x_loop T la (x_is 4) (fun _ => -26) f0 f (f0 (j + 1)).1 (f0 (j + 1)).2.1).1, (x_loop T la (x_is 4) (fun _ => -26) f0 f (f0 (j + 1)).1 (f0 (j + 1)).2.1).2.1, (f0 (j + 1)).2.2 ++ -26 :: (x_loop T la (x_is 4) (fun _ => -26) f0 f (f0 (j + 1)).1 (f0 (j + 1)).2.1).2.2) := by
        rw [x_loop, if_pos (by simp [x_is, x_pm, q0]), n2]
        try simp only [x_pmc, q0, Int.reduceEq, if_true, if_false]
      rw [hL]
      generalize f0 (j + 1) = r at *
      obtain ⟨ft, jn, on⟩ := r
      dsimp only at *
      have step : ∀ Q, ∃ v5 : Int, v5 = (if ¬ v = 0 ∧ ¬ ip_w v3 = 0 then 1 else 0) ∧ ip_wp (d + 3) 172 3 [some (.ref 62), some (vi v), l2] [] 79 (y_P S h t a op 0 fl) R (ip_up L 62 24 w) Q = ip_wp (d + 3) 172 3 [some (.ref 62), some (vi v5), some (vi v3)] [] 79 (y_P S h3 t3 a3 op bd3 fl3) R (ip_up L 62 24 w3) Q := fun Q => by
        refine ⟨_, rfl, ?_⟩
        rw [s172_3]
        by_cases z1 : v = 0
        · by_cases z2 : ip_w v3 = 0
          · simp (disch := omega) only [s172_0, s172_1, s172_2, s172_4, s172_5, s172_6, s172_7, s172_8, s172_9, s172_10, s172_11, s172_12, s172_13, s172_14, s172_15, s172_16, s172_17, s172_18, s172_19, s172_20, s172_21, s172_22, s172_23, s172_24, s172_25, s172_26, s172_27, s172_28, s172_29, ↓reduceIte, Bool.true_eq_false, Bool.false_eq_true, ip_rfS, true_or, or_true, true_and, and_true, Option.toList_some, Option.toList_none, List.cons_append, List.nil_append, ip_fxn, ip_fxi, ip_fxr, ip_fxl, ip_wid, ip_n998, ip_lt900, iO0, iO1, iA2, iA3, iA4, iA5, iA6, iA7, iA8, iO9, iA10, iA11, iA12, iA13, iA14, iA15, iA16, iO17, iA18, iO19, iA20, iA21, iA22, iA23, iO24, iA25, iO26, iA27, iA28, iO29, iA30, iA31, iO32, iA33, iA34, iO35, iA36, iA37, iO38, iA39, iA40, iO41, iA42, iA43, iO44, iA45, iA46, iA47, iA48, iA49, iA50, iA51, iA52, iA53, iO54, iA55, iO56, iA57, iO58, iA59, iO60, iA61, iO62, iA63, iA64, iA65, iA66, iA67, iA68, iA69, iA70, iA71, iA72, iA73, iA74, iA75, iA76, iA77, iA78, iOT, iAT1, iAT2, iOS, iAS, g, q0, Int.reduceEq, decide_true, show k_n true = 1 from rfl, k2, k3, hv, z1, z2, not_true, not_false_eq_true, and_self, or_self, false_and, and_false, or_true, true_or, if_true, if_false]
          · simp (disch := omega) only [s172_0, s172_1, s172_2, s172_4, s172_5, s172_6, s172_7, s172_8, s172_9, s172_10, s172_11, s172_12, s172_13, s172_14, s172_15, s172_16, s172_17, s172_18, s172_19, s172_20, s172_21, s172_22, s172_23, s172_24, s172_25, s172_26, s172_27, s172_28, s172_29, ↓reduceIte, Bool.true_eq_false, Bool.false_eq_true, ip_rfS, true_or, or_true, true_and, and_true, Option.toList_some, Option.toList_none, List.cons_append, List.nil_append, ip_fxn, ip_fxi, ip_fxr, ip_fxl, ip_wid, ip_n998, ip_lt900, iO0, iO1, iA2, iA3, iA4, iA5, iA6, iA7, iA8, iO9, iA10, iA11, iA12, iA13, iA14, iA15, iA16, iO17, iA18, iO19, iA20, iA21, iA22, iA23, iO24, iA25, iO26, iA27, iA28, iO29, iA30, iA31, iO32, iA33, iA34, iO35, iA36, iA37, iO38, iA39, iA40, iO41, iA42, iA43, iO44, iA45, iA46, iA47, iA48, iA49, iA50, iA51, iA52, iA53, iO54, iA55, iO56, iA57, iO58, iA59, iO60, iA61, iO62, iA63, iA64, iA65, iA66, iA67, iA68, iA69, iA70, iA71, iA72, iA73, iA74, iA75, iA76, iA77, iA78, iOT, iAT1, iAT2, iOS, iAS, g, q0, Int.reduceEq, decide_true, show k_n true = 1 from rfl, k2, k3, hv, z1, z2, not_true, not_false_eq_true, and_self, or_self, false_and, and_false, or_true, true_or, if_true, if_false]
        · by_cases z2 : ip_w v3 = 0
          · simp (disch := omega) only [s172_0, s172_1, s172_2, s172_4, s172_5, s172_6, s172_7, s172_8, s172_9, s172_10, s172_11, s172_12, s172_13, s172_14, s172_15, s172_16, s172_17, s172_18, s172_19, s172_20, s172_21, s172_22, s172_23, s172_24, s172_25, s172_26, s172_27, s172_28, s172_29, ↓reduceIte, Bool.true_eq_false, Bool.false_eq_true, ip_rfS, true_or, or_true, true_and, and_true, Option.toList_some, Option.toList_none, List.cons_append, List.nil_append, ip_fxn, ip_fxi, ip_fxr, ip_fxl, ip_wid, ip_n998, ip_lt900, iO0, iO1, iA2, iA3, iA4, iA5, iA6, iA7, iA8, iO9, iA10, iA11, iA12, iA13, iA14, iA15, iA16, iO17, iA18, iO19, iA20, iA21, iA22, iA23, iO24, iA25, iO26, iA27, iA28, iO29, iA30, iA31, iO32, iA33, iA34, iO35, iA36, iA37, iO38, iA39, iA40, iO41, iA42, iA43, iO44, iA45, iA46, iA47, iA48, iA49, iA50, iA51, iA52, iA53, iO54, iA55, iO56, iA57, iO58, iA59, iO60, iA61, iO62, iA63, iA64, iA65, iA66, iA67, iA68, iA69, iA70, iA71, iA72, iA73, iA74, iA75, iA76, iA77, iA78, iOT, iAT1, iAT2, iOS, iAS, g, q0, Int.reduceEq, decide_true, show k_n true = 1 from rfl, k2, k3, hv, z1, z2, not_true, not_false_eq_true, and_self, or_self, false_and, and_false, or_true, true_or, if_true, if_false]
          · simp (disch := omega) only [s172_0, s172_1, s172_2, s172_4, s172_5, s172_6, s172_7, s172_8, s172_9, s172_10, s172_11, s172_12, s172_13, s172_14, s172_15, s172_16, s172_17, s172_18, s172_19, s172_20, s172_21, s172_22, s172_23, s172_24, s172_25, s172_26, s172_27, s172_28, s172_29, ↓reduceIte, Bool.true_eq_false, Bool.false_eq_true, ip_rfS, true_or, or_true, true_and, and_true, Option.toList_some, Option.toList_none, List.cons_append, List.nil_append, ip_fxn, ip_fxi, ip_fxr, ip_fxl, ip_wid, ip_n998, ip_lt900, iO0, iO1, iA2, iA3, iA4, iA5, iA6, iA7, iA8, iO9, iA10, iA11, iA12, iA13, iA14, iA15, iA16, iO17, iA18, iO19, iA20, iA21, iA22, iA23, iO24, iA25, iO26, iA27, iA28, iO29, iA30, iA31, iO32, iA33, iA34, iO35, iA36, iA37, iO38, iA39, iA40, iO41, iA42, iA43, iO44, iA45, iA46, iA47, iA48, iA49, iA50, iA51, iA52, iA53, iO54, iA55, iO56, iA57, iO58, iA59, iO60, iA61, iO62, iA63, iA64, iA65, iA66, iA67, iA68, iA69, iA70, iA71, iA72, iA73, iA74, iA75, iA76, iA77, iA78, iOT, iAT1, iAT2, iOS, iAS, g, q0, Int.reduceEq, decide_true, show k_n true = 1 from rfl, k2, k3, hv, z1, z2, not_true, not_false_eq_true, and_self, or_self, false_and, and_false, or_true, true_or, if_true, if_false]
      cases ft
      · obtain ⟨b1, b2⟩ := r2 rfl
        have hL0 : x_loop T la (x_is 4) (fun _ => -26) f0 f false jn = (false, jn, []) := by cases f <;> simp [x_loop]
        rw [hL0]
        refine ⟨⟨by dsimp only; omega, i2⟩, (if ¬ v = 0 ∧ ¬ ip_w v3 = 0 then 1 else 0), h3, t3, a3, w3, bd3, fl3, ⟨fun z => (by cases z), fun _ => ⟨b1, b2⟩⟩, fun Q => ?_⟩
        obtain ⟨v5, e5, k5⟩ := step Q
        subst b1
        rw [k5, s172_3, e5]
        simp (disch := omega) only [s172_0, s172_1, s172_2, s172_4, s172_5, s172_6, s172_7, s172_8, s172_9, s172_10, s172_11, s172_12, s172_13, s172_14, s172_15, s172_16, s172_17, s172_18, s172_19, s172_20, s172_21, s172_22, s172_23, s172_24, s172_25, s172_26, s172_27, s172_28, s172_29, ↓reduceIte, Bool.true_eq_false, Bool.false_eq_true, ip_rfS, true_or, or_true, true_and, and_true, Option.toList_some, Option.toList_none, List.cons_append, List.nil_append, ip_fxn, ip_fxi, ip_fxr, ip_fxl, ip_wid, ip_n998, ip_lt900, iO0, iO1, iA2, iA3, iA4, iA5, iA6, iA7, iA8, iO9, iA10, iA11, iA12, iA13, iA14, iA15, iA16, iO17, iA18, iO19, iA20, iA21, iA22, iA23, iO24, iA25, iO26, iA27, iA28, iO29, iA30, iA31, iO32, iA33, iA34, iO35, iA36, iA37, iO38, iA39, iA40, iO41, iA42, iA43, iO44, iA45, iA46, iA47, iA48, iA49, iA50, iA51, iA52, iA53, iO54, iA55, iO56, iA57, iO58, iA59, iO60, iA61, iO62, iA63, iA64, iA65, iA66, iA67, iA68, iA69, iA70, iA71, iA72, iA73, iA74, iA75, iA76, iA77, iA78, iOT, iAT1, iAT2, iOS, iAS, q140b]
      · obtain ⟨b1, J3, vw, vv⟩ := r1 rfl
        subst b1
        have hev : v_jn (-26) v v3 = (if ¬ v = 0 ∧ ¬ ip_w v3 = 0 then 1 else 0) := by
          rw [vw]
          simp only [v_jn, Int.reduceEq, Int.reduceNeg, if_true, if_false]
        obtain ⟨⟨e1, e2⟩, v4, h4, t4, a4, w4, bd4, fl4, res, k4⟩ := y172l hM hC hs f jn h3 t3 a3 w3 fl3 (v_jn (-26) v v3) (O ++ (on ++ [-26])) (some (vi v3)) (by omega) i2 (by have := i3 rfl; omega) J3 v_jnw (y_val2 hO vv (by omega))
        rw [hev] at k4
        rw [List.append_assoc, List.append_assoc, List.singleton_append] at res
        refine ⟨⟨by omega, e2⟩, v4, h4, t4, a4, w4, bd4, fl4, res, fun Q => ?_⟩
        obtain ⟨v5, e5, k5⟩ := step Q
        rw [k5, e5, k4 Q]
    · have hL : x_loop T la (x_is 4) (fun _ => -26) f0 (f + 1) true j = (true, j, []) := by
        rw [x_loop, if_neg (by simp [x_is, x_pm, q0])]
      rw [hL]
      refine ⟨⟨Int.le_refl _, hj2⟩, v, h, t, a, w, 0, fl, ⟨fun _ => ⟨rfl, J, hv, by rw [List.append_nil]; exact hO⟩, fun z => (by cases z)⟩, fun Q => ?_⟩
      rw [s172_3]
      simp (disch := omega) only [s172_0, s172_1, s172_2, s172_4, s172_5, s172_6, s172_7, s172_8, s172_9, s172_10, s172_11, s172_12, s172_13, s172_14, s172_15, s172_16, s172_17, s172_18, s172_19, s172_20, s172_21, s172_22, s172_23, s172_24, s172_25, s172_26, s172_27, s172_28, s172_29, ↓reduceIte, Bool.true_eq_false, Bool.false_eq_true, ip_rfS, true_or, or_true, true_and, and_true, Option.toList_some, Option.toList_none, List.cons_append, List.nil_append, ip_fxn, ip_fxi, ip_fxr, ip_fxl, ip_wid, ip_n998, ip_lt900, iO0, iO1, iA2, iA3, iA4, iA5, iA6, iA7, iA8, iO9, iA10, iA11, iA12, iA13, iA14, iA15, iA16, iO17, iA18, iO19, iA20, iA21, iA22, iA23, iO24, iA25, iO26, iA27, iA28, iO29, iA30, iA31, iO32, iA33, iA34, iO35, iA36, iA37, iO38, iA39, iA40, iO41, iA42, iA43, iO44, iA45, iA46, iA47, iA48, iA49, iA50, iA51, iA52, iA53, iO54, iA55, iO56, iA57, iO58, iA59, iO60, iA61, iO62, iA63, iA64, iA65, iA66, iA67, iA68, iA69, iA70, iA71, iA72, iA73, iA74, iA75, iA76, iA77, iA78, iOT, iAT1, iAT2, iOS, iAS, g, q0, decide_false, show k_n false = 0 from rfl]
theorem y172 {f0 : Int → x_PR} (hM : x_RM R) (hC : y_C S b sz T P N la) (hs : y_ok S R L b sz T P N la (d + 3) 150 op f0) : y_ok S R L b sz T P N la (d + 4) 172 op (x_rep T la (x_is 4) (fun _ => -26) f0) := by
  intro j h t a w fl hj hj2 J
  obtain ⟨⟨i1, i2, i3⟩, v3, h3, t3, a3, w3, bd3, fl3, ⟨r1, r2⟩, k3⟩ := hs j h t a w fl hj hj2 J
  have hla := hC.2.1.2.1
  have hsz := hC.1.2.2.1
  unfold x_rep
  generalize f0 j = r at *
  obtain ⟨ft, jn, on⟩ := r
  dsimp only at *
  cases ft
  · obtain ⟨b1, b2⟩ := r2 rfl
    subst b1
    have hL0 : x_loop T la (x_is 4) (fun _ => -26) f0 160 false jn = (false, jn, []) := by simp [x_loop]
    rw [hL0]
    refine ⟨⟨i1, i2, fun z => (by cases z)⟩, v3, h3, t3, a3, w3, 1, fl3, ⟨fun z => (by cases z), fun _ => ⟨rfl, b2⟩⟩, fun Q => ?_⟩
    simp (disch := omega) only [c172, s172_0, s172_1, s172_2, s172_3, s172_4, s172_5, s172_6, s172_7, s172_8, s172_9, s172_10, s172_11, s172_12, s172_13, s172_14, s172_15, s172_16, s172_17, s172_18, s172_19, s172_20, s172_21, s172_22, s172_23, s172_24, s172_25, s172_26, s172_27, s172_28, s172_29, ↓reduceIte, Bool.true_eq_false, Bool.false_eq_true, ip_rfS, true_or, or_true, true_and, and_true, Option.toList_some, Option.toList_none, List.cons_append, List.nil_append, ip_fxn, ip_fxi, ip_fxr, ip_fxl, ip_wid, ip_n998, ip_lt900, iO0, iO1, iA2, iA3, iA4, iA5, iA6, iA7, iA8, iO9, iA10, iA11, iA12, iA13, iA14, iA15, iA16, iO17, iA18, iO19, iA20, iA21, iA22, iA23, iO24, iA25, iO26, iA27, iA28, iO29, iA30, iA31, iO32, iA33, iA34, iO35, iA36, iA37, iO38, iA39, iA40, iO41, iA42, iA43, iO44, iA45, iA46, iA47, iA48, iA49, iA50, iA51, iA52, iA53, iO54, iA55, iO56, iA57, iO58, iA59, iO60, iA61, iO62, iA63, iA64, iA65, iA66, iA67, iA68, iA69, iA70, iA71, iA72, iA73, iA74, iA75, iA76, iA77, iA78, iOT, iAT1, iAT2, iOS, iAS, k3, q140b]
  · obtain ⟨b1, J3, vw, vv⟩ := r1 rfl
    subst b1
    have h3j := i3 rfl
    obtain ⟨⟨e1, e2⟩, v4, h4, t4, a4, w4, bd4, fl4, res, k4⟩ := y172l (d := d) hM hC hs 160 jn h3 t3 a3 w3 fl3 v3 on none (by omega) i2 (by omega) J3 vw vv
    refine ⟨⟨by dsimp only; omega, e2, fun _ => by dsimp only; omega⟩, v4, h4, t4, a4, w4, bd4, fl4, res, fun Q => ?_⟩
    simp (disch := omega) only [c172, s172_0, s172_1, s172_2, ↓reduceIte, Bool.true_eq_false, Bool.false_eq_true, ip_rfS, true_or, or_true, true_and, and_true, Option.toList_some, Option.toList_none, List.cons_append, List.nil_append, ip_fxn, ip_fxi, ip_fxr, ip_fxl, ip_wid, ip_n998, ip_lt900, iO0, iO1, iA2, iA3, iA4, iA5, iA6, iA7, iA8, iO9, iA10, iA11, iA12, iA13, iA14, iA15, iA16, iO17, iA18, iO19, iA20, iA21, iA22, iA23, iO24, iA25, iO26, iA27, iA28, iO29, iA30, iA31, iO32, iA33, iA34, iO35, iA36, iA37, iO38, iA39, iA40, iO41, iA42, iA43, iO44, iA45, iA46, iA47, iA48, iA49, iA50, iA51, iA52, iA53, iO54, iA55, iO56, iA57, iO58, iA59, iO60, iA61, iO62, iA63, iA64, iA65, iA66, iA67, iA68, iA69, iA70, iA71, iA72, iA73, iA74, iA75, iA76, iA77, iA78, iOT, iAT1, iAT2, iOS, iAS, k3, k4]

theorem y171l {f0 : Int → x_PR} (hM : x_RM R) (hC : y_C S b sz T P N la) (hs : y_ok S R L b sz T P N la (d + 3) 172 op f0) : ∀ (f : Nat) (j h t a w fl v : Int) (O : List Int) (l2 : Option Value), 0 ≤ j → j ≤ la → la + 1 ≤ j + f → y_J b sz T P N la j h t a w → ip_w v = v → y_val (y_nam S) O v →
    (j ≤ (x_loop T la (x_is 3) (fun _ => -27) f0 f true j).2.1 ∧ (x_loop T la (x_is 3) (fun _ => -27) f0 f true j).2.1 ≤ la) ∧ ∃ v' h' t' a' w' bd' fl', y_res S b sz T P N la ((x_loop T la (x_is 3) (fun _ => -27) f0 f true j).1, (x_loop T la (x_is 3) (fun _ => -27) f0 f true j).2.1, O ++ (x_loop T la (x_is 3) (fun _ => -27) f0 f true j).2.2) v' h' t' a' w' bd' fl' ∧
      ∀ Q, ip_wp (d + 3) 171 3 [some (.ref 62), some (vi v), l2] [] 79 (y_P S h t a op 0 fl) R (ip_up L 62 24 w) Q = Q (some (vi v')) 79 (y_P S h' t' a' op bd' fl') R (ip_up L 62 24 w')
  | 0, j, h, t, a, w, fl, v, O, l2, hj, hj2, hf, J, hv, hO => by omega
  | f + 1, j, h, t, a, w, fl, v, O, l2, hj, hj2, hf, J, hv, hO => by
    have g := fun Q' => q140 (d := d) (op := op) (fl := fl) (L' := ip_up L 62 24 w) (Q := Q') 3 (by omega) (ki := 3) rfl yW3 hM hC hj J (by omega) (by omega) (by omega) (by omega) (by omega) (by omega) (by omega) (by omega)
    by_cases q0 : T j = 3
    · obtain ⟨n1, n2, h2, t2, a2, w2, J2, k2⟩ := q138 (d := d) (L := L) hM hC hj J (by omega) (by omega)
      obtain ⟨⟨i1, i2, i3⟩, v3, h3, t3, a3, w3, bd3, fl3, ⟨r1, r2⟩, k3⟩ := hs (j + 1) h2 t2 a2 w2 fl (by omega) (by omega) J2
      have hL : x_loop T la (x_is 3) (fun _ => -27) f0 (f + 1) true j = ((x_loop T la (x_is 3) (fun _ => -27) f0 f (f0 (j + 1)).1 (f0 (j + 1)).2.1).1, (x_loop T la (x_is 3) (fun _ => -27) f0 f (f0 (j + 1)).1 (f0 (j + 1)).2.1).2.1, (f0 (j + 1)).2.2 ++ -27 :: (x_loop T la (x_is 3) (fun _ => -27) f0 f (f0 (j + 1)).1 (f0 (j + 1)).2.1).2.2) := by
        rw [x_loop, if_pos (by simp [x_is, x_pm, q0]), n2]
        try simp only [x_pmc, q0, Int.reduceEq, if_true, if_false]
      rw [hL]
      generalize f0 (j + 1) = r at *
      obtain ⟨ft, jn, on⟩ := r
      dsimp only at *
      have step : ∀ Q, ∃ v5 : Int, v5 = (if ¬ v = 0 ∨ ¬ ip_w v3 = 0 then 1 else 0) ∧ ip_wp (d + 3) 171 3 [some (.ref 62), some (vi v), l2] [] 79 (y_P S h t a op 0 fl) R (ip_up L 62 24 w) Q = ip_wp (d + 3) 171 3 [some (.ref 62), some (vi v5), some (vi v3)] [] 79 (y_P S h3 t3 a3 op bd3 fl3) R (ip_up L 62 24 w3) Q := fun Q => by
        refine ⟨_, rfl, ?_⟩
        rw [s171_3]
        by_cases z1 : v = 0
        · by_cases z2 : ip_w v3 = 0
          · simp (disch := omega) only [s171_0, s171_1, s171_2, s171_4, s171_5, s171_6, s171_7, s171_8, s171_9, s171_10, s171_11, s171_12, s171_13, s171_14, s171_15, s171_16, s171_17, s171_18, s171_19, s171_20, s171_21, s171_22, s171_23, s171_24, s171_25, s171_26, s171_27, s171_28, s171_29, ↓reduceIte, Bool.true_eq_false, Bool.false_eq_true, ip_rfS, true_or, or_true, true_and, and_true, Option.toList_some, Option.toList_none, List.cons_append, List.nil_append, ip_fxn, ip_fxi, ip_fxr, ip_fxl, ip_wid, ip_n998, ip_lt900, iO0, iO1, iA2, iA3, iA4, iA5, iA6, iA7, iA8, iO9, iA10, iA11, iA12, iA13, iA14, iA15, iA16, iO17, iA18, iO19, iA20, iA21, iA22, iA23, iO24, iA25, iO26, iA27, iA28, iO29, iA30, iA31, iO32, iA33, iA34, iO35, iA36, iA37, iO38, iA39, iA40, iO41, iA42, iA43, iO44, iA45, iA46, iA47, iA48, iA49, iA50, iA51, iA52, iA53, iO54, iA55, iO56, iA57, iO58, iA59, iO60, iA61, iO62, iA63, iA64, iA65, iA66, iA67, iA68, iA69, iA70, iA71, iA72, iA73, iA74, iA75, iA76, iA77, iA78, iOT, iAT1, iAT2, iOS, iAS, g, q0, Int.reduceEq, decide_true, show k_n true = 1 from rfl, k2, k3, hv, z1, z2, not_true, not_false_eq_true, and_self, or_self, false_and, and_false, or_true, true_or, if_true, if_false]
          · simp (disch := omega) only [s171_0, s171_1, s171_2, s171_4, s171_5, s171_6, s171_7, s171_8, s171_9, s171_10, s171_11, s171_12, s171_13, s171_14, s171_15, s171_16, s171_17, s171_18, s171_19, s171_20, s171_21, s171_22, s171_23, s171_24, s171_25, s171_26, s171_27, s171_28, s171_29, ↓reduceIte, Bool.true_eq_false, Bool.false_eq_true, ip_rfS, true_or, or_true, true_and, and_true, Option.toList_some, Option.toList_none, List.cons_append, List.nil_append, ip_fxn, ip_fxi, ip_fxr, ip_fxl, ip_wid, ip_n998, ip_lt900, iO0, iO1, iA2, iA3, iA4, iA5, iA6, iA7, iA8, iO9, iA10, iA11, iA12, iA13, iA14, iA15, iA16, iO17, iA18, iO19, iA20, iA21, iA22, iA23, iO24, iA25, iO26, iA27, iA28, iO29, iA30, iA31, iO32, iA33, iA34, iO35, iA36, iA37, iO38, iA39, iA40, iO41, iA42, iA43, iO44, iA45, iA46, iA47, iA48, iA49, iA50, iA51, iA52, iA53, iO54, iA55, iO56, iA57, iO58, iA59, iO60, iA61, iO62, iA63, iA64, iA65, iA66, iA67, iA68, iA69, iA70, iA71, iA72, iA73, iA74, iA75, iA76, iA77, iA78, iOT, iAT1, iAT2, iOS, iAS, g, q0, Int.reduceEq, decide_true, show k_n true = 1 from rfl, k2, k3, hv, z1, z2, not_true, not_false_eq_true, and_self, or_self, false_and, and_false, or_true, true_or, if_true, if_false]
        · by_cases z2 : ip_w v3 = 0
          · simp (disch := omega) only [s171_0, s171_1, s171_2, s171_4, s171_5, s171_6, s171_7, s171_8, s171_9, s171_10, s171_11, s171_12, s171_13, s171_14, s171_15, s171_16, s171_17, s171_18, s171_19, s171_20, s171_21, s171_22, s171_23, s171_24, s171_25, s171_26, s171_27, s171_28, s171_29, ↓reduceIte, Bool.true_eq_false, Bool.false_eq_true, ip_rfS, true_or, or_true, true_and, and_true, Option.toList_some, Option.toList_none, List.cons_append, List.nil_append, ip_fxn, ip_fxi, ip_fxr, ip_fxl, ip_wid, ip_n998, ip_lt900, iO0, iO1, iA2, iA3, iA4, iA5, iA6, iA7, iA8, iO9, iA10, iA11, iA12, iA13, iA14, iA15, iA16, iO17, iA18, iO19, iA20, iA21, iA22, iA23, iO24, iA25, iO26, iA27, iA28, iO29, iA30, iA31, iO32, iA33, iA34, iO35, iA36, iA37, iO38, iA39, iA40, iO41, iA42, iA43, iO44, iA45, iA46, iA47, iA48, iA49, iA50, iA51, iA52, iA53, iO54, iA55, iO56, iA57, iO58, iA59, iO60, iA61, iO62, iA63, iA64, iA65, iA66, iA67, iA68, iA69, iA70, iA71, iA72, iA73, iA74, iA75, iA76, iA77, iA78, iOT, iAT1, iAT2, iOS, iAS, g, q0, Int.reduceEq, decide_true, show k_n true = 1 from rfl, k2, k3, hv, z1, z2, not_true, not_false_eq_true, and_self, or_self, false_and, and_false, or_true, true_or, if_true, if_false]
          · simp (disch := omega) only [s171_0, s171_1, s171_2, s171_4, s171_5, s171_6, s171_7, s171_8, s171_9, s171_10, s171_11, s171_12, s171_13, s171_14, s171_15, s171_16, s171_17, s171_18, s171_19, s171_20, s171_21, s171_22, s171_23, s171_24, s171_25, s171_26, s171_27, s171_28, s171_29, ↓reduceIte, Bool.true_eq_false, Bool.false_eq_true, ip_rfS, true_or, or_true, true_and, and_true, Option.toList_some, Option.toList_none, List.cons_append, List.nil_append, ip_fxn, ip_fxi, ip_fxr, ip_fxl, ip_wid, ip_n998, ip_lt900, iO0, iO1, iA2, iA3, iA4, iA5, iA6, iA7, iA8, iO9, iA10, iA11, iA12, iA13, iA14, iA15, iA16, iO17, iA18, iO19, iA20, iA21, iA22, iA23, iO24, iA25, iO26, iA27, iA28, iO29, iA30, iA31, iO32, iA33, iA34, iO35, iA36, iA37, iO38, iA39, iA40, iO41, iA42, iA43, iO44, iA45, iA46, iA47, iA48, iA49, iA50, iA51, iA52, iA53, iO54, iA55, iO56, iA57, iO58, iA59, iO60, iA61, iO62, iA63, iA64, iA65, iA66, iA67, iA68, iA69, iA70, iA71, iA72, iA73, iA74, iA75, iA76, iA77, iA78, iOT, iAT1, iAT2, iOS, iAS, g, q0, Int.reduceEq, decide_true, show k_n true = 1 from rfl, k2, k3, hv, z1, z2, not_true, not_false_eq_true, and_self, or_self, false_and, and_false, or_true, true_or, if_true, if_false]
      cases ft
      · obtain ⟨b1, b2⟩ := r2 rfl
        have hL0 : x_loop T la (x_is 3) (fun _ => -27) f0 f false jn = (false, jn, []) := by cases f <;> simp [x_loop]
        rw [hL0]
        refine ⟨⟨by dsimp only; omega, i2⟩, (if ¬ v = 0 ∨ ¬ ip_w v3 = 0 then 1 else 0), h3, t3, a3, w3, bd3, fl3, ⟨fun z => (by cases z), fun _ => ⟨b1, b2⟩⟩, fun Q => ?_⟩
        obtain ⟨v5, e5, k5⟩ := step Q
        subst b1
        rw [k5, s171_3, e5]
        simp (disch := omega) only [s171_0, s171_1, s171_2, s171_4, s171_5, s171_6, s171_7, s171_8, s171_9, s171_10, s171_11, s171_12, s171_13, s171_14, s171_15, s171_16, s171_17, s171_18, s171_19, s171_20, s171_21, s171_22, s171_23, s171_24, s171_25, s171_26, s171_27, s171_28, s171_29, ↓reduceIte, Bool.true_eq_false, Bool.false_eq_true, ip_rfS, true_or, or_true, true_and, and_true, Option.toList_some, Option.toList_none, List.cons_append, List.nil_append, ip_fxn, ip_fxi, ip_fxr, ip_fxl, ip_wid, ip_n998, ip_lt900, iO0, iO1, iA2, iA3, iA4, iA5, iA6, iA7, iA8, iO9, iA10, iA11, iA12, iA13, iA14, iA15, iA16, iO17, iA18, iO19, iA20, iA21, iA22, iA23, iO24, iA25, iO26, iA27, iA28, iO29, iA30, iA31, iO32, iA33, iA34, iO35, iA36, iA37, iO38, iA39, iA40, iO41, iA42, iA43, iO44, iA45, iA46, iA47, iA48, iA49, iA50, iA51, iA52, iA53, iO54, iA55, iO56, iA57, iO58, iA59, iO60, iA61, iO62, iA63, iA64, iA65, iA66, iA67, iA68, iA69, iA70, iA71, iA72, iA73, iA74, iA75, iA76, iA77, iA78, iOT, iAT1, iAT2, iOS, iAS, q140b]
      · obtain ⟨b1, J3, vw, vv⟩ := r1 rfl
        subst b1
        have hev : v_jn (-27) v v3 = (if ¬ v = 0 ∨ ¬ ip_w v3 = 0 then 1 else 0) := by
          rw [vw]
          simp only [v_jn, Int.reduceEq, Int.reduceNeg, if_true, if_false]
        obtain ⟨⟨e1, e2⟩, v4, h4, t4, a4, w4, bd4, fl4, res, k4⟩ := y171l hM hC hs f jn h3 t3 a3 w3 fl3 (v_jn (-27) v v3) (O ++ (on ++ [-27])) (some (vi v3)) (by omega) i2 (by have := i3 rfl; omega) J3 v_jnw (y_val2 hO vv (by omega))
        rw [hev] at k4
        rw [List.append_assoc, List.append_assoc, List.singleton_append] at res
        refine ⟨⟨by omega, e2⟩, v4, h4, t4, a4, w4, bd4, fl4, res, fun Q => ?_⟩
        obtain ⟨v5, e5, k5⟩ := step Q
        rw [k5, e5, k4 Q]
    · have hL : x_loop T la (x_is 3) (fun _ => -27) f0 (f + 1) true j = (true, j, []) := by
        rw [x_loop, if_neg (by simp [x_is, x_pm, q0])]
      rw [hL]
      refine ⟨⟨Int.le_refl _, hj2⟩, v, h, t, a, w, 0, fl, ⟨fun _ => ⟨rfl, J, hv, by rw [List.append_nil]; exact hO⟩, fun z => (by cases z)⟩, fun Q => ?_⟩
      rw [s171_3]
      simp (disch := omega) only [s171_0, s171_1, s171_2, s171_4, s171_5, s171_6, s171_7, s171_8, s171_9, s171_10, s171_11, s171_12, s171_13, s171_14, s171_15, s171_16, s171_17, s171_18, s171_19, s171_20, s171_21, s171_22, s171_23, s171_24, s171_25, s171_26, s171_27, s171_28, s171_29, ↓reduceIte, Bool.true_eq_false, Bool.false_eq_true, ip_rfS, true_or, or_true, true_and, and_true, Option.toList_some, Option.toList_none, List.cons_append, List.nil_append, ip_fxn, ip_fxi, ip_fxr, ip_fxl, ip_wid, ip_n998, ip_lt900, iO0, iO1, iA2, iA3, iA4, iA5, iA6, iA7, iA8, iO9, iA10, iA11, iA12, iA13, iA14, iA15, iA16, iO17, iA18, iO19, iA20, iA21, iA22, iA23, iO24, iA25, iO26, iA27, iA28, iO29, iA30, iA31, iO32, iA33, iA34, iO35, iA36, iA37, iO38, iA39, iA40, iO41, iA42, iA43, iO44, iA45, iA46, iA47, iA48, iA49, iA50, iA51, iA52, iA53, iO54, iA55, iO56, iA57, iO58, iA59, iO60, iA61, iO62, iA63, iA64, iA65, iA66, iA67, iA68, iA69, iA70, iA71, iA72, iA73, iA74, iA75, iA76, iA77, iA78, iOT, iAT1, iAT2, iOS, iAS, g, q0, decide_false, show k_n false = 0 from rfl]
theorem y171 {f0 : Int → x_PR} (hM : x_RM R) (hC : y_C S b sz T P N la) (hs : y_ok S R L b sz T P N la (d + 3) 172 op f0) : y_ok S R L b sz T P N la (d + 4) 171 op (x_rep T la (x_is 3) (fun _ => -27) f0) := by
  intro j h t a w fl hj hj2 J
  obtain ⟨⟨i1, i2, i3⟩, v3, h3, t3, a3, w3, bd3, fl3, ⟨r1, r2⟩, k3⟩ := hs j h t a w fl hj hj2 J
  have hla := hC.2.1.2.1
  have hsz := hC.1.2.2.1
  unfold x_rep
  generalize f0 j = r at *
  obtain ⟨ft, jn, on⟩ := r
  dsimp only at *
  cases ft
  · obtain ⟨b1, b2⟩ := r2 rfl
    subst b1
    have hL0 : x_loop T la (x_is 3) (fun _ => -27) f0 160 false jn = (false, jn, []) := by simp [x_loop]
    rw [hL0]
    refine ⟨⟨i1, i2, fun z => (by cases z)⟩, v3, h3, t3, a3, w3, 1, fl3, ⟨fun z => (by cases z), fun _ => ⟨rfl, b2⟩⟩, fun Q => ?_⟩
    simp (disch := omega) only [c171, s171_0, s171_1, s171_2, s171_3, s171_4, s171_5, s171_6, s171_7, s171_8, s171_9, s171_10, s171_11, s171_12, s171_13, s171_14, s171_15, s171_16, s171_17, s171_18, s171_19, s171_20, s171_21, s171_22, s171_23, s171_24, s171_25, s171_26, s171_27, s171_28, s171_29, ↓reduceIte, Bool.true_eq_false, Bool.false_eq_true, ip_rfS, true_or, or_true, true_and, and_true, Option.toList_some, Option.toList_none, List.cons_append, List.nil_append, ip_fxn, ip_fxi, ip_fxr, ip_fxl, ip_wid, ip_n998, ip_lt900, iO0, iO1, iA2, iA3, iA4, iA5, iA6, iA7, iA8, iO9, iA10, iA11, iA12, iA13, iA14, iA15, iA16, iO17, iA18, iO19, iA20, iA21, iA22, iA23, iO24, iA25, iO26, iA27, iA28, iO29, iA30, iA31, iO32, iA33, iA34, iO35, iA36, iA37, iO38, iA39, iA40, iO41, iA42, iA43, iO44, iA45, iA46, iA47, iA48, iA49, iA50, iA51, iA52, iA53, iO54, iA55, iO56, iA57, iO58, iA59, iO60, iA61, iO62, iA63, iA64, iA65, iA66, iA67, iA68, iA69, iA70, iA71, iA72, iA73, iA74, iA75, iA76, iA77, iA78, iOT, iAT1, iAT2, iOS, iAS, k3, q140b]
  · obtain ⟨b1, J3, vw, vv⟩ := r1 rfl
    subst b1
    have h3j := i3 rfl
    obtain ⟨⟨e1, e2⟩, v4, h4, t4, a4, w4, bd4, fl4, res, k4⟩ := y171l (d := d) hM hC hs 160 jn h3 t3 a3 w3 fl3 v3 on none (by omega) i2 (by omega) J3 vw vv
    refine ⟨⟨by dsimp only; omega, e2, fun _ => by dsimp only; omega⟩, v4, h4, t4, a4, w4, bd4, fl4, res, fun Q => ?_⟩
    simp (disch := omega) only [c171, s171_0, s171_1, s171_2, ↓reduceIte, Bool.true_eq_false, Bool.false_eq_true, ip_rfS, true_or, or_true, true_and, and_true, Option.toList_some, Option.toList_none, List.cons_append, List.nil_append, ip_fxn, ip_fxi, ip_fxr, ip_fxl, ip_wid, ip_n998, ip_lt900, iO0, iO1, iA2, iA3, iA4, iA5, iA6, iA7, iA8, iO9, iA10, iA11, iA12, iA13, iA14, iA15, iA16, iO17, iA18, iO19, iA20, iA21, iA22, iA23, iO24, iA25, iO26, iA27, iA28, iO29, iA30, iA31, iO32, iA33, iA34, iO35, iA36, iA37, iO38, iA39, iA40, iO41, iA42, iA43, iO44, iA45, iA46, iA47, iA48, iA49, iA50, iA51, iA52, iA53, iO54, iA55, iO56, iA57, iO58, iA59, iO60, iA61, iO62, iA63, iA64, iA65, iA66, iA67, iA68, iA69, iA70, iA71, iA72, iA73, iA74, iA75, iA76, iA77, iA78, iOT, iAT1, iAT2, iOS, iAS, k3, k4]

end LV3
