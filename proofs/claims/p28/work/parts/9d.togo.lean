/-! the reference's ways: the whole of 210 -/
section TGO
variable {d : Nat} {S : ip_S} {R : ip_R} {L : ip_S}
theorem t_apn {st : Int × Int} {P : Nat} {way miles : Int} {B : Int} {c : Int × Int} (hc : t_bd B P c) : t_ap st P way miles c = t_lk st (way * 100 ^ P + c.2) (miles + c.1) := by
  unfold t_ap
  rw [if_neg (by have := hc.1.1; omega)]
theorem y210 {V : Nat → Nat → Int} {p : Nat} (hM : x_RM R) (hV : ∀ i j, 0 ≤ V i j ∧ V i j ≤ 3960) (hp : p < 7) (hS : ∀ i j : Nat, i < j → j < p → S 71 (6 * (i : Int) + (j : Int)) = V i j) : ∀ n l : Nat, l < 64 → l < 2 ^ p → t_pc l ≤ n → y_mt (d + n + 4) S R L V p l := by
  intro n
  induction n with
  | zero =>
    intro l h6 hlp hn way miles st hw hwP hm hmP hs Q
    have hpc : t_pc l = 0 := by omega
    have fb := t_fpc l h6
    rw [hpc] at fb hwP
    have k202 := fun Q' => p202 (d := d + 2) (n := 79) (S := m_st S st) (R := R) (L := L) (v := (l : Int)) (Q := Q') (by omega)
    rw [fb] at k202
    have k211 := fun Q' => p211s (d := d + 2) (S := S) (R := R) (L := L) (st := st) (w := way) (m := miles) (Q := Q') hs (by simp at hwP; omega) (by omega)
    rw [t_al1 h6 (by omega), hpc]
    simp (disch := omega) only [c210, s210_0, s210_1, s210_2, s210_3, s210_4, s210_5, s210_6, s210_7, s210_8, s210_9, s210_10, s210_11, s210_12, s210_13, s210_14, s210_15, s210_16, s210_17, s210_18, s210_19, s210_20, s210_21, s210_22, s210_23, s210_24, s210_25, s210_26, s210_27, s210_28, s210_29, s210_30, s210_31, s210_32, s210_33, s210_34, s210_35, s210_36, s210_37, s210_38, s210_39, s210_40, s210_41, s210_42, s210_43, s210_44, s210_45, s210_46, s210_47, s210_48, s210_49, s210_50, s210_51, s210_52, s210_53, s210_54, s210_55, s210_56, s210_57, s210_58, s210_59, s210_60, s210_61, s210_62, s210_63, s210_64, s210_65, s210_66, s210_67, s210_68, s210_69, s210_70, s210_71, s210_72, s210_73, s210_74, s210_75, s210_76, s210_77, s210_78, s210_79, s210_80, ↓reduceIte, Bool.true_eq_false, Bool.false_eq_true, ip_rfS, true_or, or_true, true_and, and_true, Option.toList_some, Option.toList_none, List.cons_append, List.nil_append, ip_fxn, ip_fxi, ip_fxr, ip_fxl, ip_wid, ip_n998, ip_lt900, iO0, iO1, iA2, iA3, iA4, iA5, iA6, iA7, iA8, iO9, iA10, iA11, iA12, iA13, iA14, iA15, iA16, iO17, iA18, iO19, iA20, iA21, iA22, iA23, iO24, iA25, iO26, iA27, iA28, iO29, iA30, iA31, iO32, iA33, iA34, iO35, iA36, iA37, iO38, iA39, iA40, iO41, iA42, iA43, iO44, iA45, iA46, iA47, iA48, iA49, iA50, iA51, iA52, iA53, iO54, iA55, iO56, iA57, iO58, iA59, iO60, iA61, iO62, iA63, iA64, iA65, iA66, iA67, iA68, iA69, iA70, iA71, iA72, iA73, iA74, iA75, iA76, iA77, iA78, iOT, iAT1, iAT2, iOS, iAS, ↓yfm1 hM, ↓yfm2 hM, ↓yfm5 hM, ↓yfm8 hM, ↓yfm9 hM, ↓yfm10 hM, ↓yfm12 hM, ↓yfm28 hM, ↓yfm32 hM, ↓yfm35 hM, ↓yfm36 hM, ↓yfm37 hM, ↓yfm41 hM, ↓yfm42 hM, ↓yfm43 hM, ↓yfm44 hM, rm1 hM, rm2 hM, rm5 hM, rm8 hM, rm9 hM, rm10 hM, rm12 hM, rm28 hM, rm32 hM, rm35 hM, rm36 hM, rm37 hM, rm41 hM, rm42 hM, rm43 hM, rm44 hM, p128r, p187r, p215r, k_n1, k_n0, k_n2, ip_r0, ip_r1, k202, k211, Int.cast_ofNat_Int, Int.reduceLT, Nat.zero_div, Int.pow_zero, Int.mul_one, Int.add_zero]
  | succ n ihn =>
    intro l h6 hlp hn way miles st hw hwP hm hmP hs Q
    rw [show d + (n + 1) + 4 = d + n + 4 + 1 by omega]
    have fb := t_fpc l h6
    have hp6 := t_pc6 l h6
    have k202 := fun S' Q' => p202 (d := d + n + 3) (n := 79) (S := S') (R := R) (L := L) (v := (l : Int)) (Q := Q') (by omega)
    rw [fb] at k202
    by_cases c1 : t_pc l < 2
    · have e0 : t_pc l / 2 = 0 := by omega
      rw [e0] at hwP
      have k211 := fun Q' => p211s (d := d + n + 3) (S := S) (R := R) (L := L) (st := st) (w := way) (m := miles) (Q := Q') hs (by simp at hwP; omega) (by omega)
      rw [t_al1 h6 c1, e0]
      simp (disch := omega) only [c210, s210_0, s210_1, s210_2, s210_3, s210_4, s210_5, s210_6, s210_7, s210_8, s210_9, s210_10, s210_11, s210_12, s210_13, s210_14, s210_15, s210_16, s210_17, s210_18, s210_19, s210_20, s210_21, s210_22, s210_23, s210_24, s210_25, s210_26, s210_27, s210_28, s210_29, s210_30, s210_31, s210_32, s210_33, s210_34, s210_35, s210_36, s210_37, s210_38, s210_39, s210_40, s210_41, s210_42, s210_43, s210_44, s210_45, s210_46, s210_47, s210_48, s210_49, s210_50, s210_51, s210_52, s210_53, s210_54, s210_55, s210_56, s210_57, s210_58, s210_59, s210_60, s210_61, s210_62, s210_63, s210_64, s210_65, s210_66, s210_67, s210_68, s210_69, s210_70, s210_71, s210_72, s210_73, s210_74, s210_75, s210_76, s210_77, s210_78, s210_79, s210_80, ↓reduceIte, Bool.true_eq_false, Bool.false_eq_true, ip_rfS, true_or, or_true, true_and, and_true, Option.toList_some, Option.toList_none, List.cons_append, List.nil_append, ip_fxn, ip_fxi, ip_fxr, ip_fxl, ip_wid, ip_n998, ip_lt900, iO0, iO1, iA2, iA3, iA4, iA5, iA6, iA7, iA8, iO9, iA10, iA11, iA12, iA13, iA14, iA15, iA16, iO17, iA18, iO19, iA20, iA21, iA22, iA23, iO24, iA25, iO26, iA27, iA28, iO29, iA30, iA31, iO32, iA33, iA34, iO35, iA36, iA37, iO38, iA39, iA40, iO41, iA42, iA43, iO44, iA45, iA46, iA47, iA48, iA49, iA50, iA51, iA52, iA53, iO54, iA55, iO56, iA57, iO58, iA59, iO60, iA61, iO62, iA63, iA64, iA65, iA66, iA67, iA68, iA69, iA70, iA71, iA72, iA73, iA74, iA75, iA76, iA77, iA78, iOT, iAT1, iAT2, iOS, iAS, ↓yfm1 hM, ↓yfm2 hM, ↓yfm5 hM, ↓yfm8 hM, ↓yfm9 hM, ↓yfm10 hM, ↓yfm12 hM, ↓yfm28 hM, ↓yfm32 hM, ↓yfm35 hM, ↓yfm36 hM, ↓yfm37 hM, ↓yfm41 hM, ↓yfm42 hM, ↓yfm43 hM, ↓yfm44 hM, rm1 hM, rm2 hM, rm5 hM, rm8 hM, rm9 hM, rm10 hM, rm12 hM, rm28 hM, rm32 hM, rm35 hM, rm36 hM, rm37 hM, rm41 hM, rm42 hM, rm43 hM, rm44 hM, p128r, p187r, p215r, k_n1, k_n0, k_n2, ip_r0, ip_r1, k202, k211, show ((t_pc l : Nat) : Int) < 2 by omega, Int.pow_zero, Int.mul_one, Int.add_zero]
    · have h0 : 0 < l := by
        rcases Nat.eq_zero_or_pos l with z | z
        · subst z; exact absurd (by decide) c1
        · exact z
      obtain ⟨hb, hl6⟩ := t_lob l h6 h0
      have hr := t_bl hb
      have hpc := t_pcb l h6 (t_lo l) hl6 hb
      have fx := t_fx1 l h6 (t_lo l) hl6
      have k212 := fun Q' => p212 (d := d + n + 3) (S := m_st S st) (R := R) (L := L) (n := 79) (Q := Q') h6 h0
      have ih : ∀ r : Nat, r < 64 → r < 2 ^ p → t_pc r < t_pc l → y_mt (d + n + 4) S R L V p r := fun r r1 r2 r3 => ihn r r1 r2 (by omega)
      obtain ⟨c', q1, q2, q3⟩ := y210l hM hV hp h6 hlp h0 hS ih hw hwP hm hmP hs (5 - t_lo l) (t_lo l + 1) (-1, 0) (by omega) (by omega) (Or.inl rfl)
      have e1 : t_ap st (t_pc l / 2) way miles (-1, 0) = st := rfl
      rw [e1, Int.natCast_add, Int.cast_ofNat_Int] at q3
      have hal := t_alb hV 64 l h6 h6
      have halo := t_alb hV 64 (t_rm l (t_lo l)) (by omega) (by omega)
      have er := (t_frem (t_pc l) (by omega)).1
      have hT := t_als (V := V) h0 h6
      unfold t_st at hT
      rw [← q1] at hT
      by_cases c2 : t_pc l % 2 = 1
      · rw [if_pos c2] at hT
        rw [c2] at er
        have ep : t_pc (t_rm l (t_lo l)) / 2 = t_pc l / 2 := by omega
        have hsr := t_apr (V := V) hs hw hwP hm hmP q2
        have k3 := ih (t_rm l (t_lo l)) (by omega) (by omega) (by omega) way miles _ hw (by rw [ep]; exact hwP) hm (by rw [ep]; exact hmP) hsr
        rw [ep, ← t_apk hw (by rcases q2 with z | z; exact Or.inl z; exact Or.inr ⟨z.1.1, z.2.1⟩) halo.1.1, ← hT, t_apn hal] at k3
        simp (disch := omega) only [c210, s210_0, s210_1, s210_2, s210_3, s210_4, s210_5, s210_6, s210_7, s210_8, s210_9, s210_10, s210_11, s210_12, s210_13, s210_14, s210_15, s210_16, s210_17, s210_18, s210_19, s210_20, s210_21, s210_22, s210_23, s210_24, s210_26, s210_27, s210_28, s210_29, s210_30, s210_31, s210_32, s210_33, s210_34, s210_35, s210_36, s210_37, s210_38, s210_39, s210_40, s210_41, s210_42, s210_43, s210_44, s210_45, s210_46, s210_47, s210_48, s210_49, s210_50, s210_51, s210_52, s210_53, s210_54, s210_55, s210_56, s210_57, s210_58, s210_59, s210_60, s210_61, s210_62, s210_63, s210_64, s210_65, s210_66, s210_67, s210_68, s210_70, s210_71, s210_72, s210_73, s210_74, s210_75, s210_76, s210_77, s210_78, s210_79, s210_80, ↓reduceIte, Bool.true_eq_false, Bool.false_eq_true, ip_rfS, true_or, or_true, true_and, and_true, Option.toList_some, Option.toList_none, List.cons_append, List.nil_append, ip_fxn, ip_fxi, ip_fxr, ip_fxl, ip_wid, ip_n998, ip_lt900, iO0, iO1, iA2, iA3, iA4, iA5, iA6, iA7, iA8, iO9, iA10, iA11, iA12, iA13, iA14, iA15, iA16, iO17, iA18, iO19, iA20, iA21, iA22, iA23, iO24, iA25, iO26, iA27, iA28, iO29, iA30, iA31, iO32, iA33, iA34, iO35, iA36, iA37, iO38, iA39, iA40, iO41, iA42, iA43, iO44, iA45, iA46, iA47, iA48, iA49, iA50, iA51, iA52, iA53, iO54, iA55, iO56, iA57, iO58, iA59, iO60, iA61, iO62, iA63, iA64, iA65, iA66, iA67, iA68, iA69, iA70, iA71, iA72, iA73, iA74, iA75, iA76, iA77, iA78, iOT, iAT1, iAT2, iOS, iAS, ↓yfm1 hM, ↓yfm2 hM, ↓yfm5 hM, ↓yfm8 hM, ↓yfm9 hM, ↓yfm10 hM, ↓yfm12 hM, ↓yfm28 hM, ↓yfm32 hM, ↓yfm35 hM, ↓yfm36 hM, ↓yfm37 hM, ↓yfm41 hM, ↓yfm42 hM, ↓yfm43 hM, ↓yfm44 hM, rm1 hM, rm2 hM, rm5 hM, rm8 hM, rm9 hM, rm10 hM, rm12 hM, rm28 hM, rm32 hM, rm35 hM, rm36 hM, rm37 hM, rm41 hM, rm42 hM, rm43 hM, rm44 hM, p128r, p187r, p215r, k_n1, k_n0, k_n2, ip_r0, ip_r1, k202, k212, fx, q3, show ¬ ((t_pc l : Nat) : Int) < 2 by omega]
        rw [s210_69]
        simp (disch := omega) only [s210_70, s210_71, s210_72, s210_73, s210_74, s210_75, s210_76, s210_77, s210_78, s210_79, s210_80, ↓reduceIte, Bool.true_eq_false, Bool.false_eq_true, ip_rfS, true_or, or_true, true_and, and_true, Option.toList_some, Option.toList_none, List.cons_append, List.nil_append, ip_fxn, ip_fxi, ip_fxr, ip_fxl, ip_wid, ip_n998, ip_lt900, iO0, iO1, iA2, iA3, iA4, iA5, iA6, iA7, iA8, iO9, iA10, iA11, iA12, iA13, iA14, iA15, iA16, iO17, iA18, iO19, iA20, iA21, iA22, iA23, iO24, iA25, iO26, iA27, iA28, iO29, iA30, iA31, iO32, iA33, iA34, iO35, iA36, iA37, iO38, iA39, iA40, iO41, iA42, iA43, iO44, iA45, iA46, iA47, iA48, iA49, iA50, iA51, iA52, iA53, iO54, iA55, iO56, iA57, iO58, iA59, iO60, iA61, iO62, iA63, iA64, iA65, iA66, iA67, iA68, iA69, iA70, iA71, iA72, iA73, iA74, iA75, iA76, iA77, iA78, iOT, iAT1, iAT2, iOS, iAS, ↓yfm1 hM, ↓yfm2 hM, ↓yfm5 hM, ↓yfm8 hM, ↓yfm9 hM, ↓yfm10 hM, ↓yfm12 hM, ↓yfm28 hM, ↓yfm32 hM, ↓yfm35 hM, ↓yfm36 hM, ↓yfm37 hM, ↓yfm41 hM, ↓yfm42 hM, ↓yfm43 hM, ↓yfm44 hM, rm1 hM, rm2 hM, rm5 hM, rm8 hM, rm9 hM, rm10 hM, rm12 hM, rm28 hM, rm32 hM, rm35 hM, rm36 hM, rm37 hM, rm41 hM, rm42 hM, rm43 hM, rm44 hM, p128r, p187r, p215r, k_n1, k_n0, k_n2, ip_r0, ip_r1, k202, er, k3, Int.cast_ofNat_Int, Int.reduceEq, not_false_eq_true, true_and]
      · rw [if_neg c2] at hT
        have e0 : t_pc l % 2 = 0 := by omega
        rw [e0] at er
        rw [← hT, t_apn hal] at q3
        simp (disch := omega) only [c210, s210_0, s210_1, s210_2, s210_3, s210_4, s210_5, s210_6, s210_7, s210_8, s210_9, s210_10, s210_11, s210_12, s210_13, s210_14, s210_15, s210_16, s210_17, s210_18, s210_19, s210_20, s210_21, s210_22, s210_23, s210_24, s210_26, s210_27, s210_28, s210_29, s210_30, s210_31, s210_32, s210_33, s210_34, s210_35, s210_36, s210_37, s210_38, s210_39, s210_40, s210_41, s210_42, s210_43, s210_44, s210_45, s210_46, s210_47, s210_48, s210_49, s210_50, s210_51, s210_52, s210_53, s210_54, s210_55, s210_56, s210_57, s210_58, s210_59, s210_60, s210_61, s210_62, s210_63, s210_64, s210_65, s210_66, s210_67, s210_68, s210_70, s210_71, s210_72, s210_73, s210_74, s210_75, s210_76, s210_77, s210_78, s210_79, s210_80, ↓reduceIte, Bool.true_eq_false, Bool.false_eq_true, ip_rfS, true_or, or_true, true_and, and_true, Option.toList_some, Option.toList_none, List.cons_append, List.nil_append, ip_fxn, ip_fxi, ip_fxr, ip_fxl, ip_wid, ip_n998, ip_lt900, iO0, iO1, iA2, iA3, iA4, iA5, iA6, iA7, iA8, iO9, iA10, iA11, iA12, iA13, iA14, iA15, iA16, iO17, iA18, iO19, iA20, iA21, iA22, iA23, iO24, iA25, iO26, iA27, iA28, iO29, iA30, iA31, iO32, iA33, iA34, iO35, iA36, iA37, iO38, iA39, iA40, iO41, iA42, iA43, iO44, iA45, iA46, iA47, iA48, iA49, iA50, iA51, iA52, iA53, iO54, iA55, iO56, iA57, iO58, iA59, iO60, iA61, iO62, iA63, iA64, iA65, iA66, iA67, iA68, iA69, iA70, iA71, iA72, iA73, iA74, iA75, iA76, iA77, iA78, iOT, iAT1, iAT2, iOS, iAS, ↓yfm1 hM, ↓yfm2 hM, ↓yfm5 hM, ↓yfm8 hM, ↓yfm9 hM, ↓yfm10 hM, ↓yfm12 hM, ↓yfm28 hM, ↓yfm32 hM, ↓yfm35 hM, ↓yfm36 hM, ↓yfm37 hM, ↓yfm41 hM, ↓yfm42 hM, ↓yfm43 hM, ↓yfm44 hM, rm1 hM, rm2 hM, rm5 hM, rm8 hM, rm9 hM, rm10 hM, rm12 hM, rm28 hM, rm32 hM, rm35 hM, rm36 hM, rm37 hM, rm41 hM, rm42 hM, rm43 hM, rm44 hM, p128r, p187r, p215r, k_n1, k_n0, k_n2, ip_r0, ip_r1, k202, k212, fx, q3, show ¬ ((t_pc l : Nat) : Int) < 2 by omega]
        rw [s210_69]
        simp (disch := omega) only [s210_70, s210_71, s210_72, s210_73, s210_74, s210_75, s210_76, s210_77, s210_78, s210_79, s210_80, ↓reduceIte, Bool.true_eq_false, Bool.false_eq_true, ip_rfS, true_or, or_true, true_and, and_true, Option.toList_some, Option.toList_none, List.cons_append, List.nil_append, ip_fxn, ip_fxi, ip_fxr, ip_fxl, ip_wid, ip_n998, ip_lt900, iO0, iO1, iA2, iA3, iA4, iA5, iA6, iA7, iA8, iO9, iA10, iA11, iA12, iA13, iA14, iA15, iA16, iO17, iA18, iO19, iA20, iA21, iA22, iA23, iO24, iA25, iO26, iA27, iA28, iO29, iA30, iA31, iO32, iA33, iA34, iO35, iA36, iA37, iO38, iA39, iA40, iO41, iA42, iA43, iO44, iA45, iA46, iA47, iA48, iA49, iA50, iA51, iA52, iA53, iO54, iA55, iO56, iA57, iO58, iA59, iO60, iA61, iO62, iA63, iA64, iA65, iA66, iA67, iA68, iA69, iA70, iA71, iA72, iA73, iA74, iA75, iA76, iA77, iA78, iOT, iAT1, iAT2, iOS, iAS, ↓yfm1 hM, ↓yfm2 hM, ↓yfm5 hM, ↓yfm8 hM, ↓yfm9 hM, ↓yfm10 hM, ↓yfm12 hM, ↓yfm28 hM, ↓yfm32 hM, ↓yfm35 hM, ↓yfm36 hM, ↓yfm37 hM, ↓yfm41 hM, ↓yfm42 hM, ↓yfm43 hM, ↓yfm44 hM, rm1 hM, rm2 hM, rm5 hM, rm8 hM, rm9 hM, rm10 hM, rm12 hM, rm28 hM, rm32 hM, rm35 hM, rm36 hM, rm37 hM, rm41 hM, rm42 hM, rm43 hM, rm44 hM, p128r, p187r, p215r, k_n1, k_n0, k_n2, ip_r0, ip_r1, k202, er, Int.cast_ofNat_Int, Int.reduceEq, not_false_eq_true, true_and]
end TGO
