/-! one road shut: the reference -/
section SHM
variable {d : Nat} {S : ip_S} {R : ip_R} {L : ip_S} {W : w_T} {m : Int}
theorem n_lay2e {x y v : Int} : m_lay2 S x y v 66 = ip_u (ip_u (S 66) (x * 8 + y) v) (y * 8 + x) v := by
  unfold m_lay2
  rw [m_ar_ne (by omega), ip_upu, ip_upu]
theorem n_lay3e {x y v : Int} : m_lay2 S x y v 69 = m_fw (ip_u (ip_u (S 66) (x * 8 + y) v) (y * 8 + x) v) (S 69) := by
  unfold m_lay2
  rw [m_ar_eq, ip_upu, ip_upu]
theorem n_layn {x y v : Int} {b : Nat} (h2 : b ≠ 66) (h3 : b ≠ 69) : m_lay2 S x y v b = S b := by
  unfold m_lay2
  rw [m_ar_ne h3, ip_upc h2, ip_upc h2]
def y_D (S : ip_S) : Prop := S 69 = m_fw (S 66) (S 69) ∧ x_sy (S 66)
theorem y_D_c {S1 : ip_S} (hD : y_D S) (h2 : S1 66 = S 66) (h3 : S1 69 = S 69) : y_D S1 := by
  unfold y_D
  rw [h2, h3]
  exact hD
theorem y_tx_c {S1 : ip_S} {t : Int} {V : Int → (Int → Int) → Int} (h : y_tx S t V) (h3 : S1 63 = S 63) (h4 : S1 64 = S 64) : y_tx S1 t V := by
  unfold y_tx at *
  rw [h3, h4]
  exact h
theorem y_lR {x y v : Int} (hW : w_ok W) (hv : 0 ≤ v ∧ v ≤ 99) (hR : y_R W m S) : y_R (w_lay W x y v) m (m_lay2 S x y v) := by
  obtain ⟨r1, r2, r3, r4, r5, r6⟩ := hR
  have hc : ∀ k, 0 ≤ k → k < 64 → ip_u (ip_u (S 66) (x * 8 + y) v) (y * 8 + x) v k = w_ro (w_lay W x y v) k := fun k h0 h1 => by
    show ip_u (ip_u (S 66) (x * 8 + y) v) (y * 8 + x) v k = ip_u (ip_u (w_ro W) (x * 8 + y) v) (y * 8 + x) v k
    unfold ip_u
    rw [(r4 k h0 h1).1]
  have hr : ∀ k, 0 ≤ k → k < 64 → 0 ≤ S 66 k ∧ S 66 k ≤ 99 := fun k h0 h1 => by
    rw [(r4 k h0 h1).1]
    exact w_okr hW k h0 h1
  unfold y_R
  simp (disch := omega) only [n_lay2e, n_lay3e, n_layn]
  exact ⟨r1, r2, r3, fun k h0 h1 => ⟨hc k h0 h1, f_fwc (x_ur hv hr) hc k h0 h1⟩, r5, y_tx_c r6 (n_layn (by omega) (by omega)) (n_layn (by omega) (by omega))⟩
theorem y_lb {S2 : ip_S} {x y : Int} (hr : ∀ k, 0 ≤ k → k < 64 → 0 ≤ S 66 k ∧ S 66 k ≤ 99) (hD : y_D S) (hx : 0 ≤ x ∧ x < 8) (hy : 0 ≤ y ∧ y < 8) (h : y_g (m_lay2 S x y 0) S2) : y_g S (m_lay2 S2 x y (S 66 (x * 8 + y))) := by
  have h2 := h.1 66 (by omega) (by omega) (by omega)
  have h3 := h.1 69 (by omega) (by omega) (by omega)
  refine ⟨fun b a1 a2 a3 => ?_, fun k hk => ?_⟩
  · by_cases c2 : b = 66
    · rw [c2, n_lay2e, h2, n_lay2e, x_syu hD.2 hx hy]
    · by_cases c3 : b = 69
      · rw [c3, n_lay3e, h2, h3, n_lay2e, n_lay3e, x_syu hD.2 hx hy, f_fwi hr]
        exact hD.1.symm
      · rw [n_layn c2 c3, h.1 b a1 a2 a3, n_layn c2 c3]
  · rw [n_layn (by omega) (by omega), h.2 k hk, n_layn (by omega) (by omega)]
theorem y213l {f b a w0 : Int} (hM : x_RM R) (hW : w_ok W) (hR : y_R W m S) (hG : w_gd W) (hD : y_D S) (hf : 0 ≤ f ∧ f < m) (hb : 0 ≤ b ∧ b < m) (ha : 0 ≤ a ∧ a < 8) (hw0 : 0 ≤ w0 ∧ w0 < 2) : ∀ (n : Nat) (k : Int) (st : Int × Int) (w : Int) (v8 v9 : Option Value) (S1 : ip_S), k + n = 64 → 0 ≤ k → a_sb st → y_g S S1 →
    ∃ S' w', y_g S S' ∧ ∀ Q, ip_wp (d + 49) 213 26 [some (.ref 62), some (vi f), some (vi b), some (vi a), some (vi w0), some (vi st.1), some (vi st.2), some (vi k), v8, v9] [] 79 S1 R (ip_up L 62 24 w) Q = Q (some (vi (a_shw w0 (a_sh W f b a n k st)))) 79 S' R (ip_up L 62 24 w')
  | 0, k, st, w, v8, v9, S1, h, hk, hs, h1 => by
    obtain rfl : k = 64 := by omega
    refine ⟨S1, w, h1, fun Q => ?_⟩
    rw [s213_26, a_sh]
    unfold a_shw
    by_cases c : w0 = 0
    · rw [if_pos c]
      simp (disch := omega) only [s213_27, s213_28, s213_84, s213_85, s213_86, s213_87, s213_88, s213_89, ↓reduceIte, Bool.true_eq_false, Bool.false_eq_true, ip_rfS, true_or, or_true, true_and, and_true, Option.toList_some, Option.toList_none, List.cons_append, List.nil_append, ip_fxn, ip_fxi, ip_fxr, ip_fxl, ip_wid, ip_n998, ip_lt900, iO0, iO1, iA2, iA3, iA4, iA5, iA6, iA7, iA8, iO9, iA10, iA11, iA12, iA13, iA14, iA15, iA16, iO17, iA18, iO19, iA20, iA21, iA22, iA23, iO24, iA25, iO26, iA27, iA28, iO29, iA30, iA31, iO32, iA33, iA34, iO35, iA36, iA37, iO38, iA39, iA40, iO41, iA42, iA43, iO44, iA45, iA46, iA47, iA48, iA49, iA50, iA51, iA52, iA53, iO54, iA55, iO56, iA57, iO58, iA59, iO60, iA61, iO62, iA63, iA64, iA65, iA66, iA67, iA68, iA69, iA70, iA71, iA72, iA73, iA74, iA75, iA76, iA77, iA78, iOT, iAT1, iAT2, iOS, iAS, ↓yfm1 hM, ↓yfm2 hM, ↓yfm5 hM, ↓yfm8 hM, ↓yfm9 hM, ↓yfm10 hM, ↓yfm12 hM, ↓yfm28 hM, ↓yfm32 hM, ↓yfm35 hM, ↓yfm36 hM, ↓yfm37 hM, ↓yfm41 hM, ↓yfm42 hM, ↓yfm43 hM, ↓yfm44 hM, rm1 hM, rm2 hM, rm5 hM, rm8 hM, rm9 hM, rm10 hM, rm12 hM, rm28 hM, rm32 hM, rm35 hM, rm36 hM, rm37 hM, rm41 hM, rm42 hM, rm43 hM, rm44 hM, p128r, p187r, p215r, k_n1, k_n0, k_n2, ip_r0, ip_r1, Int.lt_irrefl, eq_true c]
    · rw [if_neg c]
      simp (disch := omega) only [s213_27, s213_28, s213_84, s213_85, s213_86, s213_87, s213_88, s213_89, ↓reduceIte, Bool.true_eq_false, Bool.false_eq_true, ip_rfS, true_or, or_true, true_and, and_true, Option.toList_some, Option.toList_none, List.cons_append, List.nil_append, ip_fxn, ip_fxi, ip_fxr, ip_fxl, ip_wid, ip_n998, ip_lt900, iO0, iO1, iA2, iA3, iA4, iA5, iA6, iA7, iA8, iO9, iA10, iA11, iA12, iA13, iA14, iA15, iA16, iO17, iA18, iO19, iA20, iA21, iA22, iA23, iO24, iA25, iO26, iA27, iA28, iO29, iA30, iA31, iO32, iA33, iA34, iO35, iA36, iA37, iO38, iA39, iA40, iO41, iA42, iA43, iO44, iA45, iA46, iA47, iA48, iA49, iA50, iA51, iA52, iA53, iO54, iA55, iO56, iA57, iO58, iA59, iO60, iA61, iO62, iA63, iA64, iA65, iA66, iA67, iA68, iA69, iA70, iA71, iA72, iA73, iA74, iA75, iA76, iA77, iA78, iOT, iAT1, iAT2, iOS, iAS, ↓yfm1 hM, ↓yfm2 hM, ↓yfm5 hM, ↓yfm8 hM, ↓yfm9 hM, ↓yfm10 hM, ↓yfm12 hM, ↓yfm28 hM, ↓yfm32 hM, ↓yfm35 hM, ↓yfm36 hM, ↓yfm37 hM, ↓yfm41 hM, ↓yfm42 hM, ↓yfm43 hM, ↓yfm44 hM, rm1 hM, rm2 hM, rm5 hM, rm8 hM, rm9 hM, rm10 hM, rm12 hM, rm28 hM, rm32 hM, rm35 hM, rm36 hM, rm37 hM, rm41 hM, rm42 hM, rm43 hM, rm44 hM, p128r, p187r, p215r, k_n1, k_n0, k_n2, ip_r0, ip_r1, Int.lt_irrefl, c]
  | n + 1, k, st, w, v8, v9, S1, h, hk, hs, h1 => by
    have e66 : S1 66 = S 66 := h1.1 66 (by omega) (by omega) (by omega)
    have e69 : S1 69 = S 69 := h1.1 69 (by omega) (by omega) (by omega)
    have er : S 66 k = w_ro W k := (hR.2.2.2.1 k hk (by omega)).1
    have hrr := w_okr hW k hk (by omega)
    have hr : ∀ k, 0 ≤ k → k < 64 → 0 ≤ S1 66 k ∧ S1 66 k ≤ 99 := fun k h0 h1 => by
      rw [e66, (hR.2.2.2.1 k h0 h1).1]
      exact w_okr hW k h0 h1
    have h8 : (¬ (8 : Int) = 0) = True := eq_true (by omega)
    have hs2 := hs.2
    have kk : k / 8 * 8 + k % 8 = k := by omega
    rw [a_sh]
    by_cases c : w_ro W k = 0
    · have e0 : a_wo W f b a (k / 8) (k % 8) = -1 := by
        unfold a_wo
        rw [kk, if_pos c]
      rw [e0, if_neg (fun z => by have := z.2; omega)]
      obtain ⟨S', w', i1, i2⟩ := y213l hM hW hR hG hD hf hb ha hw0 n (k + 1) st w (some (vi 0)) v9 S1 (by omega) (by omega) hs h1
      refine ⟨S', w', i1, fun Q => ?_⟩
      rw [← i2 Q, s213_26]
      simp (disch := omega) only [s213_27, s213_28, s213_29, s213_30, s213_31, s213_32, s213_33, s213_34, s213_35, s213_36, s213_37, s213_38, s213_39, s213_40, s213_41, s213_42, s213_43, s213_44, s213_45, s213_46, s213_47, s213_48, s213_49, s213_50, s213_51, s213_52, s213_53, s213_54, s213_55, s213_56, s213_57, s213_58, s213_59, s213_60, s213_61, s213_62, s213_63, s213_64, s213_65, s213_66, s213_67, s213_68, s213_69, s213_70, s213_71, s213_72, s213_73, s213_74, s213_75, s213_76, s213_77, s213_78, s213_79, s213_80, s213_81, s213_82, s213_83, ↓reduceIte, Bool.true_eq_false, Bool.false_eq_true, ip_rfS, true_or, or_true, true_and, and_true, Option.toList_some, Option.toList_none, List.cons_append, List.nil_append, ip_fxn, ip_fxi, ip_fxr, ip_fxl, ip_wid, ip_n998, ip_lt900, iO0, iO1, iA2, iA3, iA4, iA5, iA6, iA7, iA8, iO9, iA10, iA11, iA12, iA13, iA14, iA15, iA16, iO17, iA18, iO19, iA20, iA21, iA22, iA23, iO24, iA25, iO26, iA27, iA28, iO29, iA30, iA31, iO32, iA33, iA34, iO35, iA36, iA37, iO38, iA39, iA40, iO41, iA42, iA43, iO44, iA45, iA46, iA47, iA48, iA49, iA50, iA51, iA52, iA53, iO54, iA55, iO56, iA57, iO58, iA59, iO60, iA61, iO62, iA63, iA64, iA65, iA66, iA67, iA68, iA69, iA70, iA71, iA72, iA73, iA74, iA75, iA76, iA77, iA78, iOT, iAT1, iAT2, iOS, iAS, ↓yfm1 hM, ↓yfm2 hM, ↓yfm5 hM, ↓yfm8 hM, ↓yfm9 hM, ↓yfm10 hM, ↓yfm12 hM, ↓yfm28 hM, ↓yfm32 hM, ↓yfm35 hM, ↓yfm36 hM, ↓yfm37 hM, ↓yfm41 hM, ↓yfm42 hM, ↓yfm43 hM, ↓yfm44 hM, rm1 hM, rm2 hM, rm5 hM, rm8 hM, rm9 hM, rm10 hM, rm12 hM, rm28 hM, rm32 hM, rm35 hM, rm36 hM, rm37 hM, rm41 hM, rm42 hM, rm43 hM, rm44 hM, p128r, p187r, p215r, k_n1, k_n0, k_n2, ip_r0, ip_r1, show k < 64 by omega, e66, er, c, Int.lt_irrefl]
    · by_cases c2 : k / 8 < k % 8
      · have k188 := fun Q' => p188 (d := d + 47) (S := S1) (R := R) (L := ip_up L 62 24 w) (Q := Q') (x := k / 8) (y := k % 8) (v := 0) hM (by omega) (by omega) ip_w0
        obtain ⟨S2, w2, f2, -, k2⟩ := y204 (d := d) (L := ip_up L 62 24 w) (W := w_lay W (k / 8) (k % 8) 0) (m := m) (S := m_lay2 S1 (k / 8) (k % 8) 0) (f := f) (b := b) (a := a) hM (w_lok hW (by omega)) (y_lR hW (by omega) (y_g_R h1 hR)) (w_lgd hW (by omega)) hf hb ha
        simp only [ip_upup] at k2
        have k189 := fun Q' => p188 (d := d + 47) (S := S2) (R := R) (L := ip_up L 62 24 w2) (Q := Q') (x := k / 8) (y := k % 8) (v := w_ro W k) hM (by omega) (by omega) (ip_wid (by omega) (by omega))
        have g2 := y_lb (S := S1) hr (y_D_c hD e66 e69) (x := k / 8) (y := k % 8) (by omega) (by omega) f2
        rw [kk, e66, er] at g2
        have e0 : a_wo W f b a (k / 8) (k % 8) = (w_rz (w_lay W (k / 8) (k % 8) 0) f b a).2.2.1 := by
          unfold a_wo
          rw [kk, if_neg c]
        have hw := a_wor (W := W) (f := f) (b := b) (x := k / 8) (y := k % 8) (w_okr hW) ha
        rw [← e0] at k2
        by_cases c3 : st.2 < a_wo W f b a (k / 8) (k % 8)
        · rw [if_pos ⟨c2, c3⟩]
          obtain ⟨S', w', i1, i2⟩ := y213l hM hW hR hG hD hf hb ha hw0 n (k + 1) (10 * (k / 8) + k % 8, a_wo W f b a (k / 8) (k % 8)) w2 (some (vi (w_ro W k))) (some (vi (a_wo W f b a (k / 8) (k % 8)))) _ (by omega) (by omega) ⟨by dsimp only; omega, by dsimp only; omega⟩ (y_g_t h1 g2)
          refine ⟨S', w', i1, fun Q => ?_⟩
          rw [← i2 Q, s213_26]
          simp (disch := omega) only [s213_27, s213_28, s213_29, s213_30, s213_31, s213_32, s213_33, s213_34, s213_35, s213_36, s213_37, s213_38, s213_39, s213_40, s213_41, s213_42, s213_43, s213_44, s213_45, s213_46, s213_47, s213_48, s213_49, s213_50, s213_51, s213_52, s213_53, s213_54, s213_55, s213_56, s213_57, s213_58, s213_59, s213_60, s213_61, s213_62, s213_63, s213_64, s213_65, s213_66, s213_67, s213_68, s213_69, s213_70, s213_71, s213_72, s213_73, s213_74, s213_75, s213_76, s213_77, s213_78, s213_79, s213_80, s213_81, s213_82, s213_83, ↓reduceIte, Bool.true_eq_false, Bool.false_eq_true, ip_rfS, true_or, or_true, true_and, and_true, Option.toList_some, Option.toList_none, List.cons_append, List.nil_append, ip_fxn, ip_fxi, ip_fxr, ip_fxl, ip_wid, ip_n998, ip_lt900, iO0, iO1, iA2, iA3, iA4, iA5, iA6, iA7, iA8, iO9, iA10, iA11, iA12, iA13, iA14, iA15, iA16, iO17, iA18, iO19, iA20, iA21, iA22, iA23, iO24, iA25, iO26, iA27, iA28, iO29, iA30, iA31, iO32, iA33, iA34, iO35, iA36, iA37, iO38, iA39, iA40, iO41, iA42, iA43, iO44, iA45, iA46, iA47, iA48, iA49, iA50, iA51, iA52, iA53, iO54, iA55, iO56, iA57, iO58, iA59, iO60, iA61, iO62, iA63, iA64, iA65, iA66, iA67, iA68, iA69, iA70, iA71, iA72, iA73, iA74, iA75, iA76, iA77, iA78, iOT, iAT1, iAT2, iOS, iAS, ↓yfm1 hM, ↓yfm2 hM, ↓yfm5 hM, ↓yfm8 hM, ↓yfm9 hM, ↓yfm10 hM, ↓yfm12 hM, ↓yfm28 hM, ↓yfm32 hM, ↓yfm35 hM, ↓yfm36 hM, ↓yfm37 hM, ↓yfm41 hM, ↓yfm42 hM, ↓yfm43 hM, ↓yfm44 hM, rm1 hM, rm2 hM, rm5 hM, rm8 hM, rm9 hM, rm10 hM, rm12 hM, rm28 hM, rm32 hM, rm35 hM, rm36 hM, rm37 hM, rm41 hM, rm42 hM, rm43 hM, rm44 hM, p128r, p187r, p215r, k_n1, k_n0, k_n2, ip_r0, ip_r1, show k < 64 by omega, e66, er, show 0 < w_ro W k by omega, ip_div_id, ip_rem_id, h8, c2, k188, k2, k189, c3]
        · rw [if_neg (fun z => c3 z.2)]
          obtain ⟨S', w', i1, i2⟩ := y213l hM hW hR hG hD hf hb ha hw0 n (k + 1) st w2 (some (vi (w_ro W k))) (some (vi (a_wo W f b a (k / 8) (k % 8)))) _ (by omega) (by omega) hs (y_g_t h1 g2)
          refine ⟨S', w', i1, fun Q => ?_⟩
          rw [← i2 Q, s213_26]
          simp (disch := omega) only [s213_27, s213_28, s213_29, s213_30, s213_31, s213_32, s213_33, s213_34, s213_35, s213_36, s213_37, s213_38, s213_39, s213_40, s213_41, s213_42, s213_43, s213_44, s213_45, s213_46, s213_47, s213_48, s213_49, s213_50, s213_51, s213_52, s213_53, s213_54, s213_55, s213_56, s213_57, s213_58, s213_59, s213_60, s213_61, s213_62, s213_63, s213_64, s213_65, s213_66, s213_67, s213_68, s213_69, s213_70, s213_71, s213_72, s213_73, s213_74, s213_75, s213_76, s213_77, s213_78, s213_79, s213_80, s213_81, s213_82, s213_83, ↓reduceIte, Bool.true_eq_false, Bool.false_eq_true, ip_rfS, true_or, or_true, true_and, and_true, Option.toList_some, Option.toList_none, List.cons_append, List.nil_append, ip_fxn, ip_fxi, ip_fxr, ip_fxl, ip_wid, ip_n998, ip_lt900, iO0, iO1, iA2, iA3, iA4, iA5, iA6, iA7, iA8, iO9, iA10, iA11, iA12, iA13, iA14, iA15, iA16, iO17, iA18, iO19, iA20, iA21, iA22, iA23, iO24, iA25, iO26, iA27, iA28, iO29, iA30, iA31, iO32, iA33, iA34, iO35, iA36, iA37, iO38, iA39, iA40, iO41, iA42, iA43, iO44, iA45, iA46, iA47, iA48, iA49, iA50, iA51, iA52, iA53, iO54, iA55, iO56, iA57, iO58, iA59, iO60, iA61, iO62, iA63, iA64, iA65, iA66, iA67, iA68, iA69, iA70, iA71, iA72, iA73, iA74, iA75, iA76, iA77, iA78, iOT, iAT1, iAT2, iOS, iAS, ↓yfm1 hM, ↓yfm2 hM, ↓yfm5 hM, ↓yfm8 hM, ↓yfm9 hM, ↓yfm10 hM, ↓yfm12 hM, ↓yfm28 hM, ↓yfm32 hM, ↓yfm35 hM, ↓yfm36 hM, ↓yfm37 hM, ↓yfm41 hM, ↓yfm42 hM, ↓yfm43 hM, ↓yfm44 hM, rm1 hM, rm2 hM, rm5 hM, rm8 hM, rm9 hM, rm10 hM, rm12 hM, rm28 hM, rm32 hM, rm35 hM, rm36 hM, rm37 hM, rm41 hM, rm42 hM, rm43 hM, rm44 hM, p128r, p187r, p215r, k_n1, k_n0, k_n2, ip_r0, ip_r1, show k < 64 by omega, e66, er, show 0 < w_ro W k by omega, ip_div_id, ip_rem_id, h8, c2, k188, k2, k189, c3]
      · rw [if_neg (fun z => c2 z.1)]
        obtain ⟨S', w', i1, i2⟩ := y213l hM hW hR hG hD hf hb ha hw0 n (k + 1) st w (some (vi (w_ro W k))) v9 S1 (by omega) (by omega) hs h1
        refine ⟨S', w', i1, fun Q => ?_⟩
        rw [← i2 Q, s213_26]
        simp (disch := omega) only [s213_27, s213_28, s213_29, s213_30, s213_31, s213_32, s213_33, s213_34, s213_35, s213_36, s213_37, s213_38, s213_39, s213_40, s213_41, s213_42, s213_43, s213_44, s213_45, s213_46, s213_47, s213_48, s213_49, s213_50, s213_51, s213_52, s213_53, s213_54, s213_55, s213_56, s213_57, s213_58, s213_59, s213_60, s213_61, s213_62, s213_63, s213_64, s213_65, s213_66, s213_67, s213_68, s213_69, s213_70, s213_71, s213_72, s213_73, s213_74, s213_75, s213_76, s213_77, s213_78, s213_79, s213_80, s213_81, s213_82, s213_83, ↓reduceIte, Bool.true_eq_false, Bool.false_eq_true, ip_rfS, true_or, or_true, true_and, and_true, Option.toList_some, Option.toList_none, List.cons_append, List.nil_append, ip_fxn, ip_fxi, ip_fxr, ip_fxl, ip_wid, ip_n998, ip_lt900, iO0, iO1, iA2, iA3, iA4, iA5, iA6, iA7, iA8, iO9, iA10, iA11, iA12, iA13, iA14, iA15, iA16, iO17, iA18, iO19, iA20, iA21, iA22, iA23, iO24, iA25, iO26, iA27, iA28, iO29, iA30, iA31, iO32, iA33, iA34, iO35, iA36, iA37, iO38, iA39, iA40, iO41, iA42, iA43, iO44, iA45, iA46, iA47, iA48, iA49, iA50, iA51, iA52, iA53, iO54, iA55, iO56, iA57, iO58, iA59, iO60, iA61, iO62, iA63, iA64, iA65, iA66, iA67, iA68, iA69, iA70, iA71, iA72, iA73, iA74, iA75, iA76, iA77, iA78, iOT, iAT1, iAT2, iOS, iAS, ↓yfm1 hM, ↓yfm2 hM, ↓yfm5 hM, ↓yfm8 hM, ↓yfm9 hM, ↓yfm10 hM, ↓yfm12 hM, ↓yfm28 hM, ↓yfm32 hM, ↓yfm35 hM, ↓yfm36 hM, ↓yfm37 hM, ↓yfm41 hM, ↓yfm42 hM, ↓yfm43 hM, ↓yfm44 hM, rm1 hM, rm2 hM, rm5 hM, rm8 hM, rm9 hM, rm10 hM, rm12 hM, rm28 hM, rm32 hM, rm35 hM, rm36 hM, rm37 hM, rm41 hM, rm42 hM, rm43 hM, rm44 hM, p128r, p187r, p215r, k_n1, k_n0, k_n2, ip_r0, ip_r1, show k < 64 by omega, e66, er, show 0 < w_ro W k by omega, ip_div_id, ip_rem_id, h8, c2]
theorem y213r {f b a w0 : Int} (hM : x_RM R) (hW : w_ok W) (hR : y_R W m S) (hG : w_gd W) (hD : y_D S) (hf : 0 ≤ f ∧ f < m) (hb : 0 ≤ b ∧ b < m) (ha : 0 ≤ a ∧ a < 8) (hw0 : 0 ≤ w0 ∧ w0 < 2) :
    ∃ S' w', y_g S S' ∧ ∀ Q, ip_wp (d + 49) 213 16 [some (.ref 62), some (vi f), some (vi b), some (vi a), some (vi w0), none, none, none, none, none] [] 79 S R L Q = Q (some (vi (a_shw w0 (a_sh W f b a 64 0 (-1, (w_rz W f b a).2.2.1))))) 79 S' R (ip_up L 62 24 w') := by
  obtain ⟨S1, w1, f1, -, k1⟩ := y204 (d := d) (L := L) (f := f) (b := b) (a := a) hM hW hR hG hf hb ha
  have r3 := (w_rzr (W := W) (f := f) (b := b) (a := a) (w_okr hW) ha).2.2.1
  obtain ⟨S', w', i1, i2⟩ := y213l (d := d) (L := L) (w0 := w0) hM hW hR hG hD hf hb ha hw0 64 0 (-1, (w_rz W f b a).2.2.1) w1 none none S1 (by omega) (by omega) ⟨by dsimp only; omega, by dsimp only; omega⟩ f1
  refine ⟨S', w', i1, fun Q => ?_⟩
  rw [← i2 Q]
  simp (disch := omega) only [s213_16, s213_17, s213_18, s213_19, s213_20, s213_21, s213_22, s213_23, s213_24, s213_25, ↓reduceIte, Bool.true_eq_false, Bool.false_eq_true, ip_rfS, true_or, or_true, true_and, and_true, Option.toList_some, Option.toList_none, List.cons_append, List.nil_append, ip_fxn, ip_fxi, ip_fxr, ip_fxl, ip_wid, ip_n998, ip_lt900, iO0, iO1, iA2, iA3, iA4, iA5, iA6, iA7, iA8, iO9, iA10, iA11, iA12, iA13, iA14, iA15, iA16, iO17, iA18, iO19, iA20, iA21, iA22, iA23, iO24, iA25, iO26, iA27, iA28, iO29, iA30, iA31, iO32, iA33, iA34, iO35, iA36, iA37, iO38, iA39, iA40, iO41, iA42, iA43, iO44, iA45, iA46, iA47, iA48, iA49, iA50, iA51, iA52, iA53, iO54, iA55, iO56, iA57, iO58, iA59, iO60, iA61, iO62, iA63, iA64, iA65, iA66, iA67, iA68, iA69, iA70, iA71, iA72, iA73, iA74, iA75, iA76, iA77, iA78, iOT, iAT1, iAT2, iOS, iAS, ↓yfm1 hM, ↓yfm2 hM, ↓yfm5 hM, ↓yfm8 hM, ↓yfm9 hM, ↓yfm10 hM, ↓yfm12 hM, ↓yfm28 hM, ↓yfm32 hM, ↓yfm35 hM, ↓yfm36 hM, ↓yfm37 hM, ↓yfm41 hM, ↓yfm42 hM, ↓yfm43 hM, ↓yfm44 hM, rm1 hM, rm2 hM, rm5 hM, rm8 hM, rm9 hM, rm10 hM, rm12 hM, rm28 hM, rm32 hM, rm35 hM, rm36 hM, rm37 hM, rm41 hM, rm42 hM, rm43 hM, rm44 hM, p128r, p187r, p215r, k_n1, k_n0, k_n2, ip_r0, ip_r1, k1]
end SHM
