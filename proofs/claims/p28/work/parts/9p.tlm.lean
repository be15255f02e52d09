/-! what was told of a ride: the reference -/
theorem ip_shl0 {v : Int} : ip_shl 0 v = 0 := by
  unfold ip_shl
  rw [show Int32.ofInt 0 = 0 from rfl, Int32.zero_shiftLeft]
  rfl
theorem ip_or0w {z : Int} : ip_or z 0 = ip_w z := by
  unfold ip_or ip_w
  rw [show Int32.ofInt 0 = 0 from rfl, Int32.or_zero]
theorem ip_orz {z v : Int} : vi (ip_or z (ip_shl 0 v)) = vi z := by
  rw [show ip_shl 0 v = 0 from ip_shl0, ip_or0w]
  exact ip_viw
section TLM
variable {d : Nat} {S : ip_S} {R : ip_R} {L : ip_S} {W : w_T} {m : Int}
theorem y217l {q : w_R} {s : Int} {l2 l3 : Option Value} {a4 : Int} (hM : x_RM R) (hs : 0 ≤ s ∧ s < 4) (hsz : 0 ≤ S 77 s ∧ S 77 s ≤ 20) (hc : ∀ i, 0 ≤ i → i < S 77 s → ip_w (S 78 (40 * s + i)) = S 78 (40 * s + i)) (hz : y_ez S q) (hq : 0 ≤ q.2.1 ∧ q.2.1 ≤ 40) (hp : ∀ i, 0 ≤ i → i ≤ q.2.1 → 0 ≤ q.2.2.2.2 i ∧ q.2.2.2.2 i < 8) {Q} : ∀ (k : Nat) (i : Int), i + k = S 77 s → 0 ≤ i →
    ip_wp (d + 1) 217 7 [some (.ref 62), some (vi s), l2, l3, some (vi a4), some (vi i)] [] 79 S R L Q = Q (some (vi (a_fo q (fun i => S 78 (40 * s + i)) k i))) 79 S R L
  | 0, i, h, hi => by
    rw [s217_7]
    simp (disch := omega) only [s217_8, s217_9, s217_10, s217_11, s217_12, s217_29, s217_30, ↓reduceIte, Bool.true_eq_false, Bool.false_eq_true, ip_rfS, true_or, or_true, true_and, and_true, Option.toList_some, Option.toList_none, List.cons_append, List.nil_append, ip_fxn, ip_fxi, ip_fxr, ip_fxl, ip_wid, ip_n998, ip_lt900, iO0, iO1, iA2, iA3, iA4, iA5, iA6, iA7, iA8, iO9, iA10, iA11, iA12, iA13, iA14, iA15, iA16, iO17, iA18, iO19, iA20, iA21, iA22, iA23, iO24, iA25, iO26, iA27, iA28, iO29, iA30, iA31, iO32, iA33, iA34, iO35, iA36, iA37, iO38, iA39, iA40, iO41, iA42, iA43, iO44, iA45, iA46, iA47, iA48, iA49, iA50, iA51, iA52, iA53, iO54, iA55, iO56, iA57, iO58, iA59, iO60, iA61, iO62, iA63, iA64, iA65, iA66, iA67, iA68, iA69, iA70, iA71, iA72, iA73, iA74, iA75, iA76, iA77, iA78, iOT, iAT1, iAT2, iOS, iAS, ↓yfm1 hM, ↓yfm2 hM, ↓yfm5 hM, ↓yfm8 hM, ↓yfm9 hM, ↓yfm10 hM, ↓yfm12 hM, ↓yfm28 hM, ↓yfm32 hM, ↓yfm35 hM, ↓yfm36 hM, ↓yfm37 hM, ↓yfm41 hM, ↓yfm42 hM, ↓yfm43 hM, ↓yfm44 hM, rm1 hM, rm2 hM, rm5 hM, rm8 hM, rm9 hM, rm10 hM, rm12 hM, rm28 hM, rm32 hM, rm35 hM, rm36 hM, rm37 hM, rm41 hM, rm42 hM, rm43 hM, rm44 hM, p128r, p187r, p215r, k_n1, k_n0, k_n2, ip_r0, ip_r1, show ¬ i < S 77 s by omega, a_fo]
  | k + 1, i, h, hi => by
    have k200 := fun Q' => p200 (d := d) (S := S) (R := R) (L := L) (Q := Q') (k := i) (s := q.2.1) hM (by omega) hz.1 hq
    have hw := w_pbr (k := i) hq.1
    rw [hz.2.2.2 (w_pb i q.2.1) hw.1 hw.2] at k200
    have hv := hp (w_pb i q.2.1) hw.1 hw.2
    have hci := hc i (by omega) (by omega)
    rw [s217_7, a_fo]
    by_cases c : S 78 (40 * s + i) = q.2.2.2.2 (w_pb i q.2.1)
    · rw [if_pos (show (fun i => S 78 (40 * s + i)) i = q.2.2.2.2 (w_pb i q.2.1) from c), ← y217l (Q := Q) (l2 := l2) (l3 := l3) (a4 := a4) hM hs hsz hc hz hq hp k (i + 1) (by omega) (by omega)]
      simp (disch := omega) only [s217_8, s217_9, s217_10, s217_11, s217_12, s217_13, s217_14, s217_15, s217_16, s217_17, s217_18, s217_19, s217_20, s217_21, s217_22, s217_23, s217_24, s217_25, s217_26, s217_27, s217_28, s217_29, s217_30, ↓reduceIte, Bool.true_eq_false, Bool.false_eq_true, ip_rfS, true_or, or_true, true_and, and_true, Option.toList_some, Option.toList_none, List.cons_append, List.nil_append, ip_fxn, ip_fxi, ip_fxr, ip_fxl, ip_wid, ip_n998, ip_lt900, iO0, iO1, iA2, iA3, iA4, iA5, iA6, iA7, iA8, iO9, iA10, iA11, iA12, iA13, iA14, iA15, iA16, iO17, iA18, iO19, iA20, iA21, iA22, iA23, iO24, iA25, iO26, iA27, iA28, iO29, iA30, iA31, iO32, iA33, iA34, iO35, iA36, iA37, iO38, iA39, iA40, iO41, iA42, iA43, iO44, iA45, iA46, iA47, iA48, iA49, iA50, iA51, iA52, iA53, iO54, iA55, iO56, iA57, iO58, iA59, iO60, iA61, iO62, iA63, iA64, iA65, iA66, iA67, iA68, iA69, iA70, iA71, iA72, iA73, iA74, iA75, iA76, iA77, iA78, iOT, iAT1, iAT2, iOS, iAS, ↓yfm1 hM, ↓yfm2 hM, ↓yfm5 hM, ↓yfm8 hM, ↓yfm9 hM, ↓yfm10 hM, ↓yfm12 hM, ↓yfm28 hM, ↓yfm32 hM, ↓yfm35 hM, ↓yfm36 hM, ↓yfm37 hM, ↓yfm41 hM, ↓yfm42 hM, ↓yfm43 hM, ↓yfm44 hM, rm1 hM, rm2 hM, rm5 hM, rm8 hM, rm9 hM, rm10 hM, rm12 hM, rm28 hM, rm32 hM, rm35 hM, rm36 hM, rm37 hM, rm41 hM, rm42 hM, rm43 hM, rm44 hM, p128r, p187r, p215r, k_n1, k_n0, k_n2, ip_r0, ip_r1, show i < S 77 s by omega, k200, hci, eq_true c.symm, eq_true (show q.2.2.2.2 (w_pb i q.2.1) = S 78 (40 * s + i) from c.symm)]
    · rw [if_neg c]
      simp (disch := omega) only [s217_8, s217_9, s217_10, s217_11, s217_12, s217_13, s217_14, s217_15, s217_16, s217_17, s217_18, s217_19, s217_20, s217_21, s217_22, s217_23, s217_24, s217_25, s217_26, s217_27, s217_28, s217_29, s217_30, ↓reduceIte, Bool.true_eq_false, Bool.false_eq_true, ip_rfS, true_or, or_true, true_and, and_true, Option.toList_some, Option.toList_none, List.cons_append, List.nil_append, ip_fxn, ip_fxi, ip_fxr, ip_fxl, ip_wid, ip_n998, ip_lt900, iO0, iO1, iA2, iA3, iA4, iA5, iA6, iA7, iA8, iO9, iA10, iA11, iA12, iA13, iA14, iA15, iA16, iO17, iA18, iO19, iA20, iA21, iA22, iA23, iO24, iA25, iO26, iA27, iA28, iO29, iA30, iA31, iO32, iA33, iA34, iO35, iA36, iA37, iO38, iA39, iA40, iO41, iA42, iA43, iO44, iA45, iA46, iA47, iA48, iA49, iA50, iA51, iA52, iA53, iO54, iA55, iO56, iA57, iO58, iA59, iO60, iA61, iO62, iA63, iA64, iA65, iA66, iA67, iA68, iA69, iA70, iA71, iA72, iA73, iA74, iA75, iA76, iA77, iA78, iOT, iAT1, iAT2, iOS, iAS, ↓yfm1 hM, ↓yfm2 hM, ↓yfm5 hM, ↓yfm8 hM, ↓yfm9 hM, ↓yfm10 hM, ↓yfm12 hM, ↓yfm28 hM, ↓yfm32 hM, ↓yfm35 hM, ↓yfm36 hM, ↓yfm37 hM, ↓yfm41 hM, ↓yfm42 hM, ↓yfm43 hM, ↓yfm44 hM, rm1 hM, rm2 hM, rm5 hM, rm8 hM, rm9 hM, rm10 hM, rm12 hM, rm28 hM, rm32 hM, rm35 hM, rm36 hM, rm37 hM, rm41 hM, rm42 hM, rm43 hM, rm44 hM, p128r, p187r, p215r, k_n1, k_n0, k_n2, ip_r0, ip_r1, show i < S 77 s by omega, k200, hci, show ¬ q.2.2.2.2 (w_pb i q.2.1) = S 78 (40 * s + i) from fun z => c z.symm]
theorem y217 {s f b a : Int} (hM : x_RM R) (hW : w_ok W) (hR : y_R W m S) (hG : w_gd W) (hs : 0 ≤ s ∧ s < 4) (hsz : 0 ≤ S 77 s ∧ S 77 s ≤ 20) (hc : ∀ i, 0 ≤ i → i < S 77 s → ip_w (S 78 (40 * s + i)) = S 78 (40 * s + i)) (hf : 0 ≤ f ∧ f < m) (hb : 0 ≤ b ∧ b < m) (ha : 0 ≤ a ∧ a < 8) :
    ∃ S' w', y_g S S' ∧ ∀ Q, ip_wc (d + 49) 217 [.ref 62, vi s, vi f, vi b, vi a] 79 S R L Q = Q (some (vi (a_fst W f b a (fun i => S 78 (40 * s + i)) (S 77 s)))) 79 S' R (ip_up L 62 24 w') := by
  obtain ⟨S1, w1, f1, z1, k1⟩ := y198z (d := d) (L := L) (f := f) (b := b) (a := a) hM hW hR hG hf hb ha
  have r := w_rzr (W := W) (f := f) (b := b) (a := a) (w_okr hW) ha
  have e1 : S1 77 = S 77 := f1.1 77 (by omega) (by omega) (by omega)
  have e2 : S1 78 = S 78 := f1.1 78 (by omega) (by omega) (by omega)
  have kl := fun Q' => y217l (d := d + 47) (S := S1) (L := ip_up L 62 24 w1) (s := s) (l2 := some (vi f)) (l3 := some (vi b)) (a4 := a) (Q := Q') hM hs (by rw [e1]; exact hsz) (by rw [e1, e2]; exact hc) z1 r.2.1 r.2.2.2.2.1 (S 77 s).toNat 0 (by rw [e1]; omega) (by omega)
  rw [e2] at kl
  refine ⟨S1, w1, f1, fun Q => ?_⟩
  unfold a_fst
  rw [← kl Q]
  simp (disch := omega) only [c217, s217_0, s217_1, s217_2, s217_3, s217_4, s217_5, s217_6, ↓reduceIte, Bool.true_eq_false, Bool.false_eq_true, ip_rfS, true_or, or_true, true_and, and_true, Option.toList_some, Option.toList_none, List.cons_append, List.nil_append, ip_fxn, ip_fxi, ip_fxr, ip_fxl, ip_wid, ip_n998, ip_lt900, iO0, iO1, iA2, iA3, iA4, iA5, iA6, iA7, iA8, iO9, iA10, iA11, iA12, iA13, iA14, iA15, iA16, iO17, iA18, iO19, iA20, iA21, iA22, iA23, iO24, iA25, iO26, iA27, iA28, iO29, iA30, iA31, iO32, iA33, iA34, iO35, iA36, iA37, iO38, iA39, iA40, iO41, iA42, iA43, iO44, iA45, iA46, iA47, iA48, iA49, iA50, iA51, iA52, iA53, iO54, iA55, iO56, iA57, iO58, iA59, iO60, iA61, iO62, iA63, iA64, iA65, iA66, iA67, iA68, iA69, iA70, iA71, iA72, iA73, iA74, iA75, iA76, iA77, iA78, iOT, iAT1, iAT2, iOS, iAS, ↓yfm1 hM, ↓yfm2 hM, ↓yfm5 hM, ↓yfm8 hM, ↓yfm9 hM, ↓yfm10 hM, ↓yfm12 hM, ↓yfm28 hM, ↓yfm32 hM, ↓yfm35 hM, ↓yfm36 hM, ↓yfm37 hM, ↓yfm41 hM, ↓yfm42 hM, ↓yfm43 hM, ↓yfm44 hM, rm1 hM, rm2 hM, rm5 hM, rm8 hM, rm9 hM, rm10 hM, rm12 hM, rm28 hM, rm32 hM, rm35 hM, rm36 hM, rm37 hM, rm41 hM, rm42 hM, rm43 hM, rm44 hM, p128r, p187r, p215r, k_n1, k_n0, k_n2, ip_r0, ip_r1, k1]
theorem y218l {s f a : Int} (hM : x_RM R) (hW : w_ok W) (hR : y_R W m S) (hG : w_gd W) (hm : S 62 11 = m) (hs : 0 ≤ s ∧ s < 4) (hsz : 0 ≤ S 77 s ∧ S 77 s ≤ 20) (hc : ∀ i, 0 ≤ i → i < S 77 s → ip_w (S 78 (40 * s + i)) = S 78 (40 * s + i)) (hf : 0 ≤ f ∧ f < m) (ha : 0 ≤ a ∧ a < 8) : ∀ (k : Nat) (q z w : Int) (S1 : ip_S), q + k = m → 0 ≤ q → y_g S S1 →
    ∃ S' w', y_g S S' ∧ ∀ Q, ip_wp (d + 49) 218 4 [some (.ref 62), some (vi s), some (vi f), some (vi a), some (vi z), some (vi q)] [] 79 S1 R (ip_up L 62 24 w) Q = Q (some (vi (a_bh W f a (fun i => S 78 (40 * s + i)) (S 77 s) k q z))) 79 S' R (ip_up L 62 24 w')
  | 0, q, z, w, S1, h, hq, h1 => by
    have hm6 := hR.1
    have e1 : S1 62 11 = m := by rw [h1.2 11 (by unfold y_s2; omega)]; exact hm
    refine ⟨S1, w, h1, fun Q => ?_⟩
    rw [s218_4]
    simp (disch := omega) only [s218_0, s218_1, s218_2, s218_3, s218_5, s218_6, s218_7, s218_8, s218_9, s218_10, s218_11, s218_12, s218_13, s218_14, s218_15, s218_16, s218_17, s218_18, s218_19, s218_20, s218_21, s218_22, s218_23, s218_24, s218_25, s218_26, s218_27, s218_28, s218_29, s218_30, ↓reduceIte, Bool.true_eq_false, Bool.false_eq_true, ip_rfS, true_or, or_true, true_and, and_true, Option.toList_some, Option.toList_none, List.cons_append, List.nil_append, ip_fxn, ip_fxi, ip_fxr, ip_fxl, ip_wid, ip_n998, ip_lt900, iO0, iO1, iA2, iA3, iA4, iA5, iA6, iA7, iA8, iO9, iA10, iA11, iA12, iA13, iA14, iA15, iA16, iO17, iA18, iO19, iA20, iA21, iA22, iA23, iO24, iA25, iO26, iA27, iA28, iO29, iA30, iA31, iO32, iA33, iA34, iO35, iA36, iA37, iO38, iA39, iA40, iO41, iA42, iA43, iO44, iA45, iA46, iA47, iA48, iA49, iA50, iA51, iA52, iA53, iO54, iA55, iO56, iA57, iO58, iA59, iO60, iA61, iO62, iA63, iA64, iA65, iA66, iA67, iA68, iA69, iA70, iA71, iA72, iA73, iA74, iA75, iA76, iA77, iA78, iOT, iAT1, iAT2, iOS, iAS, ↓yfm1 hM, ↓yfm2 hM, ↓yfm5 hM, ↓yfm8 hM, ↓yfm9 hM, ↓yfm10 hM, ↓yfm12 hM, ↓yfm28 hM, ↓yfm32 hM, ↓yfm35 hM, ↓yfm36 hM, ↓yfm37 hM, ↓yfm41 hM, ↓yfm42 hM, ↓yfm43 hM, ↓yfm44 hM, rm1 hM, rm2 hM, rm5 hM, rm8 hM, rm9 hM, rm10 hM, rm12 hM, rm28 hM, rm32 hM, rm35 hM, rm36 hM, rm37 hM, rm41 hM, rm42 hM, rm43 hM, rm44 hM, p128r, p187r, p215r, k_n1, k_n0, k_n2, ip_r0, ip_r1, e1, show ¬ q < m by omega, a_bh]
  | k + 1, q, z, w, S1, h, hq, h1 => by
    have hm6 := hR.1
    have e1 : S1 62 11 = m := by rw [h1.2 11 (by unfold y_s2; omega)]; exact hm
    rw [a_bh]
    by_cases c : q = f
    · rw [if_neg (fun z => z.1 c)]
      obtain ⟨S', w', i1, i2⟩ := y218l hM hW hR hG hm hs hsz hc hf ha k (q + 1) z w S1 (by omega) (by omega) h1
      refine ⟨S', w', i1, fun Q => ?_⟩
      rw [← i2 Q, s218_4]
      simp (disch := omega) only [s218_0, s218_1, s218_2, s218_3, s218_5, s218_6, s218_7, s218_8, s218_9, s218_10, s218_11, s218_12, s218_13, s218_14, s218_15, s218_16, s218_17, s218_18, s218_19, s218_20, s218_21, s218_22, s218_23, s218_24, s218_25, s218_26, s218_27, s218_28, s218_29, s218_30, ↓reduceIte, Bool.true_eq_false, Bool.false_eq_true, ip_rfS, true_or, or_true, true_and, and_true, Option.toList_some, Option.toList_none, List.cons_append, List.nil_append, ip_fxn, ip_fxi, ip_fxr, ip_fxl, ip_wid, ip_n998, ip_lt900, iO0, iO1, iA2, iA3, iA4, iA5, iA6, iA7, iA8, iO9, iA10, iA11, iA12, iA13, iA14, iA15, iA16, iO17, iA18, iO19, iA20, iA21, iA22, iA23, iO24, iA25, iO26, iA27, iA28, iO29, iA30, iA31, iO32, iA33, iA34, iO35, iA36, iA37, iO38, iA39, iA40, iO41, iA42, iA43, iO44, iA45, iA46, iA47, iA48, iA49, iA50, iA51, iA52, iA53, iO54, iA55, iO56, iA57, iO58, iA59, iO60, iA61, iO62, iA63, iA64, iA65, iA66, iA67, iA68, iA69, iA70, iA71, iA72, iA73, iA74, iA75, iA76, iA77, iA78, iOT, iAT1, iAT2, iOS, iAS, ↓yfm1 hM, ↓yfm2 hM, ↓yfm5 hM, ↓yfm8 hM, ↓yfm9 hM, ↓yfm10 hM, ↓yfm12 hM, ↓yfm28 hM, ↓yfm32 hM, ↓yfm35 hM, ↓yfm36 hM, ↓yfm37 hM, ↓yfm41 hM, ↓yfm42 hM, ↓yfm43 hM, ↓yfm44 hM, rm1 hM, rm2 hM, rm5 hM, rm8 hM, rm9 hM, rm10 hM, rm12 hM, rm28 hM, rm32 hM, rm35 hM, rm36 hM, rm37 hM, rm41 hM, rm42 hM, rm43 hM, rm44 hM, p128r, p187r, p215r, k_n1, k_n0, k_n2, ip_r0, ip_r1, e1, show q < m by omega, eq_true c, ip_orz]
    · have e2 : S1 77 = S 77 := h1.1 77 (by omega) (by omega) (by omega)
      have e3 : S1 78 = S 78 := h1.1 78 (by omega) (by omega) (by omega)
      obtain ⟨S2, w2, f2, k2⟩ := y217 (d := d) (S := S1) (L := ip_up L 62 24 w) (s := s) (f := f) (b := q) (a := a) hM hW (y_g_R h1 hR) hG hs (by rw [e2]; exact hsz) (by rw [e2, e3]; exact hc) hf (by omega) ha
      simp only [ip_upup, e2, e3] at k2
      have hr := a_fstr (W := W) (f := f) (b := q) (a := a) (c := fun i => S 78 (40 * s + i)) hsz
      by_cases c2 : a_fst W f q a (fun i => S 78 (40 * s + i)) (S 77 s) = -1
      · rw [if_pos ⟨c, c2⟩]
        obtain ⟨S', w', i1, i2⟩ := y218l hM hW hR hG hm hs hsz hc hf ha k (q + 1) (ip_or z (ip_shl 1 q)) w2 S2 (by omega) (by omega) (y_g_t h1 f2)
        refine ⟨S', w', i1, fun Q => ?_⟩
        rw [← i2 Q, s218_4]
        simp (disch := omega) only [s218_0, s218_1, s218_2, s218_3, s218_5, s218_6, s218_7, s218_8, s218_9, s218_10, s218_11, s218_12, s218_13, s218_14, s218_15, s218_16, s218_17, s218_18, s218_19, s218_20, s218_21, s218_22, s218_23, s218_24, s218_25, s218_26, s218_27, s218_28, s218_29, s218_30, ↓reduceIte, Bool.true_eq_false, Bool.false_eq_true, ip_rfS, true_or, or_true, true_and, and_true, Option.toList_some, Option.toList_none, List.cons_append, List.nil_append, ip_fxn, ip_fxi, ip_fxr, ip_fxl, ip_wid, ip_n998, ip_lt900, iO0, iO1, iA2, iA3, iA4, iA5, iA6, iA7, iA8, iO9, iA10, iA11, iA12, iA13, iA14, iA15, iA16, iO17, iA18, iO19, iA20, iA21, iA22, iA23, iO24, iA25, iO26, iA27, iA28, iO29, iA30, iA31, iO32, iA33, iA34, iO35, iA36, iA37, iO38, iA39, iA40, iO41, iA42, iA43, iO44, iA45, iA46, iA47, iA48, iA49, iA50, iA51, iA52, iA53, iO54, iA55, iO56, iA57, iO58, iA59, iO60, iA61, iO62, iA63, iA64, iA65, iA66, iA67, iA68, iA69, iA70, iA71, iA72, iA73, iA74, iA75, iA76, iA77, iA78, iOT, iAT1, iAT2, iOS, iAS, ↓yfm1 hM, ↓yfm2 hM, ↓yfm5 hM, ↓yfm8 hM, ↓yfm9 hM, ↓yfm10 hM, ↓yfm12 hM, ↓yfm28 hM, ↓yfm32 hM, ↓yfm35 hM, ↓yfm36 hM, ↓yfm37 hM, ↓yfm41 hM, ↓yfm42 hM, ↓yfm43 hM, ↓yfm44 hM, rm1 hM, rm2 hM, rm5 hM, rm8 hM, rm9 hM, rm10 hM, rm12 hM, rm28 hM, rm32 hM, rm35 hM, rm36 hM, rm37 hM, rm41 hM, rm42 hM, rm43 hM, rm44 hM, p128r, p187r, p215r, k_n1, k_n0, k_n2, ip_r0, ip_r1, e1, show q < m by omega, c, k2, eq_true c2]
      · rw [if_neg (fun z => c2 z.2)]
        obtain ⟨S', w', i1, i2⟩ := y218l hM hW hR hG hm hs hsz hc hf ha k (q + 1) z w2 S2 (by omega) (by omega) (y_g_t h1 f2)
        refine ⟨S', w', i1, fun Q => ?_⟩
        rw [← i2 Q, s218_4]
        simp (disch := omega) only [s218_0, s218_1, s218_2, s218_3, s218_5, s218_6, s218_7, s218_8, s218_9, s218_10, s218_11, s218_12, s218_13, s218_14, s218_15, s218_16, s218_17, s218_18, s218_19, s218_20, s218_21, s218_22, s218_23, s218_24, s218_25, s218_26, s218_27, s218_28, s218_29, s218_30, ↓reduceIte, Bool.true_eq_false, Bool.false_eq_true, ip_rfS, true_or, or_true, true_and, and_true, Option.toList_some, Option.toList_none, List.cons_append, List.nil_append, ip_fxn, ip_fxi, ip_fxr, ip_fxl, ip_wid, ip_n998, ip_lt900, iO0, iO1, iA2, iA3, iA4, iA5, iA6, iA7, iA8, iO9, iA10, iA11, iA12, iA13, iA14, iA15, iA16, iO17, iA18, iO19, iA20, iA21, iA22, iA23, iO24, iA25, iO26, iA27, iA28, iO29, iA30, iA31, iO32, iA33, iA34, iO35, iA36, iA37, iO38, iA39, iA40, iO41, iA42, iA43, iO44, iA45, iA46, iA47, iA48, iA49, iA50, iA51, iA52, iA53, iO54, iA55, iO56, iA57, iO58, iA59, iO60, iA61, iO62, iA63, iA64, iA65, iA66, iA67, iA68, iA69, iA70, iA71, iA72, iA73, iA74, iA75, iA76, iA77, iA78, iOT, iAT1, iAT2, iOS, iAS, ↓yfm1 hM, ↓yfm2 hM, ↓yfm5 hM, ↓yfm8 hM, ↓yfm9 hM, ↓yfm10 hM, ↓yfm12 hM, ↓yfm28 hM, ↓yfm32 hM, ↓yfm35 hM, ↓yfm36 hM, ↓yfm37 hM, ↓yfm41 hM, ↓yfm42 hM, ↓yfm43 hM, ↓yfm44 hM, rm1 hM, rm2 hM, rm5 hM, rm8 hM, rm9 hM, rm10 hM, rm12 hM, rm28 hM, rm32 hM, rm35 hM, rm36 hM, rm37 hM, rm41 hM, rm42 hM, rm43 hM, rm44 hM, p128r, p187r, p215r, k_n1, k_n0, k_n2, ip_r0, ip_r1, e1, show q < m by omega, c, k2, c2, ip_orz]
theorem y218 {s f a : Int} (hM : x_RM R) (hW : w_ok W) (hR : y_R W m S) (hG : w_gd W) (hm : S 62 11 = m) (hm0 : 0 ≤ m) (hs : 0 ≤ s ∧ s < 4) (hsz : 0 ≤ S 77 s ∧ S 77 s ≤ 20) (hc : ∀ i, 0 ≤ i → i < S 77 s → ip_w (S 78 (40 * s + i)) = S 78 (40 * s + i)) (hf : 0 ≤ f ∧ f < m) (ha : 0 ≤ a ∧ a < 8) :
    ∃ S' w', y_g S S' ∧ ∀ Q, ip_wc (d + 50) 218 [.ref 62, vi s, vi f, vi a] 79 S R L Q = Q (some (vi (a_bh W f a (fun i => S 78 (40 * s + i)) (S 77 s) m.toNat 0 0))) 79 S' R (ip_up L 62 24 w') := by
  obtain ⟨S', w', i1, i2⟩ := y218l (d := d) (L := L) (f := f) (a := a) hM hW hR hG hm hs hsz hc hf ha m.toNat 0 0 (L 62 24) S (by omega) (by omega) y_g_r
  rw [ip_upself] at i2
  refine ⟨S', w', i1, fun Q => ?_⟩
  rw [← i2 Q]
  simp (disch := omega) only [c218, s218_0, s218_1, s218_2, s218_3, ↓reduceIte, Bool.true_eq_false, Bool.false_eq_true, ip_rfS, true_or, or_true, true_and, and_true, Option.toList_some, Option.toList_none, List.cons_append, List.nil_append, ip_fxn, ip_fxi, ip_fxr, ip_fxl, ip_wid, ip_n998, ip_lt900, iO0, iO1, iA2, iA3, iA4, iA5, iA6, iA7, iA8, iO9, iA10, iA11, iA12, iA13, iA14, iA15, iA16, iO17, iA18, iO19, iA20, iA21, iA22, iA23, iO24, iA25, iO26, iA27, iA28, iO29, iA30, iA31, iO32, iA33, iA34, iO35, iA36, iA37, iO38, iA39, iA40, iO41, iA42, iA43, iO44, iA45, iA46, iA47, iA48, iA49, iA50, iA51, iA52, iA53, iO54, iA55, iO56, iA57, iO58, iA59, iO60, iA61, iO62, iA63, iA64, iA65, iA66, iA67, iA68, iA69, iA70, iA71, iA72, iA73, iA74, iA75, iA76, iA77, iA78, iOT, iAT1, iAT2, iOS, iAS, ↓yfm1 hM, ↓yfm2 hM, ↓yfm5 hM, ↓yfm8 hM, ↓yfm9 hM, ↓yfm10 hM, ↓yfm12 hM, ↓yfm28 hM, ↓yfm32 hM, ↓yfm35 hM, ↓yfm36 hM, ↓yfm37 hM, ↓yfm41 hM, ↓yfm42 hM, ↓yfm43 hM, ↓yfm44 hM, rm1 hM, rm2 hM, rm5 hM, rm8 hM, rm9 hM, rm10 hM, rm12 hM, rm28 hM, rm32 hM, rm35 hM, rm36 hM, rm37 hM, rm41 hM, rm42 hM, rm43 hM, rm44 hM, p128r, p187r, p215r, k_n1, k_n0, k_n2, ip_r0, ip_r1]
theorem y_g_uu {S1 : ip_S} {c : Nat} {i u v : Int} (hc : (c ≠ 62 ∧ c ≠ 70) ∨ (c = 62 ∧ ¬ y_s2 i)) (h : y_g (ip_up S c i u) S1) : y_g (ip_up S c i v) (ip_up S1 c i v) := by
  refine ⟨fun b a1 a2 a3 => ?_, fun k hk => ?_⟩
  · have hb := h.1 b a1 a2 a3
    funext k
    have hk := congrFun hb k
    unfold ip_up at hk ⊢
    split
    · rfl
    · rename_i c
      rw [if_neg c] at hk
      exact hk
  · have hb := h.2 k hk
    unfold ip_up at hb ⊢
    split
    · rfl
    · rename_i c
      rw [if_neg c] at hb
      exact hb
/-- one value after the other is laid -/
theorem y214l {G : Int → w_T} {s t f b a w0 o i last was : Int} {cc : Nat} (hM : x_RM R) (hcc : cc = 62 ∨ cc = 67 ∨ cc = 68) (hci : cc = 62 → i = 4 ∨ i = 7) (hlast : last ≤ 24) (hlast0 : -1 ≤ last) (hG : ∀ v, 0 ≤ v → v ≤ last → w_ok (G v) ∧ w_gd (G v) ∧ y_R (G v) m (ip_up S cc i v)) (k185 : ∀ (S' : ip_S) (L' : ip_S) (v : Int) Q, ip_w v = v → ip_wc (d + 49) 185 [.ref 62, vi o, vi b, vi v] 79 S' R L' Q = Q none 79 (ip_up S' cc i v) R L') (hwas : S cc i = was) (hwr : ip_w was = was) (hs : 0 ≤ s ∧ s < 4) (hsz : 0 ≤ S 77 s ∧ S 77 s ≤ 20) (hc : ∀ i, 0 ≤ i → i < S 77 s → ip_w (S 78 (40 * s + i)) = S 78 (40 * s + i)) (hf : 0 ≤ f ∧ f < m) (hb : 0 ≤ b ∧ b < m) (ha : 0 ≤ a ∧ a < 8) : ∀ (k : Nat) (v z w u : Int) (S1 : ip_S), v + k = last + 1 → 0 ≤ v → y_g (ip_up S cc i u) S1 →
    ∃ S' w', y_g S S' ∧ ∀ Q, ip_wp (d + 49) 214 112 [some (.ref 62), some (vi s), some (vi t), some (vi a), some (vi w0), some (vi f), some (vi b), some (vi o), some (vi was), some (vi last), some (vi z), some (vi v)] [] 79 S1 R (ip_up L 62 24 w) Q = Q (some (vi (a_cb G f b a (fun i => S 78 (40 * s + i)) (S 77 s) k v z))) 79 S' R (ip_up L 62 24 w')
  | 0, v, z, w, u, S1, h, hv, h1 => by
    have h2 := y_g_uu (v := was) (by rcases hcc with r | r | r; exact Or.inr ⟨r, by rcases hci r with e | e <;> (rw [e]; unfold y_s2; omega)⟩; exact Or.inl (by omega); exact Or.inl (by omega)) h1
    rw [← hwas, ip_upself, hwas] at h2
    refine ⟨ip_up S1 cc i was, w, h2, fun Q => ?_⟩
    rw [s214_112]
    simp (disch := first | omega | exact hwr) only [s214_113, s214_114, s214_138, s214_139, s214_140, s214_141, s214_142, s214_143, s214_144, ↓reduceIte, Bool.true_eq_false, Bool.false_eq_true, ip_rfS, true_or, or_true, true_and, and_true, Option.toList_some, Option.toList_none, List.cons_append, List.nil_append, ip_fxn, ip_fxi, ip_fxr, ip_fxl, ip_wid, ip_n998, ip_lt900, iO0, iO1, iA2, iA3, iA4, iA5, iA6, iA7, iA8, iO9, iA10, iA11, iA12, iA13, iA14, iA15, iA16, iO17, iA18, iO19, iA20, iA21, iA22, iA23, iO24, iA25, iO26, iA27, iA28, iO29, iA30, iA31, iO32, iA33, iA34, iO35, iA36, iA37, iO38, iA39, iA40, iO41, iA42, iA43, iO44, iA45, iA46, iA47, iA48, iA49, iA50, iA51, iA52, iA53, iO54, iA55, iO56, iA57, iO58, iA59, iO60, iA61, iO62, iA63, iA64, iA65, iA66, iA67, iA68, iA69, iA70, iA71, iA72, iA73, iA74, iA75, iA76, iA77, iA78, iOT, iAT1, iAT2, iOS, iAS, ↓yfm1 hM, ↓yfm2 hM, ↓yfm5 hM, ↓yfm8 hM, ↓yfm9 hM, ↓yfm10 hM, ↓yfm12 hM, ↓yfm28 hM, ↓yfm32 hM, ↓yfm35 hM, ↓yfm36 hM, ↓yfm37 hM, ↓yfm41 hM, ↓yfm42 hM, ↓yfm43 hM, ↓yfm44 hM, rm1 hM, rm2 hM, rm5 hM, rm8 hM, rm9 hM, rm10 hM, rm12 hM, rm28 hM, rm32 hM, rm35 hM, rm36 hM, rm37 hM, rm41 hM, rm42 hM, rm43 hM, rm44 hM, p128r, p187r, p215r, k_n1, k_n0, k_n2, ip_r0, ip_r1, show last < v by omega, k185, a_cb]
  | k + 1, v, z, w, u, S1, h, hv, h1 => by
    have h2 := y_g_uu (v := v) (by rcases hcc with r | r | r; exact Or.inr ⟨r, by rcases hci r with e | e <;> (rw [e]; unfold y_s2; omega)⟩; exact Or.inl (by omega); exact Or.inl (by omega)) h1
    have e2 : ip_up S1 cc i v 77 = S 77 := by rw [h2.1 77 (by omega) (by omega) (by omega), ip_upc (by omega)]
    have e3 : ip_up S1 cc i v 78 = S 78 := by rw [h2.1 78 (by omega) (by omega) (by omega), ip_upc (by omega)]
    obtain ⟨g1, g2, g3⟩ := hG v hv (by omega)
    obtain ⟨S2, w2, f2, k2⟩ := y217 (d := d) (S := ip_up S1 cc i v) (L := ip_up L 62 24 w) (W := G v) (m := m) (s := s) (f := f) (b := b) (a := a) hM g1 (y_g_R h2 g3) g2 hs (by rw [e2]; exact hsz) (by rw [e2, e3]; exact hc) hf hb ha
    simp only [ip_upup, e2, e3] at k2
    have hm6 := g3.1
    have hr2 := a_fstr (W := G v) (f := f) (b := b) (a := a) (c := fun i => S 78 (40 * s + i)) hsz
    have hvw : ip_w v = v := ip_wid (by omega) (by omega)
    have k3 := fun Q => k185 S1 (ip_up L 62 24 w) v Q hvw
    rw [a_cb]
    by_cases c2 : a_fst (G v) f b a (fun i => S 78 (40 * s + i)) (S 77 s) = -1
    · rw [if_pos c2]
      obtain ⟨S', w', i1, i2⟩ := y214l (G := G) (t := t) (w0 := w0) (o := o) hM hcc hci hlast hlast0 hG k185 hwas hwr hs hsz hc hf hb ha k (v + 1) (ip_or z (ip_shl 1 v)) w2 v S2 (by omega) (by omega) (y_g_t h2 f2)
      refine ⟨S', w', i1, fun Q => ?_⟩
      rw [← i2 Q, s214_112]
      simp (disch := omega) only [s214_113, s214_114, s214_115, s214_116, s214_117, s214_118, s214_119, s214_120, s214_121, s214_122, s214_123, s214_124, s214_125, s214_126, s214_127, s214_128, s214_129, s214_130, s214_131, s214_132, s214_133, s214_134, s214_135, s214_136, s214_137, s214_138, s214_139, s214_140, s214_141, s214_142, s214_143, s214_144, ↓reduceIte, Bool.true_eq_false, Bool.false_eq_true, ip_rfS, true_or, or_true, true_and, and_true, Option.toList_some, Option.toList_none, List.cons_append, List.nil_append, ip_fxn, ip_fxi, ip_fxr, ip_fxl, ip_wid, ip_n998, ip_lt900, iO0, iO1, iA2, iA3, iA4, iA5, iA6, iA7, iA8, iO9, iA10, iA11, iA12, iA13, iA14, iA15, iA16, iO17, iA18, iO19, iA20, iA21, iA22, iA23, iO24, iA25, iO26, iA27, iA28, iO29, iA30, iA31, iO32, iA33, iA34, iO35, iA36, iA37, iO38, iA39, iA40, iO41, iA42, iA43, iO44, iA45, iA46, iA47, iA48, iA49, iA50, iA51, iA52, iA53, iO54, iA55, iO56, iA57, iO58, iA59, iO60, iA61, iO62, iA63, iA64, iA65, iA66, iA67, iA68, iA69, iA70, iA71, iA72, iA73, iA74, iA75, iA76, iA77, iA78, iOT, iAT1, iAT2, iOS, iAS, ↓yfm1 hM, ↓yfm2 hM, ↓yfm5 hM, ↓yfm8 hM, ↓yfm9 hM, ↓yfm10 hM, ↓yfm12 hM, ↓yfm28 hM, ↓yfm32 hM, ↓yfm35 hM, ↓yfm36 hM, ↓yfm37 hM, ↓yfm41 hM, ↓yfm42 hM, ↓yfm43 hM, ↓yfm44 hM, rm1 hM, rm2 hM, rm5 hM, rm8 hM, rm9 hM, rm10 hM, rm12 hM, rm28 hM, rm32 hM, rm35 hM, rm36 hM, rm37 hM, rm41 hM, rm42 hM, rm43 hM, rm44 hM, p128r, p187r, p215r, k_n1, k_n0, k_n2, ip_r0, ip_r1, show ¬ last < v by omega, k3, k2, eq_true c2]
    · rw [if_neg c2]
      obtain ⟨S', w', i1, i2⟩ := y214l (G := G) (t := t) (w0 := w0) (o := o) hM hcc hci hlast hlast0 hG k185 hwas hwr hs hsz hc hf hb ha k (v + 1) z w2 v S2 (by omega) (by omega) (y_g_t h2 f2)
      refine ⟨S', w', i1, fun Q => ?_⟩
      rw [← i2 Q, s214_112]
      simp (disch := omega) only [s214_113, s214_114, s214_115, s214_116, s214_117, s214_118, s214_119, s214_120, s214_121, s214_122, s214_123, s214_124, s214_125, s214_126, s214_127, s214_128, s214_129, s214_130, s214_131, s214_132, s214_133, s214_134, s214_135, s214_136, s214_137, s214_138, s214_139, s214_140, s214_141, s214_142, s214_143, s214_144, ↓reduceIte, Bool.true_eq_false, Bool.false_eq_true, ip_rfS, true_or, or_true, true_and, and_true, Option.toList_some, Option.toList_none, List.cons_append, List.nil_append, ip_fxn, ip_fxi, ip_fxr, ip_fxl, ip_wid, ip_n998, ip_lt900, iO0, iO1, iA2, iA3, iA4, iA5, iA6, iA7, iA8, iO9, iA10, iA11, iA12, iA13, iA14, iA15, iA16, iO17, iA18, iO19, iA20, iA21, iA22, iA23, iO24, iA25, iO26, iA27, iA28, iO29, iA30, iA31, iO32, iA33, iA34, iO35, iA36, iA37, iO38, iA39, iA40, iO41, iA42, iA43, iO44, iA45, iA46, iA47, iA48, iA49, iA50, iA51, iA52, iA53, iO54, iA55, iO56, iA57, iO58, iA59, iO60, iA61, iO62, iA63, iA64, iA65, iA66, iA67, iA68, iA69, iA70, iA71, iA72, iA73, iA74, iA75, iA76, iA77, iA78, iOT, iAT1, iAT2, iOS, iAS, ↓yfm1 hM, ↓yfm2 hM, ↓yfm5 hM, ↓yfm8 hM, ↓yfm9 hM, ↓yfm10 hM, ↓yfm12 hM, ↓yfm28 hM, ↓yfm32 hM, ↓yfm35 hM, ↓yfm36 hM, ↓yfm37 hM, ↓yfm41 hM, ↓yfm42 hM, ↓yfm43 hM, ↓yfm44 hM, rm1 hM, rm2 hM, rm5 hM, rm8 hM, rm9 hM, rm10 hM, rm12 hM, rm28 hM, rm32 hM, rm35 hM, rm36 hM, rm37 hM, rm41 hM, rm42 hM, rm43 hM, rm44 hM, p128r, p187r, p215r, k_n1, k_n0, k_n2, ip_r0, ip_r1, show ¬ last < v by omega, k3, k2, c2, ip_orz]
end TLM
