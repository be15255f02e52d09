/-! goals drawn: the reference -/
/-- row 68 with the first p goals drawn, and the first i of them laid back -/
def n_ro (z p i : Int) (f : Int → Int) : Int → Int := fun k => if 0 ≤ k ∧ k % 3 = 1 ∧ i ≤ k / 3 ∧ k / 3 < p then a_zg (a_zs z ((k / 3).toNat + 1)) else f k
theorem n_roi {z p i : Int} {f : Int → Int} (h : p ≤ i) : n_ro z p i f = f := by funext k; exact if_neg (by omega)
theorem n_rou {z : Int} {f : Int → Int} {i : Nat} : ip_u (n_ro z i 0 f) (3 * i + 1) (a_zg (a_zn (a_zs z i))) = n_ro z (i + 1) 0 f := by
  funext k
  unfold ip_u n_ro
  by_cases c : k = 3 * (i : Int) + 1
  · rw [if_pos c, if_pos (by omega), show (k / 3).toNat = i by omega]
    rfl
  · rw [if_neg c]
    by_cases c2 : 0 ≤ k ∧ k % 3 = 1 ∧ 0 ≤ k / 3 ∧ k / 3 < (i : Int)
    · rw [if_pos c2, if_pos (by omega)]
    · rw [if_neg c2, if_neg (by omega)]
theorem n_rob {z p i : Int} {f : Int → Int} (h : 0 ≤ i) : ip_u (n_ro z p i f) (3 * i + 1) (f (3 * i + 1)) = n_ro z p (i + 1) f := by
  funext k
  unfold ip_u n_ro
  by_cases c : k = 3 * i + 1
  · rw [if_pos c, if_neg (by omega), c]
  · rw [if_neg c]
    by_cases c2 : 0 ≤ k ∧ k % 3 = 1 ∧ i ≤ k / 3 ∧ k / 3 < p
    · rw [if_pos c2, if_pos (by omega)]
    · rw [if_neg c2, if_neg (by omega)]
def n_gw (i : Int) (f g : Int → Int) : Int → Int := fun k => if 0 ≤ k ∧ k < i then f (3 * k + 1) else g k
theorem n_gw0 {f g : Int → Int} : n_gw 0 f g = g := by funext k; exact if_neg (by omega)
theorem n_gwu {f g : Int → Int} {i : Int} (h : 0 ≤ i) : ip_u (n_gw i f g) i (f (3 * i + 1)) = n_gw (i + 1) f g := by
  funext k
  unfold ip_u n_gw
  by_cases c : k = i
  · rw [if_pos c, if_pos (by omega), c]
  · rw [if_neg c]
    by_cases c2 : 0 ≤ k ∧ k < i
    · rw [if_pos c2, if_pos (by omega)]
    · rw [if_neg c2, if_neg (by omega)]
section DRM
variable {d : Nat} {S : ip_S} {R : ip_R} {L : ip_S} {W : w_T} {m : Int}
def n_dw (S : ip_S) (z i : Int) : ip_S := ip_ar (ip_ar S 72 (n_gw i (S 68) (S 72))) 68 (n_ro z i 0 (S 68))
theorem n_dwn {z i : Int} {b : Nat} (h1 : b ≠ 68) (h2 : b ≠ 72) : n_dw S z i b = S b := by
  unfold n_dw
  rw [m_ar_ne h1, m_ar_ne h2]
theorem n_dw68 {z i : Int} : n_dw S z i 68 = n_ro z i 0 (S 68) := m_ar_eq
theorem n_dw72 {z i : Int} : n_dw S z i 72 = n_gw i (S 68) (S 72) := by
  unfold n_dw
  rw [m_ar_ne (by omega), m_ar_eq]
theorem n_dwu {z : Int} {i : Nat} : ip_up (ip_up (n_dw S z i) 72 i (S 68 (3 * i + 1))) 68 (3 * i + 1) (a_zg (a_zn (a_zs z i))) = n_dw S z (i + 1) := by
  funext b k
  by_cases c : b = 68
  · subst c
    rw [ip_upu, ip_upc (by omega), n_dw68, n_rou, n_dw68]
  · rw [ip_upc c]
    by_cases c2 : b = 72
    · subst c2
      rw [ip_upu, n_dw72, n_gwu (by omega), n_dw72]
    · rw [ip_upc c2, n_dwn c c2, n_dwn c c2]
theorem y222l {z0 : Int} (hM : x_RM R) (hm : S 62 11 = m) (hm6 : m ≤ 6) (hg : ∀ p, 0 ≤ p → p < m → 0 ≤ S 68 (3 * p + 1) ∧ S 68 (3 * p + 1) < 8) (z : Int) {Q} : ∀ (k i : Nat), (i : Int) + k = m →
    ip_wp (d + 1) 222 4 [some (.ref 62), some (vi z0), some (vi (a_zs z i)), some (vi (i : Int))] [] 79 (n_dw S z i) R L Q = Q none 79 (n_dw S z m) R L
  | 0, i, h => by
    have e1 : n_dw S z i 62 = S 62 := n_dwn (by omega) (by omega)
    have e2 : m = (i : Int) := by omega
    rw [s222_4]
    simp (disch := omega) only [s222_0, s222_1, s222_2, s222_3, s222_5, s222_6, s222_7, s222_8, s222_9, s222_10, s222_11, s222_12, s222_13, s222_14, s222_15, s222_16, s222_17, s222_18, s222_19, s222_20, s222_21, s222_22, s222_23, s222_24, s222_25, s222_26, s222_27, s222_28, s222_29, s222_30, s222_31, s222_32, s222_33, s222_34, s222_35, s222_36, ↓reduceIte, Bool.true_eq_false, Bool.false_eq_true, ip_rfS, true_or, or_true, true_and, and_true, Option.toList_some, Option.toList_none, List.cons_append, List.nil_append, ip_fxn, ip_fxi, ip_fxr, ip_fxl, ip_wid, ip_n998, ip_lt900, iO0, iO1, iA2, iA3, iA4, iA5, iA6, iA7, iA8, iO9, iA10, iA11, iA12, iA13, iA14, iA15, iA16, iO17, iA18, iO19, iA20, iA21, iA22, iA23, iO24, iA25, iO26, iA27, iA28, iO29, iA30, iA31, iO32, iA33, iA34, iO35, iA36, iA37, iO38, iA39, iA40, iO41, iA42, iA43, iO44, iA45, iA46, iA47, iA48, iA49, iA50, iA51, iA52, iA53, iO54, iA55, iO56, iA57, iO58, iA59, iO60, iA61, iO62, iA63, iA64, iA65, iA66, iA67, iA68, iA69, iA70, iA71, iA72, iA73, iA74, iA75, iA76, iA77, iA78, iOT, iAT1, iAT2, iOS, iAS, ↓yfm1 hM, ↓yfm2 hM, ↓yfm5 hM, ↓yfm8 hM, ↓yfm9 hM, ↓yfm10 hM, ↓yfm12 hM, ↓yfm28 hM, ↓yfm32 hM, ↓yfm35 hM, ↓yfm36 hM, ↓yfm37 hM, ↓yfm41 hM, ↓yfm42 hM, ↓yfm43 hM, ↓yfm44 hM, rm1 hM, rm2 hM, rm5 hM, rm8 hM, rm9 hM, rm10 hM, rm12 hM, rm28 hM, rm32 hM, rm35 hM, rm36 hM, rm37 hM, rm41 hM, rm42 hM, rm43 hM, rm44 hM, p128r, p187r, p215r, k_n1, k_n0, k_n2, ip_r0, ip_r1, e1, hm, e2, Int.lt_irrefl]
  | k + 1, i, h => by
    have e1 : n_dw S z i 62 = S 62 := n_dwn (by omega) (by omega)
    have h8 : (¬ (8 : Int) = 0) = True := eq_true (by omega)
    have r := a_zgr (z := a_zn (a_zs z i))
    have r2 := hg i (by omega) (by omega)
    have e3 : ip_w (a_zg (a_zn (a_zs z i))) = a_zg (a_zn (a_zs z i)) := ip_wid (by omega) (by omega)
    have e5 : n_dw S z i 68 (3 * (i : Int) + 1) = S 68 (3 * (i : Int) + 1) := by
      rw [n_dw68]
      exact if_neg (by omega)
    have k136 := fun Q' => p136 (d := d) (S := n_dw S z i) (R := R) (L := L) (p := (i : Int)) (Q := Q') hM (by omega)
    rw [e5] at k136
    have ih := y222l (z0 := z0) hM hm hm6 hg z (Q := Q) k (i + 1) (by omega)
    rw [Int.natCast_add, Int.cast_ofNat_Int, ← n_dwu, show a_zs z (i + 1) = a_zs z i * 1103515245 + 12345 from rfl] at ih
    unfold a_zg a_zn at ih e3
    rw [← ih, s222_4]
    simp (disch := omega) only [s222_0, s222_1, s222_2, s222_3, s222_5, s222_6, s222_7, s222_8, s222_9, s222_10, s222_11, s222_12, s222_13, s222_14, s222_15, s222_16, s222_17, s222_18, s222_19, s222_20, s222_21, s222_22, s222_23, s222_24, s222_25, s222_26, s222_27, s222_28, s222_29, s222_30, s222_31, s222_32, s222_33, s222_34, s222_35, s222_36, ↓reduceIte, Bool.true_eq_false, Bool.false_eq_true, ip_rfS, true_or, or_true, true_and, and_true, Option.toList_some, Option.toList_none, List.cons_append, List.nil_append, ip_fxn, ip_fxi, ip_fxr, ip_fxl, ip_wid, ip_n998, ip_lt900, iO0, iO1, iA2, iA3, iA4, iA5, iA6, iA7, iA8, iO9, iA10, iA11, iA12, iA13, iA14, iA15, iA16, iO17, iA18, iO19, iA20, iA21, iA22, iA23, iO24, iA25, iO26, iA27, iA28, iO29, iA30, iA31, iO32, iA33, iA34, iO35, iA36, iA37, iO38, iA39, iA40, iO41, iA42, iA43, iO44, iA45, iA46, iA47, iA48, iA49, iA50, iA51, iA52, iA53, iO54, iA55, iO56, iA57, iO58, iA59, iO60, iA61, iO62, iA63, iA64, iA65, iA66, iA67, iA68, iA69, iA70, iA71, iA72, iA73, iA74, iA75, iA76, iA77, iA78, iOT, iAT1, iAT2, iOS, iAS, ↓yfm1 hM, ↓yfm2 hM, ↓yfm5 hM, ↓yfm8 hM, ↓yfm9 hM, ↓yfm10 hM, ↓yfm12 hM, ↓yfm28 hM, ↓yfm32 hM, ↓yfm35 hM, ↓yfm36 hM, ↓yfm37 hM, ↓yfm41 hM, ↓yfm42 hM, ↓yfm43 hM, ↓yfm44 hM, rm1 hM, rm2 hM, rm5 hM, rm8 hM, rm9 hM, rm10 hM, rm12 hM, rm28 hM, rm32 hM, rm35 hM, rm36 hM, rm37 hM, rm41 hM, rm42 hM, rm43 hM, rm44 hM, p128r, p187r, p215r, k_n1, k_n0, k_n2, ip_r0, ip_r1, e1, hm, show (i : Int) < m by omega, h8, e3, k136]
theorem y222 {z : Int} (hM : x_RM R) (hm : S 62 11 = m) (hm0 : 0 ≤ m) (hm6 : m ≤ 6) (hg : ∀ p, 0 ≤ p → p < m → 0 ≤ S 68 (3 * p + 1) ∧ S 68 (3 * p + 1) < 8) {Q} : ip_wc (d + 2) 222 [.ref 62, vi z] 79 S R L Q = Q none 79 (n_dw S z m) R L := by
  have h := y222l (d := d) (S := S) (L := L) (z0 := z) hM hm hm6 hg z (Q := Q) m.toNat 0 (by omega)
  have e : n_dw S z 0 = S := by
    unfold n_dw
    rw [n_gw0, n_roi (by omega), ip_ar_self, ip_ar_self]
  rw [Int.cast_ofNat_Int, e, a_zs] at h
  rw [← h]
  simp (disch := omega) only [c222, s222_0, s222_1, s222_2, s222_3, ↓reduceIte, Bool.true_eq_false, Bool.false_eq_true, ip_rfS, true_or, or_true, true_and, and_true, Option.toList_some, Option.toList_none, List.cons_append, List.nil_append, ip_fxn, ip_fxi, ip_fxr, ip_fxl, ip_wid, ip_n998, ip_lt900, iO0, iO1, iA2, iA3, iA4, iA5, iA6, iA7, iA8, iO9, iA10, iA11, iA12, iA13, iA14, iA15, iA16, iO17, iA18, iO19, iA20, iA21, iA22, iA23, iO24, iA25, iO26, iA27, iA28, iO29, iA30, iA31, iO32, iA33, iA34, iO35, iA36, iA37, iO38, iA39, iA40, iO41, iA42, iA43, iO44, iA45, iA46, iA47, iA48, iA49, iA50, iA51, iA52, iA53, iO54, iA55, iO56, iA57, iO58, iA59, iO60, iA61, iO62, iA63, iA64, iA65, iA66, iA67, iA68, iA69, iA70, iA71, iA72, iA73, iA74, iA75, iA76, iA77, iA78, iOT, iAT1, iAT2, iOS, iAS, ↓yfm1 hM, ↓yfm2 hM, ↓yfm5 hM, ↓yfm8 hM, ↓yfm9 hM, ↓yfm10 hM, ↓yfm12 hM, ↓yfm28 hM, ↓yfm32 hM, ↓yfm35 hM, ↓yfm36 hM, ↓yfm37 hM, ↓yfm41 hM, ↓yfm42 hM, ↓yfm43 hM, ↓yfm44 hM, rm1 hM, rm2 hM, rm5 hM, rm8 hM, rm9 hM, rm10 hM, rm12 hM, rm28 hM, rm32 hM, rm35 hM, rm36 hM, rm37 hM, rm41 hM, rm42 hM, rm43 hM, rm44 hM, p128r, p187r, p215r, k_n1, k_n0, k_n2, ip_r0, ip_r1]
theorem y_dwR {z : Int} (hR : y_R W m S) : y_R (w_gz W z m) m (n_dw S z m) := by
  obtain ⟨r1, r2, r3, r4, r5, r6⟩ := hR
  unfold y_R
  simp (disch := omega) only [n_dwn, n_dw68]
  refine ⟨r1, fun p h0 h1 => ?_, r3, r4, r5, y_tx_c r6 (n_dwn (by omega) (by omega)) (n_dwn (by omega) (by omega))⟩
  obtain ⟨a1, a2, a3⟩ := r2 p h0 h1
  refine ⟨a1, ?_, ?_⟩
  · unfold n_ro
    rw [if_neg (by omega)]
    exact a2
  · show n_ro z m 0 (S 68) (3 * p + 1) = a_go z m (w_go W) p
    unfold n_ro a_go
    rw [if_pos (by omega), if_pos ⟨h0, h1⟩, show (3 * p + 1) / 3 = p by omega]
/-- the drawn state, a ride on it, and all laid back -/
theorem y223l {z : Int} {S1 : ip_S} (hM : x_RM R) (hm : S 62 11 = m) (hm6 : m ≤ 6) (hg : ∀ p, 0 ≤ p → p < m → 0 ≤ S 68 (3 * p + 1) ∧ S 68 (3 * p + 1) < 8) (h11 : S1 62 11 = m) (h72 : S1 72 = n_gw m (S 68) (S 72)) {Q} : ∀ (k : Nat) (i : Int), i + k = m → 0 ≤ i →
    ip_wp d 223 2 [some (.ref 62), some (vi i)] [] 79 (ip_ar S1 68 (n_ro z m i (S 68))) R L Q = Q none 79 (ip_ar S1 68 (S 68)) R L
  | 0, i, h, hi => by
    have e1 : ∀ f, ip_ar S1 68 f 62 = S1 62 := fun f => m_ar_ne (by omega)
    have e2 : m = i := by omega
    rw [s223_2]
    simp (disch := omega) only [s223_0, s223_1, s223_3, s223_4, s223_5, s223_6, s223_7, s223_8, s223_9, s223_10, s223_11, s223_12, s223_13, s223_14, s223_15, s223_16, s223_17, s223_18, s223_19, s223_20, ↓reduceIte, Bool.true_eq_false, Bool.false_eq_true, ip_rfS, true_or, or_true, true_and, and_true, Option.toList_some, Option.toList_none, List.cons_append, List.nil_append, ip_fxn, ip_fxi, ip_fxr, ip_fxl, ip_wid, ip_n998, ip_lt900, iO0, iO1, iA2, iA3, iA4, iA5, iA6, iA7, iA8, iO9, iA10, iA11, iA12, iA13, iA14, iA15, iA16, iO17, iA18, iO19, iA20, iA21, iA22, iA23, iO24, iA25, iO26, iA27, iA28, iO29, iA30, iA31, iO32, iA33, iA34, iO35, iA36, iA37, iO38, iA39, iA40, iO41, iA42, iA43, iO44, iA45, iA46, iA47, iA48, iA49, iA50, iA51, iA52, iA53, iO54, iA55, iO56, iA57, iO58, iA59, iO60, iA61, iO62, iA63, iA64, iA65, iA66, iA67, iA68, iA69, iA70, iA71, iA72, iA73, iA74, iA75, iA76, iA77, iA78, iOT, iAT1, iAT2, iOS, iAS, ↓yfm1 hM, ↓yfm2 hM, ↓yfm5 hM, ↓yfm8 hM, ↓yfm9 hM, ↓yfm10 hM, ↓yfm12 hM, ↓yfm28 hM, ↓yfm32 hM, ↓yfm35 hM, ↓yfm36 hM, ↓yfm37 hM, ↓yfm41 hM, ↓yfm42 hM, ↓yfm43 hM, ↓yfm44 hM, rm1 hM, rm2 hM, rm5 hM, rm8 hM, rm9 hM, rm10 hM, rm12 hM, rm28 hM, rm32 hM, rm35 hM, rm36 hM, rm37 hM, rm41 hM, rm42 hM, rm43 hM, rm44 hM, p128r, p187r, p215r, k_n1, k_n0, k_n2, ip_r0, ip_r1, e1, h11, e2, Int.lt_irrefl, n_roi]
  | k + 1, i, h, hi => by
    have e1 : ip_ar S1 68 (n_ro z m i (S 68)) 62 = S1 62 := m_ar_ne (by omega)
    have e3 : ip_ar S1 68 (n_ro z m i (S 68)) 72 i = S 68 (3 * i + 1) := by
      rw [m_ar_ne (by omega), h72]
      exact if_pos (by omega)
    have r2 := hg i (by omega) (by omega)
    rw [← y223l (Q := Q) (z := z) hM hm hm6 hg h11 h72 k (i + 1) (by omega) (by omega), ← n_rob hi, ← ip_up_ar, s223_2]
    simp (disch := omega) only [s223_0, s223_1, s223_3, s223_4, s223_5, s223_6, s223_7, s223_8, s223_9, s223_10, s223_11, s223_12, s223_13, s223_14, s223_15, s223_16, s223_17, s223_18, s223_19, s223_20, ↓reduceIte, Bool.true_eq_false, Bool.false_eq_true, ip_rfS, true_or, or_true, true_and, and_true, Option.toList_some, Option.toList_none, List.cons_append, List.nil_append, ip_fxn, ip_fxi, ip_fxr, ip_fxl, ip_wid, ip_n998, ip_lt900, iO0, iO1, iA2, iA3, iA4, iA5, iA6, iA7, iA8, iO9, iA10, iA11, iA12, iA13, iA14, iA15, iA16, iO17, iA18, iO19, iA20, iA21, iA22, iA23, iO24, iA25, iO26, iA27, iA28, iO29, iA30, iA31, iO32, iA33, iA34, iO35, iA36, iA37, iO38, iA39, iA40, iO41, iA42, iA43, iO44, iA45, iA46, iA47, iA48, iA49, iA50, iA51, iA52, iA53, iO54, iA55, iO56, iA57, iO58, iA59, iO60, iA61, iO62, iA63, iA64, iA65, iA66, iA67, iA68, iA69, iA70, iA71, iA72, iA73, iA74, iA75, iA76, iA77, iA78, iOT, iAT1, iAT2, iOS, iAS, ↓yfm1 hM, ↓yfm2 hM, ↓yfm5 hM, ↓yfm8 hM, ↓yfm9 hM, ↓yfm10 hM, ↓yfm12 hM, ↓yfm28 hM, ↓yfm32 hM, ↓yfm35 hM, ↓yfm36 hM, ↓yfm37 hM, ↓yfm41 hM, ↓yfm42 hM, ↓yfm43 hM, ↓yfm44 hM, rm1 hM, rm2 hM, rm5 hM, rm8 hM, rm9 hM, rm10 hM, rm12 hM, rm28 hM, rm32 hM, rm35 hM, rm36 hM, rm37 hM, rm41 hM, rm42 hM, rm43 hM, rm44 hM, p128r, p187r, p215r, k_n1, k_n0, k_n2, ip_r0, ip_r1, e1, h11, show i < m by omega, e3]
theorem y223 {z : Int} {S1 : ip_S} (hM : x_RM R) (hm : S 62 11 = m) (hm0 : 0 ≤ m) (hm6 : m ≤ 6) (hg : ∀ p, 0 ≤ p → p < m → 0 ≤ S 68 (3 * p + 1) ∧ S 68 (3 * p + 1) < 8) (h : y_g (n_dw S z m) S1) {Q} : ip_wc (d + 1) 223 [.ref 62] 79 S1 R L Q = Q none 79 (ip_ar S1 68 (S 68)) R L := by
  have h11 : S1 62 11 = m := by rw [h.2 11 (by unfold y_s2; omega), n_dwn (by omega) (by omega)]; exact hm
  have h72 : S1 72 = n_gw m (S 68) (S 72) := by rw [h.1 72 (by omega) (by omega) (by omega), n_dw72]
  have h68 : S1 68 = n_ro z m 0 (S 68) := by rw [h.1 68 (by omega) (by omega) (by omega), n_dw68]
  have k := y223l (d := d) (z := z) (L := L) hM hm hm6 hg h11 h72 (Q := Q) m.toNat 0 (by omega) (by omega)
  rw [← h68, ip_ar_self] at k
  rw [← k]
  simp (disch := omega) only [c223, s223_0, s223_1, ↓reduceIte, Bool.true_eq_false, Bool.false_eq_true, ip_rfS, true_or, or_true, true_and, and_true, Option.toList_some, Option.toList_none, List.cons_append, List.nil_append, ip_fxn, ip_fxi, ip_fxr, ip_fxl, ip_wid, ip_n998, ip_lt900, iO0, iO1, iA2, iA3, iA4, iA5, iA6, iA7, iA8, iO9, iA10, iA11, iA12, iA13, iA14, iA15, iA16, iO17, iA18, iO19, iA20, iA21, iA22, iA23, iO24, iA25, iO26, iA27, iA28, iO29, iA30, iA31, iO32, iA33, iA34, iO35, iA36, iA37, iO38, iA39, iA40, iO41, iA42, iA43, iO44, iA45, iA46, iA47, iA48, iA49, iA50, iA51, iA52, iA53, iO54, iA55, iO56, iA57, iO58, iA59, iO60, iA61, iO62, iA63, iA64, iA65, iA66, iA67, iA68, iA69, iA70, iA71, iA72, iA73, iA74, iA75, iA76, iA77, iA78, iOT, iAT1, iAT2, iOS, iAS, ↓yfm1 hM, ↓yfm2 hM, ↓yfm5 hM, ↓yfm8 hM, ↓yfm9 hM, ↓yfm10 hM, ↓yfm12 hM, ↓yfm28 hM, ↓yfm32 hM, ↓yfm35 hM, ↓yfm36 hM, ↓yfm37 hM, ↓yfm41 hM, ↓yfm42 hM, ↓yfm43 hM, ↓yfm44 hM, rm1 hM, rm2 hM, rm5 hM, rm8 hM, rm9 hM, rm10 hM, rm12 hM, rm28 hM, rm32 hM, rm35 hM, rm36 hM, rm37 hM, rm41 hM, rm42 hM, rm43 hM, rm44 hM, p128r, p187r, p215r, k_n1, k_n0, k_n2, ip_r0, ip_r1]
/-- as y_g, but row 72 may move -/
def y_k (S S' : ip_S) : Prop := (∀ b : Nat, b ≠ 62 → b ≠ 70 → b ≠ 72 → S' b = S b) ∧ (∀ k, ¬ y_s2 k → S' 62 k = S 62 k)
theorem y_k_g {S1 : ip_S} (h : y_g S S1) : y_k S S1 := ⟨fun b a1 a2 _ => h.1 b a1 a2 a2, h.2⟩
theorem y_k_r : y_k S S := y_k_g y_g_r
theorem y_k_t {S1 S2 : ip_S} (h1 : y_k S S1) (h2 : y_k S1 S2) : y_k S S2 := ⟨fun b a1 a2 a3 => (h2.1 b a1 a2 a3).trans (h1.1 b a1 a2 a3), fun k hk => (h2.2 k hk).trans (h1.2 k hk)⟩
theorem y_k_R {S1 : ip_S} (h : y_k S S1) (hR : y_R W m S) : y_R W m S1 := by
  obtain ⟨r1, r2, r3, r4, r5, r6⟩ := hR
  have e7 := h.2 7 (by unfold y_s2; omega)
  have e4 := h.2 4 (by unfold y_s2; omega)
  unfold y_R
  rw [h.1 67 (by omega) (by omega) (by omega), h.1 68 (by omega) (by omega) (by omega), h.1 66 (by omega) (by omega) (by omega), h.1 69 (by omega) (by omega) (by omega), e7, e4]
  exact ⟨r1, r2, r3, r4, r5, y_tx_c r6 (h.1 63 (by omega) (by omega) (by omega)) (h.1 64 (by omega) (by omega) (by omega))⟩
theorem y_k_b {z : Int} {S1 : ip_S} (h : y_g (n_dw S z m) S1) : y_k S (ip_ar S1 68 (S 68)) := by
  refine ⟨fun b a1 a2 a3 => ?_, fun k hk => ?_⟩
  · by_cases c : b = 68
    · rw [c, m_ar_eq]
    · rw [m_ar_ne c, h.1 b a1 a2 a2, n_dwn c a3]
  · rw [m_ar_ne (by omega), h.2 k hk, n_dwn (by omega) (by omega)]
theorem y_R_g (hW : w_ok W) (hR : y_R W m S) : ∀ p, 0 ≤ p → p < m → 0 ≤ S 68 (3 * p + 1) ∧ S 68 (3 * p + 1) < 8 := fun p h0 h1 => by
  have := hR.1
  rw [(hR.2.1 p h0 h1).2.2]
  exact (hW.1 p h0 (by omega)).2.2
theorem y221r {z t a : Int} (hM : x_RM R) (hW : w_ok W) (hR : y_R W m S) (hG : w_gd W) (hm : S 62 11 = m) (hm0 : 0 ≤ m) (ht : 0 ≤ t ∧ t < 100) (hf : 0 ≤ t / 10 ∧ t / 10 < m) (hb : 0 ≤ t % 10 ∧ t % 10 < m) (ha : 0 ≤ a ∧ a < 8) :
    ∃ S' w', y_k S S' ∧ ∀ Q, ip_wp (d + 49) 221 9 [some (.ref 62), some (vi z), some (vi t), some (vi a), none] [] 79 S R L Q = Q (some (vi (w_rz (w_gz W z m) (t / 10) (t % 10) a).2.2.1)) 79 S' R (ip_up L 62 24 w') := by
  have h10 : (¬ (10 : Int) = 0) = True := eq_true (by omega)
  have hg := y_R_g hW hR
  have k222 := fun Q' => y222 (d := d + 47) (S := S) (L := L) (z := z) (Q := Q') hM hm hm0 hR.1 hg
  obtain ⟨S2, w2, f2, -, k2⟩ := y204 (d := d) (L := L) (W := w_gz W z m) (m := m) (S := n_dw S z m) (f := t / 10) (b := t % 10) (a := a) hM (w_gzk hW) (y_dwR hR) (w_gzd hG) hf hb ha
  have k223 := fun Q' => y223 (d := d + 48) (S1 := S2) (L := ip_up L 62 24 w2) (z := z) (Q := Q') hM hm hm0 hR.1 hg f2
  refine ⟨_, w2, y_k_b f2, fun Q => ?_⟩
  simp (disch := omega) only [s221_9, s221_10, s221_11, s221_12, s221_13, s221_14, s221_15, s221_16, s221_17, s221_18, s221_19, s221_20, s221_21, s221_22, s221_23, s221_24, s221_25, ↓reduceIte, Bool.true_eq_false, Bool.false_eq_true, ip_rfS, true_or, or_true, true_and, and_true, Option.toList_some, Option.toList_none, List.cons_append, List.nil_append, ip_fxn, ip_fxi, ip_fxr, ip_fxl, ip_wid, ip_n998, ip_lt900, iO0, iO1, iA2, iA3, iA4, iA5, iA6, iA7, iA8, iO9, iA10, iA11, iA12, iA13, iA14, iA15, iA16, iO17, iA18, iO19, iA20, iA21, iA22, iA23, iO24, iA25, iO26, iA27, iA28, iO29, iA30, iA31, iO32, iA33, iA34, iO35, iA36, iA37, iO38, iA39, iA40, iO41, iA42, iA43, iO44, iA45, iA46, iA47, iA48, iA49, iA50, iA51, iA52, iA53, iO54, iA55, iO56, iA57, iO58, iA59, iO60, iA61, iO62, iA63, iA64, iA65, iA66, iA67, iA68, iA69, iA70, iA71, iA72, iA73, iA74, iA75, iA76, iA77, iA78, iOT, iAT1, iAT2, iOS, iAS, ↓yfm1 hM, ↓yfm2 hM, ↓yfm5 hM, ↓yfm8 hM, ↓yfm9 hM, ↓yfm10 hM, ↓yfm12 hM, ↓yfm28 hM, ↓yfm32 hM, ↓yfm35 hM, ↓yfm36 hM, ↓yfm37 hM, ↓yfm41 hM, ↓yfm42 hM, ↓yfm43 hM, ↓yfm44 hM, rm1 hM, rm2 hM, rm5 hM, rm8 hM, rm9 hM, rm10 hM, rm12 hM, rm28 hM, rm32 hM, rm35 hM, rm36 hM, rm37 hM, rm41 hM, rm42 hM, rm43 hM, rm44 hM, p128r, p187r, p215r, k_n1, k_n0, k_n2, ip_r0, ip_r1, ip_div_id, ip_rem_id, h10, k222, k2, k223]
theorem ip_cmz {x y : Int} : (ip_w (ip_cmpl x y) = 0) = (x = y) := by
  have e1 : ip_w 1 = 1 := by decide +kernel
  have e0 : ip_w 0 = 0 := by decide +kernel
  have e2 : ip_w (-1) = -1 := by decide +kernel
  unfold ip_cmpl
  by_cases h1 : y < x
  · rw [if_pos h1, e1]
    exact propext ⟨fun h => absurd h (by decide), fun h => by omega⟩
  · rw [if_neg h1]
    by_cases h2 : x = y
    · rw [if_pos h2, e0]
      exact propext ⟨fun _ => h2, fun _ => rfl⟩
    · rw [if_neg h2, e2]
      exact propext ⟨fun h => absurd h (by decide), fun h => absurd h h2⟩
theorem ip_lrs {a b : Int} (ha : 0 ≤ a ∧ a ≤ 20) (hb : 1 ≤ b ∧ b ≤ 20) : ip_lrem a b = a % b ∧ ip_ldiv a b = a / b := by
  have h := ip_lr20 a.toNat (by omega) b.toNat (by omega) (by omega)
  rwa [Int.toNat_of_nonneg ha.1, Int.toNat_of_nonneg (show 0 ≤ b by omega)] at h
theorem y224e {z q t w g x : Int} {v11 v12 : Option Value} (hM : x_RM R) (hq : 1 ≤ q ∧ q ≤ 20) (hg : 0 ≤ g ∧ g ≤ 20) (hw : 0 ≤ w ∧ w < 2) (hx : 1 ≤ x ∧ x ≤ 20) {Q} :
    ip_wp d 224 60 [some (.ref 62), some (vi z), some (vi q), some (vi t), some (vi w), some (vl g), none, some (vl x), none, some (vl 0), none, v11, v12] [] 79 S R L Q = Q (some (vl (if w = 0 then g / x else q / x))) 79 S R L := by
  have l1 := (ip_lrs hg hx).2
  have l2 := (ip_lrs (a := q) (b := x) (by omega) hx).2
  rw [s224_60]
  by_cases c2 : w = 0
  · rw [if_pos c2]
    simp (disch := omega) only [s224_61, s224_62, s224_63, s224_64, s224_65, s224_66, s224_67, s224_68, s224_69, s224_70, s224_71, s224_72, s224_73, s224_74, s224_75, s224_76, s224_77, s224_78, s224_79, s224_80, s224_81, s224_82, s224_83, ↓reduceIte, Bool.true_eq_false, Bool.false_eq_true, ip_rfS, true_or, or_true, true_and, and_true, Option.toList_some, Option.toList_none, List.cons_append, List.nil_append, ip_fxn, ip_fxi, ip_fxr, ip_fxl, ip_wid, ip_n998, ip_lt900, iO0, iO1, iA2, iA3, iA4, iA5, iA6, iA7, iA8, iO9, iA10, iA11, iA12, iA13, iA14, iA15, iA16, iO17, iA18, iO19, iA20, iA21, iA22, iA23, iO24, iA25, iO26, iA27, iA28, iO29, iA30, iA31, iO32, iA33, iA34, iO35, iA36, iA37, iO38, iA39, iA40, iO41, iA42, iA43, iO44, iA45, iA46, iA47, iA48, iA49, iA50, iA51, iA52, iA53, iO54, iA55, iO56, iA57, iO58, iA59, iO60, iA61, iO62, iA63, iA64, iA65, iA66, iA67, iA68, iA69, iA70, iA71, iA72, iA73, iA74, iA75, iA76, iA77, iA78, iOT, iAT1, iAT2, iOS, iAS, ↓yfm1 hM, ↓yfm2 hM, ↓yfm5 hM, ↓yfm8 hM, ↓yfm9 hM, ↓yfm10 hM, ↓yfm12 hM, ↓yfm28 hM, ↓yfm32 hM, ↓yfm35 hM, ↓yfm36 hM, ↓yfm37 hM, ↓yfm41 hM, ↓yfm42 hM, ↓yfm43 hM, ↓yfm44 hM, rm1 hM, rm2 hM, rm5 hM, rm8 hM, rm9 hM, rm10 hM, rm12 hM, rm28 hM, rm32 hM, rm35 hM, rm36 hM, rm37 hM, rm41 hM, rm42 hM, rm43 hM, rm44 hM, p128r, p187r, p215r, k_n1, k_n0, k_n2, ip_r0, ip_r1, ip_cmz, eq_true c2, ip_w64id, show (¬ x = 0) = True from eq_true (by omega), l1]
  · rw [if_neg c2]
    simp (disch := omega) only [s224_61, s224_62, s224_63, s224_64, s224_65, s224_66, s224_67, s224_68, s224_69, s224_70, s224_71, s224_72, s224_73, s224_74, s224_75, s224_76, s224_77, s224_78, s224_79, s224_80, s224_81, s224_82, s224_83, ↓reduceIte, Bool.true_eq_false, Bool.false_eq_true, ip_rfS, true_or, or_true, true_and, and_true, Option.toList_some, Option.toList_none, List.cons_append, List.nil_append, ip_fxn, ip_fxi, ip_fxr, ip_fxl, ip_wid, ip_n998, ip_lt900, iO0, iO1, iA2, iA3, iA4, iA5, iA6, iA7, iA8, iO9, iA10, iA11, iA12, iA13, iA14, iA15, iA16, iO17, iA18, iO19, iA20, iA21, iA22, iA23, iO24, iA25, iO26, iA27, iA28, iO29, iA30, iA31, iO32, iA33, iA34, iO35, iA36, iA37, iO38, iA39, iA40, iO41, iA42, iA43, iO44, iA45, iA46, iA47, iA48, iA49, iA50, iA51, iA52, iA53, iO54, iA55, iO56, iA57, iO58, iA59, iO60, iA61, iO62, iA63, iA64, iA65, iA66, iA67, iA68, iA69, iA70, iA71, iA72, iA73, iA74, iA75, iA76, iA77, iA78, iOT, iAT1, iAT2, iOS, iAS, ↓yfm1 hM, ↓yfm2 hM, ↓yfm5 hM, ↓yfm8 hM, ↓yfm9 hM, ↓yfm10 hM, ↓yfm12 hM, ↓yfm28 hM, ↓yfm32 hM, ↓yfm35 hM, ↓yfm36 hM, ↓yfm37 hM, ↓yfm41 hM, ↓yfm42 hM, ↓yfm43 hM, ↓yfm44 hM, rm1 hM, rm2 hM, rm5 hM, rm8 hM, rm9 hM, rm10 hM, rm12 hM, rm28 hM, rm32 hM, rm35 hM, rm36 hM, rm37 hM, rm41 hM, rm42 hM, rm43 hM, rm44 hM, p128r, p187r, p215r, k_n1, k_n0, k_n2, ip_r0, ip_r1, ip_cmz, c2, ip_w64id, show (¬ x = 0) = True from eq_true (by omega), l2]
theorem y224g {z q t w g : Int} (hM : x_RM R) (hq : 1 ≤ q ∧ q ≤ 20) (hg : 0 ≤ g ∧ g ≤ 20) (hw : 0 ≤ w ∧ w < 2) {Q} : ∀ (k : Nat) (x y : Int) (v11 v12 : Option Value), 0 ≤ y ∧ y ≤ k → 0 ≤ x ∧ x ≤ 20 → y ≤ 20 → (1 ≤ y_gc (k + 1) x y ∧ y_gc (k + 1) x y ≤ 20) →
    ip_wp d 224 60 [some (.ref 62), some (vi z), some (vi q), some (vi t), some (vi w), some (vl g), none, some (vl x), none, some (vl y), none, v11, v12] [] 79 S R L Q = Q (some (vl (if w = 0 then g / y_gc (k + 1) x y else q / y_gc (k + 1) x y))) 79 S R L
  | 0, x, y, v11, v12, h, hx, hy, hr => by
    obtain rfl : y = 0 := by omega
    rw [y_gc, if_pos rfl] at hr ⊢
    exact y224e hM hq hg hw hr
  | k + 1, x, y, v11, v12, h, hx, hy, hr => by
    by_cases c : y = 0
    · subst c
      rw [y_gc, if_pos rfl] at hr ⊢
      exact y224e hM hq hg hw hr
    · rw [y_gc, if_neg c] at hr ⊢
      have m1 := Int.emod_nonneg x c
      have m2 := Int.emod_lt_of_pos x (show 0 < y by omega)
      have l1 := (ip_lrs hx ⟨(by omega : 1 ≤ y), hy⟩).1
      rw [← y224g (Q := Q) (z := z) (t := t) hM hq hg hw k y (x % y) (some (vl (x % y))) none (by omega) (by omega) (by omega) hr, s224_60]
      simp (disch := omega) only [s224_61, s224_62, s224_63, s224_64, s224_65, s224_66, s224_67, s224_68, s224_69, s224_70, s224_71, s224_72, ↓reduceIte, Bool.true_eq_false, Bool.false_eq_true, ip_rfS, true_or, or_true, true_and, and_true, Option.toList_some, Option.toList_none, List.cons_append, List.nil_append, ip_fxn, ip_fxi, ip_fxr, ip_fxl, ip_wid, ip_n998, ip_lt900, iO0, iO1, iA2, iA3, iA4, iA5, iA6, iA7, iA8, iO9, iA10, iA11, iA12, iA13, iA14, iA15, iA16, iO17, iA18, iO19, iA20, iA21, iA22, iA23, iO24, iA25, iO26, iA27, iA28, iO29, iA30, iA31, iO32, iA33, iA34, iO35, iA36, iA37, iO38, iA39, iA40, iO41, iA42, iA43, iO44, iA45, iA46, iA47, iA48, iA49, iA50, iA51, iA52, iA53, iO54, iA55, iO56, iA57, iO58, iA59, iO60, iA61, iO62, iA63, iA64, iA65, iA66, iA67, iA68, iA69, iA70, iA71, iA72, iA73, iA74, iA75, iA76, iA77, iA78, iOT, iAT1, iAT2, iOS, iAS, ↓yfm1 hM, ↓yfm2 hM, ↓yfm5 hM, ↓yfm8 hM, ↓yfm9 hM, ↓yfm10 hM, ↓yfm12 hM, ↓yfm28 hM, ↓yfm32 hM, ↓yfm35 hM, ↓yfm36 hM, ↓yfm37 hM, ↓yfm41 hM, ↓yfm42 hM, ↓yfm43 hM, ↓yfm44 hM, rm1 hM, rm2 hM, rm5 hM, rm8 hM, rm9 hM, rm10 hM, rm12 hM, rm28 hM, rm32 hM, rm35 hM, rm36 hM, rm37 hM, rm41 hM, rm42 hM, rm43 hM, rm44 hM, p128r, p187r, p215r, k_n1, k_n0, k_n2, ip_r0, ip_r1, ip_cmz, c, ip_w64id, show (¬ y = 0) = True from eq_true c, l1, not_false_eq_true, true_and]
theorem y224l {z q t w0 : Int} (hM : x_RM R) (hW : w_ok W) (hR : y_R W m S) (hG : w_gd W) (hm : S 62 11 = m) (hm0 : 0 ≤ m) (hq : q ≤ 20) (ht : 0 ≤ t ∧ t < 100) (hf : 0 ≤ t / 10 ∧ t / 10 < m) (hb : 0 ≤ t % 10 ∧ t % 10 < m) : ∀ (k : Nat) (i c w : Int) (S1 : ip_S), i + k = q → 0 ≤ i → 0 ≤ c ∧ c ≤ i → y_k S S1 →
    ∃ S' w', y_k S S' ∧ ∀ Q, ip_wp (d + 49) 224 22 [some (.ref 62), some (vi z), some (vi q), some (vi t), some (vi w0), some (vl c), none, some (vi i), none, none, none, none, none] [] 79 S1 R (ip_up L 62 24 w) Q = ip_wp (d + 49) 224 55 [some (.ref 62), some (vi z), some (vi q), some (vi t), some (vi w0), some (vl (a_cn W z m (t / 10) (t % 10) k i c)), none, some (vi q), none, none, none, none, none] [] 79 S' R (ip_up L 62 24 w') Q
  | 0, i, c, w, S1, h, hi, hc, h1 => by
    obtain rfl : i = q := by omega
    refine ⟨S1, w, h1, fun Q => ?_⟩
    rw [s224_22]
    simp (disch := omega) only [s224_23, s224_24, s224_25, s224_26, s224_27, s224_28, s224_29, s224_30, s224_31, s224_32, s224_33, s224_34, s224_35, s224_36, s224_37, s224_38, s224_39, s224_40, s224_41, s224_42, s224_43, s224_44, s224_45, s224_46, s224_47, s224_48, s224_49, s224_50, s224_51, s224_52, s224_53, s224_54, ↓reduceIte, Bool.true_eq_false, Bool.false_eq_true, ip_rfS, true_or, or_true, true_and, and_true, Option.toList_some, Option.toList_none, List.cons_append, List.nil_append, ip_fxn, ip_fxi, ip_fxr, ip_fxl, ip_wid, ip_n998, ip_lt900, iO0, iO1, iA2, iA3, iA4, iA5, iA6, iA7, iA8, iO9, iA10, iA11, iA12, iA13, iA14, iA15, iA16, iO17, iA18, iO19, iA20, iA21, iA22, iA23, iO24, iA25, iO26, iA27, iA28, iO29, iA30, iA31, iO32, iA33, iA34, iO35, iA36, iA37, iO38, iA39, iA40, iO41, iA42, iA43, iO44, iA45, iA46, iA47, iA48, iA49, iA50, iA51, iA52, iA53, iO54, iA55, iO56, iA57, iO58, iA59, iO60, iA61, iO62, iA63, iA64, iA65, iA66, iA67, iA68, iA69, iA70, iA71, iA72, iA73, iA74, iA75, iA76, iA77, iA78, iOT, iAT1, iAT2, iOS, iAS, ↓yfm1 hM, ↓yfm2 hM, ↓yfm5 hM, ↓yfm8 hM, ↓yfm9 hM, ↓yfm10 hM, ↓yfm12 hM, ↓yfm28 hM, ↓yfm32 hM, ↓yfm35 hM, ↓yfm36 hM, ↓yfm37 hM, ↓yfm41 hM, ↓yfm42 hM, ↓yfm43 hM, ↓yfm44 hM, rm1 hM, rm2 hM, rm5 hM, rm8 hM, rm9 hM, rm10 hM, rm12 hM, rm28 hM, rm32 hM, rm35 hM, rm36 hM, rm37 hM, rm41 hM, rm42 hM, rm43 hM, rm44 hM, p128r, p187r, p215r, k_n1, k_n0, k_n2, ip_r0, ip_r1, Int.lt_irrefl, a_cn]
  | k + 1, i, c, w, S1, h, hi, hc, h1 => by
    have h10 : (¬ (10 : Int) = 0) = True := eq_true (by omega)
    have R1 := y_k_R h1 hR
    have hm1 : S1 62 11 = m := by rw [h1.2 11 (by unfold y_s2; omega)]; exact hm
    have hg := y_R_g hW R1
    have k222 := fun Q' => y222 (d := d + 47) (S := S1) (L := ip_up L 62 24 w) (z := z + i) (Q := Q') hM hm1 hm0 R1.1 hg
    obtain ⟨S2, w2, f2, -, k2⟩ := y207 (d := d) (L := ip_up L 62 24 w) (W := w_gz W (z + i) m) (m := m) (S := n_dw S1 (z + i) m) (f := t / 10) (b := t % 10) (a := 0) hM (w_gzk hW) (y_dwR R1) (w_gzd hG) hf hb (by omega)
    simp only [ip_upup] at k2
    have R2 := y_g_R f2 (y_dwR (z := z + i) R1)
    have hm6 := hR.1
    have e68 := (R2.2.1 (t / 10) hf.1 hf.2).2.2
    have k136 := fun Q' => p136 (d := d + 48) (S := S2) (R := R) (L := ip_up L 62 24 w2) (p := t / 10) (Q := Q') hM (by omega)
    rw [e68] at k136
    have hgo := ((w_gzk (z := z + i) (p := m) hW).1 (t / 10) hf.1 (by omega)).2.2
    have hrz := (w_rzr (W := w_gz W (z + i) m) (f := t / 10) (b := t % 10) (a := 0) (w_okr (w_gzk hW)) (by omega)).1
    have k223 := fun Q' => y223 (d := d + 48) (S1 := S2) (L := ip_up L 62 24 w2) (z := z + i) (Q := Q') hM hm1 hm0 R1.1 hg f2
    have g3 := y_k_t h1 (y_k_b f2)
    rw [a_cn]
    by_cases c2 : (w_rz (w_gz W (z + i) m) (t / 10) (t % 10) 0).1 = w_go (w_gz W (z + i) m) (t / 10)
    · rw [if_pos (show a_goal (w_gz W (z + i) m) (t / 10) (t % 10) 0 = true from decide_eq_true c2)]
      obtain ⟨S', w', i1, i2⟩ := y224l (z := z) (w0 := w0) hM hW hR hG hm hm0 hq ht hf hb k (i + 1) (c + 1) w2 _ (by omega) (by omega) (by omega) g3
      refine ⟨S', w', i1, fun Q => ?_⟩
      rw [← i2 Q, s224_22]
      simp (disch := omega) only [s224_23, s224_24, s224_25, s224_26, s224_27, s224_28, s224_29, s224_30, s224_31, s224_32, s224_33, s224_34, s224_35, s224_36, s224_37, s224_38, s224_39, s224_40, s224_41, s224_42, s224_43, s224_44, s224_45, s224_46, s224_47, s224_48, s224_49, s224_50, s224_51, s224_52, s224_53, s224_54, ↓reduceIte, Bool.true_eq_false, Bool.false_eq_true, ip_rfS, true_or, or_true, true_and, and_true, Option.toList_some, Option.toList_none, List.cons_append, List.nil_append, ip_fxn, ip_fxi, ip_fxr, ip_fxl, ip_wid, ip_n998, ip_lt900, iO0, iO1, iA2, iA3, iA4, iA5, iA6, iA7, iA8, iO9, iA10, iA11, iA12, iA13, iA14, iA15, iA16, iO17, iA18, iO19, iA20, iA21, iA22, iA23, iO24, iA25, iO26, iA27, iA28, iO29, iA30, iA31, iO32, iA33, iA34, iO35, iA36, iA37, iO38, iA39, iA40, iO41, iA42, iA43, iO44, iA45, iA46, iA47, iA48, iA49, iA50, iA51, iA52, iA53, iO54, iA55, iO56, iA57, iO58, iA59, iO60, iA61, iO62, iA63, iA64, iA65, iA66, iA67, iA68, iA69, iA70, iA71, iA72, iA73, iA74, iA75, iA76, iA77, iA78, iOT, iAT1, iAT2, iOS, iAS, ↓yfm1 hM, ↓yfm2 hM, ↓yfm5 hM, ↓yfm8 hM, ↓yfm9 hM, ↓yfm10 hM, ↓yfm12 hM, ↓yfm28 hM, ↓yfm32 hM, ↓yfm35 hM, ↓yfm36 hM, ↓yfm37 hM, ↓yfm41 hM, ↓yfm42 hM, ↓yfm43 hM, ↓yfm44 hM, rm1 hM, rm2 hM, rm5 hM, rm8 hM, rm9 hM, rm10 hM, rm12 hM, rm28 hM, rm32 hM, rm35 hM, rm36 hM, rm37 hM, rm41 hM, rm42 hM, rm43 hM, rm44 hM, p128r, p187r, p215r, k_n1, k_n0, k_n2, ip_r0, ip_r1, show i < q by omega, k222, ip_div_id, ip_rem_id, h10, k2, k136, eq_true c2, k223]
    · rw [if_neg (show ¬ a_goal (w_gz W (z + i) m) (t / 10) (t % 10) 0 = true from fun z => c2 (of_decide_eq_true z))]
      obtain ⟨S', w', i1, i2⟩ := y224l (z := z) (w0 := w0) hM hW hR hG hm hm0 hq ht hf hb k (i + 1) c w2 _ (by omega) (by omega) (by omega) g3
      refine ⟨S', w', i1, fun Q => ?_⟩
      rw [← i2 Q, s224_22]
      simp (disch := omega) only [s224_23, s224_24, s224_25, s224_26, s224_27, s224_28, s224_29, s224_30, s224_31, s224_32, s224_33, s224_34, s224_35, s224_36, s224_37, s224_38, s224_39, s224_40, s224_41, s224_42, s224_43, s224_44, s224_45, s224_46, s224_47, s224_48, s224_49, s224_50, s224_51, s224_52, s224_53, s224_54, ↓reduceIte, Bool.true_eq_false, Bool.false_eq_true, ip_rfS, true_or, or_true, true_and, and_true, Option.toList_some, Option.toList_none, List.cons_append, List.nil_append, ip_fxn, ip_fxi, ip_fxr, ip_fxl, ip_wid, ip_n998, ip_lt900, iO0, iO1, iA2, iA3, iA4, iA5, iA6, iA7, iA8, iO9, iA10, iA11, iA12, iA13, iA14, iA15, iA16, iO17, iA18, iO19, iA20, iA21, iA22, iA23, iO24, iA25, iO26, iA27, iA28, iO29, iA30, iA31, iO32, iA33, iA34, iO35, iA36, iA37, iO38, iA39, iA40, iO41, iA42, iA43, iO44, iA45, iA46, iA47, iA48, iA49, iA50, iA51, iA52, iA53, iO54, iA55, iO56, iA57, iO58, iA59, iO60, iA61, iO62, iA63, iA64, iA65, iA66, iA67, iA68, iA69, iA70, iA71, iA72, iA73, iA74, iA75, iA76, iA77, iA78, iOT, iAT1, iAT2, iOS, iAS, ↓yfm1 hM, ↓yfm2 hM, ↓yfm5 hM, ↓yfm8 hM, ↓yfm9 hM, ↓yfm10 hM, ↓yfm12 hM, ↓yfm28 hM, ↓yfm32 hM, ↓yfm35 hM, ↓yfm36 hM, ↓yfm37 hM, ↓yfm41 hM, ↓yfm42 hM, ↓yfm43 hM, ↓yfm44 hM, rm1 hM, rm2 hM, rm5 hM, rm8 hM, rm9 hM, rm10 hM, rm12 hM, rm28 hM, rm32 hM, rm35 hM, rm36 hM, rm37 hM, rm41 hM, rm42 hM, rm43 hM, rm44 hM, p128r, p187r, p215r, k_n1, k_n0, k_n2, ip_r0, ip_r1, show i < q by omega, k222, ip_div_id, ip_rem_id, h10, k2, k136, c2, k223, Int.add_zero]
theorem y224r {z q t w0 : Int} (hM : x_RM R) (hW : w_ok W) (hR : y_R W m S) (hG : w_gd W) (hm : S 62 11 = m) (hm0 : 0 ≤ m) (hq0 : 1 ≤ q) (hq : q ≤ 20) (ht : 0 ≤ t ∧ t < 100) (hf : 0 ≤ t / 10 ∧ t / 10 < m) (hb : 0 ≤ t % 10 ∧ t % 10 < m) (hw : 0 ≤ w0 ∧ w0 < 2) :
    ∃ S' w', y_k S S' ∧ ∀ Q, ip_wp (d + 49) 224 18 [some (.ref 62), some (vi z), some (vi q), some (vi t), some (vi w0), none, none, none, none, none, none, none, none] [] 79 S R L Q = Q (some (vl (a_ch w0 q (a_cn W z m (t / 10) (t % 10) q.toNat 0 0)))) 79 S' R (ip_up L 62 24 w') := by
  obtain ⟨S2, w2, g2, k2⟩ := y224l (d := d) (L := L) (z := z) (w0 := w0) hM hW hR hG hm hm0 hq ht hf hb q.toNat 0 0 (L 62 24) S (by omega) (by omega) (by omega) y_k_r
  rw [ip_upself] at k2
  have hc := a_cnr (W := W) (z := z) (p := m) (f := t / 10) (b := t % 10) q.toNat 0 0
  generalize a_cn W z m (t / 10) (t % 10) q.toNat 0 0 = g at *
  obtain ⟨r1, r2⟩ := k_cdi (a := g) (b := q) (by omega) (by omega)
  rw [r2] at r1
  refine ⟨S2, w2, g2, fun Q => ?_⟩
  have k3 := y224g (d := d + 49) (S := S2) (R := R) (L := ip_up L 62 24 w2) (z := z) (q := q) (t := t) (w := w0) (g := g) (Q := Q) hM ⟨hq0, hq⟩ (by omega) hw 20 g q none none (by omega) (by omega) hq r1
  unfold a_ch
  rw [← k3]
  simp (disch := omega) only [s224_18, s224_19, s224_20, s224_21, ↓reduceIte, Bool.true_eq_false, Bool.false_eq_true, ip_rfS, true_or, or_true, true_and, and_true, Option.toList_some, Option.toList_none, List.cons_append, List.nil_append, ip_fxn, ip_fxi, ip_fxr, ip_fxl, ip_wid, ip_n998, ip_lt900, iO0, iO1, iA2, iA3, iA4, iA5, iA6, iA7, iA8, iO9, iA10, iA11, iA12, iA13, iA14, iA15, iA16, iO17, iA18, iO19, iA20, iA21, iA22, iA23, iO24, iA25, iO26, iA27, iA28, iO29, iA30, iA31, iO32, iA33, iA34, iO35, iA36, iA37, iO38, iA39, iA40, iO41, iA42, iA43, iO44, iA45, iA46, iA47, iA48, iA49, iA50, iA51, iA52, iA53, iO54, iA55, iO56, iA57, iO58, iA59, iO60, iA61, iO62, iA63, iA64, iA65, iA66, iA67, iA68, iA69, iA70, iA71, iA72, iA73, iA74, iA75, iA76, iA77, iA78, iOT, iAT1, iAT2, iOS, iAS, ↓yfm1 hM, ↓yfm2 hM, ↓yfm5 hM, ↓yfm8 hM, ↓yfm9 hM, ↓yfm10 hM, ↓yfm12 hM, ↓yfm28 hM, ↓yfm32 hM, ↓yfm35 hM, ↓yfm36 hM, ↓yfm37 hM, ↓yfm41 hM, ↓yfm42 hM, ↓yfm43 hM, ↓yfm44 hM, rm1 hM, rm2 hM, rm5 hM, rm8 hM, rm9 hM, rm10 hM, rm12 hM, rm28 hM, rm32 hM, rm35 hM, rm36 hM, rm37 hM, rm41 hM, rm42 hM, rm43 hM, rm44 hM, p128r, p187r, p215r, k_n1, k_n0, k_n2, ip_r0, ip_r1, k2]
  simp (disch := omega) only [s224_55, s224_56, s224_57, s224_58, s224_59, ↓reduceIte, Bool.true_eq_false, Bool.false_eq_true, ip_rfS, true_or, or_true, true_and, and_true, Option.toList_some, Option.toList_none, List.cons_append, List.nil_append, ip_fxn, ip_fxi, ip_fxr, ip_fxl, ip_wid, ip_n998, ip_lt900, iO0, iO1, iA2, iA3, iA4, iA5, iA6, iA7, iA8, iO9, iA10, iA11, iA12, iA13, iA14, iA15, iA16, iO17, iA18, iO19, iA20, iA21, iA22, iA23, iO24, iA25, iO26, iA27, iA28, iO29, iA30, iA31, iO32, iA33, iA34, iO35, iA36, iA37, iO38, iA39, iA40, iO41, iA42, iA43, iO44, iA45, iA46, iA47, iA48, iA49, iA50, iA51, iA52, iA53, iO54, iA55, iO56, iA57, iO58, iA59, iO60, iA61, iO62, iA63, iA64, iA65, iA66, iA67, iA68, iA69, iA70, iA71, iA72, iA73, iA74, iA75, iA76, iA77, iA78, iOT, iAT1, iAT2, iOS, iAS, ↓yfm1 hM, ↓yfm2 hM, ↓yfm5 hM, ↓yfm8 hM, ↓yfm9 hM, ↓yfm10 hM, ↓yfm12 hM, ↓yfm28 hM, ↓yfm32 hM, ↓yfm35 hM, ↓yfm36 hM, ↓yfm37 hM, ↓yfm41 hM, ↓yfm42 hM, ↓yfm43 hM, ↓yfm44 hM, rm1 hM, rm2 hM, rm5 hM, rm8 hM, rm9 hM, rm10 hM, rm12 hM, rm28 hM, rm32 hM, rm35 hM, rm36 hM, rm37 hM, rm41 hM, rm42 hM, rm43 hM, rm44 hM, p128r, p187r, p215r, k_n1, k_n0, k_n2, ip_r0, ip_r1]
end DRM
