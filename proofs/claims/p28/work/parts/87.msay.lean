/-! the reference: what one is told, and what follows -/
def y_sc (k : Int) : Prop := 13 ≤ k ∧ k ≤ 27
def y_fr (S S' : ip_S) : Prop := (∀ b : Nat, b ≠ 62 → S' b = S b) ∧ (∀ k, ¬ y_sc k → S' 62 k = S 62 k)
theorem y_fr_r {S : ip_S} : y_fr S S := ⟨fun _ _ => rfl, fun _ _ => rfl⟩
theorem y_fr_t {S S1 S2 : ip_S} (h1 : y_fr S S1) (h2 : y_fr S1 S2) : y_fr S S2 := ⟨fun b a1 => (h2.1 b a1).trans (h1.1 b a1), fun k hk => (h2.2 k hk).trans (h1.2 k hk)⟩
theorem y_fr_up {S S1 : ip_S} {i v : Int} (h : y_fr S S1) (hi : y_sc i) : y_fr S (ip_up S1 62 i v) := ⟨fun b a1 => (ip_upc a1).trans (h.1 b a1), fun k hk => by
  rw [← h.2 k hk]
  have : ¬ k = i := fun e => hk (e ▸ hi)
  unfold ip_up
  rw [if_neg (by omega)]⟩
theorem y_fr_P {S S1 : ip_S} {h t a o d f : Int} (h1 : y_fr S S1) : y_fr S (y_P S1 h t a o d f) := ⟨fun b a1 => (yp_ne a1).trans (h1.1 b a1), fun k hk => by
  rw [← h1.2 k hk]
  unfold y_sc at hk
  unfold y_P
  rw [if_pos rfl, if_neg (by omega), if_neg (by omega), if_neg (by omega), if_neg (by omega), if_neg (by omega), if_neg (by omega)]⟩
def y_tx (S : ip_S) (tt : Int) (V : Int → (Int → Int) → Int) : Prop := ∃ (b : Int → Int) (sz : Int) (T P N : Int → Int) (la : Int), S 64 tt = sz ∧ (0 ≤ sz ∧ sz ≤ 160) ∧ (∀ i, 0 ≤ i → i < sz → S 63 (160 * tt + i) = b i) ∧ (∀ i, 0 ≤ i → i < sz → 0 ≤ b i ∧ b i < 256) ∧ y_Tok b sz T P N la ∧ x_acc T N la = true ∧ ∀ k F, 0 ≤ k → k < 3 → V k F = x_V (x_qk T N la k).2.2 F
def w_ok (W : w_T) : Prop := (∀ p, 0 ≤ p → p < 6 → (0 ≤ w_kd W p ∧ w_kd W p < 6) ∧ (0 ≤ w_nu W p ∧ w_nu W p < 10) ∧ (0 ≤ w_go W p ∧ w_go W p < 8)) ∧ (0 ≤ w_hr W ∧ w_hr W < 24) ∧ (∀ k, 0 ≤ k → k < 64 → (0 ≤ w_ro W k ∧ w_ro W k ≤ 99) ∧ (0 ≤ w_D W k ∧ w_D W k ≤ 999))
/-- the reference stands in that world -/
def y_R (W : w_T) (m : Int) (S : ip_S) : Prop := m ≤ 6 ∧ (∀ p, 0 ≤ p → p < m → S 67 p = w_kd W p ∧ S 68 (3 * p) = w_nu W p ∧ S 68 (3 * p + 1) = w_go W p) ∧ S 62 7 = w_hr W ∧ (∀ k, 0 ≤ k → k < 64 → S 66 k = w_ro W k ∧ S 69 k = w_D W k) ∧ (0 ≤ S 62 4 ∧ S 62 4 < 6) ∧ y_tx S (S 62 4) (w_V W)
theorem y_fr_R {W : w_T} {m : Int} {S S1 : ip_S} (h : y_fr S S1) (hR : y_R W m S) : y_R W m S1 := by
  have n7 : ¬ y_sc 7 := by unfold y_sc; omega
  have n4 : ¬ y_sc 4 := by unfold y_sc; omega
  unfold y_R y_tx
  rw [h.1 67 (by omega), h.1 68 (by omega), h.1 66 (by omega), h.1 69 (by omega), h.1 63 (by omega), h.1 64 (by omega), h.2 7 n7, h.2 4 n4]
  exact hR
theorem ip_upk {S : ip_S} {a : Nat} {i k v : Int} (h : ¬ k = i) : ip_up S a i v a k = S a k := if_neg (by omega)
theorem x_Vc {F F' : Int → Int} (h : ∀ k, 0 ≤ k → k < 6 → F k = F' k) {o : List Int} : x_V o F = x_V o F' := by
  unfold x_V
  rw [v_rlc h]
section SAY
variable {d : Nat} {S : ip_S} {R : ip_R} {L : ip_S} {W : w_T} {m : Int}
theorem p136 {p : Int} (hM : x_RM R) (hp : 0 ≤ p ∧ p < 6) {Q} : ip_wc (d + 1) 136 [.ref 62, vi p] 79 S R L Q = Q (some (vi (S 68 (3 * p + 1)))) 79 S R L := by
  simp (disch := omega) only [c136, s136_0, s136_1, s136_2, s136_3, s136_4, s136_5, s136_6, s136_7, s136_8, ↓reduceIte, Bool.true_eq_false, Bool.false_eq_true, ip_rfS, true_or, or_true, true_and, and_true, Option.toList_some, Option.toList_none, List.cons_append, List.nil_append, ip_fxn, ip_fxi, ip_fxr, ip_fxl, ip_wid, ip_n998, ip_lt900, iO0, iO1, iA2, iA3, iA4, iA5, iA6, iA7, iA8, iO9, iA10, iA11, iA12, iA13, iA14, iA15, iA16, iO17, iA18, iO19, iA20, iA21, iA22, iA23, iO24, iA25, iO26, iA27, iA28, iO29, iA30, iA31, iO32, iA33, iA34, iO35, iA36, iA37, iO38, iA39, iA40, iO41, iA42, iA43, iO44, iA45, iA46, iA47, iA48, iA49, iA50, iA51, iA52, iA53, iO54, iA55, iO56, iA57, iO58, iA59, iO60, iA61, iO62, iA63, iA64, iA65, iA66, iA67, iA68, iA69, iA70, iA71, iA72, iA73, iA74, iA75, iA76, iA77, iA78, iOT, iAT1, iAT2, iOS, iAS, ↓yfm1 hM, ↓yfm2 hM, ↓yfm5 hM, ↓yfm8 hM, ↓yfm9 hM, ↓yfm10 hM, ↓yfm12 hM, ↓yfm28 hM, ↓yfm32 hM, ↓yfm35 hM, ↓yfm36 hM, ↓yfm37 hM, ↓yfm41 hM, ↓yfm42 hM, ↓yfm43 hM, ↓yfm44 hM, rm1 hM, rm2 hM, rm5 hM, rm8 hM, rm9 hM, rm10 hM, rm12 hM, rm28 hM, rm32 hM, rm35 hM, rm36 hM, rm37 hM, rm41 hM, rm42 hM, rm43 hM, rm44 hM]
theorem p183 {n : Nat} {v lo hi : Int} (hv : ip_w v = v) (hlo : ip_w lo = lo) (hhi : ip_w hi = hi) {Q} : ip_wc (d + 1) 183 [vi v, vi lo, vi hi] n S R L Q = Q (some (vi (if v < lo then lo else if hi < v then hi else v))) n S R L := by
  by_cases c1 : v < lo
  · rw [if_pos c1]
    simp (disch := omega) only [c183, s183_0, s183_1, s183_2, s183_3, s183_4, s183_5, s183_6, s183_7, s183_8, s183_9, s183_10, s183_11, ↓reduceIte, Bool.true_eq_false, Bool.false_eq_true, ip_rfS, true_or, or_true, true_and, and_true, Option.toList_some, Option.toList_none, List.cons_append, List.nil_append, ip_fxn, ip_fxi, ip_fxr, ip_fxl, ip_wid, ip_n998, ip_lt900, hv, hlo, hhi, c1]
  · rw [if_neg c1]
    by_cases c2 : hi < v
    · rw [if_pos c2]
      simp (disch := omega) only [c183, s183_0, s183_1, s183_2, s183_3, s183_4, s183_5, s183_6, s183_7, s183_8, s183_9, s183_10, s183_11, ↓reduceIte, Bool.true_eq_false, Bool.false_eq_true, ip_rfS, true_or, or_true, true_and, and_true, Option.toList_some, Option.toList_none, List.cons_append, List.nil_append, ip_fxn, ip_fxi, ip_fxr, ip_fxl, ip_wid, ip_n998, ip_lt900, hv, hlo, hhi, c1, c2]
    · rw [if_neg c2]
      simp (disch := omega) only [c183, s183_0, s183_1, s183_2, s183_3, s183_4, s183_5, s183_6, s183_7, s183_8, s183_9, s183_10, s183_11, ↓reduceIte, Bool.true_eq_false, Bool.false_eq_true, ip_rfS, true_or, or_true, true_and, and_true, Option.toList_some, Option.toList_none, List.cons_append, List.nil_append, ip_fxn, ip_fxi, ip_fxr, ip_fxl, ip_wid, ip_n998, ip_lt900, hv, hlo, hhi, c1, c2]
theorem w_FwW (hW : w_ok W) {one oth a s : Int} {b : Bool} (h1 : 0 ≤ one ∧ one < 6) (h2 : 0 ≤ oth ∧ oth < 6) (ha : 0 ≤ a ∧ a < 8) (hs : 0 ≤ s ∧ s ≤ 40) : ∀ k, 0 ≤ k → k < 6 → ip_w (w_F W one oth b a s k) = w_F W one oth b a s k := by
  obtain ⟨j1, j2, j3⟩ := hW
  intro k _ _
  have g1 := j1 one h1.1 h1.2
  have g2 := j1 oth h2.1 h2.2
  have g3 := j3 (a * 8 + w_go W one) (by omega) (by omega)
  refine ip_wid ?_ ?_
  all_goals
    unfold w_F
    repeat' split
    all_goals first | omega | (cases b <;> simp [k_n])
theorem y135 {k p oth a s : Int} {c : Bool} (hM : x_RM R) (hW : w_ok W) (hR : y_R W m S) (hk : 0 ≤ k ∧ k < 3) (hp : 0 ≤ p ∧ p < m) (ho : 0 ≤ oth ∧ oth < m) (ha : 0 ≤ a ∧ a < 8) (hs : 0 ≤ s ∧ s ≤ 40) :
    ∃ S' w', y_fr S S' ∧ ip_w (w_v W k p oth c a s) = w_v W k p oth c a s ∧ ∀ Q, ip_wc (d + 44) 135 [.ref 62, vi k, vi p, vi oth, vi (k_n c), vi a, vi s] 79 S R L Q = Q (some (vi (if k = 2 then w_v W 2 p oth c a s else w_bd (w_v W k p oth c a s)))) 79 S' R (ip_up L 62 24 w') := by
  obtain ⟨r0, r1, r7, r2, r4, b, sz, T, P, N, la, x1, x2, x3, x4, x5, x6, x7⟩ := id hR
  obtain ⟨w1, w2, w3⟩ := id hW
  have q1 := r1 p hp.1 hp.2
  have q2 := r1 oth ho.1 ho.2
  have hp6 : 0 ≤ p ∧ p < 6 := by omega
  have ho6 : 0 ≤ oth ∧ oth < 6 := by omega
  have q3 := w1 p hp6.1 hp6.2
  have q4 := w1 oth ho6.1 ho6.2
  have q5 := r2 (a * 8 + w_go W p) (by omega) (by omega)
  have q6 := w3 (a * 8 + w_go W p) (by omega) (by omega)
  generalize hS1 : ip_up (ip_up (ip_up (ip_up (ip_up (ip_up S 62 13 (w_D W (a * 8 + w_go W p))) 62 14 (w_nu W p)) 62 15 s) 62 16 (w_hr W)) 62 17 (k_n c)) 62 18 (w_nu W oth) = S1
  have f1 : y_fr S S1 := by
    rw [← hS1]
    have z : ∀ i : Int, 13 ≤ i → i ≤ 18 → y_sc i := fun i h1 h2 => ⟨h1, by omega⟩
    exact y_fr_up (y_fr_up (y_fr_up (y_fr_up (y_fr_up (y_fr_up y_fr_r (z 13 (by omega) (by omega))) (z 14 (by omega) (by omega))) (z 15 (by omega) (by omega))) (z 16 (by omega) (by omega))) (z 17 (by omega) (by omega))) (z 18 (by omega) (by omega))
  have hFw := w_FwW hW (b := c) hp6 ho6 ha hs
  have eF : ∀ q, 0 ≤ q → q < 6 → y_nam S1 q = w_F W p oth c a s q := fun q h0 h1 => by
    rw [← hFw q h0 h1]
    unfold y_nam
    congr 1
    rw [← hS1]
    obtain z | z | z | z | z | z : q = 0 ∨ q = 1 ∨ q = 2 ∨ q = 3 ∨ q = 4 ∨ q = 5 := by omega
    all_goals (subst z; simp [ip_up, w_F])
  have e64 : S1 64 = S 64 := f1.1 64 (by omega)
  have e63 : S1 63 = S 63 := f1.1 63 (by omega)
  have e4 : S1 62 4 = S 62 4 := f1.2 4 (by unfold y_sc; omega)
  obtain ⟨v, h', t', a', w', bd', fl', acc, -, k137⟩ := y137 (d := d) (L := L) (S := S1) (tt := S 62 4) (k := k) (T := T) (P := P) (N := N) (la := la) (b := b) hM r4 hk (by rw [e64]; exact x1) x2 (by rw [e63]; exact x3) x4 x5
  obtain ⟨-, vw, vv⟩ := acc x6
  have hv : v = w_v W k p oth c a s := by
    rw [x_Vof vv, x_Vc eF]
    exact (x7 k _ hk.1 hk.2).symm
  rw [hv] at k137 vw
  refine ⟨y_P (ip_up (ip_up S1 62 19 (160 * S 62 4)) 62 20 sz) h' t' a' 0 bd' fl', w', ?_, vw, fun Q => ?_⟩
  rotate_left
  · have cm : 8 * a = a * 8 := Int.mul_comm _ _
    have g183 := fun Q' => p183 (d := d + 42) (n := 79) (S := y_P (ip_up (ip_up S1 62 19 (160 * S 62 4)) 62 20 sz) h' t' a' 0 bd' fl') (R := R) (L := ip_up L 62 24 w') (Q := Q') (v := w_v W k p oth c a s) (lo := 0) (hi := 99) vw (ip_wid (by omega) (by omega)) (ip_wid (by omega) (by omega))
    have g136 := fun S' Q' => p136 (d := d + 42) (S := S') (L := L) (Q := Q') hM hp6
    by_cases z : k = 2
    · subst z
      cases c
      all_goals simp (disch := omega) only [c135, s135_0, s135_1, s135_2, s135_3, s135_4, s135_5, s135_6, s135_7, s135_8, s135_9, s135_10, s135_11, s135_12, s135_13, s135_14, s135_15, s135_16, s135_17, s135_18, s135_19, s135_20, s135_21, s135_22, s135_23, s135_24, s135_25, s135_26, s135_27, s135_28, s135_29, s135_30, s135_31, s135_32, s135_33, s135_34, s135_35, s135_36, s135_37, s135_38, s135_39, s135_40, s135_41, s135_42, s135_43, s135_44, s135_45, s135_46, s135_47, s135_48, s135_49, s135_50, s135_51, s135_52, s135_53, s135_54, s135_55, s135_56, s135_57, ↓reduceIte, Bool.true_eq_false, Bool.false_eq_true, ip_rfS, true_or, or_true, true_and, and_true, Option.toList_some, Option.toList_none, List.cons_append, List.nil_append, ip_fxn, ip_fxi, ip_fxr, ip_fxl, ip_wid, ip_n998, ip_lt900, iO0, iO1, iA2, iA3, iA4, iA5, iA6, iA7, iA8, iO9, iA10, iA11, iA12, iA13, iA14, iA15, iA16, iO17, iA18, iO19, iA20, iA21, iA22, iA23, iO24, iA25, iO26, iA27, iA28, iO29, iA30, iA31, iO32, iA33, iA34, iO35, iA36, iA37, iO38, iA39, iA40, iO41, iA42, iA43, iO44, iA45, iA46, iA47, iA48, iA49, iA50, iA51, iA52, iA53, iO54, iA55, iO56, iA57, iO58, iA59, iO60, iA61, iO62, iA63, iA64, iA65, iA66, iA67, iA68, iA69, iA70, iA71, iA72, iA73, iA74, iA75, iA76, iA77, iA78, iOT, iAT1, iAT2, iOS, iAS, ↓yfm1 hM, ↓yfm2 hM, ↓yfm5 hM, ↓yfm8 hM, ↓yfm9 hM, ↓yfm10 hM, ↓yfm12 hM, ↓yfm28 hM, ↓yfm32 hM, ↓yfm35 hM, ↓yfm36 hM, ↓yfm37 hM, ↓yfm41 hM, ↓yfm42 hM, ↓yfm43 hM, ↓yfm44 hM, rm1 hM, rm2 hM, rm5 hM, rm8 hM, rm9 hM, rm10 hM, rm12 hM, rm28 hM, rm32 hM, rm35 hM, rm36 hM, rm37 hM, rm41 hM, rm42 hM, rm43 hM, rm44 hM, g136, cm, q1.2.1, q1.2.2, q2.2.1, q5.2, r7, ip_upc, ip_upk, hS1, e4, k137, show k_n true = 1 from rfl, show k_n false = 0 from rfl, Int.reduceEq, if_true, if_false]
      all_goals simp (disch := omega) only [show k_n true = 1 from rfl, show k_n false = 0 from rfl] at hS1
      all_goals simp (disch := omega) only [hS1, e4, k137, s135_0, s135_1, s135_2, s135_3, s135_4, s135_5, s135_6, s135_7, s135_8, s135_9, s135_10, s135_11, s135_12, s135_13, s135_14, s135_15, s135_16, s135_17, s135_18, s135_19, s135_20, s135_21, s135_22, s135_23, s135_24, s135_25, s135_26, s135_27, s135_28, s135_29, s135_30, s135_31, s135_32, s135_33, s135_34, s135_35, s135_36, s135_37, s135_38, s135_39, s135_40, s135_41, s135_42, s135_43, s135_44, s135_45, s135_46, s135_47, s135_48, s135_49, s135_50, s135_51, s135_52, s135_53, s135_54, s135_55, s135_56, s135_57, ↓reduceIte, Bool.true_eq_false, Bool.false_eq_true, ip_rfS, true_or, or_true, true_and, and_true, Option.toList_some, Option.toList_none, List.cons_append, List.nil_append, ip_fxn, ip_fxi, ip_fxr, ip_fxl, ip_wid, ip_n998, ip_lt900, Int.reduceEq]
    · cases c
      all_goals rw [if_neg z]
      all_goals simp (disch := omega) only [c135, s135_0, s135_1, s135_2, s135_3, s135_4, s135_5, s135_6, s135_7, s135_8, s135_9, s135_10, s135_11, s135_12, s135_13, s135_14, s135_15, s135_16, s135_17, s135_18, s135_19, s135_20, s135_21, s135_22, s135_23, s135_24, s135_25, s135_26, s135_27, s135_28, s135_29, s135_30, s135_31, s135_32, s135_33, s135_34, s135_35, s135_36, s135_37, s135_38, s135_39, s135_40, s135_41, s135_42, s135_43, s135_44, s135_45, s135_46, s135_47, s135_48, s135_49, s135_50, s135_51, s135_52, s135_53, s135_54, s135_55, s135_56, s135_57, ↓reduceIte, Bool.true_eq_false, Bool.false_eq_true, ip_rfS, true_or, or_true, true_and, and_true, Option.toList_some, Option.toList_none, List.cons_append, List.nil_append, ip_fxn, ip_fxi, ip_fxr, ip_fxl, ip_wid, ip_n998, ip_lt900, iO0, iO1, iA2, iA3, iA4, iA5, iA6, iA7, iA8, iO9, iA10, iA11, iA12, iA13, iA14, iA15, iA16, iO17, iA18, iO19, iA20, iA21, iA22, iA23, iO24, iA25, iO26, iA27, iA28, iO29, iA30, iA31, iO32, iA33, iA34, iO35, iA36, iA37, iO38, iA39, iA40, iO41, iA42, iA43, iO44, iA45, iA46, iA47, iA48, iA49, iA50, iA51, iA52, iA53, iO54, iA55, iO56, iA57, iO58, iA59, iO60, iA61, iO62, iA63, iA64, iA65, iA66, iA67, iA68, iA69, iA70, iA71, iA72, iA73, iA74, iA75, iA76, iA77, iA78, iOT, iAT1, iAT2, iOS, iAS, ↓yfm1 hM, ↓yfm2 hM, ↓yfm5 hM, ↓yfm8 hM, ↓yfm9 hM, ↓yfm10 hM, ↓yfm12 hM, ↓yfm28 hM, ↓yfm32 hM, ↓yfm35 hM, ↓yfm36 hM, ↓yfm37 hM, ↓yfm41 hM, ↓yfm42 hM, ↓yfm43 hM, ↓yfm44 hM, rm1 hM, rm2 hM, rm5 hM, rm8 hM, rm9 hM, rm10 hM, rm12 hM, rm28 hM, rm32 hM, rm35 hM, rm36 hM, rm37 hM, rm41 hM, rm42 hM, rm43 hM, rm44 hM, g136, cm, q1.2.1, q1.2.2, q2.2.1, q5.2, r7, ip_upc, ip_upk, show k_n true = 1 from rfl, show k_n false = 0 from rfl, Int.reduceEq, if_true, if_false]
      all_goals simp (disch := omega) only [show k_n true = 1 from rfl, show k_n false = 0 from rfl] at hS1
      all_goals simp (disch := omega) only [hS1, e4, k137, s135_0, s135_1, s135_2, s135_3, s135_4, s135_5, s135_6, s135_7, s135_8, s135_9, s135_10, s135_11, s135_12, s135_13, s135_14, s135_15, s135_16, s135_17, s135_18, s135_19, s135_20, s135_21, s135_22, s135_23, s135_24, s135_25, s135_26, s135_27, s135_28, s135_29, s135_30, s135_31, s135_32, s135_33, s135_34, s135_35, s135_36, s135_37, s135_38, s135_39, s135_40, s135_41, s135_42, s135_43, s135_44, s135_45, s135_46, s135_47, s135_48, s135_49, s135_50, s135_51, s135_52, s135_53, s135_54, s135_55, s135_56, s135_57, ↓reduceIte, Bool.true_eq_false, Bool.false_eq_true, ip_rfS, true_or, or_true, true_and, and_true, Option.toList_some, Option.toList_none, List.cons_append, List.nil_append, ip_fxn, ip_fxi, ip_fxr, ip_fxl, ip_wid, ip_n998, ip_lt900, z, g183]
      all_goals rfl
  · exact y_fr_P (y_fr_up (y_fr_up f1 ⟨by omega, by omega⟩) ⟨by omega, by omega⟩)
end SAY
