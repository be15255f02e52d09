/-! the reference: a RIDE -/
def y_s2 (k : Int) : Prop := (13 ≤ k ∧ k ≤ 27) ∨ (29 ≤ k ∧ k ≤ 31) ∨ k = 33 ∨ k = 34
/-- nothing but what the reference writes down for a while is otherwise -/
def y_g (S S' : ip_S) : Prop := (∀ b : Nat, b ≠ 62 → b ≠ 70 → b ≠ 70 → S' b = S b) ∧ (∀ k, ¬ y_s2 k → S' 62 k = S 62 k)
theorem y_g_r {S : ip_S} : y_g S S := ⟨fun _ _ _ _ => rfl, fun _ _ => rfl⟩
theorem y_g_t {S S1 S2 : ip_S} (h1 : y_g S S1) (h2 : y_g S1 S2) : y_g S S2 := ⟨fun b a1 a2 a3 => (h2.1 b a1 a2 a3).trans (h1.1 b a1 a2 a3), fun k hk => (h2.2 k hk).trans (h1.2 k hk)⟩
theorem y_g_f {S S1 : ip_S} (h : y_fr S S1) : y_g S S1 := ⟨fun b a1 _ _ => h.1 b a1, fun k hk => h.2 k (fun z => hk (Or.inl z))⟩
theorem y_g_up {S S1 : ip_S} {i v : Int} (h : y_g S S1) (hi : y_s2 i) : y_g S (ip_up S1 62 i v) := ⟨fun b a1 a2 a3 => (ip_upc a1).trans (h.1 b a1 a2 a3), fun k hk => by
  rw [← h.2 k hk]
  have : ¬ k = i := fun e => hk (e ▸ hi)
  unfold ip_up
  rw [if_neg (by omega)]⟩
theorem y_g_row {S S1 : ip_S} {c : Nat} {i v : Int} (h : y_g S S1) (hc : c = 70 ∨ c = 70) : y_g S (ip_up S1 c i v) := ⟨fun b a1 a2 a3 => (ip_upc (by omega)).trans (h.1 b a1 a2 a3), fun k hk => by
  rw [← h.2 k hk, ip_upc (show 62 ≠ c by omega)]⟩
theorem y_g_R {W : w_T} {m : Int} {S S1 : ip_S} (h : y_g S S1) (hR : y_R W m S) : y_R W m S1 := by
  have n7 : ¬ y_s2 7 := by unfold y_s2; omega
  have n4 : ¬ y_s2 4 := by unfold y_s2; omega
  unfold y_R y_tx
  rw [h.1 67 (by omega) (by omega) (by omega), h.1 68 (by omega) (by omega) (by omega), h.1 66 (by omega) (by omega) (by omega), h.1 69 (by omega) (by omega) (by omega), h.1 63 (by omega) (by omega) (by omega), h.1 64 (by omega) (by omega) (by omega), h.2 7 n7, h.2 4 n4]
  exact hR
/-- where there is a way, a ROAD begins it -/
def w_gd (W : w_T) : Prop := ∀ i j, 0 ≤ i → i < 8 → 0 ≤ j → j < 8 → i ≠ j → w_D W (i * 8 + j) < 999 → ∃ t, (0 ≤ t ∧ t < 8) ∧ 0 < w_ro W (i * 8 + t) ∧ w_ro W (i * 8 + t) + w_D W (t * 8 + j) ≤ w_D W (i * 8 + j)
def y_nf (r D : Int → Int) (x g : Int) : Nat → Int → Int → Int → Int
  | 0, _, f, _ => f
  | k + 1, t, f, bs => if 0 < r (x * 8 + t) ∧ (f = -1 ∨ r (x * 8 + t) + D (t * 8 + g) < bs) then y_nf r D x g k (t + 1) t (r (x * 8 + t) + D (t * 8 + g)) else y_nf r D x g k (t + 1) f bs
theorem y_nft {r D : Int → Int} {x g : Int} (hr : ∀ t, 0 ≤ t → t < 8 → 0 ≤ r (x * 8 + t)) : ∀ (k : Nat) (t f bs best few : Int), t + k = 8 → 0 ≤ t →
    ((∃ t', (t ≤ t' ∧ t' < 8) ∧ 0 < r (x * 8 + t') ∧ r (x * 8 + t') + D (t' * 8 + g) < 999) ∨ few < 999) →
    ((f = -1 ∧ few = 999 ∧ best = x) ∨ (0 ≤ f ∧ bs < 999 ∧ best = f ∧ few = bs) ∨ (0 ≤ f ∧ 999 ≤ bs ∧ few = 999 ∧ best = x)) → y_nf r D x g k t f bs = m_tow r D x g k t best few
  | 0, t, f, bs, best, few, h, ht, he, hi => by
    rcases he with ⟨t', h1, -⟩ | he
    · omega
    · unfold y_nf m_tow
      rcases hi with hi | hi | hi <;> omega
  | k + 1, t, f, bs, best, few, h, ht, he, hi => by
    have h0 := hr t ht (by omega)
    unfold y_nf m_tow
    by_cases c : 0 < r (x * 8 + t)
    · generalize hv : r (x * 8 + t) + D (t * 8 + g) = v at *
      have he' : ∀ few', few' ≤ few → (v < 999 → few' < 999) → ((∃ t', (t + 1 ≤ t' ∧ t' < 8) ∧ 0 < r (x * 8 + t') ∧ r (x * 8 + t') + D (t' * 8 + g) < 999) ∨ few' < 999) := by
        intro few' a1 a2
        rcases he with ⟨t', h1, h2, h3⟩ | he
        · by_cases e : t' = t
          · subst e
            rw [hv] at h3
            exact Or.inr (a2 h3)
          · exact Or.inl ⟨t', by omega, h2, h3⟩
        · exact Or.inr (by omega)
      by_cases c1 : v < few
      · rw [if_pos (show 0 < r (x * 8 + t) ∧ (f = -1 ∨ v < bs) from ⟨c, by omega⟩), if_pos (show ¬ r (x * 8 + t) = 0 ∧ v < few from ⟨by omega, c1⟩)]
        exact y_nft hr k (t + 1) t v t v (by omega) (by omega) (he' v (by omega) (fun z => z)) (Or.inr (Or.inl ⟨ht, by omega, rfl, rfl⟩))
      · rw [if_neg (show ¬ (¬ r (x * 8 + t) = 0 ∧ v < few) by omega)]
        by_cases c2 : f = -1 ∨ v < bs
        · rw [if_pos ⟨c, c2⟩]
          exact y_nft hr k (t + 1) t v best few (by omega) (by omega) (he' few (Int.le_refl _) (by omega)) (by omega)
        · rw [if_neg (show ¬ (0 < r (x * 8 + t) ∧ (f = -1 ∨ v < bs)) by omega)]
          exact y_nft hr k (t + 1) f bs best few (by omega) (by omega) (he' few (Int.le_refl _) (by omega)) hi
    · rw [if_neg (by omega), if_neg (by omega)]
      refine y_nft hr k (t + 1) f bs best few (by omega) (by omega) ?_ hi
      rcases he with ⟨t', h1, h2, h3⟩ | he
      · by_cases e : t' = t
        · subst e; exact absurd h2 c
        · exact Or.inl ⟨t', by omega, h2, h3⟩
      · exact Or.inr he
section RDM
variable {d : Nat} {S : ip_S} {R : ip_R} {L : ip_S} {W : w_T} {m : Int}
theorem p199l {x g : Int} (hM : x_RM R) (hx : 0 ≤ x ∧ x < 8) (hg : 0 ≤ g ∧ g < 8) (hr : ∀ k, 0 ≤ k → k < 64 → (0 ≤ S 66 k ∧ S 66 k ≤ 99) ∧ (0 ≤ S 69 k ∧ S 69 k ≤ 999)) {Q} : ∀ (k : Nat) (t f bs : Int) (l6 l7 : Option Value), t + k = 8 → 0 ≤ t → -1 ≤ f ∧ f < 8 → 0 ≤ bs ∧ bs ≤ 2000 →
    ip_wp d 199 6 [some (.ref 62), some (vi x), some (vi g), some (vi f), some (vi bs), some (vi t), l6, l7] [] 79 S R L Q = Q (some (vi (y_nf (S 66) (S 69) x g k t f bs))) 79 S R L
  | 0, t, f, bs, l6, l7, h, ht, hf, hb => by
    rw [s199_6]
    simp (disch := omega) only [s199_0, s199_1, s199_2, s199_3, s199_4, s199_5, s199_7, s199_8, s199_9, s199_10, s199_11, s199_12, s199_13, s199_14, s199_15, s199_16, s199_17, s199_18, s199_19, s199_20, s199_21, s199_22, s199_23, s199_24, s199_25, s199_26, s199_27, s199_28, s199_29, s199_30, s199_31, s199_32, s199_33, s199_34, s199_35, s199_36, s199_37, s199_38, s199_39, s199_40, s199_41, s199_42, s199_43, s199_44, ↓reduceIte, Bool.true_eq_false, Bool.false_eq_true, ip_rfS, true_or, or_true, true_and, and_true, Option.toList_some, Option.toList_none, List.cons_append, List.nil_append, ip_fxn, ip_fxi, ip_fxr, ip_fxl, ip_wid, ip_n998, ip_lt900, show ¬ t < 8 by omega, y_nf]
  | k + 1, t, f, bs, l6, l7, h, ht, hf, hb => by
    have h1 := hr (x * 8 + t) (by omega) (by omega)
    have h2 := hr (t * 8 + g) (by omega) (by omega)
    have c1 : 8 * x = x * 8 := Int.mul_comm _ _
    have c2 : 8 * t = t * 8 := Int.mul_comm _ _
    have i1 := p199l (Q := Q) hM hx hg hr k (t + 1) t (S 66 (x * 8 + t) + S 69 (t * 8 + g)) (some (vi (S 66 (x * 8 + t)))) (some (vi (S 66 (x * 8 + t) + S 69 (t * 8 + g)))) (by omega) (by omega) (by omega) (by omega)
    have i2 := p199l (Q := Q) hM hx hg hr k (t + 1) f bs (some (vi (S 66 (x * 8 + t)))) (some (vi (S 66 (x * 8 + t) + S 69 (t * 8 + g)))) (by omega) (by omega) (by omega) (by omega)
    rw [s199_6, y_nf]
    by_cases a1 : 0 < S 66 (x * 8 + t)
    · by_cases a2 : f = -1
      · rw [if_pos ⟨a1, Or.inl a2⟩]
        simp (disch := omega) only [s199_0, s199_1, s199_2, s199_3, s199_4, s199_5, s199_7, s199_8, s199_9, s199_10, s199_11, s199_12, s199_13, s199_14, s199_15, s199_16, s199_17, s199_18, s199_19, s199_20, s199_21, s199_22, s199_23, s199_24, s199_25, s199_26, s199_27, s199_28, s199_29, s199_30, s199_31, s199_32, s199_33, s199_34, s199_35, s199_36, s199_37, s199_38, s199_39, s199_40, s199_41, s199_42, s199_43, s199_44, ↓reduceIte, Bool.true_eq_false, Bool.false_eq_true, ip_rfS, true_or, or_true, true_and, and_true, Option.toList_some, Option.toList_none, List.cons_append, List.nil_append, ip_fxn, ip_fxi, ip_fxr, ip_fxl, ip_wid, ip_n998, ip_lt900, iO0, iO1, iA2, iA3, iA4, iA5, iA6, iA7, iA8, iO9, iA10, iA11, iA12, iA13, iA14, iA15, iA16, iO17, iA18, iO19, iA20, iA21, iA22, iA23, iO24, iA25, iO26, iA27, iA28, iO29, iA30, iA31, iO32, iA33, iA34, iO35, iA36, iA37, iO38, iA39, iA40, iO41, iA42, iA43, iO44, iA45, iA46, iA47, iA48, iA49, iA50, iA51, iA52, iA53, iO54, iA55, iO56, iA57, iO58, iA59, iO60, iA61, iO62, iA63, iA64, iA65, iA66, iA67, iA68, iA69, iA70, iA71, iA72, iA73, iA74, iA75, iA76, iA77, iA78, iOT, iAT1, iAT2, iOS, iAS, ↓yfm1 hM, ↓yfm2 hM, ↓yfm5 hM, ↓yfm8 hM, ↓yfm9 hM, ↓yfm10 hM, ↓yfm12 hM, ↓yfm28 hM, ↓yfm32 hM, ↓yfm35 hM, ↓yfm36 hM, ↓yfm37 hM, ↓yfm41 hM, ↓yfm42 hM, ↓yfm43 hM, ↓yfm44 hM, rm1 hM, rm2 hM, rm5 hM, rm8 hM, rm9 hM, rm10 hM, rm12 hM, rm28 hM, rm32 hM, rm35 hM, rm36 hM, rm37 hM, rm41 hM, rm42 hM, rm43 hM, rm44 hM, show t < 8 by omega, c1, c2, a1, eq_true a2, i1]
      · by_cases a3 : S 66 (x * 8 + t) + S 69 (t * 8 + g) < bs
        · rw [if_pos ⟨a1, Or.inr a3⟩]
          simp (disch := omega) only [s199_0, s199_1, s199_2, s199_3, s199_4, s199_5, s199_7, s199_8, s199_9, s199_10, s199_11, s199_12, s199_13, s199_14, s199_15, s199_16, s199_17, s199_18, s199_19, s199_20, s199_21, s199_22, s199_23, s199_24, s199_25, s199_26, s199_27, s199_28, s199_29, s199_30, s199_31, s199_32, s199_33, s199_34, s199_35, s199_36, s199_37, s199_38, s199_39, s199_40, s199_41, s199_42, s199_43, s199_44, ↓reduceIte, Bool.true_eq_false, Bool.false_eq_true, ip_rfS, true_or, or_true, true_and, and_true, Option.toList_some, Option.toList_none, List.cons_append, List.nil_append, ip_fxn, ip_fxi, ip_fxr, ip_fxl, ip_wid, ip_n998, ip_lt900, iO0, iO1, iA2, iA3, iA4, iA5, iA6, iA7, iA8, iO9, iA10, iA11, iA12, iA13, iA14, iA15, iA16, iO17, iA18, iO19, iA20, iA21, iA22, iA23, iO24, iA25, iO26, iA27, iA28, iO29, iA30, iA31, iO32, iA33, iA34, iO35, iA36, iA37, iO38, iA39, iA40, iO41, iA42, iA43, iO44, iA45, iA46, iA47, iA48, iA49, iA50, iA51, iA52, iA53, iO54, iA55, iO56, iA57, iO58, iA59, iO60, iA61, iO62, iA63, iA64, iA65, iA66, iA67, iA68, iA69, iA70, iA71, iA72, iA73, iA74, iA75, iA76, iA77, iA78, iOT, iAT1, iAT2, iOS, iAS, ↓yfm1 hM, ↓yfm2 hM, ↓yfm5 hM, ↓yfm8 hM, ↓yfm9 hM, ↓yfm10 hM, ↓yfm12 hM, ↓yfm28 hM, ↓yfm32 hM, ↓yfm35 hM, ↓yfm36 hM, ↓yfm37 hM, ↓yfm41 hM, ↓yfm42 hM, ↓yfm43 hM, ↓yfm44 hM, rm1 hM, rm2 hM, rm5 hM, rm8 hM, rm9 hM, rm10 hM, rm12 hM, rm28 hM, rm32 hM, rm35 hM, rm36 hM, rm37 hM, rm41 hM, rm42 hM, rm43 hM, rm44 hM, show t < 8 by omega, c1, c2, a1, a2, a3, i1]
        · rw [if_neg (by omega)]
          simp (disch := omega) only [s199_0, s199_1, s199_2, s199_3, s199_4, s199_5, s199_7, s199_8, s199_9, s199_10, s199_11, s199_12, s199_13, s199_14, s199_15, s199_16, s199_17, s199_18, s199_19, s199_20, s199_21, s199_22, s199_23, s199_24, s199_25, s199_26, s199_27, s199_28, s199_29, s199_30, s199_31, s199_32, s199_33, s199_34, s199_35, s199_36, s199_37, s199_38, s199_39, s199_40, s199_41, s199_42, s199_43, s199_44, ↓reduceIte, Bool.true_eq_false, Bool.false_eq_true, ip_rfS, true_or, or_true, true_and, and_true, Option.toList_some, Option.toList_none, List.cons_append, List.nil_append, ip_fxn, ip_fxi, ip_fxr, ip_fxl, ip_wid, ip_n998, ip_lt900, iO0, iO1, iA2, iA3, iA4, iA5, iA6, iA7, iA8, iO9, iA10, iA11, iA12, iA13, iA14, iA15, iA16, iO17, iA18, iO19, iA20, iA21, iA22, iA23, iO24, iA25, iO26, iA27, iA28, iO29, iA30, iA31, iO32, iA33, iA34, iO35, iA36, iA37, iO38, iA39, iA40, iO41, iA42, iA43, iO44, iA45, iA46, iA47, iA48, iA49, iA50, iA51, iA52, iA53, iO54, iA55, iO56, iA57, iO58, iA59, iO60, iA61, iO62, iA63, iA64, iA65, iA66, iA67, iA68, iA69, iA70, iA71, iA72, iA73, iA74, iA75, iA76, iA77, iA78, iOT, iAT1, iAT2, iOS, iAS, ↓yfm1 hM, ↓yfm2 hM, ↓yfm5 hM, ↓yfm8 hM, ↓yfm9 hM, ↓yfm10 hM, ↓yfm12 hM, ↓yfm28 hM, ↓yfm32 hM, ↓yfm35 hM, ↓yfm36 hM, ↓yfm37 hM, ↓yfm41 hM, ↓yfm42 hM, ↓yfm43 hM, ↓yfm44 hM, rm1 hM, rm2 hM, rm5 hM, rm8 hM, rm9 hM, rm10 hM, rm12 hM, rm28 hM, rm32 hM, rm35 hM, rm36 hM, rm37 hM, rm41 hM, rm42 hM, rm43 hM, rm44 hM, show t < 8 by omega, c1, c2, a1, a2, a3, i2]
    · rw [if_neg (by omega)]
      simp (disch := omega) only [s199_0, s199_1, s199_2, s199_3, s199_4, s199_5, s199_7, s199_8, s199_9, s199_10, s199_11, s199_12, s199_13, s199_14, s199_15, s199_16, s199_17, s199_18, s199_19, s199_20, s199_21, s199_22, s199_23, s199_24, s199_25, s199_26, s199_27, s199_28, s199_29, s199_30, s199_31, s199_32, s199_33, s199_34, s199_35, s199_36, s199_37, s199_38, s199_39, s199_40, s199_41, s199_42, s199_43, s199_44, ↓reduceIte, Bool.true_eq_false, Bool.false_eq_true, ip_rfS, true_or, or_true, true_and, and_true, Option.toList_some, Option.toList_none, List.cons_append, List.nil_append, ip_fxn, ip_fxi, ip_fxr, ip_fxl, ip_wid, ip_n998, ip_lt900, iO0, iO1, iA2, iA3, iA4, iA5, iA6, iA7, iA8, iO9, iA10, iA11, iA12, iA13, iA14, iA15, iA16, iO17, iA18, iO19, iA20, iA21, iA22, iA23, iO24, iA25, iO26, iA27, iA28, iO29, iA30, iA31, iO32, iA33, iA34, iO35, iA36, iA37, iO38, iA39, iA40, iO41, iA42, iA43, iO44, iA45, iA46, iA47, iA48, iA49, iA50, iA51, iA52, iA53, iO54, iA55, iO56, iA57, iO58, iA59, iO60, iA61, iO62, iA63, iA64, iA65, iA66, iA67, iA68, iA69, iA70, iA71, iA72, iA73, iA74, iA75, iA76, iA77, iA78, iOT, iAT1, iAT2, iOS, iAS, ↓yfm1 hM, ↓yfm2 hM, ↓yfm5 hM, ↓yfm8 hM, ↓yfm9 hM, ↓yfm10 hM, ↓yfm12 hM, ↓yfm28 hM, ↓yfm32 hM, ↓yfm35 hM, ↓yfm36 hM, ↓yfm37 hM, ↓yfm41 hM, ↓yfm42 hM, ↓yfm43 hM, ↓yfm44 hM, rm1 hM, rm2 hM, rm5 hM, rm8 hM, rm9 hM, rm10 hM, rm12 hM, rm28 hM, rm32 hM, rm35 hM, rm36 hM, rm37 hM, rm41 hM, rm42 hM, rm43 hM, rm44 hM, show t < 8 by omega, c1, c2, a1, i2]
theorem m_towc {r r' D D' : Int → Int} {x g : Int} (hx : 0 ≤ x ∧ x < 8) (hg : 0 ≤ g ∧ g < 8) (hr : ∀ k, 0 ≤ k → k < 64 → r k = r' k ∧ D k = D' k) : ∀ (k : Nat) (t best few : Int), 0 ≤ t → t + k ≤ 8 → m_tow r D x g k t best few = m_tow r' D' x g k t best few
  | 0, _, _, _, _, _ => rfl
  | k + 1, t, best, few, h0, h1 => by
    unfold m_tow
    rw [(hr (x * 8 + t) (by omega) (by omega)).1, (hr (t * 8 + g) (by omega) (by omega)).2, m_towc hx hg hr k (t + 1) _ _ (by omega) (by omega), m_towc hx hg hr k (t + 1) _ _ (by omega) (by omega)]
theorem y199 {x g : Int} (hM : x_RM R) (hW : w_ok W) (hR : y_R W m S) (hG : w_gd W) (hx : 0 ≤ x ∧ x < 8) (hg : 0 ≤ g ∧ g < 8) (hne : x ≠ g) (hD : w_D W (x * 8 + g) < 999) {Q} : ip_wc (d + 1) 199 [.ref 62, vi x, vi g] 79 S R L Q = Q (some (vi (w_nx W x g))) 79 S R L := by
  have hr : ∀ k, 0 ≤ k → k < 64 → (0 ≤ S 66 k ∧ S 66 k ≤ 99) ∧ (0 ≤ S 69 k ∧ S 69 k ≤ 999) := fun k h0 h1 => by
    rw [(hR.2.2.2.1 k h0 h1).1, (hR.2.2.2.1 k h0 h1).2]
    exact hW.2.2 k h0 h1
  have hl := p199l (d := d) (L := L) (Q := Q) hM hx hg hr 8 0 (-1) 0 none none (by omega) (by omega) (by omega) (by omega)
  have e : y_nf (S 66) (S 69) x g 8 0 (-1) 0 = w_nx W x g := by
    obtain ⟨t, h1, h2, h3⟩ := hG x g hx.1 hx.2 hg.1 hg.2 hne hD
    have q1 := hR.2.2.2.1 (x * 8 + t) (by omega) (by omega)
    have q2 := hR.2.2.2.1 (t * 8 + g) (by omega) (by omega)
    rw [y_nft (fun t h0 h1 => (hr (x * 8 + t) (by omega) (by omega)).1.1) 8 0 (-1) 0 x 999 (by omega) (by omega) (Or.inl ⟨t, h1, by rw [q1.1]; exact h2, by rw [q1.1, q2.2]; omega⟩) (Or.inl ⟨rfl, rfl, rfl⟩)]
    exact m_towc hx hg hR.2.2.2.1 8 0 x 999 (by omega) (by omega)
  rw [← e, ← hl]
  simp (disch := omega) only [c199, s199_0, s199_1, s199_2, s199_3, s199_4, s199_5, ↓reduceIte, Bool.true_eq_false, Bool.false_eq_true, ip_rfS, true_or, or_true, true_and, and_true, Option.toList_some, Option.toList_none, List.cons_append, List.nil_append, ip_fxn, ip_fxi, ip_fxr, ip_fxl, ip_wid, ip_n998, ip_lt900]
def y_en (S : ip_S) (q : w_R) : Prop := S 62 29 = q.2.1 ∧ S 62 30 = q.2.2.1 ∧ S 62 31 = q.2.2.2.1 ∧ S 70 = q.2.2.2.2
theorem w_rda {f b : Int} : ∀ (k : Nat) (a s mi bf : Int) (pl : Int → Int), pl s = a → (w_rd W f b k a s mi bf pl).2.2.2.2 (w_rd W f b k a s mi bf pl).2.1 = (w_rd W f b k a s mi bf pl).1
  | 0, a, s, mi, bf, pl, h => h
  | k + 1, a, s, mi, bf, pl, h => by
    unfold w_rd
    split
    · exact h
    · exact w_rda k _ _ _ _ _ (ip_u_at _ _ _)
theorem y198l {f b from1 : Int} (hM : x_RM R) (hW : w_ok W) (hR : y_R W m S) (hG : w_gd W) (hf : 0 ≤ f ∧ f < m) (hb : 0 ≤ b ∧ b < m) : ∀ (k : Nat) (a s mi bf w : Int) (pl : Int → Int) (S1 : ip_S) (l5 l6 l7 l8 : Option Value), s + k = 40 → 0 ≤ s → 0 ≤ a ∧ a < 8 → 0 ≤ mi ∧ mi ≤ 99 * s → 0 ≤ bf ∧ bf ≤ s → pl s = a → y_g S S1 → S1 62 29 = s → S1 62 30 = mi → S1 62 31 = bf → S1 70 = pl →
    ∃ S' w', y_g S S' ∧ y_en S' (w_rd W f b k a s mi bf pl) ∧ ∀ Q, ip_wp (d + 47) 198 16 [some (.ref 62), some (vi f), some (vi b), some (vi from1), some (vi 1), l5, l6, l7, l8] [] 79 S1 R (ip_up L 62 24 w) Q = Q none 79 S' R (ip_up L 62 24 w')
  | k, a, s, mi, bf, w, pl, S1, l5, l6, l7, l8, h, h0, ha, hm, hbf, hpl, h1, h2, h3, h4, h5 => by
    have hm6 := hR.1
    have R1 := y_g_R h1 hR
    obtain ⟨S2, w2, f2, k2⟩ := y133 (d := d + 1) (L := ip_up L 62 24 w) (s := s) hM hW R1 hf hb ha (by omega)
    simp only [ip_upup] at k2
    have hst : 0 ≤ w_str W f b a s ∧ w_str W f b a s < m := by
      rcases w_strr (W := W) (f := f) (b := b) (a := a) (s := s) with h | h
      · rw [h]; exact hf
      · rw [h]; exact hb
    have R2 := y_fr_R f2 R1
    have g2 := y_g_t h1 (y_g_f f2)
    have k136 := fun Q => p136 (d := d + 46) (S := S2) (L := ip_up L 62 24 w2) (Q := Q) hM (p := w_str W f b a s) (by have := hR.1; omega)
    rw [(R2.2.1 _ hst.1 hst.2).2.2] at k136
    have hgo := (hW.1 (w_str W f b a s) hst.1 (by have := hR.1; omega)).2.2
    have u29 : S2 62 29 = s := by rw [f2.2 29 (by unfold y_sc; omega)]; exact h2
    have u30 : S2 62 30 = mi := by rw [f2.2 30 (by unfold y_sc; omega)]; exact h3
    have u31 : S2 62 31 = bf := by rw [f2.2 31 (by unfold y_sc; omega)]; exact h4
    have u70 : S2 70 = pl := by rw [f2.1 70 (by omega)]; exact h5
    have hp1 : S1 70 s = a := by rw [h5]; exact hpl
    match k, h with
    | 0, h =>
      have hs : s = 40 := by omega
      refine ⟨S2, w2, g2, ⟨u29, u30, u31, u70⟩, fun Q => ?_⟩
      rw [s198_16]
      simp (disch := omega) only [s198_0, s198_1, s198_2, s198_3, s198_4, s198_5, s198_6, s198_7, s198_8, s198_9, s198_10, s198_11, s198_12, s198_13, s198_14, s198_15, s198_17, s198_18, s198_19, s198_20, s198_21, s198_22, s198_23, s198_24, s198_25, s198_26, s198_27, s198_28, s198_29, s198_30, s198_31, s198_32, s198_33, s198_34, s198_35, s198_36, s198_37, s198_38, s198_39, s198_40, s198_41, s198_42, s198_43, s198_44, s198_45, s198_46, s198_47, s198_48, s198_49, s198_50, s198_51, s198_52, s198_53, s198_54, s198_55, s198_56, s198_57, s198_58, s198_59, s198_60, s198_61, s198_62, s198_63, s198_64, s198_65, s198_66, s198_67, s198_68, s198_69, s198_70, s198_71, s198_72, s198_73, s198_74, s198_75, s198_76, s198_77, s198_78, s198_79, s198_80, s198_81, s198_82, s198_83, s198_84, s198_85, s198_86, s198_87, s198_88, s198_89, s198_90, s198_91, s198_92, s198_93, s198_94, s198_95, s198_96, s198_97, s198_98, s198_99, s198_100, s198_101, s198_102, s198_103, s198_104, s198_105, s198_106, s198_107, s198_108, s198_109, s198_110, ↓reduceIte, Bool.true_eq_false, Bool.false_eq_true, ip_rfS, true_or, or_true, true_and, and_true, Option.toList_some, Option.toList_none, List.cons_append, List.nil_append, ip_fxn, ip_fxi, ip_fxr, ip_fxl, ip_wid, ip_n998, ip_lt900, iO0, iO1, iA2, iA3, iA4, iA5, iA6, iA7, iA8, iO9, iA10, iA11, iA12, iA13, iA14, iA15, iA16, iO17, iA18, iO19, iA20, iA21, iA22, iA23, iO24, iA25, iO26, iA27, iA28, iO29, iA30, iA31, iO32, iA33, iA34, iO35, iA36, iA37, iO38, iA39, iA40, iO41, iA42, iA43, iO44, iA45, iA46, iA47, iA48, iA49, iA50, iA51, iA52, iA53, iO54, iA55, iO56, iA57, iO58, iA59, iO60, iA61, iO62, iA63, iA64, iA65, iA66, iA67, iA68, iA69, iA70, iA71, iA72, iA73, iA74, iA75, iA76, iA77, iA78, iOT, iAT1, iAT2, iOS, iAS, ↓yfm1 hM, ↓yfm2 hM, ↓yfm5 hM, ↓yfm8 hM, ↓yfm9 hM, ↓yfm10 hM, ↓yfm12 hM, ↓yfm28 hM, ↓yfm32 hM, ↓yfm35 hM, ↓yfm36 hM, ↓yfm37 hM, ↓yfm41 hM, ↓yfm42 hM, ↓yfm43 hM, ↓yfm44 hM, rm1 hM, rm2 hM, rm5 hM, rm8 hM, rm9 hM, rm10 hM, rm12 hM, rm28 hM, rm32 hM, rm35 hM, rm36 hM, rm37 hM, rm41 hM, rm42 hM, rm43 hM, rm44 hM, h2, hp1, k2, k136, u29, show ¬ s < 40 by omega, Int.reduceEq]
      rw [s198_16]
      simp (disch := omega) only [s198_0, s198_1, s198_2, s198_3, s198_4, s198_5, s198_6, s198_7, s198_8, s198_9, s198_10, s198_11, s198_12, s198_13, s198_14, s198_15, s198_17, s198_18, s198_19, s198_20, s198_21, s198_22, s198_23, s198_24, s198_25, s198_26, s198_27, s198_28, s198_29, s198_30, s198_31, s198_32, s198_33, s198_34, s198_35, s198_36, s198_37, s198_38, s198_39, s198_40, s198_41, s198_42, s198_43, s198_44, s198_45, s198_46, s198_47, s198_48, s198_49, s198_50, s198_51, s198_52, s198_53, s198_54, s198_55, s198_56, s198_57, s198_58, s198_59, s198_60, s198_61, s198_62, s198_63, s198_64, s198_65, s198_66, s198_67, s198_68, s198_69, s198_70, s198_71, s198_72, s198_73, s198_74, s198_75, s198_76, s198_77, s198_78, s198_79, s198_80, s198_81, s198_82, s198_83, s198_84, s198_85, s198_86, s198_87, s198_88, s198_89, s198_90, s198_91, s198_92, s198_93, s198_94, s198_95, s198_96, s198_97, s198_98, s198_99, s198_100, s198_101, s198_102, s198_103, s198_104, s198_105, s198_106, s198_107, s198_108, s198_109, s198_110, ↓reduceIte, Bool.true_eq_false, Bool.false_eq_true, ip_rfS, true_or, or_true, true_and, and_true, Option.toList_some, Option.toList_none, List.cons_append, List.nil_append, ip_fxn, ip_fxi, ip_fxr, ip_fxl, ip_wid, ip_n998, ip_lt900]
    | k + 1, h =>
      obtain ⟨S3, w3, f3, k3⟩ := y195 (d := d + 1) (L := ip_up L 62 24 w2) (s := s) hM hW R2 hf hb ha (by omega)
      simp only [ip_upup] at k3
      have R3 := y_fr_R f3 R2
      have g3 := y_g_t g2 (y_g_f f3)
      have v29 : S3 62 29 = s := by rw [f3.2 29 (by unfold y_sc; omega)]; exact u29
      have v30 : S3 62 30 = mi := by rw [f3.2 30 (by unfold y_sc; omega)]; exact u30
      have v31 : S3 62 31 = bf := by rw [f3.2 31 (by unfold y_sc; omega)]; exact u31
      have v70 : S3 70 = pl := by rw [f3.1 70 (by omega)]; exact u70
      have hov : w_ov W f b a s = decide (a = w_go W (w_str W f b a s) ∨ w_D W (a * 8 + w_go W (w_str W f b a s)) = 999 ∨ (w_en W f b false a s = true ∧ w_en W b f true a s = true)) := rfl
      have hes : (w_es W f b a s = 3) ↔ (w_en W f b false a s = true ∧ w_en W b f true a s = true) := by
        unfold w_es
        cases w_en W f b false a s <;> cases w_en W b f true a s <;> simp
      have hesr : 0 ≤ w_es W f b a s ∧ w_es W f b a s ≤ 3 := by
        unfold w_es
        repeat' split
        all_goals omega
      have hto : w_to W f b a s = w_nx W a (w_go W (w_str W f b a s)) := rfl
      rw [w_rd]
      generalize w_str W f b a s = st at *
      generalize hgg : w_go W st = g at *
      have cm : 8 * a = a * 8 := Int.mul_comm _ _
      have qD := R3.2.2.2.1 (a * 8 + g) (by omega) (by omega)
      have rD := (hW.2.2 (a * 8 + g) (by omega) (by omega)).2
      by_cases c3 : w_es W f b a s = 3
      · have c : w_ov W f b a s = true := by rw [hov]; exact decide_eq_true (Or.inr (Or.inr (hes.mp c3)))
        rw [if_pos c]
        refine ⟨S3, w3, g3, ⟨v29, v30, v31, v70⟩, fun Q => ?_⟩
        rw [s198_16]
        simp (disch := omega) only [s198_0, s198_1, s198_2, s198_3, s198_4, s198_5, s198_6, s198_7, s198_8, s198_9, s198_10, s198_11, s198_12, s198_13, s198_14, s198_15, s198_17, s198_18, s198_19, s198_20, s198_21, s198_22, s198_23, s198_24, s198_25, s198_26, s198_27, s198_28, s198_29, s198_30, s198_31, s198_32, s198_33, s198_34, s198_35, s198_36, s198_37, s198_38, s198_39, s198_40, s198_41, s198_42, s198_43, s198_44, s198_45, s198_46, s198_47, s198_48, s198_49, s198_50, s198_51, s198_52, s198_53, s198_54, s198_55, s198_56, s198_57, s198_58, s198_59, s198_60, s198_61, s198_62, s198_63, s198_64, s198_65, s198_66, s198_67, s198_68, s198_69, s198_70, s198_71, s198_72, s198_73, s198_74, s198_75, s198_76, s198_77, s198_78, s198_79, s198_80, s198_81, s198_82, s198_83, s198_84, s198_85, s198_86, s198_87, s198_88, s198_89, s198_90, s198_91, s198_92, s198_93, s198_94, s198_95, s198_96, s198_97, s198_98, s198_99, s198_100, s198_101, s198_102, s198_103, s198_104, s198_105, s198_106, s198_107, s198_108, s198_109, s198_110, ↓reduceIte, Bool.true_eq_false, Bool.false_eq_true, ip_rfS, true_or, or_true, true_and, and_true, Option.toList_some, Option.toList_none, List.cons_append, List.nil_append, ip_fxn, ip_fxi, ip_fxr, ip_fxl, ip_wid, ip_n998, ip_lt900, iO0, iO1, iA2, iA3, iA4, iA5, iA6, iA7, iA8, iO9, iA10, iA11, iA12, iA13, iA14, iA15, iA16, iO17, iA18, iO19, iA20, iA21, iA22, iA23, iO24, iA25, iO26, iA27, iA28, iO29, iA30, iA31, iO32, iA33, iA34, iO35, iA36, iA37, iO38, iA39, iA40, iO41, iA42, iA43, iO44, iA45, iA46, iA47, iA48, iA49, iA50, iA51, iA52, iA53, iO54, iA55, iO56, iA57, iO58, iA59, iO60, iA61, iO62, iA63, iA64, iA65, iA66, iA67, iA68, iA69, iA70, iA71, iA72, iA73, iA74, iA75, iA76, iA77, iA78, iOT, iAT1, iAT2, iOS, iAS, ↓yfm1 hM, ↓yfm2 hM, ↓yfm5 hM, ↓yfm8 hM, ↓yfm9 hM, ↓yfm10 hM, ↓yfm12 hM, ↓yfm28 hM, ↓yfm32 hM, ↓yfm35 hM, ↓yfm36 hM, ↓yfm37 hM, ↓yfm41 hM, ↓yfm42 hM, ↓yfm43 hM, ↓yfm44 hM, rm1 hM, rm2 hM, rm5 hM, rm8 hM, rm9 hM, rm10 hM, rm12 hM, rm28 hM, rm32 hM, rm35 hM, rm36 hM, rm37 hM, rm41 hM, rm42 hM, rm43 hM, rm44 hM, h2, hp1, k2, k136, u29, show s < 40 by omega, k3, c3, Int.reduceEq]
        rw [s198_16]
        simp (disch := omega) only [s198_0, s198_1, s198_2, s198_3, s198_4, s198_5, s198_6, s198_7, s198_8, s198_9, s198_10, s198_11, s198_12, s198_13, s198_14, s198_15, s198_17, s198_18, s198_19, s198_20, s198_21, s198_22, s198_23, s198_24, s198_25, s198_26, s198_27, s198_28, s198_29, s198_30, s198_31, s198_32, s198_33, s198_34, s198_35, s198_36, s198_37, s198_38, s198_39, s198_40, s198_41, s198_42, s198_43, s198_44, s198_45, s198_46, s198_47, s198_48, s198_49, s198_50, s198_51, s198_52, s198_53, s198_54, s198_55, s198_56, s198_57, s198_58, s198_59, s198_60, s198_61, s198_62, s198_63, s198_64, s198_65, s198_66, s198_67, s198_68, s198_69, s198_70, s198_71, s198_72, s198_73, s198_74, s198_75, s198_76, s198_77, s198_78, s198_79, s198_80, s198_81, s198_82, s198_83, s198_84, s198_85, s198_86, s198_87, s198_88, s198_89, s198_90, s198_91, s198_92, s198_93, s198_94, s198_95, s198_96, s198_97, s198_98, s198_99, s198_100, s198_101, s198_102, s198_103, s198_104, s198_105, s198_106, s198_107, s198_108, s198_109, s198_110, ↓reduceIte, Bool.true_eq_false, Bool.false_eq_true, ip_rfS, true_or, or_true, true_and, and_true, Option.toList_some, Option.toList_none, List.cons_append, List.nil_append, ip_fxn, ip_fxi, ip_fxr, ip_fxl, ip_wid, ip_n998, ip_lt900]
      · by_cases c1 : a = g
        · have c : w_ov W f b a s = true := by rw [hov]; exact decide_eq_true (Or.inl c1)
          rw [if_pos c]
          refine ⟨S3, w3, g3, ⟨v29, v30, v31, v70⟩, fun Q => ?_⟩
          rw [s198_16]
          simp (disch := omega) only [s198_0, s198_1, s198_2, s198_3, s198_4, s198_5, s198_6, s198_7, s198_8, s198_9, s198_10, s198_11, s198_12, s198_13, s198_14, s198_15, s198_17, s198_18, s198_19, s198_20, s198_21, s198_22, s198_23, s198_24, s198_25, s198_26, s198_27, s198_28, s198_29, s198_30, s198_31, s198_32, s198_33, s198_34, s198_35, s198_36, s198_37, s198_38, s198_39, s198_40, s198_41, s198_42, s198_43, s198_44, s198_45, s198_46, s198_47, s198_48, s198_49, s198_50, s198_51, s198_52, s198_53, s198_54, s198_55, s198_56, s198_57, s198_58, s198_59, s198_60, s198_61, s198_62, s198_63, s198_64, s198_65, s198_66, s198_67, s198_68, s198_69, s198_70, s198_71, s198_72, s198_73, s198_74, s198_75, s198_76, s198_77, s198_78, s198_79, s198_80, s198_81, s198_82, s198_83, s198_84, s198_85, s198_86, s198_87, s198_88, s198_89, s198_90, s198_91, s198_92, s198_93, s198_94, s198_95, s198_96, s198_97, s198_98, s198_99, s198_100, s198_101, s198_102, s198_103, s198_104, s198_105, s198_106, s198_107, s198_108, s198_109, s198_110, ↓reduceIte, Bool.true_eq_false, Bool.false_eq_true, ip_rfS, true_or, or_true, true_and, and_true, Option.toList_some, Option.toList_none, List.cons_append, List.nil_append, ip_fxn, ip_fxi, ip_fxr, ip_fxl, ip_wid, ip_n998, ip_lt900, iO0, iO1, iA2, iA3, iA4, iA5, iA6, iA7, iA8, iO9, iA10, iA11, iA12, iA13, iA14, iA15, iA16, iO17, iA18, iO19, iA20, iA21, iA22, iA23, iO24, iA25, iO26, iA27, iA28, iO29, iA30, iA31, iO32, iA33, iA34, iO35, iA36, iA37, iO38, iA39, iA40, iO41, iA42, iA43, iO44, iA45, iA46, iA47, iA48, iA49, iA50, iA51, iA52, iA53, iO54, iA55, iO56, iA57, iO58, iA59, iO60, iA61, iO62, iA63, iA64, iA65, iA66, iA67, iA68, iA69, iA70, iA71, iA72, iA73, iA74, iA75, iA76, iA77, iA78, iOT, iAT1, iAT2, iOS, iAS, ↓yfm1 hM, ↓yfm2 hM, ↓yfm5 hM, ↓yfm8 hM, ↓yfm9 hM, ↓yfm10 hM, ↓yfm12 hM, ↓yfm28 hM, ↓yfm32 hM, ↓yfm35 hM, ↓yfm36 hM, ↓yfm37 hM, ↓yfm41 hM, ↓yfm42 hM, ↓yfm43 hM, ↓yfm44 hM, rm1 hM, rm2 hM, rm5 hM, rm8 hM, rm9 hM, rm10 hM, rm12 hM, rm28 hM, rm32 hM, rm35 hM, rm36 hM, rm37 hM, rm41 hM, rm42 hM, rm43 hM, rm44 hM, h2, hp1, k2, k136, u29, show s < 40 by omega, k3, c3, eq_true c1, Int.reduceEq]
          rw [s198_16]
          simp (disch := omega) only [s198_0, s198_1, s198_2, s198_3, s198_4, s198_5, s198_6, s198_7, s198_8, s198_9, s198_10, s198_11, s198_12, s198_13, s198_14, s198_15, s198_17, s198_18, s198_19, s198_20, s198_21, s198_22, s198_23, s198_24, s198_25, s198_26, s198_27, s198_28, s198_29, s198_30, s198_31, s198_32, s198_33, s198_34, s198_35, s198_36, s198_37, s198_38, s198_39, s198_40, s198_41, s198_42, s198_43, s198_44, s198_45, s198_46, s198_47, s198_48, s198_49, s198_50, s198_51, s198_52, s198_53, s198_54, s198_55, s198_56, s198_57, s198_58, s198_59, s198_60, s198_61, s198_62, s198_63, s198_64, s198_65, s198_66, s198_67, s198_68, s198_69, s198_70, s198_71, s198_72, s198_73, s198_74, s198_75, s198_76, s198_77, s198_78, s198_79, s198_80, s198_81, s198_82, s198_83, s198_84, s198_85, s198_86, s198_87, s198_88, s198_89, s198_90, s198_91, s198_92, s198_93, s198_94, s198_95, s198_96, s198_97, s198_98, s198_99, s198_100, s198_101, s198_102, s198_103, s198_104, s198_105, s198_106, s198_107, s198_108, s198_109, s198_110, ↓reduceIte, Bool.true_eq_false, Bool.false_eq_true, ip_rfS, true_or, or_true, true_and, and_true, Option.toList_some, Option.toList_none, List.cons_append, List.nil_append, ip_fxn, ip_fxi, ip_fxr, ip_fxl, ip_wid, ip_n998, ip_lt900]
        · by_cases c2 : w_D W (a * 8 + g) = 999
          · have c : w_ov W f b a s = true := by rw [hov]; exact decide_eq_true (Or.inr (Or.inl c2))
            rw [if_pos c]
            refine ⟨S3, w3, g3, ⟨v29, v30, v31, v70⟩, fun Q => ?_⟩
            rw [s198_16]
            simp (disch := omega) only [s198_0, s198_1, s198_2, s198_3, s198_4, s198_5, s198_6, s198_7, s198_8, s198_9, s198_10, s198_11, s198_12, s198_13, s198_14, s198_15, s198_17, s198_18, s198_19, s198_20, s198_21, s198_22, s198_23, s198_24, s198_25, s198_26, s198_27, s198_28, s198_29, s198_30, s198_31, s198_32, s198_33, s198_34, s198_35, s198_36, s198_37, s198_38, s198_39, s198_40, s198_41, s198_42, s198_43, s198_44, s198_45, s198_46, s198_47, s198_48, s198_49, s198_50, s198_51, s198_52, s198_53, s198_54, s198_55, s198_56, s198_57, s198_58, s198_59, s198_60, s198_61, s198_62, s198_63, s198_64, s198_65, s198_66, s198_67, s198_68, s198_69, s198_70, s198_71, s198_72, s198_73, s198_74, s198_75, s198_76, s198_77, s198_78, s198_79, s198_80, s198_81, s198_82, s198_83, s198_84, s198_85, s198_86, s198_87, s198_88, s198_89, s198_90, s198_91, s198_92, s198_93, s198_94, s198_95, s198_96, s198_97, s198_98, s198_99, s198_100, s198_101, s198_102, s198_103, s198_104, s198_105, s198_106, s198_107, s198_108, s198_109, s198_110, ↓reduceIte, Bool.true_eq_false, Bool.false_eq_true, ip_rfS, true_or, or_true, true_and, and_true, Option.toList_some, Option.toList_none, List.cons_append, List.nil_append, ip_fxn, ip_fxi, ip_fxr, ip_fxl, ip_wid, ip_n998, ip_lt900, iO0, iO1, iA2, iA3, iA4, iA5, iA6, iA7, iA8, iO9, iA10, iA11, iA12, iA13, iA14, iA15, iA16, iO17, iA18, iO19, iA20, iA21, iA22, iA23, iO24, iA25, iO26, iA27, iA28, iO29, iA30, iA31, iO32, iA33, iA34, iO35, iA36, iA37, iO38, iA39, iA40, iO41, iA42, iA43, iO44, iA45, iA46, iA47, iA48, iA49, iA50, iA51, iA52, iA53, iO54, iA55, iO56, iA57, iO58, iA59, iO60, iA61, iO62, iA63, iA64, iA65, iA66, iA67, iA68, iA69, iA70, iA71, iA72, iA73, iA74, iA75, iA76, iA77, iA78, iOT, iAT1, iAT2, iOS, iAS, ↓yfm1 hM, ↓yfm2 hM, ↓yfm5 hM, ↓yfm8 hM, ↓yfm9 hM, ↓yfm10 hM, ↓yfm12 hM, ↓yfm28 hM, ↓yfm32 hM, ↓yfm35 hM, ↓yfm36 hM, ↓yfm37 hM, ↓yfm41 hM, ↓yfm42 hM, ↓yfm43 hM, ↓yfm44 hM, rm1 hM, rm2 hM, rm5 hM, rm8 hM, rm9 hM, rm10 hM, rm12 hM, rm28 hM, rm32 hM, rm35 hM, rm36 hM, rm37 hM, rm41 hM, rm42 hM, rm43 hM, rm44 hM, h2, hp1, k2, k136, u29, show s < 40 by omega, k3, c3, c1, cm, qD.2, c2, Int.reduceEq, Int.reduceLT]
            rw [s198_16]
            simp (disch := omega) only [s198_0, s198_1, s198_2, s198_3, s198_4, s198_5, s198_6, s198_7, s198_8, s198_9, s198_10, s198_11, s198_12, s198_13, s198_14, s198_15, s198_17, s198_18, s198_19, s198_20, s198_21, s198_22, s198_23, s198_24, s198_25, s198_26, s198_27, s198_28, s198_29, s198_30, s198_31, s198_32, s198_33, s198_34, s198_35, s198_36, s198_37, s198_38, s198_39, s198_40, s198_41, s198_42, s198_43, s198_44, s198_45, s198_46, s198_47, s198_48, s198_49, s198_50, s198_51, s198_52, s198_53, s198_54, s198_55, s198_56, s198_57, s198_58, s198_59, s198_60, s198_61, s198_62, s198_63, s198_64, s198_65, s198_66, s198_67, s198_68, s198_69, s198_70, s198_71, s198_72, s198_73, s198_74, s198_75, s198_76, s198_77, s198_78, s198_79, s198_80, s198_81, s198_82, s198_83, s198_84, s198_85, s198_86, s198_87, s198_88, s198_89, s198_90, s198_91, s198_92, s198_93, s198_94, s198_95, s198_96, s198_97, s198_98, s198_99, s198_100, s198_101, s198_102, s198_103, s198_104, s198_105, s198_106, s198_107, s198_108, s198_109, s198_110, ↓reduceIte, Bool.true_eq_false, Bool.false_eq_true, ip_rfS, true_or, or_true, true_and, and_true, Option.toList_some, Option.toList_none, List.cons_append, List.nil_append, ip_fxn, ip_fxi, ip_fxr, ip_fxl, ip_wid, ip_n998, ip_lt900]
          · have c : ¬ w_ov W f b a s = true := by
              rw [hov]
              intro z
              rcases of_decide_eq_true z with z | z | z
              · exact c1 z
              · exact c2 z
              · exact c3 (hes.mpr z)
            rw [if_neg c]
            have k199 := fun Q => y199 (d := d + 46) (S := S3) (L := ip_up L 62 24 w3) (Q := Q) hM hW R3 hG ha hgo c1 (by omega)
            rw [← hto] at k199
            have hnr : 0 ≤ w_to W f b a s ∧ w_to W f b a s < 8 := by rw [hto]; exact w_nxr ha
            generalize hN : w_to W f b a s = nx at *
            have qr := R3.2.2.2.1 (a * 8 + nx) (by omega) (by omega)
            have rr := (hW.2.2 (a * 8 + nx) (by omega) (by omega)).1
            generalize hI : (if st = f then (1 : Int) else 0) = inc at *
            have hin : 0 ≤ inc ∧ inc ≤ 1 := by rw [← hI]; split <;> omega
            generalize hS4 : ip_up (ip_up (ip_up (ip_up S3 62 30 (mi + w_ro W (a * 8 + nx))) 62 31 (bf + inc)) 62 29 (s + 1)) 70 (s + 1) nx = S4
            have g4 : y_g S S4 := by
              rw [← hS4]
              exact y_g_row (y_g_up (y_g_up (y_g_up g3 (by unfold y_s2; omega)) (by unfold y_s2; omega)) (by unfold y_s2; omega)) (by omega)
            have z1 : ∀ v, ip_up S3 62 30 v 62 31 = bf := fun v => by rw [← v31]; simp [ip_up]
            have z2 : ∀ v w, ip_up (ip_up S3 62 30 v) 62 31 w 62 29 = s := fun v w => by rw [← v29]; simp [ip_up]
            obtain ⟨S', w', e1, e2, e3⟩ := y198l (from1 := from1) hM hW hR hG hf hb k nx (s + 1) (mi + w_ro W (a * 8 + nx)) (bf + inc) w3 (ip_u pl (s + 1) nx) S4 (some (vi a)) (some (vi st)) (some (vi g)) (some (vi nx)) (by omega) (by omega) hnr ⟨by omega, by omega⟩ ⟨by omega, by omega⟩ (ip_u_at _ _ _) g4 (by rw [← hS4]; simp [ip_up]) (by rw [← hS4]; simp [ip_up]) (by rw [← hS4]; simp [ip_up]) (by rw [← hS4, ← v70]; funext q; simp [ip_up, ip_u])
            refine ⟨S', w', e1, e2, fun Q => ?_⟩
            rw [← e3 Q, s198_16]
            by_cases c4 : st = f
            · have hi1 : inc = 1 := by rw [← hI, if_pos c4]
              rw [hi1] at hS4
              simp (disch := omega) only [s198_0, s198_1, s198_2, s198_3, s198_4, s198_5, s198_6, s198_7, s198_8, s198_9, s198_10, s198_11, s198_12, s198_13, s198_14, s198_15, s198_17, s198_18, s198_19, s198_20, s198_21, s198_22, s198_23, s198_24, s198_25, s198_26, s198_27, s198_28, s198_29, s198_30, s198_31, s198_32, s198_33, s198_34, s198_35, s198_36, s198_37, s198_38, s198_39, s198_40, s198_41, s198_42, s198_43, s198_44, s198_45, s198_46, s198_47, s198_48, s198_49, s198_50, s198_51, s198_52, s198_53, s198_54, s198_55, s198_56, s198_57, s198_58, s198_59, s198_60, s198_61, s198_62, s198_63, s198_64, s198_65, s198_66, s198_67, s198_68, s198_69, s198_70, s198_71, s198_72, s198_73, s198_74, s198_75, s198_76, s198_77, s198_78, s198_79, s198_80, s198_81, s198_82, s198_83, s198_84, s198_85, s198_86, s198_87, s198_88, s198_89, s198_90, s198_91, s198_92, s198_93, s198_94, s198_95, s198_96, s198_97, s198_98, s198_99, s198_100, s198_101, s198_102, s198_103, s198_104, s198_105, s198_106, s198_107, s198_108, s198_109, s198_110, ↓reduceIte, Bool.true_eq_false, Bool.false_eq_true, ip_rfS, true_or, or_true, true_and, and_true, Option.toList_some, Option.toList_none, List.cons_append, List.nil_append, ip_fxn, ip_fxi, ip_fxr, ip_fxl, ip_wid, ip_n998, ip_lt900, iO0, iO1, iA2, iA3, iA4, iA5, iA6, iA7, iA8, iO9, iA10, iA11, iA12, iA13, iA14, iA15, iA16, iO17, iA18, iO19, iA20, iA21, iA22, iA23, iO24, iA25, iO26, iA27, iA28, iO29, iA30, iA31, iO32, iA33, iA34, iO35, iA36, iA37, iO38, iA39, iA40, iO41, iA42, iA43, iO44, iA45, iA46, iA47, iA48, iA49, iA50, iA51, iA52, iA53, iO54, iA55, iO56, iA57, iO58, iA59, iO60, iA61, iO62, iA63, iA64, iA65, iA66, iA67, iA68, iA69, iA70, iA71, iA72, iA73, iA74, iA75, iA76, iA77, iA78, iOT, iAT1, iAT2, iOS, iAS, ↓yfm1 hM, ↓yfm2 hM, ↓yfm5 hM, ↓yfm8 hM, ↓yfm9 hM, ↓yfm10 hM, ↓yfm12 hM, ↓yfm28 hM, ↓yfm32 hM, ↓yfm35 hM, ↓yfm36 hM, ↓yfm37 hM, ↓yfm41 hM, ↓yfm42 hM, ↓yfm43 hM, ↓yfm44 hM, rm1 hM, rm2 hM, rm5 hM, rm8 hM, rm9 hM, rm10 hM, rm12 hM, rm28 hM, rm32 hM, rm35 hM, rm36 hM, rm37 hM, rm41 hM, rm42 hM, rm43 hM, rm44 hM, h2, hp1, k2, k136, u29, show s < 40 by omega, k3, c3, c1, cm, qD.2, show w_D W (a * 8 + g) < 999 by omega, k199, qr.1, v30, z1, z2, ip_up_at, eq_true c4, Int.reduceEq, hS4]
            · have hi1 : inc = 0 := by rw [← hI, if_neg c4]
              rw [hi1] at hS4
              simp (disch := omega) only [s198_0, s198_1, s198_2, s198_3, s198_4, s198_5, s198_6, s198_7, s198_8, s198_9, s198_10, s198_11, s198_12, s198_13, s198_14, s198_15, s198_17, s198_18, s198_19, s198_20, s198_21, s198_22, s198_23, s198_24, s198_25, s198_26, s198_27, s198_28, s198_29, s198_30, s198_31, s198_32, s198_33, s198_34, s198_35, s198_36, s198_37, s198_38, s198_39, s198_40, s198_41, s198_42, s198_43, s198_44, s198_45, s198_46, s198_47, s198_48, s198_49, s198_50, s198_51, s198_52, s198_53, s198_54, s198_55, s198_56, s198_57, s198_58, s198_59, s198_60, s198_61, s198_62, s198_63, s198_64, s198_65, s198_66, s198_67, s198_68, s198_69, s198_70, s198_71, s198_72, s198_73, s198_74, s198_75, s198_76, s198_77, s198_78, s198_79, s198_80, s198_81, s198_82, s198_83, s198_84, s198_85, s198_86, s198_87, s198_88, s198_89, s198_90, s198_91, s198_92, s198_93, s198_94, s198_95, s198_96, s198_97, s198_98, s198_99, s198_100, s198_101, s198_102, s198_103, s198_104, s198_105, s198_106, s198_107, s198_108, s198_109, s198_110, ↓reduceIte, Bool.true_eq_false, Bool.false_eq_true, ip_rfS, true_or, or_true, true_and, and_true, Option.toList_some, Option.toList_none, List.cons_append, List.nil_append, ip_fxn, ip_fxi, ip_fxr, ip_fxl, ip_wid, ip_n998, ip_lt900, iO0, iO1, iA2, iA3, iA4, iA5, iA6, iA7, iA8, iO9, iA10, iA11, iA12, iA13, iA14, iA15, iA16, iO17, iA18, iO19, iA20, iA21, iA22, iA23, iO24, iA25, iO26, iA27, iA28, iO29, iA30, iA31, iO32, iA33, iA34, iO35, iA36, iA37, iO38, iA39, iA40, iO41, iA42, iA43, iO44, iA45, iA46, iA47, iA48, iA49, iA50, iA51, iA52, iA53, iO54, iA55, iO56, iA57, iO58, iA59, iO60, iA61, iO62, iA63, iA64, iA65, iA66, iA67, iA68, iA69, iA70, iA71, iA72, iA73, iA74, iA75, iA76, iA77, iA78, iOT, iAT1, iAT2, iOS, iAS, ↓yfm1 hM, ↓yfm2 hM, ↓yfm5 hM, ↓yfm8 hM, ↓yfm9 hM, ↓yfm10 hM, ↓yfm12 hM, ↓yfm28 hM, ↓yfm32 hM, ↓yfm35 hM, ↓yfm36 hM, ↓yfm37 hM, ↓yfm41 hM, ↓yfm42 hM, ↓yfm43 hM, ↓yfm44 hM, rm1 hM, rm2 hM, rm5 hM, rm8 hM, rm9 hM, rm10 hM, rm12 hM, rm28 hM, rm32 hM, rm35 hM, rm36 hM, rm37 hM, rm41 hM, rm42 hM, rm43 hM, rm44 hM, h2, hp1, k2, k136, u29, show s < 40 by omega, k3, c3, c1, cm, qD.2, show w_D W (a * 8 + g) < 999 by omega, k199, qr.1, v30, z1, z2, ip_up_at, c4, Int.reduceEq, hS4]
termination_by k => k
theorem y198 {f b a : Int} (hM : x_RM R) (hW : w_ok W) (hR : y_R W m S) (hG : w_gd W) (hf : 0 ≤ f ∧ f < m) (hb : 0 ≤ b ∧ b < m) (ha : 0 ≤ a ∧ a < 8) :
    ∃ S' w', y_g S S' ∧ y_en S' (w_ride W f b a (S 70)) ∧ ∀ Q, ip_wc (d + 48) 198 [.ref 62, vi f, vi b, vi a] 79 S R L Q = Q none 79 S' R (ip_up L 62 24 w') := by
  generalize hS1 : ip_up (ip_up (ip_up (ip_up S 70 0 a) 62 29 0) 62 30 0) 62 31 0 = S1
  have g1 : y_g S S1 := by
    rw [← hS1]
    exact y_g_up (y_g_up (y_g_up (y_g_row y_g_r (by omega)) (by unfold y_s2; omega)) (by unfold y_s2; omega)) (by unfold y_s2; omega)
  obtain ⟨S', w', e1, e2, e3⟩ := y198l (d := d) (L := L) (from1 := a) hM hW hR hG hf hb 40 a 0 0 0 (L 62 24) (ip_u (S 70) 0 a) S1 none none none none (by omega) (by omega) ha (by omega) (by omega) (ip_u_at _ _ _) g1 (by rw [← hS1]; simp [ip_up]) (by rw [← hS1]; simp [ip_up]) (by rw [← hS1]; simp [ip_up]) (by rw [← hS1]; funext q; simp [ip_up, ip_u])
  rw [ip_upself] at e3
  refine ⟨S', w', e1, e2, fun Q => ?_⟩
  have e3' := e3 Q
  simp (disch := omega) only [c198, s198_0, s198_1, s198_2, s198_3, s198_4, s198_5, s198_6, s198_7, s198_8, s198_9, s198_10, s198_11, s198_12, s198_13, s198_14, s198_15, ↓reduceIte, Bool.true_eq_false, Bool.false_eq_true, ip_rfS, true_or, or_true, true_and, and_true, Option.toList_some, Option.toList_none, List.cons_append, List.nil_append, ip_fxn, ip_fxi, ip_fxr, ip_fxl, ip_wid, ip_n998, ip_lt900, iO0, iO1, iA2, iA3, iA4, iA5, iA6, iA7, iA8, iO9, iA10, iA11, iA12, iA13, iA14, iA15, iA16, iO17, iA18, iO19, iA20, iA21, iA22, iA23, iO24, iA25, iO26, iA27, iA28, iO29, iA30, iA31, iO32, iA33, iA34, iO35, iA36, iA37, iO38, iA39, iA40, iO41, iA42, iA43, iO44, iA45, iA46, iA47, iA48, iA49, iA50, iA51, iA52, iA53, iO54, iA55, iO56, iA57, iO58, iA59, iO60, iA61, iO62, iA63, iA64, iA65, iA66, iA67, iA68, iA69, iA70, iA71, iA72, iA73, iA74, iA75, iA76, iA77, iA78, iOT, iAT1, iAT2, iOS, iAS, ↓yfm1 hM, ↓yfm2 hM, ↓yfm5 hM, ↓yfm8 hM, ↓yfm9 hM, ↓yfm10 hM, ↓yfm12 hM, ↓yfm28 hM, ↓yfm32 hM, ↓yfm35 hM, ↓yfm36 hM, ↓yfm37 hM, ↓yfm41 hM, ↓yfm42 hM, ↓yfm43 hM, ↓yfm44 hM, rm1 hM, rm2 hM, rm5 hM, rm8 hM, rm9 hM, rm10 hM, rm12 hM, rm28 hM, rm32 hM, rm35 hM, rm36 hM, rm37 hM, rm41 hM, rm42 hM, rm43 hM, rm44 hM, hS1, e3']
end RDM
