/-! the world's loops -/
section WLF
variable {d n : Nat} {S : ip_S} {R : ip_R} {L : ip_S} {Q : Option Value → Nat → ip_S → ip_R → ip_S → Prop}
/-- first PLACE and fewest miles so far -/
def m_tow (r f : Int → Int) (x g : Int) : Nat → Int → Int → Int → Int
  | 0, _, best, _ => best
  | k + 1, t, best, few => if ¬ r (x * 8 + t) = 0 ∧ r (x * 8 + t) + f (t * 8 + g) < few then m_tow r f x g k (t + 1) t (r (x * 8 + t) + f (t * 8 + g)) else m_tow r f x g k (t + 1) best few
theorem p77l {x g : Int} (hn : 8 < n) (hR : R 1 0 = some 2) (hR1 : R 1 1 = some 3) (hx : 0 ≤ x) (hx2 : x < 8) (hg : 0 ≤ g) (hg2 : g < 8) (hr : ∀ k, 0 ≤ k → k < 64 → 0 ≤ S 2 k ∧ S 2 k ≤ 99) (hf : ∀ k, 0 ≤ k → k < 64 → 0 ≤ S 3 k ∧ S 3 k ≤ 999) : ∀ (k : Nat) (t best few : Int) (lo : Option Value), t + k = 8 → 0 ≤ t → 0 ≤ few → few ≤ 999 →
    ip_wp (d + 1) 77 6 [some (.ref 1), some (vi x), some (vi g), some (vi best), some (vi few), some (vi t), lo] [] n S R L Q = Q (some (vi (m_tow (S 2) (S 3) x g k t best few))) n S R L
  | 0, t, best, few, lo, h, ht, hc, hd => by
    rw [s77_6]
    simp (disch := omega) only [s77_0, s77_1, s77_2, s77_3, s77_4, s77_5, s77_7, s77_8, s77_9, s77_10, s77_11, s77_12, s77_13, s77_14, s77_15, s77_16, s77_17, s77_18, s77_19, s77_20, s77_21, s77_22, s77_23, s77_24, s77_25, s77_26, s77_27, s77_28, s77_29, s77_30, s77_31, s77_32, s77_33, s77_34, s77_35, s77_36, ↓reduceIte, Bool.true_eq_false, Bool.false_eq_true, ip_rfS, true_or, or_true, true_and, and_true, Option.toList_some, Option.toList_none, List.cons_append, List.nil_append, ip_fxn, ip_fxi, ip_fxr, ip_fxl, ip_wid, ip_n998, ip_lt900, show ¬ t < 8 by omega, m_tow]
  | k + 1, t, best, few, lo, h, ht, hc, hd => by
    have h1 := hr (x * 8 + t) (by omega) (by omega)
    have h2 := hf (t * 8 + g) (by omega) (by omega)
    have ih1 := fun lo => p77l (lo := lo) hn hR hR1 hx hx2 hg hg2 hr hf k (t + 1) best few (by omega) (by omega) hc hd
    rw [s77_6, m_tow]
    by_cases h3 : S 2 (x * 8 + t) = 0
    · rw [if_neg (by omega)]
      simp (disch := omega) only [s77_0, s77_1, s77_2, s77_3, s77_4, s77_5, s77_7, s77_8, s77_9, s77_10, s77_11, s77_12, s77_13, s77_14, s77_15, s77_16, s77_17, s77_18, s77_19, s77_20, s77_21, s77_22, s77_23, s77_24, s77_25, s77_26, s77_27, s77_28, s77_29, s77_30, s77_31, s77_32, s77_33, s77_34, s77_35, s77_36, ↓reduceIte, Bool.true_eq_false, Bool.false_eq_true, ip_rfS, true_or, or_true, true_and, and_true, Option.toList_some, Option.toList_none, List.cons_append, List.nil_append, ip_fxn, ip_fxi, ip_fxr, ip_fxl, ip_wid, ip_n998, ip_lt900, ip_n998, iO1, show t < 8 by omega, p49 hn hR, h3, ih1, Nat.zero_lt_succ]
    · by_cases h4 : S 2 (x * 8 + t) + S 3 (t * 8 + g) < few
      · have ih2 := fun lo => p77l (lo := lo) hn hR hR1 hx hx2 hg hg2 hr hf k (t + 1) t (S 2 (x * 8 + t) + S 3 (t * 8 + g)) (by omega) (by omega) (by omega) (by omega)
        rw [if_pos ⟨h3, h4⟩]
        simp (disch := omega) only [s77_0, s77_1, s77_2, s77_3, s77_4, s77_5, s77_7, s77_8, s77_9, s77_10, s77_11, s77_12, s77_13, s77_14, s77_15, s77_16, s77_17, s77_18, s77_19, s77_20, s77_21, s77_22, s77_23, s77_24, s77_25, s77_26, s77_27, s77_28, s77_29, s77_30, s77_31, s77_32, s77_33, s77_34, s77_35, s77_36, ↓reduceIte, Bool.true_eq_false, Bool.false_eq_true, ip_rfS, true_or, or_true, true_and, and_true, Option.toList_some, Option.toList_none, List.cons_append, List.nil_append, ip_fxn, ip_fxi, ip_fxr, ip_fxl, ip_wid, ip_n998, ip_lt900, ip_n998, iO1, show t < 8 by omega, p49 hn hR, p3 (show 3 < n by omega) hR1, h3, h4, ih2]
      · rw [if_neg (by omega)]
        simp (disch := omega) only [s77_0, s77_1, s77_2, s77_3, s77_4, s77_5, s77_7, s77_8, s77_9, s77_10, s77_11, s77_12, s77_13, s77_14, s77_15, s77_16, s77_17, s77_18, s77_19, s77_20, s77_21, s77_22, s77_23, s77_24, s77_25, s77_26, s77_27, s77_28, s77_29, s77_30, s77_31, s77_32, s77_33, s77_34, s77_35, s77_36, ↓reduceIte, Bool.true_eq_false, Bool.false_eq_true, ip_rfS, true_or, or_true, true_and, and_true, Option.toList_some, Option.toList_none, List.cons_append, List.nil_append, ip_fxn, ip_fxi, ip_fxr, ip_fxl, ip_wid, ip_n998, ip_lt900, ip_n998, iO1, show t < 8 by omega, p49 hn hR, p3 (show 3 < n by omega) hR1, h3, h4, ih1]
theorem p77 {x g : Int} (hn : 8 < n) (hR : R 1 0 = some 2) (hR1 : R 1 1 = some 3) (hx : 0 ≤ x) (hx2 : x < 8) (hg : 0 ≤ g) (hg2 : g < 8) (hr : ∀ k, 0 ≤ k → k < 64 → 0 ≤ S 2 k ∧ S 2 k ≤ 99) (hf : ∀ k, 0 ≤ k → k < 64 → 0 ≤ S 3 k ∧ S 3 k ≤ 999) :
    ip_wc (d + 2) 77 [.ref 1, vi x, vi g] n S R L Q = Q (some (vi (m_tow (S 2) (S 3) x g 8 0 x 999))) n S R L := by
  have hl := p77l (d := d) (L := L) (Q := Q) hn hR hR1 hx hx2 hg hg2 hr hf 8 0 x 999 none (by omega) (by omega) (by omega) (by omega)
  simp (disch := omega) only [c77, s77_0, s77_1, s77_2, s77_3, s77_4, s77_5, ↓reduceIte, Bool.true_eq_false, Bool.false_eq_true, ip_rfS, true_or, or_true, true_and, and_true, Option.toList_some, Option.toList_none, List.cons_append, List.nil_append, ip_fxn, ip_fxi, ip_fxr, ip_fxl, ip_wid, ip_n998, ip_lt900, hl]
def m_cnt (r : Int → Int) : Nat → Int → Int → Int
  | 0, _, a => a
  | k + 1, i, a => m_cnt r k (i + 1) (a + if r i = 0 then 0 else 1)
theorem p115l (hn : 8 < n) (hR : R 1 0 = some 2) (hr : ∀ k, 0 ≤ k → k < 64 → 0 ≤ S 2 k ∧ S 2 k ≤ 99) : ∀ (k : Nat) (i a : Int), i + k = 64 → 0 ≤ i → 0 ≤ a → a ≤ i →
    ip_wp d 115 4 [some (.ref 1), some (vi a), some (vi i)] [] n S R L Q = Q (some (vi (m_cnt (S 2) k i a / 2))) n S R L
  | 0, i, a, h, hi, ha, hb => by
    rw [s115_4]
    simp (disch := omega) only [s115_0, s115_1, s115_2, s115_3, s115_5, s115_6, s115_7, s115_8, s115_9, s115_10, s115_11, s115_12, s115_13, s115_14, s115_15, s115_16, s115_17, s115_18, s115_19, s115_20, s115_21, s115_22, s115_23, s115_24, s115_25, ↓reduceIte, Bool.true_eq_false, Bool.false_eq_true, ip_rfS, true_or, or_true, true_and, and_true, Option.toList_some, Option.toList_none, List.cons_append, List.nil_append, ip_fxn, ip_fxi, ip_fxr, ip_fxl, ip_wid, ip_n998, ip_lt900, ip_n998, iO1, hR, m_c64, show ¬ i < 64 by omega, show (ip_kd 2).2 = 64 from rfl, show (2 < n ∧ (ip_kd 2).1 = 0) = True from eq_true ⟨by omega, rfl⟩, show (¬ (2 : Int) = 0) = True from eq_true (by omega), ip_div_id, m_cnt]
  | k + 1, i, a, h, hi, ha, hb => by
    have h1 := hr i (by omega) (by omega)
    rw [s115_4, m_cnt]
    by_cases h3 : S 2 i = 0
    · have ih := p115l hn hR hr k (i + 1) (a + 0) (by omega) (by omega) (by omega) (by omega)
      rw [if_pos h3]
      simp (disch := omega) only [s115_0, s115_1, s115_2, s115_3, s115_5, s115_6, s115_7, s115_8, s115_9, s115_10, s115_11, s115_12, s115_13, s115_14, s115_15, s115_16, s115_17, s115_18, s115_19, s115_20, s115_21, s115_22, s115_23, s115_24, s115_25, ↓reduceIte, Bool.true_eq_false, Bool.false_eq_true, ip_rfS, true_or, or_true, true_and, and_true, Option.toList_some, Option.toList_none, List.cons_append, List.nil_append, ip_fxn, ip_fxi, ip_fxr, ip_fxl, ip_wid, ip_n998, ip_lt900, ip_n998, iO1, iA2, hR, m_c64, show i < 64 by omega, show (ip_kd 2).2 = 64 from rfl, show (2 < n ∧ (ip_kd 2).1 = 0) = True from eq_true ⟨by omega, rfl⟩, h3, ih]
    · have ih := p115l hn hR hr k (i + 1) (a + 1) (by omega) (by omega) (by omega) (by omega)
      rw [if_neg h3]
      simp (disch := omega) only [s115_0, s115_1, s115_2, s115_3, s115_5, s115_6, s115_7, s115_8, s115_9, s115_10, s115_11, s115_12, s115_13, s115_14, s115_15, s115_16, s115_17, s115_18, s115_19, s115_20, s115_21, s115_22, s115_23, s115_24, s115_25, ↓reduceIte, Bool.true_eq_false, Bool.false_eq_true, ip_rfS, true_or, or_true, true_and, and_true, Option.toList_some, Option.toList_none, List.cons_append, List.nil_append, ip_fxn, ip_fxi, ip_fxr, ip_fxl, ip_wid, ip_n998, ip_lt900, ip_n998, iO1, iA2, hR, m_c64, show i < 64 by omega, show (ip_kd 2).2 = 64 from rfl, show (2 < n ∧ (ip_kd 2).1 = 0) = True from eq_true ⟨by omega, rfl⟩, h3, ih]
theorem p115 (hn : 8 < n) (hR : R 1 0 = some 2) (hr : ∀ k, 0 ≤ k → k < 64 → 0 ≤ S 2 k ∧ S 2 k ≤ 99) : ip_wc (d + 1) 115 [.ref 1] n S R L Q = Q (some (vi (m_cnt (S 2) 64 0 0 / 2))) n S R L := by
  have hl := p115l (d := d) (L := L) (Q := Q) hn hR hr 64 0 0 (by omega) (by omega) (by omega) (by omega)
  simp (disch := omega) only [c115, s115_0, s115_1, s115_2, s115_3, ↓reduceIte, Bool.true_eq_false, Bool.false_eq_true, ip_rfS, true_or, or_true, true_and, and_true, Option.toList_some, Option.toList_none, List.cons_append, List.nil_append, ip_fxn, ip_fxi, ip_fxr, ip_fxl, ip_wid, ip_n998, ip_lt900, hl]
def m_sum (r : Int → Int) : Nat → Int → Int → Int
  | 0, _, a => a
  | k + 1, i, a => m_sum r k (i + 1) (a + r i)
theorem p116l {pop : Int} (hn : 8 < n) (hR : R 1 5 = some 7) (hp : S 1 7 = pop) (hq : pop ≤ 6) : ∀ (k : Nat) (i a : Int), i + k = pop → 0 ≤ i →
    ip_wp d 116 4 [some (.ref 1), some (vi a), some (vi i)] [] n S R L Q = Q (some (vi (m_sum (S 7) k i a))) n S R L
  | 0, i, a, h, hi => by
    rw [s116_4]
    simp (disch := omega) only [s116_0, s116_1, s116_2, s116_3, s116_5, s116_6, s116_7, s116_8, s116_9, s116_10, s116_11, s116_12, s116_13, s116_14, s116_15, s116_16, s116_17, s116_18, ↓reduceIte, Bool.true_eq_false, Bool.false_eq_true, ip_rfS, true_or, or_true, true_and, and_true, Option.toList_some, Option.toList_none, List.cons_append, List.nil_append, ip_fxn, ip_fxi, ip_fxr, ip_fxl, ip_wid, ip_n998, ip_lt900, ip_n998, iO1, hp, show ¬ i < pop by omega, m_sum]
  | k + 1, i, a, h, hi => by
    have ih := p116l hn hR hp hq k (i + 1) (a + S 7 i) (by omega) (by omega)
    rw [s116_4]
    simp (disch := omega) only [s116_0, s116_1, s116_2, s116_3, s116_5, s116_6, s116_7, s116_8, s116_9, s116_10, s116_11, s116_12, s116_13, s116_14, s116_15, s116_16, s116_17, s116_18, ↓reduceIte, Bool.true_eq_false, Bool.false_eq_true, ip_rfS, true_or, or_true, true_and, and_true, Option.toList_some, Option.toList_none, List.cons_append, List.nil_append, ip_fxn, ip_fxi, ip_fxr, ip_fxl, ip_wid, ip_n998, ip_lt900, ip_n998, iO1, iA7, hp, hR, show i < pop by omega, m_sum, ih]
theorem p116 {pop : Int} (hn : 8 < n) (hR : R 1 5 = some 7) (hp : S 1 7 = pop) (h0 : 0 ≤ pop) (hq : pop ≤ 6) : ip_wc (d + 1) 116 [.ref 1] n S R L Q = Q (some (vi (m_sum (S 7) pop.toNat 0 0))) n S R L := by
  have hl := p116l (d := d) (L := L) (Q := Q) hn hR hp hq pop.toNat 0 0 (by omega) (by omega)
  simp (disch := omega) only [c116, s116_0, s116_1, s116_2, s116_3, ↓reduceIte, Bool.true_eq_false, Bool.false_eq_true, ip_rfS, true_or, or_true, true_and, and_true, Option.toList_some, Option.toList_none, List.cons_append, List.nil_append, ip_fxn, ip_fxi, ip_fxr, ip_fxl, ip_wid, ip_n998, ip_lt900, hl]
end WLF
