/-! THE TAPE is split into TOKENS -/
section SPL
variable {d n : Nat} {S : ip_S} {R : ip_R} {L : ip_S} {Q : Option Value → Nat → ip_S → ip_R → ip_S → Prop}
def k_word (b : Int → Int) (p e : Int) : Nat → Nat → Int
  | 0, _ => -2
  | f + 1, w => if k_spd b p e (w + 1) = true then (w : Int) else k_word b p e f (w + 1)
theorem p22l {p e x : Int} (hn : 44 ≤ n) (h0 : 0 ≤ p) (h2 : p ≤ e) (h1 : e ≤ 160) (hb : ∀ i, 0 ≤ i → i < 160 → 0 ≤ S 20 i ∧ S 20 i < 256) (hR : R 19 0 = some 20) : ∀ (f w : Nat), w + f = 12 →
    ip_wp (d + 5) 22 29 [some (.ref 19), some (vi p), some (vi e), some (vi x), some (vi (w : Int))] [] n S R L Q = Q (some (vi (k_word (S 20) p e f w))) n S R L
  | 0, w, h => by
    rw [s22_29]
    simp (disch := omega) only [s22_0, s22_1, s22_2, s22_3, s22_4, s22_5, s22_6, s22_7, s22_8, s22_9, s22_10, s22_11, s22_12, s22_13, s22_14, s22_15, s22_16, s22_17, s22_18, s22_19, s22_20, s22_21, s22_22, s22_23, s22_24, s22_25, s22_26, s22_27, s22_28, s22_30, s22_31, s22_32, s22_33, s22_34, s22_35, s22_36, s22_37, s22_38, s22_39, s22_40, s22_41, s22_42, s22_43, s22_44, ↓reduceIte, Bool.true_eq_false, Bool.false_eq_true, ip_rfS, true_or, or_true, true_and, and_true, Option.toList_some, Option.toList_none, List.cons_append, List.nil_append, ip_fxn, ip_fxi, ip_fxr, ip_fxl, ip_wid, ip_n998, ip_lt900, show ¬ (w : Int) < 12 by omega, k_word]
  | f + 1, w, h => by
    have ih := p22l (x := x) hn h0 h2 h1 hb hR f (w + 1) (by omega)
    rw [s22_29]
    simp (disch := omega) only [s22_0, s22_1, s22_2, s22_3, s22_4, s22_5, s22_6, s22_7, s22_8, s22_9, s22_10, s22_11, s22_12, s22_13, s22_14, s22_15, s22_16, s22_17, s22_18, s22_19, s22_20, s22_21, s22_22, s22_23, s22_24, s22_25, s22_26, s22_27, s22_28, s22_30, s22_31, s22_32, s22_33, s22_34, s22_35, s22_36, s22_37, s22_38, s22_39, s22_40, s22_41, s22_42, s22_43, s22_44, ↓reduceIte, Bool.true_eq_false, Bool.false_eq_true, ip_rfS, true_or, or_true, true_and, and_true, Option.toList_some, Option.toList_none, List.cons_append, List.nil_append, ip_fxn, ip_fxi, ip_fxr, ip_fxl, ip_wid, ip_n998, ip_lt900, hR, ip_n998, iO19, p24, p25, Int.toNat_natCast, show (w : Int) < 12 by omega, if_true, k_word, k_n1, k_n0]
    rw [show (w : Int) + 1 = ((w + 1 : Nat) : Int) by omega, ih]
    cases k_spd (S 20) p e (w + 1) <;> rfl
def k_tok (b : Int → Int) (p e : Int) : Int :=
  if k_di (b p) = true then (if 4 < e - p then -2 else 20)
  else if k_le (b p) = true then k_word b p e 12 0
  else if k_sg (b p) = true then b p else -2
theorem p22 {p e : Int} (hn : 44 ≤ n) (h0 : 0 ≤ p) (h2 : p < e) (h1 : e ≤ 160) (hb : ∀ i, 0 ≤ i → i < 160 → 0 ≤ S 20 i ∧ S 20 i < 256) (hR : R 19 0 = some 20) :
    ip_wc (d + 6) 22 [.ref 19, vi p, vi e] n S R L Q = Q (some (vi (k_tok (S 20) p e))) n S R L := by
  have hw : ip_w (S 20 p) = S 20 p := by have := hb p (by omega) (by omega); exact ip_wid (by omega) (by omega)
  have hl := p22l (d := d) (Q := Q) (L := L) (x := S 20 p) hn h0 (by omega) h1 hb hR 12 0 (by omega)
  simp (disch := omega) only [c22, s22_0, s22_1, s22_2, s22_3, s22_4, s22_5, s22_6, s22_7, s22_8, s22_9, s22_10, s22_11, s22_12, s22_13, s22_14, s22_15, s22_16, s22_17, s22_18, s22_19, s22_20, s22_21, s22_22, s22_23, s22_24, s22_25, s22_26, s22_27, s22_28, s22_30, s22_31, s22_32, s22_33, s22_34, s22_35, s22_36, s22_37, s22_38, s22_39, s22_40, s22_41, s22_42, s22_43, s22_44, ↓reduceIte, Bool.true_eq_false, Bool.false_eq_true, ip_rfS, true_or, or_true, true_and, and_true, Option.toList_some, Option.toList_none, List.cons_append, List.nil_append, ip_fxn, ip_fxi, ip_fxr, ip_fxl, ip_wid, ip_n998, ip_lt900, hR, ip_n998, iO19, iA20, p20, p21, p23, hw, k_n1, k_n0, k_tok]
  rw [show ((0 : Nat) : Int) = 0 by rfl] at hl
  rw [hl]
  cases k_di (S 20 p) <;> cases k_le (S 20 p) <;> cases k_sg (S 20 p) <;> simp
  all_goals (by_cases h : 4 < e - p <;> simp [h])
/-- the rows of TOKENS, and what is behind them -/
def k_TS (S : ip_S) (l : Int) (t p q : Int → Int) : ip_S := fun a k => if a = 19 ∧ k = 5 then l else if a = 21 then t k else if a = 22 then p k else if a = 23 then q k else S a k
theorem k_TS0 {l : Int} : ip_up S 19 5 l = k_TS S l (S 21) (S 22) (S 23) := by
  funext a k; unfold ip_up k_TS
  by_cases h : a = 19 ∧ k = 5
  · simp [h]
  · simp only [h, if_false]
    by_cases h1 : a = 21
    · simp [h1]
    · by_cases h2 : a = 22
      · simp [h2]
      · by_cases h3 : a = 23 <;> simp [h1, h2, h3]
theorem k_TSl {l v : Int} {t p q : Int → Int} : ip_up (k_TS S l t p q) 19 5 v = k_TS S v t p q := by
  funext a k; unfold ip_up k_TS
  by_cases h : a = 19 ∧ k = 5 <;> simp [h]
theorem k_TSt {l i v : Int} {t p q : Int → Int} : ip_up (k_TS S l t p q) 21 i v = k_TS S l (ip_u t i v) p q := by
  funext a k; unfold ip_up k_TS ip_u
  by_cases h : a = 21
  · subst h; simp
  · simp [h]
theorem k_TSp {l i v : Int} {t p q : Int → Int} : ip_up (k_TS S l t p q) 22 i v = k_TS S l t (ip_u p i v) q := by
  funext a k; unfold ip_up k_TS ip_u
  by_cases h : a = 22
  · subst h; simp
  · simp [h]
theorem k_TSq {l i v : Int} {t p q : Int → Int} : ip_up (k_TS S l t p q) 23 i v = k_TS S l t p (ip_u q i v) := by
  funext a k; unfold ip_up k_TS ip_u
  by_cases h : a = 23
  · subst h; simp
  · simp [h]
theorem k_TS5 {l : Int} {t p q : Int → Int} : k_TS S l t p q 19 5 = l := rfl
theorem k_TS4 {l : Int} {t p q : Int → Int} : k_TS S l t p q 19 4 = S 19 4 := rfl
theorem k_TS20 {l : Int} {t p q : Int → Int} : k_TS S l t p q 20 = S 20 := by funext k; simp [k_TS]
theorem k_TS21 {l k : Int} {t p q : Int → Int} : k_TS S l t p q 21 k = t k := by simp [k_TS]
def k_spl (b : Int → Int) (sz : Int) : Nat → Int → Int → Int → (Int → Int) → (Int → Int) → (Int → Int) → Int × (Int → Int) × (Int → Int) × (Int → Int)
  | 0, _, _, l, t, p, q => (l, ip_u t l (-1), ip_u p l sz, q)
  | f + 1, i, nx, l, t, p, q =>
    if nx ≤ i ∧ k_bl (b i) = false then
      k_spl b sz f (i + 1) (k_end b sz (k_le (b i)) (k_di (b i)) (sz - i).toNat (i + 1)) (l + 1)
        (ip_u t l (k_tok b i (k_end b sz (k_le (b i)) (k_di (b i)) (sz - i).toNat (i + 1)))) (ip_u p l i)
        (ip_u q l (if k_tok b i (k_end b sz (k_le (b i)) (k_di (b i)) (sz - i).toNat (i + 1)) = 20 then ip_w (k_num b (k_end b sz (k_le (b i)) (k_di (b i)) (sz - i).toNat (i + 1) - i).toNat i 0) else 0))
    else k_spl b sz f (i + 1) nx l t p q
theorem k_end_r {b : Int → Int} {sz : Int} {w u : Bool} : ∀ (f : Nat) (i : Int), i ≤ sz → i ≤ k_end b sz w u f i ∧ k_end b sz w u f i ≤ sz
  | 0, i, h => ⟨h, Int.le_refl _⟩
  | f + 1, i, h => by
    unfold k_end
    by_cases h1 : i < sz
    · rw [if_pos h1]
      split
      · have := k_end_r (b := b) (sz := sz) (w := w) (u := u) f (i + 1) (by omega); omega
      · omega
    · rw [if_neg h1]; omega
theorem k_word_r {b : Int → Int} {p e : Int} : ∀ (f w : Nat), -2 ≤ k_word b p e f w ∧ k_word b p e f w < w + f
  | 0, w => by simp only [k_word]; omega
  | f + 1, w => by
    unfold k_word
    split
    · omega
    · have := k_word_r (b := b) (p := p) (e := e) f (w + 1); omega
theorem k_tok_r {b : Int → Int} {p e : Int} (h : 0 ≤ b p ∧ b p < 256) : -2 ≤ k_tok b p e ∧ k_tok b p e < 256 := by
  unfold k_tok
  have := k_word_r (b := b) (p := p) (e := e) 12 0
  repeat' split
  all_goals omega
theorem p17l {sz : Int} (hn : 44 ≤ n) (hz : S 19 4 = sz) (h0 : 0 ≤ sz) (h1 : sz ≤ 160) (hb : ∀ i, 0 ≤ i → i < 160 → 0 ≤ S 20 i ∧ S 20 i < 256) (hR : R 19 0 = some 20) (hR1 : R 19 1 = some 21) (hR2 : R 19 2 = some 22) (hR3 : R 19 3 = some 23) : ∀ (f : Nat) (i nx l : Int) (t p q : Int → Int), sz - i = f → 0 ≤ i → 0 ≤ nx → nx ≤ 160 → 0 ≤ l → l ≤ i →
    ip_wp (d + 6) 17 7 [some (.ref 19), some (vi nx), some (vi i)] [] n (k_TS S l t p q) R L Q = Q none n (k_TS S (k_spl (S 20) sz f i nx l t p q).1 (k_spl (S 20) sz f i nx l t p q).2.1 (k_spl (S 20) sz f i nx l t p q).2.2.1 (k_spl (S 20) sz f i nx l t p q).2.2.2) R L
  | 0, i, nx, l, t, p, q, h, hi, ha, hc, hd, he => by
    rw [s17_7]
    simp (disch := omega) only [s17_0, s17_1, s17_2, s17_3, s17_4, s17_5, s17_6, s17_8, s17_9, s17_10, s17_11, s17_12, s17_13, s17_14, s17_15, s17_16, s17_17, s17_18, s17_19, s17_20, s17_21, s17_22, s17_23, s17_24, s17_25, s17_26, s17_27, s17_28, s17_29, s17_30, s17_31, s17_32, s17_33, s17_34, s17_35, s17_36, s17_37, s17_38, s17_39, s17_40, s17_41, s17_42, s17_43, s17_44, s17_45, s17_46, s17_47, s17_48, s17_49, s17_50, s17_51, s17_52, s17_53, s17_54, s17_55, s17_56, s17_57, s17_58, s17_59, s17_60, s17_61, s17_62, s17_63, s17_64, s17_65, s17_66, s17_67, s17_68, s17_69, s17_70, s17_71, s17_72, s17_73, s17_74, s17_75, s17_76, s17_77, s17_78, ↓reduceIte, Bool.true_eq_false, Bool.false_eq_true, ip_rfS, true_or, or_true, true_and, and_true, Option.toList_some, Option.toList_none, List.cons_append, List.nil_append, ip_fxn, ip_fxi, ip_fxr, ip_fxl, ip_wid, ip_n998, ip_lt900, hR1, hR2, hz, k_TS4, k_TS5, k_TSt, k_TSp, ip_n998, iO19, iA21, iA22, show ¬ i < sz by omega, k_spl]
  | f + 1, i, nx, l, t, p, q, h, hi, ha, hc, hd, he => by
    have hw : ip_w (S 20 i) = S 20 i := by have := hb i (by omega) (by omega); exact ip_wid (by omega) (by omega)
    have her := k_end_r (b := S 20) (sz := sz) (w := k_le (S 20 i)) (u := k_di (S 20 i)) (sz - i).toNat (i + 1) (by omega)
    have hkr := k_tok_r (b := S 20) (p := i) (e := k_end (S 20) sz (k_le (S 20 i)) (k_di (S 20 i)) (sz - i).toNat (i + 1)) (hb i (by omega) (by omega))
    have ih1 := p17l hn hz h0 h1 hb hR hR1 hR2 hR3 f (i + 1) nx l t p q (by omega) (by omega) ha hc hd (by omega)
    have ih2 := fun t p q => p17l hn hz h0 h1 hb hR hR1 hR2 hR3 f (i + 1) (k_end (S 20) sz (k_le (S 20 i)) (k_di (S 20 i)) (sz - i).toNat (i + 1)) (l + 1) t p q (by omega) (by omega) (by omega) (by omega) (by omega) (by omega)
    rw [s17_7]
    generalize he' : k_end (S 20) sz (k_le (S 20 i)) (k_di (S 20 i)) (sz - i).toNat (i + 1) = en at *
    by_cases h3 : nx ≤ i
    · cases h4 : k_bl (S 20 i)
      · have hsp : k_spl (S 20) sz (f + 1) i nx l t p q = k_spl (S 20) sz f (i + 1) en (l + 1) (ip_u t l (k_tok (S 20) i en)) (ip_u p l i) (ip_u q l (if k_tok (S 20) i en = 20 then ip_w (k_num (S 20) (en - i).toNat i 0) else 0)) := by
          rw [k_spl, if_pos ⟨h3, h4⟩, he']
        rw [hsp]
        have p19' : ∀ {Q'}, ip_wc (d + 6) 19 [.ref 19, vi i] n (k_TS S l t p q) R L Q' = Q' (some (vi en)) n (k_TS S l t p q) R L := by
          intro Q'
          rw [p19 (d := d + 4) (sz := sz) hn (by rw [k_TS4]; exact hz) hi h1 (by omega) (by rw [k_TS20]; exact hb) hR, k_TS20, he']
        have p22' : ∀ {Q'}, ip_wc (d + 6) 22 [.ref 19, vi i, vi en] n (k_TS S l t p q) R L Q' = Q' (some (vi (k_tok (S 20) i en))) n (k_TS S l t p q) R L := by
          intro Q'
          rw [p22 (d := d) hn hi (by omega) (by omega) (by rw [k_TS20]; exact hb) hR, k_TS20]
        simp (disch := omega) only [s17_0, s17_1, s17_2, s17_3, s17_4, s17_5, s17_6, s17_8, s17_9, s17_10, s17_11, s17_12, s17_13, s17_14, s17_15, s17_16, s17_17, s17_18, s17_19, s17_20, s17_21, s17_22, s17_23, s17_24, s17_25, s17_26, s17_27, s17_28, s17_29, s17_30, s17_31, s17_32, s17_33, s17_34, s17_35, s17_36, s17_37, s17_38, s17_39, s17_40, s17_41, s17_42, s17_43, s17_44, s17_45, s17_46, s17_47, s17_48, s17_49, s17_50, s17_51, s17_52, s17_53, s17_54, s17_55, s17_56, s17_57, s17_58, s17_59, s17_60, s17_61, s17_62, s17_63, s17_64, s17_65, s17_66, s17_67, s17_68, s17_69, s17_70, s17_71, s17_72, s17_73, s17_74, s17_75, s17_76, s17_77, s17_78, ↓reduceIte, Bool.true_eq_false, Bool.false_eq_true, ip_rfS, true_or, or_true, true_and, and_true, Option.toList_some, Option.toList_none, List.cons_append, List.nil_append, ip_fxn, ip_fxi, ip_fxr, ip_fxl, ip_wid, ip_n998, ip_lt900, hR, hR1, hR2, hR3, hz, k_TS4, k_TS5, k_TSt, k_TSp, k_TSq, k_TSl, k_TS20, k_TS21, ip_u_at, ip_n998, iO19, iA20, iA21, iA22, iA23, show i < sz by omega, show ¬ i < nx by omega, hw, p18, h4, k_n1, k_n0, p19', p22']
        have hk : ∀ {t' p' q' : Int → Int} {Q'}, ip_wc (d + 6) 26 [.ref 19, vi i, vi en] n (k_TS S l t' p' q') R L Q' = Q' (some (vi (k_num (S 20) (en - i).toNat i 0))) n (k_TS S l t' p' q') R L := by
          intro t' p' q' Q'
          rw [p26 (d := d + 5) hn (by omega) (by omega) (by omega) hR, k_TS20]
        by_cases h5 : k_tok (S 20) i en = 20
        · simp (disch := omega) only [s17_0, s17_1, s17_2, s17_3, s17_4, s17_5, s17_6, s17_8, s17_9, s17_10, s17_11, s17_12, s17_13, s17_14, s17_15, s17_16, s17_17, s17_18, s17_19, s17_20, s17_21, s17_22, s17_23, s17_24, s17_25, s17_26, s17_27, s17_28, s17_29, s17_30, s17_31, s17_32, s17_33, s17_34, s17_35, s17_36, s17_37, s17_38, s17_39, s17_40, s17_41, s17_42, s17_43, s17_44, s17_45, s17_46, s17_47, s17_48, s17_49, s17_50, s17_51, s17_52, s17_53, s17_54, s17_55, s17_56, s17_57, s17_58, s17_59, s17_60, s17_61, s17_62, s17_63, s17_64, s17_65, s17_66, s17_67, s17_68, s17_69, s17_70, s17_71, s17_72, s17_73, s17_74, s17_75, s17_76, s17_77, s17_78, ↓reduceIte, Bool.true_eq_false, Bool.false_eq_true, ip_rfS, true_or, or_true, true_and, and_true, Option.toList_some, Option.toList_none, List.cons_append, List.nil_append, ip_fxn, ip_fxi, ip_fxr, ip_fxl, ip_wid, ip_n998, ip_lt900, hR, hR1, hR2, hR3, hz, k_TS4, k_TS5, k_TSt, k_TSp, k_TSq, k_TSl, k_TS20, k_TS21, ip_n998, iO19, iA20, iA21, iA22, iA23, h5, hk, ih2]
        · simp (disch := omega) only [s17_0, s17_1, s17_2, s17_3, s17_4, s17_5, s17_6, s17_8, s17_9, s17_10, s17_11, s17_12, s17_13, s17_14, s17_15, s17_16, s17_17, s17_18, s17_19, s17_20, s17_21, s17_22, s17_23, s17_24, s17_25, s17_26, s17_27, s17_28, s17_29, s17_30, s17_31, s17_32, s17_33, s17_34, s17_35, s17_36, s17_37, s17_38, s17_39, s17_40, s17_41, s17_42, s17_43, s17_44, s17_45, s17_46, s17_47, s17_48, s17_49, s17_50, s17_51, s17_52, s17_53, s17_54, s17_55, s17_56, s17_57, s17_58, s17_59, s17_60, s17_61, s17_62, s17_63, s17_64, s17_65, s17_66, s17_67, s17_68, s17_69, s17_70, s17_71, s17_72, s17_73, s17_74, s17_75, s17_76, s17_77, s17_78, ↓reduceIte, Bool.true_eq_false, Bool.false_eq_true, ip_rfS, true_or, or_true, true_and, and_true, Option.toList_some, Option.toList_none, List.cons_append, List.nil_append, ip_fxn, ip_fxi, ip_fxr, ip_fxl, ip_wid, ip_n998, ip_lt900, hR, hR1, hR2, hR3, hz, k_TS4, k_TS5, k_TSt, k_TSp, k_TSq, k_TSl, k_TS20, k_TS21, ip_n998, iO19, iA20, iA21, iA22, iA23, h5, hk, ih2]
      · have hsp : k_spl (S 20) sz (f + 1) i nx l t p q = k_spl (S 20) sz f (i + 1) nx l t p q := by
          rw [k_spl, if_neg (by simp [h4])]
        rw [hsp]
        simp (disch := omega) only [s17_0, s17_1, s17_2, s17_3, s17_4, s17_5, s17_6, s17_8, s17_9, s17_10, s17_11, s17_12, s17_13, s17_14, s17_15, s17_16, s17_17, s17_18, s17_19, s17_20, s17_21, s17_22, s17_23, s17_24, s17_25, s17_26, s17_27, s17_28, s17_29, s17_30, s17_31, s17_32, s17_33, s17_34, s17_35, s17_36, s17_37, s17_38, s17_39, s17_40, s17_41, s17_42, s17_43, s17_44, s17_45, s17_46, s17_47, s17_48, s17_49, s17_50, s17_51, s17_52, s17_53, s17_54, s17_55, s17_56, s17_57, s17_58, s17_59, s17_60, s17_61, s17_62, s17_63, s17_64, s17_65, s17_66, s17_67, s17_68, s17_69, s17_70, s17_71, s17_72, s17_73, s17_74, s17_75, s17_76, s17_77, s17_78, ↓reduceIte, Bool.true_eq_false, Bool.false_eq_true, ip_rfS, true_or, or_true, true_and, and_true, Option.toList_some, Option.toList_none, List.cons_append, List.nil_append, ip_fxn, ip_fxi, ip_fxr, ip_fxl, ip_wid, ip_n998, ip_lt900, hR, hR1, hR2, hR3, hz, k_TS4, k_TS5, k_TSt, k_TSp, k_TSq, k_TSl, k_TS20, k_TS21, ip_n998, iO19, iA20, iA21, iA22, iA23, show i < sz by omega, show ¬ i < nx by omega, hw, p18, h4, k_n1, k_n0, ih1]
    · have hsp : k_spl (S 20) sz (f + 1) i nx l t p q = k_spl (S 20) sz f (i + 1) nx l t p q := by
        rw [k_spl, if_neg (by simp [h3])]
      rw [hsp]
      simp (disch := omega) only [s17_0, s17_1, s17_2, s17_3, s17_4, s17_5, s17_6, s17_8, s17_9, s17_10, s17_11, s17_12, s17_13, s17_14, s17_15, s17_16, s17_17, s17_18, s17_19, s17_20, s17_21, s17_22, s17_23, s17_24, s17_25, s17_26, s17_27, s17_28, s17_29, s17_30, s17_31, s17_32, s17_33, s17_34, s17_35, s17_36, s17_37, s17_38, s17_39, s17_40, s17_41, s17_42, s17_43, s17_44, s17_45, s17_46, s17_47, s17_48, s17_49, s17_50, s17_51, s17_52, s17_53, s17_54, s17_55, s17_56, s17_57, s17_58, s17_59, s17_60, s17_61, s17_62, s17_63, s17_64, s17_65, s17_66, s17_67, s17_68, s17_69, s17_70, s17_71, s17_72, s17_73, s17_74, s17_75, s17_76, s17_77, s17_78, ↓reduceIte, Bool.true_eq_false, Bool.false_eq_true, ip_rfS, true_or, or_true, true_and, and_true, Option.toList_some, Option.toList_none, List.cons_append, List.nil_append, ip_fxn, ip_fxi, ip_fxr, ip_fxl, ip_wid, ip_n998, ip_lt900, hR, hR1, hR2, hR3, hz, k_TS4, ip_n998, iO19, show i < sz by omega, show i < nx by omega, ih1]
def k_split (b : Int → Int) (sz : Int) (t p q : Int → Int) : Int × (Int → Int) × (Int → Int) × (Int → Int) := k_spl b sz sz.toNat 0 0 0 t p q
theorem p17 {sz : Int} (hn : 44 ≤ n) (hz : S 19 4 = sz) (h0 : 0 ≤ sz) (h1 : sz ≤ 160) (hb : ∀ i, 0 ≤ i → i < 160 → 0 ≤ S 20 i ∧ S 20 i < 256) (hR : R 19 0 = some 20) (hR1 : R 19 1 = some 21) (hR2 : R 19 2 = some 22) (hR3 : R 19 3 = some 23) :
    ip_wc (d + 7) 17 [.ref 19] n S R L Q = Q none n (k_TS S (k_split (S 20) sz (S 21) (S 22) (S 23)).1 (k_split (S 20) sz (S 21) (S 22) (S 23)).2.1 (k_split (S 20) sz (S 21) (S 22) (S 23)).2.2.1 (k_split (S 20) sz (S 21) (S 22) (S 23)).2.2.2) R L := by
  have hl := p17l (d := d) (Q := Q) (L := L) hn hz h0 h1 hb hR hR1 hR2 hR3 sz.toNat 0 0 0 (S 21) (S 22) (S 23) (by omega) (by omega) (by omega) (by omega) (by omega) (by omega)
  simp (disch := omega) only [c17, s17_0, s17_1, s17_2, s17_3, s17_4, s17_5, s17_6, ↓reduceIte, Bool.true_eq_false, Bool.false_eq_true, ip_rfS, true_or, or_true, true_and, and_true, Option.toList_some, Option.toList_none, List.cons_append, List.nil_append, ip_fxn, ip_fxi, ip_fxr, ip_fxl, ip_wid, ip_n998, ip_lt900, ip_n998, iO19, k_TS0, hl]
  rfl
/-! how many letters a TAPE holds -/
theorem p15 {sz x : Int} (hn : 44 ≤ n) (hz : S 19 4 = sz) (h0 : 0 ≤ sz) (h1 : sz < 160) (hx : ip_w x = x) (hR : R 19 0 = some 20) :
    ip_wc (d + 1) 15 [.ref 19, vi x] n S R L Q = Q (some (vi 1)) n (ip_up (ip_up S 20 sz x) 19 4 (sz + 1)) R L := by
  have h2 : ip_up S 20 sz x 19 4 = sz := by rw [← hz]; simp [ip_up]
  simp (disch := omega) only [c15, s15_0, s15_1, s15_2, s15_3, s15_4, s15_5, s15_6, s15_7, s15_8, s15_9, s15_10, s15_11, s15_12, s15_13, s15_14, s15_15, s15_16, s15_17, s15_18, s15_19, ↓reduceIte, Bool.true_eq_false, Bool.false_eq_true, ip_rfS, true_or, or_true, true_and, and_true, Option.toList_some, Option.toList_none, List.cons_append, List.nil_append, ip_fxn, ip_fxi, ip_fxr, ip_fxl, ip_wid, ip_n998, ip_lt900, ip_n998, iO19, iA20, hz, hR, h1, hx, h2, ip_r1]
theorem p15f {sz x : Int} (hn : 44 ≤ n) (hz : S 19 4 = sz) (h1 : ¬ sz < 160) (h2 : sz ≤ 160) :
    ip_wc (d + 1) 15 [.ref 19, vi x] n S R L Q = Q (some (vi 0)) n S R L := by
  simp (disch := omega) only [c15, s15_0, s15_1, s15_2, s15_3, s15_4, s15_5, s15_6, s15_7, s15_8, s15_9, s15_10, s15_11, s15_12, s15_13, s15_14, s15_15, s15_16, s15_17, s15_18, s15_19, ↓reduceIte, Bool.true_eq_false, Bool.false_eq_true, ip_rfS, true_or, or_true, true_and, and_true, Option.toList_some, Option.toList_none, List.cons_append, List.nil_append, ip_fxn, ip_fxi, ip_fxr, ip_fxl, ip_wid, ip_n998, ip_lt900, ip_n998, iO19, iA20, hz, h1, ip_r0]
end SPL
