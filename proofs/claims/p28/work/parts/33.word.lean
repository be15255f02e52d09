/-! Strings, words and numerals of THE TAPE -/
theorem ip_shr0 {x : Int} : ip_shr x 0 = ip_w x := by
  unfold ip_shr ip_w
  congr 1
  have e : (Int32.ofInt 0 &&& 31 : Int32) = 0 := by decide +kernel
  rw [e]
  simp
theorem ip_chr {v : Int} (h0 : 0 ≤ v) (h1 : v < 256) : ip_u16 (ip_and v 255) = v := by
  have h := (by decide +kernel : ∀ n : Fin 256, ip_u16 (ip_and (n.val : Int) 255) = (n.val : Int)) ⟨v.toNat, by omega⟩
  simp only [Int.toNat_of_nonneg h0] at h
  exact h
theorem ip_txL : ∀ k : Nat, k < 13 → (ip_tx k).length ≤ 62 := by decide +kernel
theorem ip_txV : ∀ k : Nat, k < 13 → ∀ j : Nat, j < 62 → 0 ≤ (ip_tx k).getD j 0 ∧ (ip_tx k).getD j 0 < 128 := by decide +kernel
theorem ip_nk {k : Nat} : 901 + k + 50 - 951 = k := by omega
theorem ip_k1 {k : Nat} (h : k < 13) : (901 ≤ 901 + k ∧ 901 + k < 914) = True := eq_true (by omega)
theorem ip_k2 {k : Nat} (h : k < 13) : (951 ≤ 901 + k + 50 ∧ 901 + k + 50 < 964) = True := eq_true (by omega)
theorem ip_k3 {k : Nat} (h : k < 13) : (¬ 901 + k = 998) = True := eq_true (by omega)
theorem ip_k4 {k : Nat} (h : k < 13) : (¬ 901 + k + 50 = 998) = True := eq_true (by omega)
theorem ip_k5 {k : Nat} {z l : Int} (h : k < 13) (h0 : 0 ≤ z) (h1 : z < l) : (951 ≤ 901 + k + 50 ∧ 901 + k + 50 < 964 ∧ 0 ≤ z ∧ z < l) = True := eq_true (by omega)
theorem ip_k6 {z l m : Int} (h0 : l ≤ z) (h1 : z < m) : (l ≤ z ∧ z < m) = True := eq_true (by omega)
section WRD
variable {d n : Nat} {S : ip_S} {R : ip_R} {L : ip_S} {Q : Option Value → Nat → ip_S → ip_R → ip_S → Prop}
theorem p9 {k : Nat} (hk : k < 13) : ip_wc (d + 1) 9 [.ref (901 + k)] n S R L Q = Q (some (vi 0)) n S R L := by
  simp (disch := omega) only [c9, s9_0, s9_1, s9_2, s9_3, s9_4, s9_5, s9_6, ↓reduceIte, Bool.true_eq_false, Bool.false_eq_true, ip_rfS, true_or, or_true, true_and, and_true, Option.toList_some, Option.toList_none, List.cons_append, List.nil_append, ip_fxn, ip_fxi, ip_fxr, ip_fxl, ip_wid, ip_n998, ip_lt900, ip_k1, ip_k3, ip_k6, show ¬ (1 : Int) = 0 by omega, if_false]
theorem p8 {k : Nat} (hk : k < 13) : ip_wc (d + 2) 8 [.ref (901 + k)] n S R L Q = Q (some (vi ((ip_tx k).length : Int))) n S R L := by
  have h := ip_txL k hk
  simp (disch := omega) only [c8, s8_0, s8_1, s8_2, s8_3, s8_4, s8_5, s8_6, ↓reduceIte, Bool.true_eq_false, Bool.false_eq_true, ip_rfS, true_or, or_true, true_and, and_true, Option.toList_some, Option.toList_none, List.cons_append, List.nil_append, ip_fxn, ip_fxi, ip_fxr, ip_fxl, ip_wid, ip_n998, ip_lt900, ip_k1, ip_k2, ip_k3, ip_k4, ip_nk, p9, ip_shr0]
theorem p11 {k : Nat} (hk : k < 13) : ip_wc (d + 1) 11 [.ref (901 + k)] n S R L Q = Q (some (vi 1)) n S R L := by
  simp (disch := omega) only [c11, s11_0, s11_1, s11_2, s11_3, s11_4, s11_5, s11_6, s11_7, s11_8, ↓reduceIte, Bool.true_eq_false, Bool.false_eq_true, ip_rfS, true_or, or_true, true_and, and_true, Option.toList_some, Option.toList_none, List.cons_append, List.nil_append, ip_fxn, ip_fxi, ip_fxr, ip_fxl, ip_wid, ip_n998, ip_lt900, ip_k1, ip_k3, ip_r1, show ¬ (1 : Int) = 0 by omega, if_false, if_true]
theorem p14 {i l : Int} (h0 : 0 ≤ i) (h1 : i < l) (h2 : l < 2147483648) : ip_wc (d + 1) 14 [vi i, vi l, .ref 998] n S R L Q = Q (some (vi i)) n S R L := by
  simp (disch := omega) only [c14, s14_0, s14_1, s14_2, s14_3, s14_4, s14_5, s14_6, s14_7, s14_10, s14_11, ↓reduceIte, Bool.true_eq_false, Bool.false_eq_true, ip_rfS, true_or, or_true, true_and, and_true, Option.toList_some, Option.toList_none, List.cons_append, List.nil_append, ip_fxn, ip_fxi, ip_fxr, ip_fxl, ip_wid, ip_n998, ip_lt900, show ¬ i < 0 by omega, h1, if_false, if_true]
theorem p13 {i l : Int} (h0 : 0 ≤ i) (h1 : i < l) (h2 : l < 2147483648) : ip_wc (d + 2) 13 [vi i, vi l] n S R L Q = Q none n S R L := by
  simp (disch := omega) only [c13, s13_0, s13_1, s13_2, s13_3, s13_4, s13_5, ↓reduceIte, Bool.true_eq_false, Bool.false_eq_true, ip_rfS, true_or, or_true, true_and, and_true, Option.toList_some, Option.toList_none, List.cons_append, List.nil_append, ip_fxn, ip_fxi, ip_fxr, ip_fxl, ip_wid, ip_n998, ip_lt900, p14]
theorem p12 {k : Nat} {i : Int} (hk : k < 13) (h0 : 0 ≤ i) (h1 : i < ((ip_tx k).length : Int)) : ip_wc (d + 3) 12 [.ref (901 + k + 50), vi i] n S R L Q = Q (some (vi ((ip_tx k).getD i.toNat 0))) n S R L := by
  have h := ip_txL k hk
  have hv := ip_txV k hk i.toNat (by omega)
  simp (disch := omega) only [c12, s12_0, s12_1, s12_2, s12_3, s12_4, s12_5, s12_6, s12_7, s12_8, s12_9, s12_10, ↓reduceIte, Bool.true_eq_false, Bool.false_eq_true, ip_rfS, true_or, or_true, true_and, and_true, Option.toList_some, Option.toList_none, List.cons_append, List.nil_append, ip_fxn, ip_fxi, ip_fxr, ip_fxl, ip_wid, ip_n998, ip_lt900, ip_k2, ip_k4, ip_k5, ip_k6, ip_nk, p13, ip_chr]
theorem p10 {k : Nat} {i : Int} (hk : k < 13) (h0 : 0 ≤ i) (h1 : i < ((ip_tx k).length : Int)) : ip_wc (d + 4) 10 [.ref (901 + k), vi i] n S R L Q = Q (some (vi ((ip_tx k).getD i.toNat 0))) n S R L := by
  have h := ip_txL k hk
  have hv := ip_txV k hk i.toNat (by omega)
  simp (disch := omega) only [c10, s10_0, s10_1, s10_2, s10_3, s10_4, s10_5, s10_6, s10_7, s10_8, s10_9, s10_10, ↓reduceIte, Bool.true_eq_false, Bool.false_eq_true, ip_rfS, true_or, or_true, true_and, and_true, Option.toList_some, Option.toList_none, List.cons_append, List.nil_append, ip_fxn, ip_fxi, ip_fxr, ip_fxl, ip_wid, ip_n998, ip_lt900, ip_k1, ip_k3, ip_k6, p11, p12, show ¬ (1 : Int) = 0 by omega, if_false]
def k_sp (b : Int → Int) (t : List Int) (p : Int) : Nat → Int → Bool
  | 0, _ => true
  | f + 1, i => decide (b i = t.getD (i - p).toNat 0) && k_sp b t p f (i + 1)
theorem p25l {k : Nat} {p e : Int} (hk : k < 13) (hn : 44 ≤ n) (h0 : 0 ≤ p) (h1 : e ≤ 160) (he : e = p + ((ip_tx k).length : Int)) (hb : ∀ i, 0 ≤ i → i < 160 → 0 ≤ S 20 i ∧ S 20 i < 256) (hR : R 19 0 = some 20) : ∀ (f : Nat) (i : Int), e - i = f → p ≤ i →
    ip_wp (d + 4) 25 10 [some (.ref 19), some (vi p), some (vi e), some (.ref (901 + k)), some (vi i)] [] n S R L Q = Q (some (vi (k_n (k_sp (S 20) (ip_tx k) p f i)))) n S R L
  | 0, i, h, hi => by
    simp (disch := omega) only [s25_0, s25_1, s25_2, s25_3, s25_4, s25_5, s25_6, s25_7, s25_8, s25_9, s25_11, s25_12, s25_13, s25_14, s25_15, s25_16, s25_17, s25_18, s25_19, s25_20, s25_21, s25_22, s25_23, s25_24, s25_25, s25_26, s25_27, s25_28, s25_10, ↓reduceIte, Bool.true_eq_false, Bool.false_eq_true, ip_rfS, true_or, or_true, true_and, and_true, Option.toList_some, Option.toList_none, List.cons_append, List.nil_append, ip_fxn, ip_fxi, ip_fxr, ip_fxl, ip_wid, ip_n998, ip_lt900, show ¬ i < e by omega, if_false, k_sp, ip_r1]
    rfl
  | f + 1, i, h, hi => by
    have hw : ip_w (S 20 i) = S 20 i := by have := hb i (by omega) (by omega); exact ip_wid (by omega) (by omega)
    have hv := ip_txV k hk (i - p).toNat (by have := ip_txL k hk; omega)
    have ih := p25l hk hn h0 h1 he hb hR f (i + 1) (by omega) (by omega)
    rw [s25_10]
    simp (disch := omega) only [s25_0, s25_1, s25_2, s25_3, s25_4, s25_5, s25_6, s25_7, s25_8, s25_9, s25_11, s25_12, s25_13, s25_14, s25_15, s25_16, s25_17, s25_18, s25_19, s25_20, s25_21, s25_22, s25_23, s25_24, s25_25, s25_26, s25_27, s25_28, ↓reduceIte, Bool.true_eq_false, Bool.false_eq_true, ip_rfS, true_or, or_true, true_and, and_true, Option.toList_some, Option.toList_none, List.cons_append, List.nil_append, ip_fxn, ip_fxi, ip_fxr, ip_fxl, ip_wid, ip_n998, ip_lt900, hR, ip_n998, iO19, iA20, ip_k1, ip_k3, p10, show i < e by omega, if_true, hw, ih, k_sp]
    by_cases h2 : S 20 i = (ip_tx k).getD (i - p).toNat 0
    · rw [if_pos h2, decide_eq_true h2, Bool.true_and]
    · rw [if_neg h2, decide_eq_false h2, Bool.false_and]
      rfl
def k_spd (b : Int → Int) (p e : Int) (k : Nat) : Bool := decide (((ip_tx k).length : Int) = e - p) && k_sp b (ip_tx k) p (e - p).toNat p
theorem p25 {k : Nat} {p e : Int} (hk : k < 13) (hn : 44 ≤ n) (h0 : 0 ≤ p) (h2 : p ≤ e) (h1 : e ≤ 160) (hb : ∀ i, 0 ≤ i → i < 160 → 0 ≤ S 20 i ∧ S 20 i < 256) (hR : R 19 0 = some 20) :
    ip_wc (d + 5) 25 [.ref 19, vi p, vi e, .ref (901 + k)] n S R L Q = Q (some (vi (k_n (k_spd (S 20) p e k)))) n S R L := by
  have h := ip_txL k hk
  rw [c25]
  by_cases h3 : ((ip_tx k).length : Int) = e - p
  · have hl := p25l (d := d) (Q := Q) (L := L) hk hn h0 h1 (by omega) hb hR (e - p).toNat p (by omega) (by omega)
    simp (disch := omega) only [s25_0, s25_1, s25_2, s25_3, s25_4, s25_5, s25_6, s25_7, s25_8, s25_9, ↓reduceIte, Bool.true_eq_false, Bool.false_eq_true, ip_rfS, true_or, or_true, true_and, and_true, Option.toList_some, Option.toList_none, List.cons_append, List.nil_append, ip_fxn, ip_fxi, ip_fxr, ip_fxl, ip_wid, ip_n998, ip_lt900, ip_n998, ip_k1, ip_k3, p8, h3, if_true, hl, k_spd, decide_true, Bool.true_and]
  · simp (disch := omega) only [s25_0, s25_1, s25_2, s25_3, s25_4, s25_5, s25_6, s25_7, s25_8, s25_9, ↓reduceIte, Bool.true_eq_false, Bool.false_eq_true, ip_rfS, true_or, or_true, true_and, and_true, Option.toList_some, Option.toList_none, List.cons_append, List.nil_append, ip_fxn, ip_fxi, ip_fxr, ip_fxl, ip_wid, ip_n998, ip_lt900, ip_n998, ip_k1, ip_k3, p8, h3, if_false, k_spd, decide_false, Bool.false_and]
    rfl
def k_num (b : Int → Int) : Nat → Int → Int → Int
  | 0, _, a => a
  | f + 1, i, a => k_num b f (i + 1) (a * 10 + b i - 48)
theorem p26l {p e : Int} (hn : 44 ≤ n) (h1 : e ≤ 160) (hR : R 19 0 = some 20) : ∀ (f : Nat) (i a : Int), e - i = f → 0 ≤ i →
    ip_wp d 26 4 [some (.ref 19), some (vi p), some (vi e), some (vi a), some (vi i)] [] n S R L Q = Q (some (vi (k_num (S 20) f i a))) n S R L
  | 0, i, a, h, hi => by
    simp (disch := omega) only [s26_0, s26_1, s26_2, s26_3, s26_5, s26_6, s26_7, s26_8, s26_9, s26_10, s26_11, s26_12, s26_13, s26_14, s26_15, s26_16, s26_17, s26_18, s26_19, s26_20, s26_21, s26_4, ↓reduceIte, Bool.true_eq_false, Bool.false_eq_true, ip_rfS, true_or, or_true, true_and, and_true, Option.toList_some, Option.toList_none, List.cons_append, List.nil_append, ip_fxn, ip_fxi, ip_fxr, ip_fxl, ip_wid, ip_n998, ip_lt900, show ¬ i < e by omega, if_false, k_num]
  | f + 1, i, a, h, hi => by
    have ih := p26l (p := p) hn h1 hR f (i + 1) (a * 10 + S 20 i - 48) (by omega) (by omega)
    rw [s26_4]
    simp (disch := omega) only [s26_0, s26_1, s26_2, s26_3, s26_5, s26_6, s26_7, s26_8, s26_9, s26_10, s26_11, s26_12, s26_13, s26_14, s26_15, s26_16, s26_17, s26_18, s26_19, s26_20, s26_21, ↓reduceIte, Bool.true_eq_false, Bool.false_eq_true, ip_rfS, true_or, or_true, true_and, and_true, Option.toList_some, Option.toList_none, List.cons_append, List.nil_append, ip_fxn, ip_fxi, ip_fxr, ip_fxl, ip_wid, ip_n998, ip_lt900, hR, ip_n998, iO19, iA20, show i < e by omega, if_true, ih, k_num]
theorem p26 {p e : Int} (hn : 44 ≤ n) (h1 : e ≤ 160) (h0 : 0 ≤ p) (h2 : p ≤ e) (hR : R 19 0 = some 20) :
    ip_wc (d + 1) 26 [.ref 19, vi p, vi e] n S R L Q = Q (some (vi (k_num (S 20) (e - p).toNat p 0))) n S R L := by
  have hl := p26l (d := d) (p := p) (Q := Q) (L := L) (S := S) hn h1 hR (e - p).toNat p 0 (by omega) (by omega)
  simp (disch := omega) only [c26, s26_0, s26_1, s26_2, s26_3, ↓reduceIte, Bool.true_eq_false, Bool.false_eq_true, ip_rfS, true_or, or_true, true_and, and_true, Option.toList_some, Option.toList_none, List.cons_append, List.nil_append, ip_fxn, ip_fxi, ip_fxr, ip_fxl, ip_wid, ip_n998, ip_lt900, hl]
end WRD
