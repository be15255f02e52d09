/-! goals drawn: both sides -/
theorem ip_ush9 {z : Int} : 0 ≤ ip_ush z 9 ∧ ip_ush z 9 < 8388608 := by
  have ha : ((Int32.ofInt 9).toUInt32 &&& Int32.toUInt32 31) = 9 := by decide +kernel
  have e : ip_ush z 9 = ((Int32.ofInt z).toUInt32 >>> (9 : UInt32)).toBitVec.toInt := by
    unfold ip_ush
    rw [ha]
    rfl
  have h1 : ((Int32.ofInt z).toUInt32 >>> (9 : UInt32)).toNat = (Int32.ofInt z).toUInt32.toNat / 512 := by
    rw [UInt32.toNat_shiftRight, show (9 : UInt32).toNat % 32 = 9 from rfl, Nat.shiftRight_eq_div_pow]
  have h2 : (Int32.ofInt z).toUInt32.toNat < 4294967296 := UInt32.toNat_lt _
  have h3 : ((Int32.ofInt z).toUInt32 >>> (9 : UInt32)).toBitVec.toNat = (Int32.ofInt z).toUInt32.toNat / 512 := h1
  rw [e, BitVec.toInt_eq_toNat_of_lt (by rw [h3]; omega), h3]
  omega
def a_zn (z : Int) : Int := z * 1103515245 + 12345
def a_zs (z : Int) : Nat → Int
  | 0 => z
  | n + 1 => a_zn (a_zs z n)
def a_zg (z : Int) : Int := ip_rem (ip_ush z 9) 8
theorem a_zgr {z : Int} : 0 ≤ a_zg z ∧ a_zg z < 8 := by
  have := ip_ush9 (z := z)
  unfold a_zg
  rw [ip_rem_id (by omega) (by omega) (by omega) (by omega)]
  omega
/-- the goals with the first p drawn -/
def a_go (z p : Int) (f : Int → Int) : Int → Int := fun q => if 0 ≤ q ∧ q < p then a_zg (a_zs z (q.toNat + 1)) else f q
theorem a_go0 {z : Int} {f : Int → Int} : a_go z 0 f = f := by funext k; exact if_neg (by omega)
theorem a_gou {z : Int} {f : Int → Int} {i : Nat} : ip_u (a_go z i f) i (a_zg (a_zn (a_zs z i))) = a_go z (i + 1) f := by
  funext k
  unfold ip_u a_go
  by_cases c : k = (i : Int)
  · rw [if_pos c, if_pos (by omega), c, Int.toNat_natCast]
    rfl
  · rw [if_neg c]
    by_cases c2 : 0 ≤ k ∧ k < (i : Int)
    · rw [if_pos c2, if_pos (by omega)]
    · rw [if_neg c2, if_neg (by omega)]
theorem a_goo {z z' p p' : Int} {f : Int → Int} (h : p' ≤ p) : a_go z p (a_go z' p' f) = a_go z p f := by
  funext k
  unfold a_go
  split
  · rfl
  · rw [if_neg (by omega)]
def w_gz (W : w_T) (z p : Int) : w_T := (w_kd W, w_nu W, a_go z p (w_go W), w_hr W, w_ro W, w_D W, w_V W)
theorem w_gzk {W : w_T} {z p : Int} (hW : w_ok W) : w_ok (w_gz W z p) := ⟨fun q h0 h1 => ⟨(hW.1 q h0 h1).1, (hW.1 q h0 h1).2.1, by
  show 0 ≤ a_go z p (w_go W) q ∧ a_go z p (w_go W) q < 8
  unfold a_go
  split
  · exact a_zgr
  · exact (hW.1 q h0 h1).2.2⟩, hW.2.1, hW.2.2⟩
theorem w_gzd {W : w_T} {z p : Int} (hG : w_gd W) : w_gd (w_gz W z p) := hG
def a_cn (W : w_T) (z p f b : Int) : Nat → Int → Int → Int
  | 0, _, c => c
  | k + 1, i, c => a_cn W z p f b k (i + 1) (if a_goal (w_gz W (z + i) p) f b 0 = true then c + 1 else c)
theorem a_cnr {W : w_T} {z p f b : Int} : ∀ (k : Nat) (i c : Int), c ≤ a_cn W z p f b k i c ∧ a_cn W z p f b k i c ≤ c + k
  | 0, i, c => by rw [a_cn]; omega
  | k + 1, i, c => by
    rw [a_cn]
    have h1 := a_cnr (W := W) (z := z) (p := p) (f := f) (b := b) k (i + 1) (c + 1)
    have h2 := a_cnr (W := W) (z := z) (p := p) (f := f) (b := b) k (i + 1) c
    split <;> omega
def k_cd (a b : Int) : Nat → Int → Int
  | 0, _ => 1
  | k + 1, d => if 1 < d then (if a % d = 0 ∧ b % d = 0 then d else k_cd a b k (d + -1)) else 1
def y_gc : Nat → Int → Int → Int
  | 0, p, _ => p
  | k + 1, p, q => if q = 0 then p else y_gc k q (p % q)
theorem k_cde : ∀ a : Nat, a < 21 → ∀ b : Nat, b < 21 → 0 < b → (1 ≤ k_cd a b 20 (if (a : Int) < b then b else a) ∧ k_cd a b 20 (if (a : Int) < b then b else a) ≤ 20) ∧ k_cd a b 20 (if (a : Int) < b then b else a) = y_gc 21 a b := by decide +kernel
theorem ip_lr20 : ∀ a : Nat, a < 21 → ∀ b : Nat, b < 21 → 0 < b → ip_lrem a b = (a : Int) % b ∧ ip_ldiv a b = (a : Int) / b := by decide +kernel
theorem k_cdi {a b : Int} (ha : 0 ≤ a ∧ a ≤ 20) (hb : 1 ≤ b ∧ b ≤ 20) : (1 ≤ k_cd a b 20 (if a < b then b else a) ∧ k_cd a b 20 (if a < b then b else a) ≤ 20) ∧ k_cd a b 20 (if a < b then b else a) = y_gc 21 a b := by
  have h := k_cde a.toNat (by omega) b.toNat (by omega) (by omega)
  rwa [Int.toNat_of_nonneg ha.1, Int.toNat_of_nonneg (show 0 ≤ b by omega)] at h
section DRW
variable {d : Nat} {S : ip_S} {R : ip_R} {L : ip_S} {W : w_T} {m : Int}
theorem p110l {a b : Int} (ha : 0 ≤ a ∧ a ≤ 20) (hb : 0 ≤ b ∧ b ≤ 20) {n : Nat} {Q} : ∀ (k : Nat) (e : Int), e ≤ k + 1 → 0 ≤ e → e ≤ 20 → ip_wp d 110 4 [some (vi a), some (vi b), some (vi e)] [] n S R L Q = Q (some (vi (k_cd a b k e))) n S R L
  | 0, e, h, h0, h2 => by
    rw [s110_4]
    simp (disch := omega) only [s110_0, s110_1, s110_2, s110_3, s110_5, s110_6, s110_7, s110_8, s110_9, s110_10, s110_11, s110_12, s110_13, s110_14, s110_15, s110_16, s110_17, s110_18, s110_19, s110_20, ↓reduceIte, Bool.true_eq_false, Bool.false_eq_true, ip_rfS, true_or, or_true, true_and, and_true, Option.toList_some, Option.toList_none, List.cons_append, List.nil_append, ip_fxn, ip_fxi, ip_fxr, ip_fxl, ip_wid, ip_n998, ip_lt900, show ¬ 1 < e by omega, k_cd]
  | k + 1, e, h, h0, h2 => by
    rw [s110_4, k_cd]
    by_cases c : 1 < e
    · have he : (¬ e = 0) = True := eq_true (by omega)
      have ma := Int.emod_nonneg a (show e ≠ 0 by omega)
      have ma2 := Int.emod_lt_of_pos a (show 0 < e by omega)
      have mb := Int.emod_nonneg b (show e ≠ 0 by omega)
      have mb2 := Int.emod_lt_of_pos b (show 0 < e by omega)
      rw [if_pos c]
      by_cases c2 : a % e = 0
      · by_cases c3 : b % e = 0
        · rw [if_pos ⟨c2, c3⟩]
          simp (disch := omega) only [s110_0, s110_1, s110_2, s110_3, s110_5, s110_6, s110_7, s110_8, s110_9, s110_10, s110_11, s110_12, s110_13, s110_14, s110_15, s110_16, s110_17, s110_18, s110_19, s110_20, ↓reduceIte, Bool.true_eq_false, Bool.false_eq_true, ip_rfS, true_or, or_true, true_and, and_true, Option.toList_some, Option.toList_none, List.cons_append, List.nil_append, ip_fxn, ip_fxi, ip_fxr, ip_fxl, ip_wid, ip_n998, ip_lt900, c, ip_rem_id, he, c2, c3]
        · rw [if_neg (fun z => c3 z.2), ← p110l (Q := Q) ha hb k (e + -1) (by omega) (by omega) (by omega)]
          simp (disch := omega) only [s110_0, s110_1, s110_2, s110_3, s110_5, s110_6, s110_7, s110_8, s110_9, s110_10, s110_11, s110_12, s110_13, s110_14, s110_15, s110_16, s110_17, s110_18, s110_19, s110_20, ↓reduceIte, Bool.true_eq_false, Bool.false_eq_true, ip_rfS, true_or, or_true, true_and, and_true, Option.toList_some, Option.toList_none, List.cons_append, List.nil_append, ip_fxn, ip_fxi, ip_fxr, ip_fxl, ip_wid, ip_n998, ip_lt900, c, ip_rem_id, he, c2, c3]
      · rw [if_neg (fun z => c2 z.1), ← p110l (Q := Q) ha hb k (e + -1) (by omega) (by omega) (by omega)]
        simp (disch := omega) only [s110_0, s110_1, s110_2, s110_3, s110_5, s110_6, s110_7, s110_8, s110_9, s110_10, s110_11, s110_12, s110_13, s110_14, s110_15, s110_16, s110_17, s110_18, s110_19, s110_20, ↓reduceIte, Bool.true_eq_false, Bool.false_eq_true, ip_rfS, true_or, or_true, true_and, and_true, Option.toList_some, Option.toList_none, List.cons_append, List.nil_append, ip_fxn, ip_fxi, ip_fxr, ip_fxl, ip_wid, ip_n998, ip_lt900, c, ip_rem_id, he, c2]
    · rw [if_neg c]
      simp (disch := omega) only [s110_0, s110_1, s110_2, s110_3, s110_5, s110_6, s110_7, s110_8, s110_9, s110_10, s110_11, s110_12, s110_13, s110_14, s110_15, s110_16, s110_17, s110_18, s110_19, s110_20, ↓reduceIte, Bool.true_eq_false, Bool.false_eq_true, ip_rfS, true_or, or_true, true_and, and_true, Option.toList_some, Option.toList_none, List.cons_append, List.nil_append, ip_fxn, ip_fxi, ip_fxr, ip_fxl, ip_wid, ip_n998, ip_lt900, c]
theorem p110 {a b : Int} (ha : 0 ≤ a ∧ a ≤ 20) (hb : 0 ≤ b ∧ b ≤ 20) {n : Nat} {Q} : ip_wc (d + 1) 110 [vi a, vi b] n S R L Q = Q (some (vi (k_cd a b 20 (if a < b then b else a)))) n S R L := by
  rw [← p110l (Q := Q) (d := d) ha hb 20 (if a < b then b else a) (by split <;> omega) (by split <;> omega) (by split <;> omega)]
  simp (disch := omega) only [c110, s110_0, s110_1, s110_2, s110_3, ↓reduceIte, Bool.true_eq_false, Bool.false_eq_true, ip_rfS, true_or, or_true, true_and, and_true, Option.toList_some, Option.toList_none, List.cons_append, List.nil_append, ip_fxn, ip_fxi, ip_fxr, ip_fxl, ip_wid, ip_n998, ip_lt900]
theorem p107l {z0 p : Int} (hX : x_RX R) (hp : S 1 7 = p) (hp6 : p ≤ 6) (z : Int) {Q} : ∀ (k i : Nat), (i : Int) + k = p →
    ip_wp d 107 4 [some (.ref 0), some (vi z0), some (vi (a_zs z i)), some (vi (i : Int))] [] 79 (ip_ar S 6 (a_go z i (S 6))) R L Q = Q none 79 (ip_ar S 6 (a_go z p (S 6))) R L
  | 0, i, h => by
    have e1 : ip_ar S 6 (a_go z i (S 6)) 1 = S 1 := m_ar_ne (by omega)
    have e2 : p = (i : Int) := by omega
    rw [s107_4]
    simp (disch := omega) only [s107_0, s107_1, s107_2, s107_3, s107_5, s107_6, s107_7, s107_8, s107_9, s107_10, s107_11, s107_12, s107_13, s107_14, s107_15, s107_16, s107_17, s107_18, s107_19, s107_20, s107_21, s107_22, s107_23, s107_24, s107_25, s107_26, s107_27, ↓reduceIte, Bool.true_eq_false, Bool.false_eq_true, ip_rfS, true_or, or_true, true_and, and_true, Option.toList_some, Option.toList_none, List.cons_append, List.nil_append, ip_fxn, ip_fxi, ip_fxr, ip_fxl, ip_wid, ip_n998, ip_lt900, iO0, iO1, iA2, iA3, iA4, iA5, iA6, iA7, iA8, iO9, iA10, iA11, iA12, iA13, iA14, iA15, iA16, iO17, iA18, iO19, iA20, iA21, iA22, iA23, iO24, iA25, iO26, iA27, iA28, iO29, iA30, iA31, iO32, iA33, iA34, iO35, iA36, iA37, iO38, iA39, iA40, iO41, iA42, iA43, iO44, iA45, iA46, iA47, iA48, iA49, iA50, iA51, iA52, iA53, iO54, iA55, iO56, iA57, iO58, iA59, iO60, iA61, iO62, iA63, iA64, iA65, iA66, iA67, iA68, iA69, iA70, iA71, iA72, iA73, iA74, iA75, iA76, iA77, iA78, iOT, iAT1, iAT2, iOS, iAS, ↓yfx0_0 hX, ↓yfx0_1 hX, ↓yfx0_3 hX, ↓yfx0_4 hX, ↓yfx0_5 hX, ↓yfx0_6 hX, ↓yfx0_7 hX, ↓yfx0_8 hX, ↓yfx0_9 hX, ↓yfx1_0 hX, ↓yfx1_1 hX, ↓yfx1_2 hX, ↓yfx1_3 hX, ↓yfx1_4 hX, ↓yfx1_5 hX, ↓yfx1_6 hX, ↓yfx9_0 hX, ↓yfx9_1 hX, ↓yfx9_2 hX, ↓yfx9_3 hX, ↓yfx9_4 hX, ↓yfx9_5 hX, ↓yfx9_6 hX, ↓yfx17_0 hX, ↓yfx17_1 hX, ↓yfx17_2 hX, ↓yfx17_3 hX, ↓yfx24_0 hX, ↓yfx19_0 hX, ↓yfx19_1 hX, ↓yfx19_2 hX, ↓yfx19_3 hX, ↓yfx18_0 hX, ↓yfx26_0 hX, ↓yfx26_1 hX, ↓yfx18_1 hX, ↓yfx29_0 hX, ↓yfx29_1 hX, ↓yfx18_2 hX, ↓yfx32_0 hX, ↓yfx32_1 hX, ↓yfx18_3 hX, ↓yfx35_0 hX, ↓yfx35_1 hX, ↓yfx18_4 hX, ↓yfx38_0 hX, ↓yfx38_1 hX, ↓yfx18_5 hX, ↓yfx41_0 hX, ↓yfx41_1 hX, ↓yfx44_0 hX, ↓yfx44_1 hX, ↓yfx44_2 hX, ↓yfx44_3 hX, ↓yfx44_4 hX, ↓yfx44_5 hX, ↓yfx49_0 hX, ↓yfx54_0 hX, ↓yfx49_1 hX, ↓yfx56_0 hX, ↓yfx49_2 hX, ↓yfx58_0 hX, ↓yfx49_3 hX, ↓yfx60_0 hX, rx0_0 hX, rx0_1 hX, rx0_3 hX, rx0_4 hX, rx0_5 hX, rx0_6 hX, rx0_7 hX, rx0_8 hX, rx0_9 hX, rx1_0 hX, rx1_1 hX, rx1_2 hX, rx1_3 hX, rx1_4 hX, rx1_5 hX, rx1_6 hX, rx9_0 hX, rx9_1 hX, rx9_2 hX, rx9_3 hX, rx9_4 hX, rx9_5 hX, rx9_6 hX, rx17_0 hX, rx17_1 hX, rx17_2 hX, rx17_3 hX, rx24_0 hX, rx19_0 hX, rx19_1 hX, rx19_2 hX, rx19_3 hX, rx18_0 hX, rx26_0 hX, rx26_1 hX, rx18_1 hX, rx29_0 hX, rx29_1 hX, rx18_2 hX, rx32_0 hX, rx32_1 hX, rx18_3 hX, rx35_0 hX, rx35_1 hX, rx18_4 hX, rx38_0 hX, rx38_1 hX, rx18_5 hX, rx41_0 hX, rx41_1 hX, rx44_0 hX, rx44_1 hX, rx44_2 hX, rx44_3 hX, rx44_4 hX, rx44_5 hX, rx49_0 hX, rx54_0 hX, rx49_1 hX, rx56_0 hX, rx49_2 hX, rx58_0 hX, rx49_3 hX, rx60_0 hX, p45r, k_n1, k_n0, k_n2, ip_r0, ip_r1, e1, hp, e2, Int.lt_irrefl]
  | k + 1, i, h => by
    have e1 : ip_ar S 6 (a_go z i (S 6)) 1 = S 1 := m_ar_ne (by omega)
    have h8 : (¬ (8 : Int) = 0) = True := eq_true (by omega)
    have r := a_zgr (z := a_zn (a_zs z i))
    have e3 : ip_w (a_zg (a_zn (a_zs z i))) = a_zg (a_zn (a_zs z i)) := ip_wid (by omega) (by omega)
    have ih := p107l (z0 := z0) hX hp hp6 z (Q := Q) k (i + 1) (by omega)
    rw [Int.natCast_add, Int.cast_ofNat_Int, ← a_gou, ← ip_up_ar, show a_zs z (i + 1) = a_zs z i * 1103515245 + 12345 from rfl] at ih
    unfold a_zg a_zn at ih e3
    rw [← ih, s107_4]
    simp (disch := omega) only [s107_0, s107_1, s107_2, s107_3, s107_5, s107_6, s107_7, s107_8, s107_9, s107_10, s107_11, s107_12, s107_13, s107_14, s107_15, s107_16, s107_17, s107_18, s107_19, s107_20, s107_21, s107_22, s107_23, s107_24, s107_25, s107_26, s107_27, ↓reduceIte, Bool.true_eq_false, Bool.false_eq_true, ip_rfS, true_or, or_true, true_and, and_true, Option.toList_some, Option.toList_none, List.cons_append, List.nil_append, ip_fxn, ip_fxi, ip_fxr, ip_fxl, ip_wid, ip_n998, ip_lt900, iO0, iO1, iA2, iA3, iA4, iA5, iA6, iA7, iA8, iO9, iA10, iA11, iA12, iA13, iA14, iA15, iA16, iO17, iA18, iO19, iA20, iA21, iA22, iA23, iO24, iA25, iO26, iA27, iA28, iO29, iA30, iA31, iO32, iA33, iA34, iO35, iA36, iA37, iO38, iA39, iA40, iO41, iA42, iA43, iO44, iA45, iA46, iA47, iA48, iA49, iA50, iA51, iA52, iA53, iO54, iA55, iO56, iA57, iO58, iA59, iO60, iA61, iO62, iA63, iA64, iA65, iA66, iA67, iA68, iA69, iA70, iA71, iA72, iA73, iA74, iA75, iA76, iA77, iA78, iOT, iAT1, iAT2, iOS, iAS, ↓yfx0_0 hX, ↓yfx0_1 hX, ↓yfx0_3 hX, ↓yfx0_4 hX, ↓yfx0_5 hX, ↓yfx0_6 hX, ↓yfx0_7 hX, ↓yfx0_8 hX, ↓yfx0_9 hX, ↓yfx1_0 hX, ↓yfx1_1 hX, ↓yfx1_2 hX, ↓yfx1_3 hX, ↓yfx1_4 hX, ↓yfx1_5 hX, ↓yfx1_6 hX, ↓yfx9_0 hX, ↓yfx9_1 hX, ↓yfx9_2 hX, ↓yfx9_3 hX, ↓yfx9_4 hX, ↓yfx9_5 hX, ↓yfx9_6 hX, ↓yfx17_0 hX, ↓yfx17_1 hX, ↓yfx17_2 hX, ↓yfx17_3 hX, ↓yfx24_0 hX, ↓yfx19_0 hX, ↓yfx19_1 hX, ↓yfx19_2 hX, ↓yfx19_3 hX, ↓yfx18_0 hX, ↓yfx26_0 hX, ↓yfx26_1 hX, ↓yfx18_1 hX, ↓yfx29_0 hX, ↓yfx29_1 hX, ↓yfx18_2 hX, ↓yfx32_0 hX, ↓yfx32_1 hX, ↓yfx18_3 hX, ↓yfx35_0 hX, ↓yfx35_1 hX, ↓yfx18_4 hX, ↓yfx38_0 hX, ↓yfx38_1 hX, ↓yfx18_5 hX, ↓yfx41_0 hX, ↓yfx41_1 hX, ↓yfx44_0 hX, ↓yfx44_1 hX, ↓yfx44_2 hX, ↓yfx44_3 hX, ↓yfx44_4 hX, ↓yfx44_5 hX, ↓yfx49_0 hX, ↓yfx54_0 hX, ↓yfx49_1 hX, ↓yfx56_0 hX, ↓yfx49_2 hX, ↓yfx58_0 hX, ↓yfx49_3 hX, ↓yfx60_0 hX, rx0_0 hX, rx0_1 hX, rx0_3 hX, rx0_4 hX, rx0_5 hX, rx0_6 hX, rx0_7 hX, rx0_8 hX, rx0_9 hX, rx1_0 hX, rx1_1 hX, rx1_2 hX, rx1_3 hX, rx1_4 hX, rx1_5 hX, rx1_6 hX, rx9_0 hX, rx9_1 hX, rx9_2 hX, rx9_3 hX, rx9_4 hX, rx9_5 hX, rx9_6 hX, rx17_0 hX, rx17_1 hX, rx17_2 hX, rx17_3 hX, rx24_0 hX, rx19_0 hX, rx19_1 hX, rx19_2 hX, rx19_3 hX, rx18_0 hX, rx26_0 hX, rx26_1 hX, rx18_1 hX, rx29_0 hX, rx29_1 hX, rx18_2 hX, rx32_0 hX, rx32_1 hX, rx18_3 hX, rx35_0 hX, rx35_1 hX, rx18_4 hX, rx38_0 hX, rx38_1 hX, rx18_5 hX, rx41_0 hX, rx41_1 hX, rx44_0 hX, rx44_1 hX, rx44_2 hX, rx44_3 hX, rx44_4 hX, rx44_5 hX, rx49_0 hX, rx54_0 hX, rx49_1 hX, rx56_0 hX, rx49_2 hX, rx58_0 hX, rx49_3 hX, rx60_0 hX, p45r, k_n1, k_n0, k_n2, ip_r0, ip_r1, e1, hp, show (i : Int) < p by omega, h8, e3]
theorem p107 {z p : Int} (hX : x_RX R) (hp : S 1 7 = p) (hp0 : 0 ≤ p) (hp6 : p ≤ 6) {Q} : ip_wc (d + 1) 107 [.ref 0, vi z] 79 S R L Q = Q none 79 (ip_ar S 6 (a_go z p (S 6))) R L := by
  have h := p107l (d := d) (S := S) (L := L) (z0 := z) hX hp hp6 z (Q := Q) p.toNat 0 (by omega)
  rw [Int.cast_ofNat_Int, a_go0, ip_ar_self, a_zs] at h
  rw [← h]
  simp (disch := omega) only [c107, s107_0, s107_1, s107_2, s107_3, ↓reduceIte, Bool.true_eq_false, Bool.false_eq_true, ip_rfS, true_or, or_true, true_and, and_true, Option.toList_some, Option.toList_none, List.cons_append, List.nil_append, ip_fxn, ip_fxi, ip_fxr, ip_fxl, ip_wid, ip_n998, ip_lt900, iO0, iO1, iA2, iA3, iA4, iA5, iA6, iA7, iA8, iO9, iA10, iA11, iA12, iA13, iA14, iA15, iA16, iO17, iA18, iO19, iA20, iA21, iA22, iA23, iO24, iA25, iO26, iA27, iA28, iO29, iA30, iA31, iO32, iA33, iA34, iO35, iA36, iA37, iO38, iA39, iA40, iO41, iA42, iA43, iO44, iA45, iA46, iA47, iA48, iA49, iA50, iA51, iA52, iA53, iO54, iA55, iO56, iA57, iO58, iA59, iO60, iA61, iO62, iA63, iA64, iA65, iA66, iA67, iA68, iA69, iA70, iA71, iA72, iA73, iA74, iA75, iA76, iA77, iA78, iOT, iAT1, iAT2, iOS, iAS, ↓yfx0_0 hX, ↓yfx0_1 hX, ↓yfx0_3 hX, ↓yfx0_4 hX, ↓yfx0_5 hX, ↓yfx0_6 hX, ↓yfx0_7 hX, ↓yfx0_8 hX, ↓yfx0_9 hX, ↓yfx1_0 hX, ↓yfx1_1 hX, ↓yfx1_2 hX, ↓yfx1_3 hX, ↓yfx1_4 hX, ↓yfx1_5 hX, ↓yfx1_6 hX, ↓yfx9_0 hX, ↓yfx9_1 hX, ↓yfx9_2 hX, ↓yfx9_3 hX, ↓yfx9_4 hX, ↓yfx9_5 hX, ↓yfx9_6 hX, ↓yfx17_0 hX, ↓yfx17_1 hX, ↓yfx17_2 hX, ↓yfx17_3 hX, ↓yfx24_0 hX, ↓yfx19_0 hX, ↓yfx19_1 hX, ↓yfx19_2 hX, ↓yfx19_3 hX, ↓yfx18_0 hX, ↓yfx26_0 hX, ↓yfx26_1 hX, ↓yfx18_1 hX, ↓yfx29_0 hX, ↓yfx29_1 hX, ↓yfx18_2 hX, ↓yfx32_0 hX, ↓yfx32_1 hX, ↓yfx18_3 hX, ↓yfx35_0 hX, ↓yfx35_1 hX, ↓yfx18_4 hX, ↓yfx38_0 hX, ↓yfx38_1 hX, ↓yfx18_5 hX, ↓yfx41_0 hX, ↓yfx41_1 hX, ↓yfx44_0 hX, ↓yfx44_1 hX, ↓yfx44_2 hX, ↓yfx44_3 hX, ↓yfx44_4 hX, ↓yfx44_5 hX, ↓yfx49_0 hX, ↓yfx54_0 hX, ↓yfx49_1 hX, ↓yfx56_0 hX, ↓yfx49_2 hX, ↓yfx58_0 hX, ↓yfx49_3 hX, ↓yfx60_0 hX, rx0_0 hX, rx0_1 hX, rx0_3 hX, rx0_4 hX, rx0_5 hX, rx0_6 hX, rx0_7 hX, rx0_8 hX, rx0_9 hX, rx1_0 hX, rx1_1 hX, rx1_2 hX, rx1_3 hX, rx1_4 hX, rx1_5 hX, rx1_6 hX, rx9_0 hX, rx9_1 hX, rx9_2 hX, rx9_3 hX, rx9_4 hX, rx9_5 hX, rx9_6 hX, rx17_0 hX, rx17_1 hX, rx17_2 hX, rx17_3 hX, rx24_0 hX, rx19_0 hX, rx19_1 hX, rx19_2 hX, rx19_3 hX, rx18_0 hX, rx26_0 hX, rx26_1 hX, rx18_1 hX, rx29_0 hX, rx29_1 hX, rx18_2 hX, rx32_0 hX, rx32_1 hX, rx18_3 hX, rx35_0 hX, rx35_1 hX, rx18_4 hX, rx38_0 hX, rx38_1 hX, rx18_5 hX, rx41_0 hX, rx41_1 hX, rx44_0 hX, rx44_1 hX, rx44_2 hX, rx44_3 hX, rx44_4 hX, rx44_5 hX, rx49_0 hX, rx54_0 hX, rx49_1 hX, rx56_0 hX, rx49_2 hX, rx58_0 hX, rx49_3 hX, rx60_0 hX, p45r, k_n1, k_n0, k_n2, ip_r0, ip_r1]
theorem x_gzW {z p : Int} : w_X (ip_ar S 6 (a_go z p (S 6))) = w_gz (w_X S) z p := by
  unfold w_X w_gz w_kd w_nu w_go w_hr w_ro w_D w_V
  simp (disch := omega) only [m_ar_eq, m_ar_ne]
theorem x_gzJ {z p : Int} (hJ : x_J S) : x_J (ip_ar S 6 (a_go z p (S 6))) := by
  obtain ⟨j1, j2, j3, j4, j5, j6, j7, j8⟩ := hJ
  unfold x_J
  simp (disch := omega) only [m_ar_eq, m_ar_ne]
  refine ⟨j1, j2, j3, j4, fun q h0 h1 => ?_, j6, j7, j8⟩
  unfold a_go
  split
  · exact a_zgr
  · exact j5 q h0 h1
theorem ip_cpc {a b c : Nat} {s t n : Int} (h : c ≠ b) : ip_cp S a s b t n c = S c := by funext k; exact if_neg (by omega)
theorem kZ6r : ((ip_kd 6).2 : Int) = 6 := rfl
theorem kZ50 : ((ip_kd 50).2 : Int) = 6 := rfl
theorem p106 (hX : x_RX R) {Q} : ip_wc (d + 1) 106 [.ref 0] 79 S R L Q = Q none 79 (ip_cp S 6 0 50 0 6) R L := by
  simp (disch := omega) only [c106, s106_0, s106_1, s106_2, s106_3, s106_4, s106_5, s106_6, s106_7, s106_8, s106_9, ↓reduceIte, Bool.true_eq_false, Bool.false_eq_true, ip_rfS, true_or, or_true, true_and, and_true, Option.toList_some, Option.toList_none, List.cons_append, List.nil_append, ip_fxn, ip_fxi, ip_fxr, ip_fxl, ip_wid, ip_n998, ip_lt900, iO0, iO1, iA2, iA3, iA4, iA5, iA6, iA7, iA8, iO9, iA10, iA11, iA12, iA13, iA14, iA15, iA16, iO17, iA18, iO19, iA20, iA21, iA22, iA23, iO24, iA25, iO26, iA27, iA28, iO29, iA30, iA31, iO32, iA33, iA34, iO35, iA36, iA37, iO38, iA39, iA40, iO41, iA42, iA43, iO44, iA45, iA46, iA47, iA48, iA49, iA50, iA51, iA52, iA53, iO54, iA55, iO56, iA57, iO58, iA59, iO60, iA61, iO62, iA63, iA64, iA65, iA66, iA67, iA68, iA69, iA70, iA71, iA72, iA73, iA74, iA75, iA76, iA77, iA78, iOT, iAT1, iAT2, iOS, iAS, ↓yfx0_0 hX, ↓yfx0_1 hX, ↓yfx0_3 hX, ↓yfx0_4 hX, ↓yfx0_5 hX, ↓yfx0_6 hX, ↓yfx0_7 hX, ↓yfx0_8 hX, ↓yfx0_9 hX, ↓yfx1_0 hX, ↓yfx1_1 hX, ↓yfx1_2 hX, ↓yfx1_3 hX, ↓yfx1_4 hX, ↓yfx1_5 hX, ↓yfx1_6 hX, ↓yfx9_0 hX, ↓yfx9_1 hX, ↓yfx9_2 hX, ↓yfx9_3 hX, ↓yfx9_4 hX, ↓yfx9_5 hX, ↓yfx9_6 hX, ↓yfx17_0 hX, ↓yfx17_1 hX, ↓yfx17_2 hX, ↓yfx17_3 hX, ↓yfx24_0 hX, ↓yfx19_0 hX, ↓yfx19_1 hX, ↓yfx19_2 hX, ↓yfx19_3 hX, ↓yfx18_0 hX, ↓yfx26_0 hX, ↓yfx26_1 hX, ↓yfx18_1 hX, ↓yfx29_0 hX, ↓yfx29_1 hX, ↓yfx18_2 hX, ↓yfx32_0 hX, ↓yfx32_1 hX, ↓yfx18_3 hX, ↓yfx35_0 hX, ↓yfx35_1 hX, ↓yfx18_4 hX, ↓yfx38_0 hX, ↓yfx38_1 hX, ↓yfx18_5 hX, ↓yfx41_0 hX, ↓yfx41_1 hX, ↓yfx44_0 hX, ↓yfx44_1 hX, ↓yfx44_2 hX, ↓yfx44_3 hX, ↓yfx44_4 hX, ↓yfx44_5 hX, ↓yfx49_0 hX, ↓yfx54_0 hX, ↓yfx49_1 hX, ↓yfx56_0 hX, ↓yfx49_2 hX, ↓yfx58_0 hX, ↓yfx49_3 hX, ↓yfx60_0 hX, rx0_0 hX, rx0_1 hX, rx0_3 hX, rx0_4 hX, rx0_5 hX, rx0_6 hX, rx0_7 hX, rx0_8 hX, rx0_9 hX, rx1_0 hX, rx1_1 hX, rx1_2 hX, rx1_3 hX, rx1_4 hX, rx1_5 hX, rx1_6 hX, rx9_0 hX, rx9_1 hX, rx9_2 hX, rx9_3 hX, rx9_4 hX, rx9_5 hX, rx9_6 hX, rx17_0 hX, rx17_1 hX, rx17_2 hX, rx17_3 hX, rx24_0 hX, rx19_0 hX, rx19_1 hX, rx19_2 hX, rx19_3 hX, rx18_0 hX, rx26_0 hX, rx26_1 hX, rx18_1 hX, rx29_0 hX, rx29_1 hX, rx18_2 hX, rx32_0 hX, rx32_1 hX, rx18_3 hX, rx35_0 hX, rx35_1 hX, rx18_4 hX, rx38_0 hX, rx38_1 hX, rx18_5 hX, rx41_0 hX, rx41_1 hX, rx44_0 hX, rx44_1 hX, rx44_2 hX, rx44_3 hX, rx44_4 hX, rx44_5 hX, rx49_0 hX, rx54_0 hX, rx49_1 hX, rx56_0 hX, rx49_2 hX, rx58_0 hX, rx49_3 hX, rx60_0 hX, p45r, k_n1, k_n0, k_n2, ip_r0, ip_r1, kZ6r, kZ50, show (0 : Int) + 6 ≤ 6 by omega, Nat.le_refl, Int.le_refl, show ((0 : Int) ≤ 6) = True from eq_true (by omega)]
theorem p108 (hX : x_RX R) {Q} : ip_wc (d + 1) 108 [.ref 0] 79 S R L Q = Q none 79 (ip_cp S 50 0 6 0 6) R L := by
  simp (disch := omega) only [c108, s108_0, s108_1, s108_2, s108_3, s108_4, s108_5, s108_6, s108_7, s108_8, s108_9, ↓reduceIte, Bool.true_eq_false, Bool.false_eq_true, ip_rfS, true_or, or_true, true_and, and_true, Option.toList_some, Option.toList_none, List.cons_append, List.nil_append, ip_fxn, ip_fxi, ip_fxr, ip_fxl, ip_wid, ip_n998, ip_lt900, iO0, iO1, iA2, iA3, iA4, iA5, iA6, iA7, iA8, iO9, iA10, iA11, iA12, iA13, iA14, iA15, iA16, iO17, iA18, iO19, iA20, iA21, iA22, iA23, iO24, iA25, iO26, iA27, iA28, iO29, iA30, iA31, iO32, iA33, iA34, iO35, iA36, iA37, iO38, iA39, iA40, iO41, iA42, iA43, iO44, iA45, iA46, iA47, iA48, iA49, iA50, iA51, iA52, iA53, iO54, iA55, iO56, iA57, iO58, iA59, iO60, iA61, iO62, iA63, iA64, iA65, iA66, iA67, iA68, iA69, iA70, iA71, iA72, iA73, iA74, iA75, iA76, iA77, iA78, iOT, iAT1, iAT2, iOS, iAS, ↓yfx0_0 hX, ↓yfx0_1 hX, ↓yfx0_3 hX, ↓yfx0_4 hX, ↓yfx0_5 hX, ↓yfx0_6 hX, ↓yfx0_7 hX, ↓yfx0_8 hX, ↓yfx0_9 hX, ↓yfx1_0 hX, ↓yfx1_1 hX, ↓yfx1_2 hX, ↓yfx1_3 hX, ↓yfx1_4 hX, ↓yfx1_5 hX, ↓yfx1_6 hX, ↓yfx9_0 hX, ↓yfx9_1 hX, ↓yfx9_2 hX, ↓yfx9_3 hX, ↓yfx9_4 hX, ↓yfx9_5 hX, ↓yfx9_6 hX, ↓yfx17_0 hX, ↓yfx17_1 hX, ↓yfx17_2 hX, ↓yfx17_3 hX, ↓yfx24_0 hX, ↓yfx19_0 hX, ↓yfx19_1 hX, ↓yfx19_2 hX, ↓yfx19_3 hX, ↓yfx18_0 hX, ↓yfx26_0 hX, ↓yfx26_1 hX, ↓yfx18_1 hX, ↓yfx29_0 hX, ↓yfx29_1 hX, ↓yfx18_2 hX, ↓yfx32_0 hX, ↓yfx32_1 hX, ↓yfx18_3 hX, ↓yfx35_0 hX, ↓yfx35_1 hX, ↓yfx18_4 hX, ↓yfx38_0 hX, ↓yfx38_1 hX, ↓yfx18_5 hX, ↓yfx41_0 hX, ↓yfx41_1 hX, ↓yfx44_0 hX, ↓yfx44_1 hX, ↓yfx44_2 hX, ↓yfx44_3 hX, ↓yfx44_4 hX, ↓yfx44_5 hX, ↓yfx49_0 hX, ↓yfx54_0 hX, ↓yfx49_1 hX, ↓yfx56_0 hX, ↓yfx49_2 hX, ↓yfx58_0 hX, ↓yfx49_3 hX, ↓yfx60_0 hX, rx0_0 hX, rx0_1 hX, rx0_3 hX, rx0_4 hX, rx0_5 hX, rx0_6 hX, rx0_7 hX, rx0_8 hX, rx0_9 hX, rx1_0 hX, rx1_1 hX, rx1_2 hX, rx1_3 hX, rx1_4 hX, rx1_5 hX, rx1_6 hX, rx9_0 hX, rx9_1 hX, rx9_2 hX, rx9_3 hX, rx9_4 hX, rx9_5 hX, rx9_6 hX, rx17_0 hX, rx17_1 hX, rx17_2 hX, rx17_3 hX, rx24_0 hX, rx19_0 hX, rx19_1 hX, rx19_2 hX, rx19_3 hX, rx18_0 hX, rx26_0 hX, rx26_1 hX, rx18_1 hX, rx29_0 hX, rx29_1 hX, rx18_2 hX, rx32_0 hX, rx32_1 hX, rx18_3 hX, rx35_0 hX, rx35_1 hX, rx18_4 hX, rx38_0 hX, rx38_1 hX, rx18_5 hX, rx41_0 hX, rx41_1 hX, rx44_0 hX, rx44_1 hX, rx44_2 hX, rx44_3 hX, rx44_4 hX, rx44_5 hX, rx49_0 hX, rx54_0 hX, rx49_1 hX, rx56_0 hX, rx49_2 hX, rx58_0 hX, rx49_3 hX, rx60_0 hX, p45r, k_n1, k_n0, k_n2, ip_r0, ip_r1, kZ6r, kZ50, show (0 : Int) + 6 ≤ 6 by omega, Nat.le_refl, Int.le_refl, show ((0 : Int) ≤ 6) = True from eq_true (by omega)]
/-- the state while goals are drawn: cell 50 holds the goals, 6 the drawn -/
def x_dw (z p : Int) (S S1 : ip_S) : Prop := x_fr (ip_ar (ip_cp S 6 0 50 0 6) 6 (a_go z p (S 6))) S1
theorem x_dwb {z p : Int} {S1 : ip_S} (hp : p ≤ 6) (h : x_dw z p S S1) : x_g S (ip_cp S1 50 0 6 0 6) := by
  have h50 := h 50 (by omega) (by omega) (by omega) (by omega) (by omega) (by omega)
  have h6 := h 6 (by omega) (by omega) (by omega) (by omega) (by omega) (by omega)
  have h7 := h 7 (by omega) (by omega) (by omega) (by omega) (by omega) (by omega)
  rw [m_ar_ne (by omega)] at h50 h7
  rw [m_ar_eq] at h6
  rw [ip_cpc (by omega)] at h7
  refine ⟨fun b a0 a1 a2 a3 a4 a5 a6 a7 a8 a9 a10 => ?_, fun hr q h0 h1 => ?_⟩
  · by_cases c : b = 6
    · subst c
      funext k
      unfold ip_cp
      by_cases c2 : 0 ≤ k ∧ k < 0 + 6
      · rw [if_pos ⟨rfl, c2⟩, h50]
        unfold ip_cp
        rw [if_pos ⟨rfl, by omega⟩]
        congr 1
        omega
      · rw [if_neg (fun z => c2 z.2), h6]
        exact if_neg (by omega)
    · rw [ip_cpc c, h b a1 a2 a3 a4 a5 a6, m_ar_ne c, ip_cpc (by omega)]
  · rw [ip_cpc (by omega), h7]
    exact hr q h0 h1
theorem x_dwW {z p : Int} {S1 : ip_S} (hJ : x_J S) (h : x_dw z p S S1) : w_X S1 = w_gz (w_X S) z p ∧ x_J S1 ∧ S1 1 = S 1 := by
  have e : w_X (ip_cp S 6 0 50 0 6) = w_X S := by
    unfold w_X
    simp (disch := omega) only [ip_cpc]
  have eJ : x_J (ip_cp S 6 0 50 0 6) := by
    unfold x_J
    simp (disch := omega) only [ip_cpc]
    exact hJ
  have e6 : (ip_cp S 6 0 50 0 6) 6 = S 6 := ip_cpc (by omega)
  unfold x_dw at h
  rw [← e6] at h
  have J2 := x_gzJ (S := ip_cp S 6 0 50 0 6) (z := z) (p := p) eJ
  refine ⟨?_, x_fr_J h J2, ?_⟩
  · rw [x_fr_W h J2, x_gzW, e]
  · rw [h 1 (by omega) (by omega) (by omega) (by omega) (by omega) (by omega), m_ar_ne (by omega), ip_cpc (by omega)]
theorem x_dwn {z z' p p' : Int} {S1 : ip_S} (hpp : p' ≤ p) (h : x_dw z p' S S1) : x_dw z' p S (ip_ar S1 6 (a_go z' p (S1 6))) := by
  have h6 := h 6 (by omega) (by omega) (by omega) (by omega) (by omega) (by omega)
  rw [m_ar_eq] at h6
  intro b a1 a2 a3 a4 a5 a6
  by_cases c : b = 6
  · subst c
    rw [m_ar_eq, m_ar_eq, h6, a_goo hpp]
  · rw [m_ar_ne c, m_ar_ne c, h b a1 a2 a3 a4 a5 a6, m_ar_ne c]
theorem x105r {z t a p : Int} (hX : x_RX R) (hJ : x_J S) (hp : S 1 7 = p) (hp0 : 0 ≤ p) (hp6 : p ≤ 6) (ht : 0 ≤ t ∧ t < 100) (hf : 0 ≤ t / 10 ∧ t / 10 < 6) (hb : 0 ≤ t % 10 ∧ t % 10 < 6) (ha : 0 ≤ a ∧ a < 8) :
    ∃ S', x_g S S' ∧ ∀ Q, ip_wp (d + 5) 105 10 [some (.ref 0), some (vi z), some (vi t), some (vi a), none] [] 79 S R L Q = Q (some (vi (w_rz (w_gz (w_X S) z p) (t / 10) (t % 10) a).2.2.1)) 79 S' R L := by
  have h10 : (¬ (10 : Int) = 0) = True := eq_true (by omega)
  have e6 : (ip_cp S 6 0 50 0 6) 6 = S 6 := ip_cpc (by omega)
  have e1 : (ip_cp S 6 0 50 0 6) 1 = S 1 := ip_cpc (by omega)
  have k106 := fun Q' => p106 (d := d + 4) (S := S) (L := L) (Q := Q') hX
  have k107 := fun Q' => p107 (d := d + 4) (S := ip_cp S 6 0 50 0 6) (L := L) (z := z) (p := p) (Q := Q') hX (by rw [e1]; exact hp) hp0 hp6
  rw [e6] at k107
  have h1 : x_dw z p S (ip_ar (ip_cp S 6 0 50 0 6) 6 (a_go z p (S 6))) := x_fr_r
  obtain ⟨w1, J1, -⟩ := x_dwW hJ h1
  obtain ⟨S2, f2, -, k2⟩ := x75 (d := d) (L := L) (f := t / 10) (b := t % 10) (a := a) hX J1 hf hb ha
  rw [w1] at k2
  have h2 : x_dw z p S S2 := x_fr_t h1 f2
  have k108 := fun Q' => p108 (d := d + 4) (S := S2) (L := L) (Q := Q') hX
  refine ⟨_, x_dwb hp6 h2, fun Q => ?_⟩
  simp (disch := omega) only [s105_10, s105_11, s105_12, s105_13, s105_14, s105_15, s105_16, s105_17, s105_18, s105_19, s105_20, s105_21, s105_22, s105_23, s105_24, s105_25, s105_26, s105_27, s105_28, s105_29, ↓reduceIte, Bool.true_eq_false, Bool.false_eq_true, ip_rfS, true_or, or_true, true_and, and_true, Option.toList_some, Option.toList_none, List.cons_append, List.nil_append, ip_fxn, ip_fxi, ip_fxr, ip_fxl, ip_wid, ip_n998, ip_lt900, iO0, iO1, iA2, iA3, iA4, iA5, iA6, iA7, iA8, iO9, iA10, iA11, iA12, iA13, iA14, iA15, iA16, iO17, iA18, iO19, iA20, iA21, iA22, iA23, iO24, iA25, iO26, iA27, iA28, iO29, iA30, iA31, iO32, iA33, iA34, iO35, iA36, iA37, iO38, iA39, iA40, iO41, iA42, iA43, iO44, iA45, iA46, iA47, iA48, iA49, iA50, iA51, iA52, iA53, iO54, iA55, iO56, iA57, iO58, iA59, iO60, iA61, iO62, iA63, iA64, iA65, iA66, iA67, iA68, iA69, iA70, iA71, iA72, iA73, iA74, iA75, iA76, iA77, iA78, iOT, iAT1, iAT2, iOS, iAS, ↓yfx0_0 hX, ↓yfx0_1 hX, ↓yfx0_3 hX, ↓yfx0_4 hX, ↓yfx0_5 hX, ↓yfx0_6 hX, ↓yfx0_7 hX, ↓yfx0_8 hX, ↓yfx0_9 hX, ↓yfx1_0 hX, ↓yfx1_1 hX, ↓yfx1_2 hX, ↓yfx1_3 hX, ↓yfx1_4 hX, ↓yfx1_5 hX, ↓yfx1_6 hX, ↓yfx9_0 hX, ↓yfx9_1 hX, ↓yfx9_2 hX, ↓yfx9_3 hX, ↓yfx9_4 hX, ↓yfx9_5 hX, ↓yfx9_6 hX, ↓yfx17_0 hX, ↓yfx17_1 hX, ↓yfx17_2 hX, ↓yfx17_3 hX, ↓yfx24_0 hX, ↓yfx19_0 hX, ↓yfx19_1 hX, ↓yfx19_2 hX, ↓yfx19_3 hX, ↓yfx18_0 hX, ↓yfx26_0 hX, ↓yfx26_1 hX, ↓yfx18_1 hX, ↓yfx29_0 hX, ↓yfx29_1 hX, ↓yfx18_2 hX, ↓yfx32_0 hX, ↓yfx32_1 hX, ↓yfx18_3 hX, ↓yfx35_0 hX, ↓yfx35_1 hX, ↓yfx18_4 hX, ↓yfx38_0 hX, ↓yfx38_1 hX, ↓yfx18_5 hX, ↓yfx41_0 hX, ↓yfx41_1 hX, ↓yfx44_0 hX, ↓yfx44_1 hX, ↓yfx44_2 hX, ↓yfx44_3 hX, ↓yfx44_4 hX, ↓yfx44_5 hX, ↓yfx49_0 hX, ↓yfx54_0 hX, ↓yfx49_1 hX, ↓yfx56_0 hX, ↓yfx49_2 hX, ↓yfx58_0 hX, ↓yfx49_3 hX, ↓yfx60_0 hX, rx0_0 hX, rx0_1 hX, rx0_3 hX, rx0_4 hX, rx0_5 hX, rx0_6 hX, rx0_7 hX, rx0_8 hX, rx0_9 hX, rx1_0 hX, rx1_1 hX, rx1_2 hX, rx1_3 hX, rx1_4 hX, rx1_5 hX, rx1_6 hX, rx9_0 hX, rx9_1 hX, rx9_2 hX, rx9_3 hX, rx9_4 hX, rx9_5 hX, rx9_6 hX, rx17_0 hX, rx17_1 hX, rx17_2 hX, rx17_3 hX, rx24_0 hX, rx19_0 hX, rx19_1 hX, rx19_2 hX, rx19_3 hX, rx18_0 hX, rx26_0 hX, rx26_1 hX, rx18_1 hX, rx29_0 hX, rx29_1 hX, rx18_2 hX, rx32_0 hX, rx32_1 hX, rx18_3 hX, rx35_0 hX, rx35_1 hX, rx18_4 hX, rx38_0 hX, rx38_1 hX, rx18_5 hX, rx41_0 hX, rx41_1 hX, rx44_0 hX, rx44_1 hX, rx44_2 hX, rx44_3 hX, rx44_4 hX, rx44_5 hX, rx49_0 hX, rx54_0 hX, rx49_1 hX, rx56_0 hX, rx49_2 hX, rx58_0 hX, rx49_3 hX, rx60_0 hX, p45r, k_n1, k_n0, k_n2, ip_r0, ip_r1, ip_div_id, ip_rem_id, h10, k106, k107, k2, k108]
theorem x109l {z t w p q : Int} (hX : x_RX R) (hJ : x_J S) (hp : S 1 7 = p) (hp0 : 0 ≤ p) (hp6 : p ≤ 6) (hq : q ≤ 20) (ht : 0 ≤ t ∧ t < 100) (hf : 0 ≤ t / 10 ∧ t / 10 < 6) (hb : 0 ≤ t % 10 ∧ t % 10 < 6) : ∀ (k : Nat) (i c y p1 : Int) (S1 : ip_S), i + k = q → 0 ≤ i → p1 ≤ p → x_dw y p1 S S1 →
    ∃ S' y' p', p' ≤ p ∧ x_dw y' p' S S' ∧ ∀ Q, ip_wp (d + 6) 109 22 [some (.ref 0), some (vi z), some (vi q), some (vi t), some (vi w), some (vi c), some (vi i)] [] 79 S1 R L Q = ip_wp (d + 6) 109 43 [some (.ref 0), some (vi z), some (vi q), some (vi t), some (vi w), some (vi (a_cn (w_X S) z p (t / 10) (t % 10) k i c)), some (vi q)] [] 79 S' R L Q
  | 0, i, c, y, p1, S1, h, hi, hp1, h1 => by
    obtain rfl : i = q := by omega
    refine ⟨S1, y, p1, hp1, h1, fun Q => ?_⟩
    rw [s109_22]
    simp (disch := omega) only [s109_23, s109_24, s109_25, s109_26, s109_27, s109_28, s109_29, s109_30, s109_31, s109_32, s109_33, s109_34, s109_35, s109_36, s109_37, s109_38, s109_39, s109_40, s109_41, s109_42, ↓reduceIte, Bool.true_eq_false, Bool.false_eq_true, ip_rfS, true_or, or_true, true_and, and_true, Option.toList_some, Option.toList_none, List.cons_append, List.nil_append, ip_fxn, ip_fxi, ip_fxr, ip_fxl, ip_wid, ip_n998, ip_lt900, iO0, iO1, iA2, iA3, iA4, iA5, iA6, iA7, iA8, iO9, iA10, iA11, iA12, iA13, iA14, iA15, iA16, iO17, iA18, iO19, iA20, iA21, iA22, iA23, iO24, iA25, iO26, iA27, iA28, iO29, iA30, iA31, iO32, iA33, iA34, iO35, iA36, iA37, iO38, iA39, iA40, iO41, iA42, iA43, iO44, iA45, iA46, iA47, iA48, iA49, iA50, iA51, iA52, iA53, iO54, iA55, iO56, iA57, iO58, iA59, iO60, iA61, iO62, iA63, iA64, iA65, iA66, iA67, iA68, iA69, iA70, iA71, iA72, iA73, iA74, iA75, iA76, iA77, iA78, iOT, iAT1, iAT2, iOS, iAS, ↓yfx0_0 hX, ↓yfx0_1 hX, ↓yfx0_3 hX, ↓yfx0_4 hX, ↓yfx0_5 hX, ↓yfx0_6 hX, ↓yfx0_7 hX, ↓yfx0_8 hX, ↓yfx0_9 hX, ↓yfx1_0 hX, ↓yfx1_1 hX, ↓yfx1_2 hX, ↓yfx1_3 hX, ↓yfx1_4 hX, ↓yfx1_5 hX, ↓yfx1_6 hX, ↓yfx9_0 hX, ↓yfx9_1 hX, ↓yfx9_2 hX, ↓yfx9_3 hX, ↓yfx9_4 hX, ↓yfx9_5 hX, ↓yfx9_6 hX, ↓yfx17_0 hX, ↓yfx17_1 hX, ↓yfx17_2 hX, ↓yfx17_3 hX, ↓yfx24_0 hX, ↓yfx19_0 hX, ↓yfx19_1 hX, ↓yfx19_2 hX, ↓yfx19_3 hX, ↓yfx18_0 hX, ↓yfx26_0 hX, ↓yfx26_1 hX, ↓yfx18_1 hX, ↓yfx29_0 hX, ↓yfx29_1 hX, ↓yfx18_2 hX, ↓yfx32_0 hX, ↓yfx32_1 hX, ↓yfx18_3 hX, ↓yfx35_0 hX, ↓yfx35_1 hX, ↓yfx18_4 hX, ↓yfx38_0 hX, ↓yfx38_1 hX, ↓yfx18_5 hX, ↓yfx41_0 hX, ↓yfx41_1 hX, ↓yfx44_0 hX, ↓yfx44_1 hX, ↓yfx44_2 hX, ↓yfx44_3 hX, ↓yfx44_4 hX, ↓yfx44_5 hX, ↓yfx49_0 hX, ↓yfx54_0 hX, ↓yfx49_1 hX, ↓yfx56_0 hX, ↓yfx49_2 hX, ↓yfx58_0 hX, ↓yfx49_3 hX, ↓yfx60_0 hX, rx0_0 hX, rx0_1 hX, rx0_3 hX, rx0_4 hX, rx0_5 hX, rx0_6 hX, rx0_7 hX, rx0_8 hX, rx0_9 hX, rx1_0 hX, rx1_1 hX, rx1_2 hX, rx1_3 hX, rx1_4 hX, rx1_5 hX, rx1_6 hX, rx9_0 hX, rx9_1 hX, rx9_2 hX, rx9_3 hX, rx9_4 hX, rx9_5 hX, rx9_6 hX, rx17_0 hX, rx17_1 hX, rx17_2 hX, rx17_3 hX, rx24_0 hX, rx19_0 hX, rx19_1 hX, rx19_2 hX, rx19_3 hX, rx18_0 hX, rx26_0 hX, rx26_1 hX, rx18_1 hX, rx29_0 hX, rx29_1 hX, rx18_2 hX, rx32_0 hX, rx32_1 hX, rx18_3 hX, rx35_0 hX, rx35_1 hX, rx18_4 hX, rx38_0 hX, rx38_1 hX, rx18_5 hX, rx41_0 hX, rx41_1 hX, rx44_0 hX, rx44_1 hX, rx44_2 hX, rx44_3 hX, rx44_4 hX, rx44_5 hX, rx49_0 hX, rx54_0 hX, rx49_1 hX, rx56_0 hX, rx49_2 hX, rx58_0 hX, rx49_3 hX, rx60_0 hX, p45r, k_n1, k_n0, k_n2, ip_r0, ip_r1, Int.lt_irrefl, a_cn]
  | k + 1, i, c, y, p1, S1, h, hi, hp1, h1 => by
    have h10 : (¬ (10 : Int) = 0) = True := eq_true (by omega)
    obtain ⟨-, -, e1⟩ := x_dwW hJ h1
    have k107 := fun Q' => p107 (d := d + 5) (S := S1) (L := L) (z := z + i) (p := p) (Q := Q') hX (by rw [e1]; exact hp) hp0 hp6
    have h2 := x_dwn (z' := z + i) hp1 h1
    obtain ⟨w2, J2, -⟩ := x_dwW hJ h2
    obtain ⟨S3, f3, -, k3⟩ := x87 (d := d) (L := L) (f := t / 10) (b := t % 10) (a := 0) hX J2 hf hb (by omega)
    rw [w2] at k3
    have h3 : x_dw (z + i) p S S3 := x_fr_t h2 f3
    rw [a_cn]
    cases c2 : a_goal (w_gz (w_X S) (z + i) p) (t / 10) (t % 10) 0
    · rw [c2] at k3
      rw [if_neg (by decide)]
      obtain ⟨S', y', p', i0, i1, i2⟩ := x109l (z := z) (w := w) hX hJ hp hp0 hp6 hq ht hf hb k (i + 1) c (z + i) p S3 (by omega) (by omega) (Int.le_refl _) h3
      refine ⟨S', y', p', i0, i1, fun Q => ?_⟩
      rw [← i2 Q, s109_22]
      simp (disch := omega) only [s109_23, s109_24, s109_25, s109_26, s109_27, s109_28, s109_29, s109_30, s109_31, s109_32, s109_33, s109_34, s109_35, s109_36, s109_37, s109_38, s109_39, s109_40, s109_41, s109_42, ↓reduceIte, Bool.true_eq_false, Bool.false_eq_true, ip_rfS, true_or, or_true, true_and, and_true, Option.toList_some, Option.toList_none, List.cons_append, List.nil_append, ip_fxn, ip_fxi, ip_fxr, ip_fxl, ip_wid, ip_n998, ip_lt900, iO0, iO1, iA2, iA3, iA4, iA5, iA6, iA7, iA8, iO9, iA10, iA11, iA12, iA13, iA14, iA15, iA16, iO17, iA18, iO19, iA20, iA21, iA22, iA23, iO24, iA25, iO26, iA27, iA28, iO29, iA30, iA31, iO32, iA33, iA34, iO35, iA36, iA37, iO38, iA39, iA40, iO41, iA42, iA43, iO44, iA45, iA46, iA47, iA48, iA49, iA50, iA51, iA52, iA53, iO54, iA55, iO56, iA57, iO58, iA59, iO60, iA61, iO62, iA63, iA64, iA65, iA66, iA67, iA68, iA69, iA70, iA71, iA72, iA73, iA74, iA75, iA76, iA77, iA78, iOT, iAT1, iAT2, iOS, iAS, ↓yfx0_0 hX, ↓yfx0_1 hX, ↓yfx0_3 hX, ↓yfx0_4 hX, ↓yfx0_5 hX, ↓yfx0_6 hX, ↓yfx0_7 hX, ↓yfx0_8 hX, ↓yfx0_9 hX, ↓yfx1_0 hX, ↓yfx1_1 hX, ↓yfx1_2 hX, ↓yfx1_3 hX, ↓yfx1_4 hX, ↓yfx1_5 hX, ↓yfx1_6 hX, ↓yfx9_0 hX, ↓yfx9_1 hX, ↓yfx9_2 hX, ↓yfx9_3 hX, ↓yfx9_4 hX, ↓yfx9_5 hX, ↓yfx9_6 hX, ↓yfx17_0 hX, ↓yfx17_1 hX, ↓yfx17_2 hX, ↓yfx17_3 hX, ↓yfx24_0 hX, ↓yfx19_0 hX, ↓yfx19_1 hX, ↓yfx19_2 hX, ↓yfx19_3 hX, ↓yfx18_0 hX, ↓yfx26_0 hX, ↓yfx26_1 hX, ↓yfx18_1 hX, ↓yfx29_0 hX, ↓yfx29_1 hX, ↓yfx18_2 hX, ↓yfx32_0 hX, ↓yfx32_1 hX, ↓yfx18_3 hX, ↓yfx35_0 hX, ↓yfx35_1 hX, ↓yfx18_4 hX, ↓yfx38_0 hX, ↓yfx38_1 hX, ↓yfx18_5 hX, ↓yfx41_0 hX, ↓yfx41_1 hX, ↓yfx44_0 hX, ↓yfx44_1 hX, ↓yfx44_2 hX, ↓yfx44_3 hX, ↓yfx44_4 hX, ↓yfx44_5 hX, ↓yfx49_0 hX, ↓yfx54_0 hX, ↓yfx49_1 hX, ↓yfx56_0 hX, ↓yfx49_2 hX, ↓yfx58_0 hX, ↓yfx49_3 hX, ↓yfx60_0 hX, rx0_0 hX, rx0_1 hX, rx0_3 hX, rx0_4 hX, rx0_5 hX, rx0_6 hX, rx0_7 hX, rx0_8 hX, rx0_9 hX, rx1_0 hX, rx1_1 hX, rx1_2 hX, rx1_3 hX, rx1_4 hX, rx1_5 hX, rx1_6 hX, rx9_0 hX, rx9_1 hX, rx9_2 hX, rx9_3 hX, rx9_4 hX, rx9_5 hX, rx9_6 hX, rx17_0 hX, rx17_1 hX, rx17_2 hX, rx17_3 hX, rx24_0 hX, rx19_0 hX, rx19_1 hX, rx19_2 hX, rx19_3 hX, rx18_0 hX, rx26_0 hX, rx26_1 hX, rx18_1 hX, rx29_0 hX, rx29_1 hX, rx18_2 hX, rx32_0 hX, rx32_1 hX, rx18_3 hX, rx35_0 hX, rx35_1 hX, rx18_4 hX, rx38_0 hX, rx38_1 hX, rx18_5 hX, rx41_0 hX, rx41_1 hX, rx44_0 hX, rx44_1 hX, rx44_2 hX, rx44_3 hX, rx44_4 hX, rx44_5 hX, rx49_0 hX, rx54_0 hX, rx49_1 hX, rx56_0 hX, rx49_2 hX, rx58_0 hX, rx49_3 hX, rx60_0 hX, p45r, k_n1, k_n0, k_n2, ip_r0, ip_r1, show i < q by omega, k107, ip_div_id, ip_rem_id, h10, k3, show k_n false = 0 from rfl]
    · rw [c2] at k3
      rw [if_pos rfl]
      obtain ⟨S', y', p', i0, i1, i2⟩ := x109l (z := z) (w := w) hX hJ hp hp0 hp6 hq ht hf hb k (i + 1) (c + 1) (z + i) p S3 (by omega) (by omega) (Int.le_refl _) h3
      refine ⟨S', y', p', i0, i1, fun Q => ?_⟩
      rw [← i2 Q, s109_22]
      simp (disch := omega) only [s109_23, s109_24, s109_25, s109_26, s109_27, s109_28, s109_29, s109_30, s109_31, s109_32, s109_33, s109_34, s109_35, s109_36, s109_37, s109_38, s109_39, s109_40, s109_41, s109_42, ↓reduceIte, Bool.true_eq_false, Bool.false_eq_true, ip_rfS, true_or, or_true, true_and, and_true, Option.toList_some, Option.toList_none, List.cons_append, List.nil_append, ip_fxn, ip_fxi, ip_fxr, ip_fxl, ip_wid, ip_n998, ip_lt900, iO0, iO1, iA2, iA3, iA4, iA5, iA6, iA7, iA8, iO9, iA10, iA11, iA12, iA13, iA14, iA15, iA16, iO17, iA18, iO19, iA20, iA21, iA22, iA23, iO24, iA25, iO26, iA27, iA28, iO29, iA30, iA31, iO32, iA33, iA34, iO35, iA36, iA37, iO38, iA39, iA40, iO41, iA42, iA43, iO44, iA45, iA46, iA47, iA48, iA49, iA50, iA51, iA52, iA53, iO54, iA55, iO56, iA57, iO58, iA59, iO60, iA61, iO62, iA63, iA64, iA65, iA66, iA67, iA68, iA69, iA70, iA71, iA72, iA73, iA74, iA75, iA76, iA77, iA78, iOT, iAT1, iAT2, iOS, iAS, ↓yfx0_0 hX, ↓yfx0_1 hX, ↓yfx0_3 hX, ↓yfx0_4 hX, ↓yfx0_5 hX, ↓yfx0_6 hX, ↓yfx0_7 hX, ↓yfx0_8 hX, ↓yfx0_9 hX, ↓yfx1_0 hX, ↓yfx1_1 hX, ↓yfx1_2 hX, ↓yfx1_3 hX, ↓yfx1_4 hX, ↓yfx1_5 hX, ↓yfx1_6 hX, ↓yfx9_0 hX, ↓yfx9_1 hX, ↓yfx9_2 hX, ↓yfx9_3 hX, ↓yfx9_4 hX, ↓yfx9_5 hX, ↓yfx9_6 hX, ↓yfx17_0 hX, ↓yfx17_1 hX, ↓yfx17_2 hX, ↓yfx17_3 hX, ↓yfx24_0 hX, ↓yfx19_0 hX, ↓yfx19_1 hX, ↓yfx19_2 hX, ↓yfx19_3 hX, ↓yfx18_0 hX, ↓yfx26_0 hX, ↓yfx26_1 hX, ↓yfx18_1 hX, ↓yfx29_0 hX, ↓yfx29_1 hX, ↓yfx18_2 hX, ↓yfx32_0 hX, ↓yfx32_1 hX, ↓yfx18_3 hX, ↓yfx35_0 hX, ↓yfx35_1 hX, ↓yfx18_4 hX, ↓yfx38_0 hX, ↓yfx38_1 hX, ↓yfx18_5 hX, ↓yfx41_0 hX, ↓yfx41_1 hX, ↓yfx44_0 hX, ↓yfx44_1 hX, ↓yfx44_2 hX, ↓yfx44_3 hX, ↓yfx44_4 hX, ↓yfx44_5 hX, ↓yfx49_0 hX, ↓yfx54_0 hX, ↓yfx49_1 hX, ↓yfx56_0 hX, ↓yfx49_2 hX, ↓yfx58_0 hX, ↓yfx49_3 hX, ↓yfx60_0 hX, rx0_0 hX, rx0_1 hX, rx0_3 hX, rx0_4 hX, rx0_5 hX, rx0_6 hX, rx0_7 hX, rx0_8 hX, rx0_9 hX, rx1_0 hX, rx1_1 hX, rx1_2 hX, rx1_3 hX, rx1_4 hX, rx1_5 hX, rx1_6 hX, rx9_0 hX, rx9_1 hX, rx9_2 hX, rx9_3 hX, rx9_4 hX, rx9_5 hX, rx9_6 hX, rx17_0 hX, rx17_1 hX, rx17_2 hX, rx17_3 hX, rx24_0 hX, rx19_0 hX, rx19_1 hX, rx19_2 hX, rx19_3 hX, rx18_0 hX, rx26_0 hX, rx26_1 hX, rx18_1 hX, rx29_0 hX, rx29_1 hX, rx18_2 hX, rx32_0 hX, rx32_1 hX, rx18_3 hX, rx35_0 hX, rx35_1 hX, rx18_4 hX, rx38_0 hX, rx38_1 hX, rx18_5 hX, rx41_0 hX, rx41_1 hX, rx44_0 hX, rx44_1 hX, rx44_2 hX, rx44_3 hX, rx44_4 hX, rx44_5 hX, rx49_0 hX, rx54_0 hX, rx49_1 hX, rx56_0 hX, rx49_2 hX, rx58_0 hX, rx49_3 hX, rx60_0 hX, p45r, k_n1, k_n0, k_n2, ip_r0, ip_r1, show i < q by omega, k107, ip_div_id, ip_rem_id, h10, k3, show k_n true = 1 from rfl, Int.reduceEq, not_false_eq_true]
def a_ch (w q g : Int) : Int := if w = 0 then g / y_gc 21 g q else q / y_gc 21 g q
theorem x109r {z t w p q : Int} (hX : x_RX R) (hJ : x_J S) (hp : S 1 7 = p) (hp0 : 0 ≤ p) (hp6 : p ≤ 6) (hq0 : 1 ≤ q) (hq : q ≤ 20) (ht : 0 ≤ t ∧ t < 100) (hf : 0 ≤ t / 10 ∧ t / 10 < 6) (hb : 0 ≤ t % 10 ∧ t % 10 < 6) (hw : 0 ≤ w ∧ w < 2) :
    ∃ S', x_g S S' ∧ ∀ Q, ip_wp (d + 6) 109 16 [some (.ref 0), some (vi z), some (vi q), some (vi t), some (vi w), none, none] [] 79 S R L Q = Q (some (vl (a_ch w q (a_cn (w_X S) z p (t / 10) (t % 10) q.toNat 0 0)))) 79 S' R L := by
  have k106 := fun Q' => p106 (d := d + 5) (S := S) (L := L) (Q := Q') hX
  have e6 : (ip_cp S 6 0 50 0 6) 6 = S 6 := ip_cpc (by omega)
  have h1 : x_dw 0 0 S (ip_cp S 6 0 50 0 6) := by
    unfold x_dw
    rw [a_go0, ← e6, ip_ar_self]
    exact x_fr_r
  obtain ⟨S2, y2, p2, hp2, h2, k2⟩ := x109l (d := d) (L := L) (z := z) (w := w) hX hJ hp hp0 hp6 hq ht hf hb q.toNat 0 0 0 0 _ (by omega) (by omega) hp0 h1
  have hc := a_cnr (W := w_X S) (z := z) (p := p) (f := t / 10) (b := t % 10) q.toNat 0 0
  have k108 := fun Q' => p108 (d := d + 5) (S := S2) (L := L) (Q := Q') hX
  generalize a_cn (w_X S) z p (t / 10) (t % 10) q.toNat 0 0 = g at *
  have k110 := fun S' Q' => p110 (d := d + 5) (n := 79) (S := S') (R := R) (L := L) (a := g) (b := q) (Q := Q') (by omega) (by omega)
  obtain ⟨r1, r2⟩ := k_cdi (a := g) (b := q) (by omega) (by omega)
  rw [r2] at k110 r1
  refine ⟨_, x_dwb (by omega) h2, fun Q => ?_⟩
  unfold a_ch
  have hg0 : (¬ y_gc 21 g q = 0) = True := eq_true (by omega)
  have hdg : 0 ≤ g / y_gc 21 g q ∧ g / y_gc 21 g q ≤ 20 := by
    have a1 := Int.ediv_nonneg (show 0 ≤ g by omega) (show 0 ≤ y_gc 21 g q by omega)
    have a2 := Int.ediv_le_self (y_gc 21 g q) (show 0 ≤ g by omega)
    omega
  have hdq : 0 ≤ q / y_gc 21 g q ∧ q / y_gc 21 g q ≤ 20 := by
    have a1 := Int.ediv_nonneg (show 0 ≤ q by omega) (show 0 ≤ y_gc 21 g q by omega)
    have a2 := Int.ediv_le_self (y_gc 21 g q) (show 0 ≤ q by omega)
    omega
  by_cases c : w = 0
  · rw [if_pos c]
    simp (disch := omega) only [s109_16, s109_17, s109_18, s109_19, s109_20, s109_21, ↓reduceIte, Bool.true_eq_false, Bool.false_eq_true, ip_rfS, true_or, or_true, true_and, and_true, Option.toList_some, Option.toList_none, List.cons_append, List.nil_append, ip_fxn, ip_fxi, ip_fxr, ip_fxl, ip_wid, ip_n998, ip_lt900, iO0, iO1, iA2, iA3, iA4, iA5, iA6, iA7, iA8, iO9, iA10, iA11, iA12, iA13, iA14, iA15, iA16, iO17, iA18, iO19, iA20, iA21, iA22, iA23, iO24, iA25, iO26, iA27, iA28, iO29, iA30, iA31, iO32, iA33, iA34, iO35, iA36, iA37, iO38, iA39, iA40, iO41, iA42, iA43, iO44, iA45, iA46, iA47, iA48, iA49, iA50, iA51, iA52, iA53, iO54, iA55, iO56, iA57, iO58, iA59, iO60, iA61, iO62, iA63, iA64, iA65, iA66, iA67, iA68, iA69, iA70, iA71, iA72, iA73, iA74, iA75, iA76, iA77, iA78, iOT, iAT1, iAT2, iOS, iAS, ↓yfx0_0 hX, ↓yfx0_1 hX, ↓yfx0_3 hX, ↓yfx0_4 hX, ↓yfx0_5 hX, ↓yfx0_6 hX, ↓yfx0_7 hX, ↓yfx0_8 hX, ↓yfx0_9 hX, ↓yfx1_0 hX, ↓yfx1_1 hX, ↓yfx1_2 hX, ↓yfx1_3 hX, ↓yfx1_4 hX, ↓yfx1_5 hX, ↓yfx1_6 hX, ↓yfx9_0 hX, ↓yfx9_1 hX, ↓yfx9_2 hX, ↓yfx9_3 hX, ↓yfx9_4 hX, ↓yfx9_5 hX, ↓yfx9_6 hX, ↓yfx17_0 hX, ↓yfx17_1 hX, ↓yfx17_2 hX, ↓yfx17_3 hX, ↓yfx24_0 hX, ↓yfx19_0 hX, ↓yfx19_1 hX, ↓yfx19_2 hX, ↓yfx19_3 hX, ↓yfx18_0 hX, ↓yfx26_0 hX, ↓yfx26_1 hX, ↓yfx18_1 hX, ↓yfx29_0 hX, ↓yfx29_1 hX, ↓yfx18_2 hX, ↓yfx32_0 hX, ↓yfx32_1 hX, ↓yfx18_3 hX, ↓yfx35_0 hX, ↓yfx35_1 hX, ↓yfx18_4 hX, ↓yfx38_0 hX, ↓yfx38_1 hX, ↓yfx18_5 hX, ↓yfx41_0 hX, ↓yfx41_1 hX, ↓yfx44_0 hX, ↓yfx44_1 hX, ↓yfx44_2 hX, ↓yfx44_3 hX, ↓yfx44_4 hX, ↓yfx44_5 hX, ↓yfx49_0 hX, ↓yfx54_0 hX, ↓yfx49_1 hX, ↓yfx56_0 hX, ↓yfx49_2 hX, ↓yfx58_0 hX, ↓yfx49_3 hX, ↓yfx60_0 hX, rx0_0 hX, rx0_1 hX, rx0_3 hX, rx0_4 hX, rx0_5 hX, rx0_6 hX, rx0_7 hX, rx0_8 hX, rx0_9 hX, rx1_0 hX, rx1_1 hX, rx1_2 hX, rx1_3 hX, rx1_4 hX, rx1_5 hX, rx1_6 hX, rx9_0 hX, rx9_1 hX, rx9_2 hX, rx9_3 hX, rx9_4 hX, rx9_5 hX, rx9_6 hX, rx17_0 hX, rx17_1 hX, rx17_2 hX, rx17_3 hX, rx24_0 hX, rx19_0 hX, rx19_1 hX, rx19_2 hX, rx19_3 hX, rx18_0 hX, rx26_0 hX, rx26_1 hX, rx18_1 hX, rx29_0 hX, rx29_1 hX, rx18_2 hX, rx32_0 hX, rx32_1 hX, rx18_3 hX, rx35_0 hX, rx35_1 hX, rx18_4 hX, rx38_0 hX, rx38_1 hX, rx18_5 hX, rx41_0 hX, rx41_1 hX, rx44_0 hX, rx44_1 hX, rx44_2 hX, rx44_3 hX, rx44_4 hX, rx44_5 hX, rx49_0 hX, rx54_0 hX, rx49_1 hX, rx56_0 hX, rx49_2 hX, rx58_0 hX, rx49_3 hX, rx60_0 hX, p45r, k_n1, k_n0, k_n2, ip_r0, ip_r1, k106, k2]
    simp (disch := omega) only [s109_43, s109_44, s109_45, s109_46, s109_47, s109_48, s109_49, s109_50, s109_51, s109_52, s109_53, s109_54, s109_55, s109_56, s109_57, ↓reduceIte, Bool.true_eq_false, Bool.false_eq_true, ip_rfS, true_or, or_true, true_and, and_true, Option.toList_some, Option.toList_none, List.cons_append, List.nil_append, ip_fxn, ip_fxi, ip_fxr, ip_fxl, ip_wid, ip_n998, ip_lt900, iO0, iO1, iA2, iA3, iA4, iA5, iA6, iA7, iA8, iO9, iA10, iA11, iA12, iA13, iA14, iA15, iA16, iO17, iA18, iO19, iA20, iA21, iA22, iA23, iO24, iA25, iO26, iA27, iA28, iO29, iA30, iA31, iO32, iA33, iA34, iO35, iA36, iA37, iO38, iA39, iA40, iO41, iA42, iA43, iO44, iA45, iA46, iA47, iA48, iA49, iA50, iA51, iA52, iA53, iO54, iA55, iO56, iA57, iO58, iA59, iO60, iA61, iO62, iA63, iA64, iA65, iA66, iA67, iA68, iA69, iA70, iA71, iA72, iA73, iA74, iA75, iA76, iA77, iA78, iOT, iAT1, iAT2, iOS, iAS, ↓yfx0_0 hX, ↓yfx0_1 hX, ↓yfx0_3 hX, ↓yfx0_4 hX, ↓yfx0_5 hX, ↓yfx0_6 hX, ↓yfx0_7 hX, ↓yfx0_8 hX, ↓yfx0_9 hX, ↓yfx1_0 hX, ↓yfx1_1 hX, ↓yfx1_2 hX, ↓yfx1_3 hX, ↓yfx1_4 hX, ↓yfx1_5 hX, ↓yfx1_6 hX, ↓yfx9_0 hX, ↓yfx9_1 hX, ↓yfx9_2 hX, ↓yfx9_3 hX, ↓yfx9_4 hX, ↓yfx9_5 hX, ↓yfx9_6 hX, ↓yfx17_0 hX, ↓yfx17_1 hX, ↓yfx17_2 hX, ↓yfx17_3 hX, ↓yfx24_0 hX, ↓yfx19_0 hX, ↓yfx19_1 hX, ↓yfx19_2 hX, ↓yfx19_3 hX, ↓yfx18_0 hX, ↓yfx26_0 hX, ↓yfx26_1 hX, ↓yfx18_1 hX, ↓yfx29_0 hX, ↓yfx29_1 hX, ↓yfx18_2 hX, ↓yfx32_0 hX, ↓yfx32_1 hX, ↓yfx18_3 hX, ↓yfx35_0 hX, ↓yfx35_1 hX, ↓yfx18_4 hX, ↓yfx38_0 hX, ↓yfx38_1 hX, ↓yfx18_5 hX, ↓yfx41_0 hX, ↓yfx41_1 hX, ↓yfx44_0 hX, ↓yfx44_1 hX, ↓yfx44_2 hX, ↓yfx44_3 hX, ↓yfx44_4 hX, ↓yfx44_5 hX, ↓yfx49_0 hX, ↓yfx54_0 hX, ↓yfx49_1 hX, ↓yfx56_0 hX, ↓yfx49_2 hX, ↓yfx58_0 hX, ↓yfx49_3 hX, ↓yfx60_0 hX, rx0_0 hX, rx0_1 hX, rx0_3 hX, rx0_4 hX, rx0_5 hX, rx0_6 hX, rx0_7 hX, rx0_8 hX, rx0_9 hX, rx1_0 hX, rx1_1 hX, rx1_2 hX, rx1_3 hX, rx1_4 hX, rx1_5 hX, rx1_6 hX, rx9_0 hX, rx9_1 hX, rx9_2 hX, rx9_3 hX, rx9_4 hX, rx9_5 hX, rx9_6 hX, rx17_0 hX, rx17_1 hX, rx17_2 hX, rx17_3 hX, rx24_0 hX, rx19_0 hX, rx19_1 hX, rx19_2 hX, rx19_3 hX, rx18_0 hX, rx26_0 hX, rx26_1 hX, rx18_1 hX, rx29_0 hX, rx29_1 hX, rx18_2 hX, rx32_0 hX, rx32_1 hX, rx18_3 hX, rx35_0 hX, rx35_1 hX, rx18_4 hX, rx38_0 hX, rx38_1 hX, rx18_5 hX, rx41_0 hX, rx41_1 hX, rx44_0 hX, rx44_1 hX, rx44_2 hX, rx44_3 hX, rx44_4 hX, rx44_5 hX, rx49_0 hX, rx54_0 hX, rx49_1 hX, rx56_0 hX, rx49_2 hX, rx58_0 hX, rx49_3 hX, rx60_0 hX, p45r, k_n1, k_n0, k_n2, ip_r0, ip_r1, k108, k110, eq_true c, ip_div_id, hg0]
  · rw [if_neg c]
    simp (disch := omega) only [s109_16, s109_17, s109_18, s109_19, s109_20, s109_21, ↓reduceIte, Bool.true_eq_false, Bool.false_eq_true, ip_rfS, true_or, or_true, true_and, and_true, Option.toList_some, Option.toList_none, List.cons_append, List.nil_append, ip_fxn, ip_fxi, ip_fxr, ip_fxl, ip_wid, ip_n998, ip_lt900, iO0, iO1, iA2, iA3, iA4, iA5, iA6, iA7, iA8, iO9, iA10, iA11, iA12, iA13, iA14, iA15, iA16, iO17, iA18, iO19, iA20, iA21, iA22, iA23, iO24, iA25, iO26, iA27, iA28, iO29, iA30, iA31, iO32, iA33, iA34, iO35, iA36, iA37, iO38, iA39, iA40, iO41, iA42, iA43, iO44, iA45, iA46, iA47, iA48, iA49, iA50, iA51, iA52, iA53, iO54, iA55, iO56, iA57, iO58, iA59, iO60, iA61, iO62, iA63, iA64, iA65, iA66, iA67, iA68, iA69, iA70, iA71, iA72, iA73, iA74, iA75, iA76, iA77, iA78, iOT, iAT1, iAT2, iOS, iAS, ↓yfx0_0 hX, ↓yfx0_1 hX, ↓yfx0_3 hX, ↓yfx0_4 hX, ↓yfx0_5 hX, ↓yfx0_6 hX, ↓yfx0_7 hX, ↓yfx0_8 hX, ↓yfx0_9 hX, ↓yfx1_0 hX, ↓yfx1_1 hX, ↓yfx1_2 hX, ↓yfx1_3 hX, ↓yfx1_4 hX, ↓yfx1_5 hX, ↓yfx1_6 hX, ↓yfx9_0 hX, ↓yfx9_1 hX, ↓yfx9_2 hX, ↓yfx9_3 hX, ↓yfx9_4 hX, ↓yfx9_5 hX, ↓yfx9_6 hX, ↓yfx17_0 hX, ↓yfx17_1 hX, ↓yfx17_2 hX, ↓yfx17_3 hX, ↓yfx24_0 hX, ↓yfx19_0 hX, ↓yfx19_1 hX, ↓yfx19_2 hX, ↓yfx19_3 hX, ↓yfx18_0 hX, ↓yfx26_0 hX, ↓yfx26_1 hX, ↓yfx18_1 hX, ↓yfx29_0 hX, ↓yfx29_1 hX, ↓yfx18_2 hX, ↓yfx32_0 hX, ↓yfx32_1 hX, ↓yfx18_3 hX, ↓yfx35_0 hX, ↓yfx35_1 hX, ↓yfx18_4 hX, ↓yfx38_0 hX, ↓yfx38_1 hX, ↓yfx18_5 hX, ↓yfx41_0 hX, ↓yfx41_1 hX, ↓yfx44_0 hX, ↓yfx44_1 hX, ↓yfx44_2 hX, ↓yfx44_3 hX, ↓yfx44_4 hX, ↓yfx44_5 hX, ↓yfx49_0 hX, ↓yfx54_0 hX, ↓yfx49_1 hX, ↓yfx56_0 hX, ↓yfx49_2 hX, ↓yfx58_0 hX, ↓yfx49_3 hX, ↓yfx60_0 hX, rx0_0 hX, rx0_1 hX, rx0_3 hX, rx0_4 hX, rx0_5 hX, rx0_6 hX, rx0_7 hX, rx0_8 hX, rx0_9 hX, rx1_0 hX, rx1_1 hX, rx1_2 hX, rx1_3 hX, rx1_4 hX, rx1_5 hX, rx1_6 hX, rx9_0 hX, rx9_1 hX, rx9_2 hX, rx9_3 hX, rx9_4 hX, rx9_5 hX, rx9_6 hX, rx17_0 hX, rx17_1 hX, rx17_2 hX, rx17_3 hX, rx24_0 hX, rx19_0 hX, rx19_1 hX, rx19_2 hX, rx19_3 hX, rx18_0 hX, rx26_0 hX, rx26_1 hX, rx18_1 hX, rx29_0 hX, rx29_1 hX, rx18_2 hX, rx32_0 hX, rx32_1 hX, rx18_3 hX, rx35_0 hX, rx35_1 hX, rx18_4 hX, rx38_0 hX, rx38_1 hX, rx18_5 hX, rx41_0 hX, rx41_1 hX, rx44_0 hX, rx44_1 hX, rx44_2 hX, rx44_3 hX, rx44_4 hX, rx44_5 hX, rx49_0 hX, rx54_0 hX, rx49_1 hX, rx56_0 hX, rx49_2 hX, rx58_0 hX, rx49_3 hX, rx60_0 hX, p45r, k_n1, k_n0, k_n2, ip_r0, ip_r1, k106, k2]
    simp (disch := omega) only [s109_43, s109_44, s109_45, s109_46, s109_47, s109_48, s109_49, s109_50, s109_51, s109_52, s109_53, s109_54, s109_55, s109_56, s109_57, ↓reduceIte, Bool.true_eq_false, Bool.false_eq_true, ip_rfS, true_or, or_true, true_and, and_true, Option.toList_some, Option.toList_none, List.cons_append, List.nil_append, ip_fxn, ip_fxi, ip_fxr, ip_fxl, ip_wid, ip_n998, ip_lt900, iO0, iO1, iA2, iA3, iA4, iA5, iA6, iA7, iA8, iO9, iA10, iA11, iA12, iA13, iA14, iA15, iA16, iO17, iA18, iO19, iA20, iA21, iA22, iA23, iO24, iA25, iO26, iA27, iA28, iO29, iA30, iA31, iO32, iA33, iA34, iO35, iA36, iA37, iO38, iA39, iA40, iO41, iA42, iA43, iO44, iA45, iA46, iA47, iA48, iA49, iA50, iA51, iA52, iA53, iO54, iA55, iO56, iA57, iO58, iA59, iO60, iA61, iO62, iA63, iA64, iA65, iA66, iA67, iA68, iA69, iA70, iA71, iA72, iA73, iA74, iA75, iA76, iA77, iA78, iOT, iAT1, iAT2, iOS, iAS, ↓yfx0_0 hX, ↓yfx0_1 hX, ↓yfx0_3 hX, ↓yfx0_4 hX, ↓yfx0_5 hX, ↓yfx0_6 hX, ↓yfx0_7 hX, ↓yfx0_8 hX, ↓yfx0_9 hX, ↓yfx1_0 hX, ↓yfx1_1 hX, ↓yfx1_2 hX, ↓yfx1_3 hX, ↓yfx1_4 hX, ↓yfx1_5 hX, ↓yfx1_6 hX, ↓yfx9_0 hX, ↓yfx9_1 hX, ↓yfx9_2 hX, ↓yfx9_3 hX, ↓yfx9_4 hX, ↓yfx9_5 hX, ↓yfx9_6 hX, ↓yfx17_0 hX, ↓yfx17_1 hX, ↓yfx17_2 hX, ↓yfx17_3 hX, ↓yfx24_0 hX, ↓yfx19_0 hX, ↓yfx19_1 hX, ↓yfx19_2 hX, ↓yfx19_3 hX, ↓yfx18_0 hX, ↓yfx26_0 hX, ↓yfx26_1 hX, ↓yfx18_1 hX, ↓yfx29_0 hX, ↓yfx29_1 hX, ↓yfx18_2 hX, ↓yfx32_0 hX, ↓yfx32_1 hX, ↓yfx18_3 hX, ↓yfx35_0 hX, ↓yfx35_1 hX, ↓yfx18_4 hX, ↓yfx38_0 hX, ↓yfx38_1 hX, ↓yfx18_5 hX, ↓yfx41_0 hX, ↓yfx41_1 hX, ↓yfx44_0 hX, ↓yfx44_1 hX, ↓yfx44_2 hX, ↓yfx44_3 hX, ↓yfx44_4 hX, ↓yfx44_5 hX, ↓yfx49_0 hX, ↓yfx54_0 hX, ↓yfx49_1 hX, ↓yfx56_0 hX, ↓yfx49_2 hX, ↓yfx58_0 hX, ↓yfx49_3 hX, ↓yfx60_0 hX, rx0_0 hX, rx0_1 hX, rx0_3 hX, rx0_4 hX, rx0_5 hX, rx0_6 hX, rx0_7 hX, rx0_8 hX, rx0_9 hX, rx1_0 hX, rx1_1 hX, rx1_2 hX, rx1_3 hX, rx1_4 hX, rx1_5 hX, rx1_6 hX, rx9_0 hX, rx9_1 hX, rx9_2 hX, rx9_3 hX, rx9_4 hX, rx9_5 hX, rx9_6 hX, rx17_0 hX, rx17_1 hX, rx17_2 hX, rx17_3 hX, rx24_0 hX, rx19_0 hX, rx19_1 hX, rx19_2 hX, rx19_3 hX, rx18_0 hX, rx26_0 hX, rx26_1 hX, rx18_1 hX, rx29_0 hX, rx29_1 hX, rx18_2 hX, rx32_0 hX, rx32_1 hX, rx18_3 hX, rx35_0 hX, rx35_1 hX, rx18_4 hX, rx38_0 hX, rx38_1 hX, rx18_5 hX, rx41_0 hX, rx41_1 hX, rx44_0 hX, rx44_1 hX, rx44_2 hX, rx44_3 hX, rx44_4 hX, rx44_5 hX, rx49_0 hX, rx54_0 hX, rx49_1 hX, rx56_0 hX, rx49_2 hX, rx58_0 hX, rx49_3 hX, rx60_0 hX, p45r, k_n1, k_n0, k_n2, ip_r0, ip_r1, k108, k110, c, ip_div_id, hg0]
end DRW
