/-! a ride told: both sides -/
theorem ip_i88 : ∀ v : Nat, v < 8 → ip_i8 v = v := by decide +kernel
theorem ip_i8s {v : Int} (h : 0 ≤ v ∧ v < 8) : ip_i8 v = v := by
  have := ip_i88 v.toNat (by omega)
  rwa [Int.toNat_of_nonneg h.1] at this
def h_pl (q : w_R) (n : Int) (f : Int → Int) : Int → Int := fun k => if 0 ≤ k ∧ k < n then q.2.2.2.2 (w_pb k q.2.1) else h_z f 40 k
theorem h_pl0 {q : w_R} {f : Int → Int} : h_pl q 0 f = h_z f 40 := by funext k; exact if_neg (by omega)
theorem h_plu {q : w_R} {f : Int → Int} {i : Int} (h : 0 ≤ i) : ip_u (h_pl q i f) i (q.2.2.2.2 (w_pb i q.2.1)) = h_pl q (i + 1) f := by
  funext k
  unfold ip_u h_pl
  by_cases c : k = i
  · rw [if_pos c, if_pos (by omega), c]
  · rw [if_neg c]
    by_cases c2 : 0 ≤ k ∧ k < i
    · rw [if_pos c2, if_pos (by omega)]
    · rw [if_neg c2, if_neg (by omega)]
def m_flm (S : ip_S) (s : Nat) (n i : Int) (q : w_R) : ip_S := ip_ar (ip_up (ip_up S (54 + 2 * s) 1 0) (54 + 2 * s) 2 n) (55 + 2 * s) (h_pl q i (S (55 + 2 * s)))
section FLX
variable {d : Nat} {S : ip_S} {R : ip_R} {L : ip_S} {W : w_T} {m : Int}
theorem x82 {f b a p : Int} (hX : x_RX R) (hJ : x_J S) (h7 : x_rd7 S) (hp : S 1 7 = p) (hp6 : p ≤ 6) (hf : 0 ≤ f ∧ f < p) (hb : 0 ≤ b ∧ b < p) (ha : 0 ≤ a ∧ a < 8) :
    ∃ S', x_g S S' ∧ x_ez S' (w_rz (w_X S) f b a) ∧ ∀ Q, ip_wc (d + 6) 82 [.ref 0, vi f, vi b, vi a] 79 S R L Q = Q (some (vi (w_rz (w_X S) f b a).2.2.1)) 79 S' R L := by
  obtain ⟨S1, f1, z1, k1⟩ := x75 (d := d) (L := L) (f := f) (b := b) (a := a) hX hJ (by omega) (by omega) ha
  have r3 := (w_rzr (W := w_X S) (f := f) (b := b) (a := a) hJ.1 ha).2.2.1
  generalize hq : w_rz (w_X S) f b a = q at *
  have g1 := x_g_f f1
  have u1 := g1.2 h7 f hf.1 (by omega)
  have g2 : x_g S (ip_up S1 7 f (if S1 7 f + q.2.2.1 < 99999 then S1 7 f + q.2.2.1 else 99999)) := x_g_7 g1 (by split <;> omega)
  have u2 := g2.2 h7 b hb.1 (by omega)
  have z2 : x_ez (ip_up S1 7 f (if S1 7 f + q.2.2.1 < 99999 then S1 7 f + q.2.2.1 else 99999)) q := by
    unfold x_ez
    rw [ip_upc (by omega), ip_upc (by omega)]
    exact z1
  generalize hS2 : ip_up S1 7 f (if S1 7 f + q.2.2.1 < 99999 then S1 7 f + q.2.2.1 else 99999) = S2 at *
  have g3 : x_g S (ip_up S2 7 b (if S2 7 b + q.2.2.1 < 99999 then S2 7 b + q.2.2.1 else 99999)) := x_g_7 g2 (by split <;> omega)
  have z3 : x_ez (ip_up S2 7 b (if S2 7 b + q.2.2.1 < 99999 then S2 7 b + q.2.2.1 else 99999)) q := by
    unfold x_ez
    rw [ip_upc (by omega), ip_upc (by omega)]
    exact z2
  refine ⟨_, g3, z3, fun Q => ?_⟩
  have k83 := fun Q => p83 (d := d + 4) (n := 79) (S := S1) (R := R) (L := L) (i := f) (v := q.2.2.1) (Q := Q) (by omega) (by simp only [↓yfx0_0 hX, ↓yfx0_1 hX, ↓yfx0_3 hX, ↓yfx0_4 hX, ↓yfx0_5 hX, ↓yfx0_6 hX, ↓yfx0_7 hX, ↓yfx0_8 hX, ↓yfx0_9 hX, ↓yfx1_0 hX, ↓yfx1_1 hX, ↓yfx1_2 hX, ↓yfx1_3 hX, ↓yfx1_4 hX, ↓yfx1_5 hX, ↓yfx1_6 hX, ↓yfx9_0 hX, ↓yfx9_1 hX, ↓yfx9_2 hX, ↓yfx9_3 hX, ↓yfx9_4 hX, ↓yfx9_5 hX, ↓yfx9_6 hX, ↓yfx17_0 hX, ↓yfx17_1 hX, ↓yfx17_2 hX, ↓yfx17_3 hX, ↓yfx24_0 hX, ↓yfx19_0 hX, ↓yfx19_1 hX, ↓yfx19_2 hX, ↓yfx19_3 hX, ↓yfx18_0 hX, ↓yfx26_0 hX, ↓yfx26_1 hX, ↓yfx18_1 hX, ↓yfx29_0 hX, ↓yfx29_1 hX, ↓yfx18_2 hX, ↓yfx32_0 hX, ↓yfx32_1 hX, ↓yfx18_3 hX, ↓yfx35_0 hX, ↓yfx35_1 hX, ↓yfx18_4 hX, ↓yfx38_0 hX, ↓yfx38_1 hX, ↓yfx18_5 hX, ↓yfx41_0 hX, ↓yfx41_1 hX, ↓yfx44_0 hX, ↓yfx44_1 hX, ↓yfx44_2 hX, ↓yfx44_3 hX, ↓yfx44_4 hX, ↓yfx44_5 hX, ↓yfx49_0 hX, ↓yfx54_0 hX, ↓yfx49_1 hX, ↓yfx56_0 hX, ↓yfx49_2 hX, ↓yfx58_0 hX, ↓yfx49_3 hX, ↓yfx60_0 hX, rx0_0 hX, rx0_1 hX, rx0_3 hX, rx0_4 hX, rx0_5 hX, rx0_6 hX, rx0_7 hX, rx0_8 hX, rx0_9 hX, rx1_0 hX, rx1_1 hX, rx1_2 hX, rx1_3 hX, rx1_4 hX, rx1_5 hX, rx1_6 hX, rx9_0 hX, rx9_1 hX, rx9_2 hX, rx9_3 hX, rx9_4 hX, rx9_5 hX, rx9_6 hX, rx17_0 hX, rx17_1 hX, rx17_2 hX, rx17_3 hX, rx24_0 hX, rx19_0 hX, rx19_1 hX, rx19_2 hX, rx19_3 hX, rx18_0 hX, rx26_0 hX, rx26_1 hX, rx18_1 hX, rx29_0 hX, rx29_1 hX, rx18_2 hX, rx32_0 hX, rx32_1 hX, rx18_3 hX, rx35_0 hX, rx35_1 hX, rx18_4 hX, rx38_0 hX, rx38_1 hX, rx18_5 hX, rx41_0 hX, rx41_1 hX, rx44_0 hX, rx44_1 hX, rx44_2 hX, rx44_3 hX, rx44_4 hX, rx44_5 hX, rx49_0 hX, rx54_0 hX, rx49_1 hX, rx56_0 hX, rx49_2 hX, rx58_0 hX, rx49_3 hX, rx60_0 hX]) hf.1 (by omega) (ip_wid (by omega) (by omega))
  have k83b := fun Q => p83 (d := d + 4) (n := 79) (S := S2) (R := R) (L := L) (i := b) (v := q.2.2.1) (Q := Q) (by omega) (by simp only [↓yfx0_0 hX, ↓yfx0_1 hX, ↓yfx0_3 hX, ↓yfx0_4 hX, ↓yfx0_5 hX, ↓yfx0_6 hX, ↓yfx0_7 hX, ↓yfx0_8 hX, ↓yfx0_9 hX, ↓yfx1_0 hX, ↓yfx1_1 hX, ↓yfx1_2 hX, ↓yfx1_3 hX, ↓yfx1_4 hX, ↓yfx1_5 hX, ↓yfx1_6 hX, ↓yfx9_0 hX, ↓yfx9_1 hX, ↓yfx9_2 hX, ↓yfx9_3 hX, ↓yfx9_4 hX, ↓yfx9_5 hX, ↓yfx9_6 hX, ↓yfx17_0 hX, ↓yfx17_1 hX, ↓yfx17_2 hX, ↓yfx17_3 hX, ↓yfx24_0 hX, ↓yfx19_0 hX, ↓yfx19_1 hX, ↓yfx19_2 hX, ↓yfx19_3 hX, ↓yfx18_0 hX, ↓yfx26_0 hX, ↓yfx26_1 hX, ↓yfx18_1 hX, ↓yfx29_0 hX, ↓yfx29_1 hX, ↓yfx18_2 hX, ↓yfx32_0 hX, ↓yfx32_1 hX, ↓yfx18_3 hX, ↓yfx35_0 hX, ↓yfx35_1 hX, ↓yfx18_4 hX, ↓yfx38_0 hX, ↓yfx38_1 hX, ↓yfx18_5 hX, ↓yfx41_0 hX, ↓yfx41_1 hX, ↓yfx44_0 hX, ↓yfx44_1 hX, ↓yfx44_2 hX, ↓yfx44_3 hX, ↓yfx44_4 hX, ↓yfx44_5 hX, ↓yfx49_0 hX, ↓yfx54_0 hX, ↓yfx49_1 hX, ↓yfx56_0 hX, ↓yfx49_2 hX, ↓yfx58_0 hX, ↓yfx49_3 hX, ↓yfx60_0 hX, rx0_0 hX, rx0_1 hX, rx0_3 hX, rx0_4 hX, rx0_5 hX, rx0_6 hX, rx0_7 hX, rx0_8 hX, rx0_9 hX, rx1_0 hX, rx1_1 hX, rx1_2 hX, rx1_3 hX, rx1_4 hX, rx1_5 hX, rx1_6 hX, rx9_0 hX, rx9_1 hX, rx9_2 hX, rx9_3 hX, rx9_4 hX, rx9_5 hX, rx9_6 hX, rx17_0 hX, rx17_1 hX, rx17_2 hX, rx17_3 hX, rx24_0 hX, rx19_0 hX, rx19_1 hX, rx19_2 hX, rx19_3 hX, rx18_0 hX, rx26_0 hX, rx26_1 hX, rx18_1 hX, rx29_0 hX, rx29_1 hX, rx18_2 hX, rx32_0 hX, rx32_1 hX, rx18_3 hX, rx35_0 hX, rx35_1 hX, rx18_4 hX, rx38_0 hX, rx38_1 hX, rx18_5 hX, rx41_0 hX, rx41_1 hX, rx44_0 hX, rx44_1 hX, rx44_2 hX, rx44_3 hX, rx44_4 hX, rx44_5 hX, rx49_0 hX, rx54_0 hX, rx49_1 hX, rx56_0 hX, rx49_2 hX, rx58_0 hX, rx49_3 hX, rx60_0 hX]) hb.1 (by omega) (ip_wid (by omega) (by omega))
  rw [hS2] at k83
  simp (disch := omega) only [c82, s82_0, s82_1, s82_2, s82_3, s82_4, s82_5, s82_6, s82_7, s82_8, s82_9, s82_10, s82_11, s82_12, s82_13, s82_14, s82_15, s82_16, s82_17, s82_18, ↓reduceIte, Bool.true_eq_false, Bool.false_eq_true, ip_rfS, true_or, or_true, true_and, and_true, Option.toList_some, Option.toList_none, List.cons_append, List.nil_append, ip_fxn, ip_fxi, ip_fxr, ip_fxl, ip_wid, ip_n998, ip_lt900, iO0, iO1, iA2, iA3, iA4, iA5, iA6, iA7, iA8, iO9, iA10, iA11, iA12, iA13, iA14, iA15, iA16, iO17, iA18, iO19, iA20, iA21, iA22, iA23, iO24, iA25, iO26, iA27, iA28, iO29, iA30, iA31, iO32, iA33, iA34, iO35, iA36, iA37, iO38, iA39, iA40, iO41, iA42, iA43, iO44, iA45, iA46, iA47, iA48, iA49, iA50, iA51, iA52, iA53, iO54, iA55, iO56, iA57, iO58, iA59, iO60, iA61, iO62, iA63, iA64, iA65, iA66, iA67, iA68, iA69, iA70, iA71, iA72, iA73, iA74, iA75, iA76, iA77, iA78, iOT, iAT1, iAT2, iOS, iAS, ↓yfx0_0 hX, ↓yfx0_1 hX, ↓yfx0_3 hX, ↓yfx0_4 hX, ↓yfx0_5 hX, ↓yfx0_6 hX, ↓yfx0_7 hX, ↓yfx0_8 hX, ↓yfx0_9 hX, ↓yfx1_0 hX, ↓yfx1_1 hX, ↓yfx1_2 hX, ↓yfx1_3 hX, ↓yfx1_4 hX, ↓yfx1_5 hX, ↓yfx1_6 hX, ↓yfx9_0 hX, ↓yfx9_1 hX, ↓yfx9_2 hX, ↓yfx9_3 hX, ↓yfx9_4 hX, ↓yfx9_5 hX, ↓yfx9_6 hX, ↓yfx17_0 hX, ↓yfx17_1 hX, ↓yfx17_2 hX, ↓yfx17_3 hX, ↓yfx24_0 hX, ↓yfx19_0 hX, ↓yfx19_1 hX, ↓yfx19_2 hX, ↓yfx19_3 hX, ↓yfx18_0 hX, ↓yfx26_0 hX, ↓yfx26_1 hX, ↓yfx18_1 hX, ↓yfx29_0 hX, ↓yfx29_1 hX, ↓yfx18_2 hX, ↓yfx32_0 hX, ↓yfx32_1 hX, ↓yfx18_3 hX, ↓yfx35_0 hX, ↓yfx35_1 hX, ↓yfx18_4 hX, ↓yfx38_0 hX, ↓yfx38_1 hX, ↓yfx18_5 hX, ↓yfx41_0 hX, ↓yfx41_1 hX, ↓yfx44_0 hX, ↓yfx44_1 hX, ↓yfx44_2 hX, ↓yfx44_3 hX, ↓yfx44_4 hX, ↓yfx44_5 hX, ↓yfx49_0 hX, ↓yfx54_0 hX, ↓yfx49_1 hX, ↓yfx56_0 hX, ↓yfx49_2 hX, ↓yfx58_0 hX, ↓yfx49_3 hX, ↓yfx60_0 hX, rx0_0 hX, rx0_1 hX, rx0_3 hX, rx0_4 hX, rx0_5 hX, rx0_6 hX, rx0_7 hX, rx0_8 hX, rx0_9 hX, rx1_0 hX, rx1_1 hX, rx1_2 hX, rx1_3 hX, rx1_4 hX, rx1_5 hX, rx1_6 hX, rx9_0 hX, rx9_1 hX, rx9_2 hX, rx9_3 hX, rx9_4 hX, rx9_5 hX, rx9_6 hX, rx17_0 hX, rx17_1 hX, rx17_2 hX, rx17_3 hX, rx24_0 hX, rx19_0 hX, rx19_1 hX, rx19_2 hX, rx19_3 hX, rx18_0 hX, rx26_0 hX, rx26_1 hX, rx18_1 hX, rx29_0 hX, rx29_1 hX, rx18_2 hX, rx32_0 hX, rx32_1 hX, rx18_3 hX, rx35_0 hX, rx35_1 hX, rx18_4 hX, rx38_0 hX, rx38_1 hX, rx18_5 hX, rx41_0 hX, rx41_1 hX, rx44_0 hX, rx44_1 hX, rx44_2 hX, rx44_3 hX, rx44_4 hX, rx44_5 hX, rx49_0 hX, rx54_0 hX, rx49_1 hX, rx56_0 hX, rx49_2 hX, rx58_0 hX, rx49_3 hX, rx60_0 hX, p45r, k_n1, k_n0, k_n2, ip_r0, ip_r1, k1, k83, k83b]
theorem m_flmz {s : Nat} {n i : Int} {q : w_R} (h : x_ez S q) : x_ez (m_flm S s n i q) q := by
  unfold x_ez m_flm
  rw [m_ar_ne (by omega), m_ar_ne (by omega), ip_upc (by omega), ip_upc (by omega), ip_upc (by omega), ip_upc (by omega)]
  exact h
theorem m_flm1 {s : Nat} {n i : Int} {q : w_R} : m_flm S s n i q (54 + 2 * s) 1 = 0 := by
  unfold m_flm
  rw [m_ar_ne (by omega), ip_upk (by omega), ip_ups]
theorem m_flmb {s : Nat} {n : Int} {q : w_R} : m_bec S s 0 n = m_flm S s n 0 q := by
  unfold m_flm
  rw [h_pl0]
  rfl
theorem m_flmu {s : Nat} {n i : Int} {q : w_R} (h : 0 ≤ i) : ip_up (m_flm S s n i q) (55 + 2 * s) i (q.2.2.2.2 (w_pb i q.2.1)) = m_flm S s n (i + 1) q := by
  unfold m_flm
  rw [ip_up_ar, h_plu h]
theorem x102l {s : Nat} {s0 t a n : Int} {q : w_R} (hX : x_RX R) (hs : s < 4) (hz : x_ez S q) (hq : 0 ≤ q.2.1 ∧ q.2.1 ≤ 40) (hp : ∀ i, 0 ≤ i → i ≤ q.2.1 → 0 ≤ q.2.2.2.2 i ∧ q.2.2.2.2 i < 8) (hn : n ≤ 20) {Q} : ∀ (k : Nat) (i : Int), i + k = n → 0 ≤ i →
    ip_wp (d + 1) 102 39 [some (.ref 0), some (vi s0), some (vi t), some (vi a), some (vi n), some (.ref (54 + 2 * s)), some (vi i)] [] 79 (m_flm S s n i q) R L Q = Q (some (vi n)) 79 (m_flm S s n n q) R L
  | 0, i, h, hi => by
    obtain rfl : i = n := by omega
    rw [s102_39]
    simp (disch := omega) only [s102_40, s102_41, s102_42, s102_43, s102_44, s102_45, s102_46, s102_47, s102_48, s102_49, s102_50, s102_51, s102_52, ↓reduceIte, Bool.true_eq_false, Bool.false_eq_true, ip_rfS, true_or, or_true, true_and, and_true, Option.toList_some, Option.toList_none, List.cons_append, List.nil_append, ip_fxn, ip_fxi, ip_fxr, ip_fxl, ip_wid, ip_n998, ip_lt900, iO0, iO1, iA2, iA3, iA4, iA5, iA6, iA7, iA8, iO9, iA10, iA11, iA12, iA13, iA14, iA15, iA16, iO17, iA18, iO19, iA20, iA21, iA22, iA23, iO24, iA25, iO26, iA27, iA28, iO29, iA30, iA31, iO32, iA33, iA34, iO35, iA36, iA37, iO38, iA39, iA40, iO41, iA42, iA43, iO44, iA45, iA46, iA47, iA48, iA49, iA50, iA51, iA52, iA53, iO54, iA55, iO56, iA57, iO58, iA59, iO60, iA61, iO62, iA63, iA64, iA65, iA66, iA67, iA68, iA69, iA70, iA71, iA72, iA73, iA74, iA75, iA76, iA77, iA78, iOT, iAT1, iAT2, iOS, iAS, ↓yfx0_0 hX, ↓yfx0_1 hX, ↓yfx0_3 hX, ↓yfx0_4 hX, ↓yfx0_5 hX, ↓yfx0_6 hX, ↓yfx0_7 hX, ↓yfx0_8 hX, ↓yfx0_9 hX, ↓yfx1_0 hX, ↓yfx1_1 hX, ↓yfx1_2 hX, ↓yfx1_3 hX, ↓yfx1_4 hX, ↓yfx1_5 hX, ↓yfx1_6 hX, ↓yfx9_0 hX, ↓yfx9_1 hX, ↓yfx9_2 hX, ↓yfx9_3 hX, ↓yfx9_4 hX, ↓yfx9_5 hX, ↓yfx9_6 hX, ↓yfx17_0 hX, ↓yfx17_1 hX, ↓yfx17_2 hX, ↓yfx17_3 hX, ↓yfx24_0 hX, ↓yfx19_0 hX, ↓yfx19_1 hX, ↓yfx19_2 hX, ↓yfx19_3 hX, ↓yfx18_0 hX, ↓yfx26_0 hX, ↓yfx26_1 hX, ↓yfx18_1 hX, ↓yfx29_0 hX, ↓yfx29_1 hX, ↓yfx18_2 hX, ↓yfx32_0 hX, ↓yfx32_1 hX, ↓yfx18_3 hX, ↓yfx35_0 hX, ↓yfx35_1 hX, ↓yfx18_4 hX, ↓yfx38_0 hX, ↓yfx38_1 hX, ↓yfx18_5 hX, ↓yfx41_0 hX, ↓yfx41_1 hX, ↓yfx44_0 hX, ↓yfx44_1 hX, ↓yfx44_2 hX, ↓yfx44_3 hX, ↓yfx44_4 hX, ↓yfx44_5 hX, ↓yfx49_0 hX, ↓yfx54_0 hX, ↓yfx49_1 hX, ↓yfx56_0 hX, ↓yfx49_2 hX, ↓yfx58_0 hX, ↓yfx49_3 hX, ↓yfx60_0 hX, rx0_0 hX, rx0_1 hX, rx0_3 hX, rx0_4 hX, rx0_5 hX, rx0_6 hX, rx0_7 hX, rx0_8 hX, rx0_9 hX, rx1_0 hX, rx1_1 hX, rx1_2 hX, rx1_3 hX, rx1_4 hX, rx1_5 hX, rx1_6 hX, rx9_0 hX, rx9_1 hX, rx9_2 hX, rx9_3 hX, rx9_4 hX, rx9_5 hX, rx9_6 hX, rx17_0 hX, rx17_1 hX, rx17_2 hX, rx17_3 hX, rx24_0 hX, rx19_0 hX, rx19_1 hX, rx19_2 hX, rx19_3 hX, rx18_0 hX, rx26_0 hX, rx26_1 hX, rx18_1 hX, rx29_0 hX, rx29_1 hX, rx18_2 hX, rx32_0 hX, rx32_1 hX, rx18_3 hX, rx35_0 hX, rx35_1 hX, rx18_4 hX, rx38_0 hX, rx38_1 hX, rx18_5 hX, rx41_0 hX, rx41_1 hX, rx44_0 hX, rx44_1 hX, rx44_2 hX, rx44_3 hX, rx44_4 hX, rx44_5 hX, rx49_0 hX, rx54_0 hX, rx49_1 hX, rx56_0 hX, rx49_2 hX, rx58_0 hX, rx49_3 hX, rx60_0 hX, p45r, k_n1, k_n0, k_n2, ip_r0, ip_r1, Int.lt_irrefl]
  | k + 1, i, h, hi => by
    have hw := w_pbr (k := i) hq.1
    have hz2 := m_flmz (s := s) (n := n) (i := i) hz
    have k80 := fun Q' => p80 (d := d) (S := m_flm S s n i q) (R := R) (L := L) (Q := Q') (k := i) (s := q.2.1) hX (by omega) hz2.2.1 hq
    rw [hz2.2.2.2.2 (w_pb i q.2.1) hw.1 hw.2] at k80
    have hv := hp (w_pb i q.2.1) hw.1 hw.2
    have e : h_put 0 (q.2.2.2.2 (w_pb i q.2.1)) = q.2.2.2.2 (w_pb i q.2.1) := by unfold h_put; rw [if_pos rfl]; exact ip_i8s hv
    have k104 := fun Q' => p104 (d := d) (n := 79) (s := s) (S := m_flm S s n i q) (R := R) (L := L) (Q := Q') (i := i) (v := q.2.2.2.2 (w_pb i q.2.1)) (so := 0) hs (by omega) (rx_S2 hX hs) m_flm1 ip_w0 hi (by omega) (by rw [e]; exact ip_wid (by omega) (by omega))
    rw [e, m_flmu hi] at k104
    rw [← x102l (Q := Q) (s0 := s0) (t := t) (a := a) hX hs hz hq hp hn k (i + 1) (by omega) (by omega), s102_39]
    simp (disch := omega) only [s102_40, s102_41, s102_42, s102_43, s102_44, s102_45, s102_46, s102_47, s102_48, s102_49, s102_50, s102_51, s102_52, ↓reduceIte, Bool.true_eq_false, Bool.false_eq_true, ip_rfS, true_or, or_true, true_and, and_true, Option.toList_some, Option.toList_none, List.cons_append, List.nil_append, ip_fxn, ip_fxi, ip_fxr, ip_fxl, ip_wid, ip_n998, ip_lt900, iO0, iO1, iA2, iA3, iA4, iA5, iA6, iA7, iA8, iO9, iA10, iA11, iA12, iA13, iA14, iA15, iA16, iO17, iA18, iO19, iA20, iA21, iA22, iA23, iO24, iA25, iO26, iA27, iA28, iO29, iA30, iA31, iO32, iA33, iA34, iO35, iA36, iA37, iO38, iA39, iA40, iO41, iA42, iA43, iO44, iA45, iA46, iA47, iA48, iA49, iA50, iA51, iA52, iA53, iO54, iA55, iO56, iA57, iO58, iA59, iO60, iA61, iO62, iA63, iA64, iA65, iA66, iA67, iA68, iA69, iA70, iA71, iA72, iA73, iA74, iA75, iA76, iA77, iA78, iOT, iAT1, iAT2, iOS, iAS, ↓yfx0_0 hX, ↓yfx0_1 hX, ↓yfx0_3 hX, ↓yfx0_4 hX, ↓yfx0_5 hX, ↓yfx0_6 hX, ↓yfx0_7 hX, ↓yfx0_8 hX, ↓yfx0_9 hX, ↓yfx1_0 hX, ↓yfx1_1 hX, ↓yfx1_2 hX, ↓yfx1_3 hX, ↓yfx1_4 hX, ↓yfx1_5 hX, ↓yfx1_6 hX, ↓yfx9_0 hX, ↓yfx9_1 hX, ↓yfx9_2 hX, ↓yfx9_3 hX, ↓yfx9_4 hX, ↓yfx9_5 hX, ↓yfx9_6 hX, ↓yfx17_0 hX, ↓yfx17_1 hX, ↓yfx17_2 hX, ↓yfx17_3 hX, ↓yfx24_0 hX, ↓yfx19_0 hX, ↓yfx19_1 hX, ↓yfx19_2 hX, ↓yfx19_3 hX, ↓yfx18_0 hX, ↓yfx26_0 hX, ↓yfx26_1 hX, ↓yfx18_1 hX, ↓yfx29_0 hX, ↓yfx29_1 hX, ↓yfx18_2 hX, ↓yfx32_0 hX, ↓yfx32_1 hX, ↓yfx18_3 hX, ↓yfx35_0 hX, ↓yfx35_1 hX, ↓yfx18_4 hX, ↓yfx38_0 hX, ↓yfx38_1 hX, ↓yfx18_5 hX, ↓yfx41_0 hX, ↓yfx41_1 hX, ↓yfx44_0 hX, ↓yfx44_1 hX, ↓yfx44_2 hX, ↓yfx44_3 hX, ↓yfx44_4 hX, ↓yfx44_5 hX, ↓yfx49_0 hX, ↓yfx54_0 hX, ↓yfx49_1 hX, ↓yfx56_0 hX, ↓yfx49_2 hX, ↓yfx58_0 hX, ↓yfx49_3 hX, ↓yfx60_0 hX, rx0_0 hX, rx0_1 hX, rx0_3 hX, rx0_4 hX, rx0_5 hX, rx0_6 hX, rx0_7 hX, rx0_8 hX, rx0_9 hX, rx1_0 hX, rx1_1 hX, rx1_2 hX, rx1_3 hX, rx1_4 hX, rx1_5 hX, rx1_6 hX, rx9_0 hX, rx9_1 hX, rx9_2 hX, rx9_3 hX, rx9_4 hX, rx9_5 hX, rx9_6 hX, rx17_0 hX, rx17_1 hX, rx17_2 hX, rx17_3 hX, rx24_0 hX, rx19_0 hX, rx19_1 hX, rx19_2 hX, rx19_3 hX, rx18_0 hX, rx26_0 hX, rx26_1 hX, rx18_1 hX, rx29_0 hX, rx29_1 hX, rx18_2 hX, rx32_0 hX, rx32_1 hX, rx18_3 hX, rx35_0 hX, rx35_1 hX, rx18_4 hX, rx38_0 hX, rx38_1 hX, rx18_5 hX, rx41_0 hX, rx41_1 hX, rx44_0 hX, rx44_1 hX, rx44_2 hX, rx44_3 hX, rx44_4 hX, rx44_5 hX, rx49_0 hX, rx54_0 hX, rx49_1 hX, rx56_0 hX, rx49_2 hX, rx58_0 hX, rx49_3 hX, rx60_0 hX, p45r, k_n1, k_n0, k_n2, ip_r0, ip_r1, show i < n by omega, k80, k104]
theorem x102r {s t a n p : Int} (hX : x_RX R) (hJ : x_J S) (h7 : x_rd7 S) (hp : S 1 7 = p) (hp6 : p ≤ 6) (hs : 0 ≤ s ∧ s < 4) (ht : 0 ≤ t ∧ t < 100) (hf : 0 ≤ t / 10 ∧ t / 10 < p) (hb : 0 ≤ t % 10 ∧ t % 10 < p) (ha : 0 ≤ a ∧ a < 8) (hn : 0 ≤ n ∧ n ≤ 20) :
    ∃ S1, x_g S S1 ∧ ∀ Q, ip_wp (d + 6) 102 18 [some (.ref 0), some (vi s), some (vi t), some (vi a), some (vi n), none, none] [] 79 S R L Q = Q (some (vi n)) 79 (m_flm S1 s.toNat n n (w_rz (w_X S) (t / 10) (t % 10) a)) R L := by
  obtain ⟨S1, g1, z1, k1⟩ := x82 (d := d) (L := L) (f := t / 10) (b := t % 10) (a := a) hX hJ h7 hp hp6 hf hb ha
  have r := w_rzr (W := w_X S) (f := t / 10) (b := t % 10) (a := a) hJ.1 ha
  have hs4 : s.toNat < 4 := by omega
  have r1 := rx_Si hX (s := s) hs.1 hs.2
  have h10 : (¬ (10 : Int) = 0) = True := eq_true (by omega)
  have k103 := fun Q' => p103 (d := d + 5) (n := 79) (s := s.toNat) (S := S1) (R := R) (L := L) (Q := Q') (v := 0) (w := n) hs4 (by omega) (rx_S2 hX hs4) ip_w0 (ip_wid (by omega) (by omega))
  have eb := m_flmb (S := S1) (s := s.toNat) (n := n) (q := w_rz (w_X S) (t / 10) (t % 10) a)
  unfold m_bec at eb
  rw [eb] at k103
  refine ⟨S1, g1, fun Q => ?_⟩
  rw [← x102l (Q := Q) (d := d + 5) (S := S1) (s0 := s) (t := t) (a := a) hX hs4 z1 r.2.1 r.2.2.2.2.1 hn.2 n.toNat 0 (by omega) (by omega)]
  simp (disch := omega) only [s102_18, s102_19, s102_20, s102_21, s102_22, s102_23, s102_24, s102_25, s102_26, s102_27, s102_28, s102_29, s102_30, s102_31, s102_32, s102_33, s102_34, s102_35, s102_36, s102_37, s102_38, ↓reduceIte, Bool.true_eq_false, Bool.false_eq_true, ip_rfS, true_or, or_true, true_and, and_true, Option.toList_some, Option.toList_none, List.cons_append, List.nil_append, ip_fxn, ip_fxi, ip_fxr, ip_fxl, ip_wid, ip_n998, ip_lt900, iO0, iO1, iA2, iA3, iA4, iA5, iA6, iA7, iA8, iO9, iA10, iA11, iA12, iA13, iA14, iA15, iA16, iO17, iA18, iO19, iA20, iA21, iA22, iA23, iO24, iA25, iO26, iA27, iA28, iO29, iA30, iA31, iO32, iA33, iA34, iO35, iA36, iA37, iO38, iA39, iA40, iO41, iA42, iA43, iO44, iA45, iA46, iA47, iA48, iA49, iA50, iA51, iA52, iA53, iO54, iA55, iO56, iA57, iO58, iA59, iO60, iA61, iO62, iA63, iA64, iA65, iA66, iA67, iA68, iA69, iA70, iA71, iA72, iA73, iA74, iA75, iA76, iA77, iA78, iOT, iAT1, iAT2, iOS, iAS, ↓yfx0_0 hX, ↓yfx0_1 hX, ↓yfx0_3 hX, ↓yfx0_4 hX, ↓yfx0_5 hX, ↓yfx0_6 hX, ↓yfx0_7 hX, ↓yfx0_8 hX, ↓yfx0_9 hX, ↓yfx1_0 hX, ↓yfx1_1 hX, ↓yfx1_2 hX, ↓yfx1_3 hX, ↓yfx1_4 hX, ↓yfx1_5 hX, ↓yfx1_6 hX, ↓yfx9_0 hX, ↓yfx9_1 hX, ↓yfx9_2 hX, ↓yfx9_3 hX, ↓yfx9_4 hX, ↓yfx9_5 hX, ↓yfx9_6 hX, ↓yfx17_0 hX, ↓yfx17_1 hX, ↓yfx17_2 hX, ↓yfx17_3 hX, ↓yfx24_0 hX, ↓yfx19_0 hX, ↓yfx19_1 hX, ↓yfx19_2 hX, ↓yfx19_3 hX, ↓yfx18_0 hX, ↓yfx26_0 hX, ↓yfx26_1 hX, ↓yfx18_1 hX, ↓yfx29_0 hX, ↓yfx29_1 hX, ↓yfx18_2 hX, ↓yfx32_0 hX, ↓yfx32_1 hX, ↓yfx18_3 hX, ↓yfx35_0 hX, ↓yfx35_1 hX, ↓yfx18_4 hX, ↓yfx38_0 hX, ↓yfx38_1 hX, ↓yfx18_5 hX, ↓yfx41_0 hX, ↓yfx41_1 hX, ↓yfx44_0 hX, ↓yfx44_1 hX, ↓yfx44_2 hX, ↓yfx44_3 hX, ↓yfx44_4 hX, ↓yfx44_5 hX, ↓yfx49_0 hX, ↓yfx54_0 hX, ↓yfx49_1 hX, ↓yfx56_0 hX, ↓yfx49_2 hX, ↓yfx58_0 hX, ↓yfx49_3 hX, ↓yfx60_0 hX, rx0_0 hX, rx0_1 hX, rx0_3 hX, rx0_4 hX, rx0_5 hX, rx0_6 hX, rx0_7 hX, rx0_8 hX, rx0_9 hX, rx1_0 hX, rx1_1 hX, rx1_2 hX, rx1_3 hX, rx1_4 hX, rx1_5 hX, rx1_6 hX, rx9_0 hX, rx9_1 hX, rx9_2 hX, rx9_3 hX, rx9_4 hX, rx9_5 hX, rx9_6 hX, rx17_0 hX, rx17_1 hX, rx17_2 hX, rx17_3 hX, rx24_0 hX, rx19_0 hX, rx19_1 hX, rx19_2 hX, rx19_3 hX, rx18_0 hX, rx26_0 hX, rx26_1 hX, rx18_1 hX, rx29_0 hX, rx29_1 hX, rx18_2 hX, rx32_0 hX, rx32_1 hX, rx18_3 hX, rx35_0 hX, rx35_1 hX, rx18_4 hX, rx38_0 hX, rx38_1 hX, rx18_5 hX, rx41_0 hX, rx41_1 hX, rx44_0 hX, rx44_1 hX, rx44_2 hX, rx44_3 hX, rx44_4 hX, rx44_5 hX, rx49_0 hX, rx54_0 hX, rx49_1 hX, rx56_0 hX, rx49_2 hX, rx58_0 hX, rx49_3 hX, rx60_0 hX, p45r, k_n1, k_n0, k_n2, ip_r0, ip_r1, ip_div_id, ip_rem_id, h10, k1, r1, k103]
/-! the reference -/
def h_pm (q : w_R) (o i : Int) (F : Int → Int) : Int → Int := fun k => if o ≤ k ∧ k < o + i then q.2.2.2.2 (w_pb (k - o) q.2.1) else F k
theorem h_pm0 {q : w_R} {o : Int} {F : Int → Int} : h_pm q o 0 F = F := by funext k; exact if_neg (by omega)
theorem h_pmu {q : w_R} {F : Int → Int} {o i : Int} (h : 0 ≤ i) : ip_u (h_pm q o i F) (o + i) (q.2.2.2.2 (w_pb i q.2.1)) = h_pm q o (i + 1) F := by
  funext k
  unfold ip_u h_pm
  by_cases c : k = o + i
  · rw [if_pos c, if_pos (by omega), c, show o + i - o = i by omega]
  · rw [if_neg c]
    by_cases c2 : o ≤ k ∧ k < o + i
    · rw [if_pos c2, if_pos (by omega)]
    · rw [if_neg c2, if_neg (by omega)]
def n_flm (S : ip_S) (s n i : Int) (q : w_R) : ip_S := ip_ar (m_hdr S s 0 n) 78 (h_pm q (40 * s) i (m_zi (S 78) (40 * s) n))
theorem n_flmb {s n : Int} {q : w_R} : m_bec2 S s 0 n = n_flm S s n 0 q := by
  unfold n_flm
  rw [h_pm0]
  rfl
theorem n_flmu {s n i : Int} {q : w_R} (h : 0 ≤ i) : ip_up (n_flm S s n i q) 78 (40 * s + i) (q.2.2.2.2 (w_pb i q.2.1)) = n_flm S s n (i + 1) q := by
  unfold n_flm
  rw [ip_up_ar, h_pmu h]
theorem n_flmn {s n i : Int} {q : w_R} {b : Nat} (h1 : b ≠ 75) (h2 : b ≠ 76) (h3 : b ≠ 77) (h4 : b ≠ 78) : n_flm S s n i q b = S b := by
  unfold n_flm m_hdr
  rw [m_ar_ne h4, ip_upc h3, ip_upc h2, ip_upc h1]
theorem y219l {s t a n : Int} {q : w_R} (hM : x_RM R) (hs : 0 ≤ s ∧ s < 4) (hz : y_ez S q) (hq : 0 ≤ q.2.1 ∧ q.2.1 ≤ 40) (hp : ∀ i, 0 ≤ i → i ≤ q.2.1 → 0 ≤ q.2.2.2.2 i ∧ q.2.2.2.2 i < 8) (hn : n ≤ 20) {Q} : ∀ (k : Nat) (i : Int), i + k = n → 0 ≤ i →
    ip_wp (d + 1) 219 35 [some (.ref 62), some (vi s), some (vi t), some (vi a), some (vi n), some (vi i)] [] 79 (n_flm S s n i q) R L Q = Q (some (vi n)) 79 (n_flm S s n n q) R L
  | 0, i, h, hi => by
    obtain rfl : i = n := by omega
    rw [s219_35]
    simp (disch := omega) only [s219_36, s219_37, s219_38, s219_39, s219_40, s219_41, s219_42, s219_43, s219_44, s219_45, s219_46, s219_47, s219_48, s219_49, s219_50, s219_51, s219_52, ↓reduceIte, Bool.true_eq_false, Bool.false_eq_true, ip_rfS, true_or, or_true, true_and, and_true, Option.toList_some, Option.toList_none, List.cons_append, List.nil_append, ip_fxn, ip_fxi, ip_fxr, ip_fxl, ip_wid, ip_n998, ip_lt900, iO0, iO1, iA2, iA3, iA4, iA5, iA6, iA7, iA8, iO9, iA10, iA11, iA12, iA13, iA14, iA15, iA16, iO17, iA18, iO19, iA20, iA21, iA22, iA23, iO24, iA25, iO26, iA27, iA28, iO29, iA30, iA31, iO32, iA33, iA34, iO35, iA36, iA37, iO38, iA39, iA40, iO41, iA42, iA43, iO44, iA45, iA46, iA47, iA48, iA49, iA50, iA51, iA52, iA53, iO54, iA55, iO56, iA57, iO58, iA59, iO60, iA61, iO62, iA63, iA64, iA65, iA66, iA67, iA68, iA69, iA70, iA71, iA72, iA73, iA74, iA75, iA76, iA77, iA78, iOT, iAT1, iAT2, iOS, iAS, ↓yfm1 hM, ↓yfm2 hM, ↓yfm5 hM, ↓yfm8 hM, ↓yfm9 hM, ↓yfm10 hM, ↓yfm12 hM, ↓yfm28 hM, ↓yfm32 hM, ↓yfm35 hM, ↓yfm36 hM, ↓yfm37 hM, ↓yfm41 hM, ↓yfm42 hM, ↓yfm43 hM, ↓yfm44 hM, rm1 hM, rm2 hM, rm5 hM, rm8 hM, rm9 hM, rm10 hM, rm12 hM, rm28 hM, rm32 hM, rm35 hM, rm36 hM, rm37 hM, rm41 hM, rm42 hM, rm43 hM, rm44 hM, p128r, p187r, p215r, k_n1, k_n0, k_n2, ip_r0, ip_r1, Int.lt_irrefl]
  | k + 1, i, h, hi => by
    have hw := w_pbr (k := i) hq.1
    have k200 := fun Q' => p200 (d := d) (S := n_flm S s n i q) (R := R) (L := L) (Q := Q') (k := i) (s := q.2.1) hM (by omega) (by rw [n_flmn (by omega) (by omega) (by omega) (by omega)]; exact hz.1) hq
    rw [n_flmn (by omega) (by omega) (by omega) (by omega), hz.2.2.2 (w_pb i q.2.1) hw.1 hw.2] at k200
    have hv := hp (w_pb i q.2.1) hw.1 hw.2
    rw [← y219l (Q := Q) (t := t) (a := a) hM hs hz hq hp hn k (i + 1) (by omega) (by omega), s219_35, ← n_flmu hi]
    simp (disch := omega) only [s219_36, s219_37, s219_38, s219_39, s219_40, s219_41, s219_42, s219_43, s219_44, s219_45, s219_46, s219_47, s219_48, s219_49, s219_50, s219_51, s219_52, ↓reduceIte, Bool.true_eq_false, Bool.false_eq_true, ip_rfS, true_or, or_true, true_and, and_true, Option.toList_some, Option.toList_none, List.cons_append, List.nil_append, ip_fxn, ip_fxi, ip_fxr, ip_fxl, ip_wid, ip_n998, ip_lt900, iO0, iO1, iA2, iA3, iA4, iA5, iA6, iA7, iA8, iO9, iA10, iA11, iA12, iA13, iA14, iA15, iA16, iO17, iA18, iO19, iA20, iA21, iA22, iA23, iO24, iA25, iO26, iA27, iA28, iO29, iA30, iA31, iO32, iA33, iA34, iO35, iA36, iA37, iO38, iA39, iA40, iO41, iA42, iA43, iO44, iA45, iA46, iA47, iA48, iA49, iA50, iA51, iA52, iA53, iO54, iA55, iO56, iA57, iO58, iA59, iO60, iA61, iO62, iA63, iA64, iA65, iA66, iA67, iA68, iA69, iA70, iA71, iA72, iA73, iA74, iA75, iA76, iA77, iA78, iOT, iAT1, iAT2, iOS, iAS, ↓yfm1 hM, ↓yfm2 hM, ↓yfm5 hM, ↓yfm8 hM, ↓yfm9 hM, ↓yfm10 hM, ↓yfm12 hM, ↓yfm28 hM, ↓yfm32 hM, ↓yfm35 hM, ↓yfm36 hM, ↓yfm37 hM, ↓yfm41 hM, ↓yfm42 hM, ↓yfm43 hM, ↓yfm44 hM, rm1 hM, rm2 hM, rm5 hM, rm8 hM, rm9 hM, rm10 hM, rm12 hM, rm28 hM, rm32 hM, rm35 hM, rm36 hM, rm37 hM, rm41 hM, rm42 hM, rm43 hM, rm44 hM, p128r, p187r, p215r, k_n1, k_n0, k_n2, ip_r0, ip_r1, show i < n by omega, k200]
theorem y219r {s t a n : Int} (hM : x_RM R) (hW : w_ok W) (hR : y_R W m S) (hG : w_gd W) (hs : 0 ≤ s ∧ s < 4) (ht : 0 ≤ t ∧ t < 100) (hf : 0 ≤ t / 10 ∧ t / 10 < m) (hb : 0 ≤ t % 10 ∧ t % 10 < m) (ha : 0 ≤ a ∧ a < 8) (hn : 0 ≤ n ∧ n ≤ 20) :
    ∃ S1 w', y_g S S1 ∧ ∀ Q, ip_wp (d + 48) 219 18 [some (.ref 62), some (vi s), some (vi t), some (vi a), some (vi n), none] [] 79 S R L Q = Q (some (vi n)) 79 (n_flm S1 s n n (w_rz W (t / 10) (t % 10) a)) R (ip_up L 62 24 w') := by
  obtain ⟨S1, w1, g1, z1, k1⟩ := y198z (d := d) (L := L) (f := t / 10) (b := t % 10) (a := a) hM hW hR hG hf hb ha
  have r := w_rzr (W := W) (f := t / 10) (b := t % 10) (a := a) (w_okr hW) ha
  have h10 : (¬ (10 : Int) = 0) = True := eq_true (by omega)
  have k220 := fun Q' => p220 (d := d + 45) (S := S1) (R := R) (L := ip_up L 62 24 w1) (Q := Q') (s := s) (v := 0) (n := n) (by omega) (by omega) (by omega) hM
  rw [n_flmb (q := w_rz W (t / 10) (t % 10) a)] at k220
  simp only [if_pos (show (0 ≤ s ∧ s < 4) ∧ (-1 : Int) ≤ 0 ∧ (0 : Int) < 3 from ⟨hs, by omega⟩), if_neg (show ¬ (0 : Int) = -1 by omega), if_pos (show n ≤ 40 by omega), if_pos hn.1] at k220
  refine ⟨S1, w1, g1, fun Q => ?_⟩
  rw [← y219l (Q := Q) (d := d + 47) (S := S1) (s := s) (t := t) (a := a) hM hs z1 r.2.1 r.2.2.2.2.1 hn.2 n.toNat 0 (by omega) (by omega)]
  simp (disch := omega) only [s219_18, s219_19, s219_20, s219_21, s219_22, s219_23, s219_24, s219_25, s219_26, s219_27, s219_28, s219_29, s219_30, s219_31, s219_32, s219_33, s219_34, ↓reduceIte, Bool.true_eq_false, Bool.false_eq_true, ip_rfS, true_or, or_true, true_and, and_true, Option.toList_some, Option.toList_none, List.cons_append, List.nil_append, ip_fxn, ip_fxi, ip_fxr, ip_fxl, ip_wid, ip_n998, ip_lt900, iO0, iO1, iA2, iA3, iA4, iA5, iA6, iA7, iA8, iO9, iA10, iA11, iA12, iA13, iA14, iA15, iA16, iO17, iA18, iO19, iA20, iA21, iA22, iA23, iO24, iA25, iO26, iA27, iA28, iO29, iA30, iA31, iO32, iA33, iA34, iO35, iA36, iA37, iO38, iA39, iA40, iO41, iA42, iA43, iO44, iA45, iA46, iA47, iA48, iA49, iA50, iA51, iA52, iA53, iO54, iA55, iO56, iA57, iO58, iA59, iO60, iA61, iO62, iA63, iA64, iA65, iA66, iA67, iA68, iA69, iA70, iA71, iA72, iA73, iA74, iA75, iA76, iA77, iA78, iOT, iAT1, iAT2, iOS, iAS, ↓yfm1 hM, ↓yfm2 hM, ↓yfm5 hM, ↓yfm8 hM, ↓yfm9 hM, ↓yfm10 hM, ↓yfm12 hM, ↓yfm28 hM, ↓yfm32 hM, ↓yfm35 hM, ↓yfm36 hM, ↓yfm37 hM, ↓yfm41 hM, ↓yfm42 hM, ↓yfm43 hM, ↓yfm44 hM, rm1 hM, rm2 hM, rm5 hM, rm8 hM, rm9 hM, rm10 hM, rm12 hM, rm28 hM, rm32 hM, rm35 hM, rm36 hM, rm37 hM, rm41 hM, rm42 hM, rm43 hM, rm44 hM, p128r, p187r, p215r, k_n1, k_n0, k_n2, ip_r0, ip_r1, ip_div_id, ip_rem_id, h10, k1, k220]
end FLX
