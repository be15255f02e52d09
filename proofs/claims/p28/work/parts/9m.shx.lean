/-! one road shut: the world without it, and back -/
theorem ip_upu {S : ip_S} {a : Nat} {i v : Int} : ip_up S a i v a = ip_u (S a) i v := by
  funext k
  unfold ip_up ip_u
  by_cases c : k = i
  · rw [if_pos ⟨rfl, c⟩, if_pos c]
  · rw [if_neg (by omega), if_neg c]
theorem f_o1 {r : Int → Int} {k : Int} (h : ¬ (0 ≤ k ∧ k < 64)) : ∀ (n : Nat) (i : Int) (f : Int → Int), 0 ≤ i → i + n ≤ 64 → m_l1 r n i f k = f k
  | 0, _, _, _, _ => rfl
  | n + 1, i, f, h0, h1 => by rw [m_l1, f_o1 h n (i + 1) _ (by omega) (by omega), ip_u_ne _ _ (by omega)]
theorem f_o2 {y k : Int} (h : ¬ (0 ≤ k ∧ k < 64)) : ∀ (n : Nat) (i : Int) (f : Int → Int), 0 ≤ i → i + n ≤ 64 → m_l2 y n i f k = f k
  | 0, _, _, _, _ => rfl
  | n + 1, i, f, h0, h1 => by rw [m_l2, f_o2 h n (i + 1) _ (by omega) (by omega), ip_u_ne _ _ (by omega)]
theorem f_o3 {k : Int} (h : ¬ (0 ≤ k ∧ k < 64)) : ∀ (n : Nat) (y : Int) (f : Int → Int), m_l3 n y f k = f k
  | 0, _, _ => rfl
  | n + 1, y, f => by rw [m_l3, f_o3 h n (y + 1) _, f_o2 h 64 0 f (by omega) (by omega)]
theorem f_fwo {r f : Int → Int} {k : Int} (h : ¬ (0 ≤ k ∧ k < 64)) : m_fw r f k = f k := by
  unfold m_fw
  rw [f_o3 h, f_o1 h 64 0 f (by omega) (by omega)]
theorem f_fwi {r r' f : Int → Int} (hr : ∀ k, 0 ≤ k → k < 64 → 0 ≤ r k ∧ r k ≤ 99) : m_fw r (m_fw r' f) = m_fw r f := by
  funext k
  by_cases h : 0 ≤ k ∧ k < 64
  · exact f_fwc hr (fun _ _ _ => rfl) k h.1 h.2
  · rw [f_fwo h, f_fwo h, f_fwo h]
def x_sy (r : Int → Int) : Prop := ∀ x y, 0 ≤ x → x < 8 → 0 ≤ y → y < 8 → r (x * 8 + y) = r (y * 8 + x)
theorem x_syu {r : Int → Int} {x y : Int} (hs : x_sy r) (hx : 0 ≤ x ∧ x < 8) (hy : 0 ≤ y ∧ y < 8) : ip_u (ip_u (ip_u (ip_u r (x * 8 + y) 0) (y * 8 + x) 0) (x * 8 + y) (r (x * 8 + y))) (y * 8 + x) (r (x * 8 + y)) = r := by
  funext k
  have := hs x y hx.1 hx.2 hy.1 hy.2
  unfold ip_u
  by_cases c : k = y * 8 + x
  · rw [if_pos c, c, this]
  · rw [if_neg c]
    by_cases c2 : k = x * 8 + y
    · rw [if_pos c2, c2]
    · rw [if_neg c2, if_neg c, if_neg c2]
theorem x_ur {r : Int → Int} {x y v : Int} (hv : 0 ≤ v ∧ v ≤ 99) (hr : ∀ k, 0 ≤ k → k < 64 → 0 ≤ r k ∧ r k ≤ 99) : ∀ k, 0 ≤ k → k < 64 → 0 ≤ ip_u (ip_u r x v) y v k ∧ ip_u (ip_u r x v) y v k ≤ 99 := fun k h0 h1 => by
  unfold ip_u
  split
  · exact hv
  · split
    · exact hv
    · exact hr k h0 h1
def w_lay (W : w_T) (x y v : Int) : w_T := (w_kd W, w_nu W, w_go W, w_hr W, ip_u (ip_u (w_ro W) (x * 8 + y) v) (y * 8 + x) v, m_fw (ip_u (ip_u (w_ro W) (x * 8 + y) v) (y * 8 + x) v) (w_D W), w_V W)
theorem w_lok {W : w_T} {x y v : Int} (hW : w_ok W) (hv : 0 ≤ v ∧ v ≤ 99) : w_ok (w_lay W x y v) := ⟨hW.1, hW.2.1, fun k h0 h1 => ⟨x_ur hv (w_okr hW) k h0 h1, (f_fw (x_ur hv (w_okr hW))).1 k h0 h1⟩⟩
theorem w_lgd {W : w_T} {x y v : Int} (hW : w_ok W) (hv : 0 ≤ v ∧ v ≤ 99) : w_gd (w_lay W x y v) := (f_fw (f := w_D W) (x_ur (x := x * 8 + y) (y := y * 8 + x) hv (w_okr hW))).2.2
def a_wo (W : w_T) (f b a x y : Int) : Int := if w_ro W (x * 8 + y) = 0 then -1 else (w_rz (w_lay W x y 0) f b a).2.2.1
def a_sh (W : w_T) (f b a : Int) : Nat → Int → Int × Int → Int × Int
  | 0, _, st => st
  | n + 1, k, st => a_sh W f b a n (k + 1) (if k / 8 < k % 8 ∧ st.2 < a_wo W f b a (k / 8) (k % 8) then (10 * (k / 8) + k % 8, a_wo W f b a (k / 8) (k % 8)) else st)
def a_shw (w : Int) (st : Int × Int) : Int := if w = 0 then st.1 else st.2
theorem a_wor {W : w_T} {f b a x y : Int} (hr : ∀ k, 0 ≤ k → k < 64 → 0 ≤ w_ro W k ∧ w_ro W k ≤ 99) (ha : 0 ≤ a ∧ a < 8) : -1 ≤ a_wo W f b a x y ∧ a_wo W f b a x y ≤ 3960 := by
  unfold a_wo
  split
  · omega
  · have := (w_rzr (W := w_lay W x y 0) (f := f) (b := b) (a := a) (x_ur (by omega) hr) ha).2.2.1
    omega
theorem a_shA {W : w_T} {f b a : Int} {m : Nat} : ∀ (n : Nat) (k : Int) (st : Int × Int), a_sh W f b a (n + m) k st = a_sh W f b a m (k + n) (a_sh W f b a n k st)
  | 0, k, st => by rw [Nat.zero_add, a_sh, Int.cast_ofNat_Int, Int.add_zero]
  | n + 1, k, st => by
    rw [show n + 1 + m = (n + m) + 1 by omega, a_sh, a_shA n, a_sh, show k + 1 + (n : Int) = k + ((n + 1 : Nat) : Int) by omega]
theorem a_shz {W : w_T} {f b a : Int} : ∀ (n : Nat) (k : Int) (st : Int × Int), (∀ q, k ≤ q → q < k + n → ¬ q / 8 < q % 8) → a_sh W f b a n k st = st
  | 0, _, _, _ => rfl
  | n + 1, k, st, h => by
    rw [a_sh, if_neg (fun z => h k (by omega) (by omega) z.1)]
    exact a_shz n (k + 1) st (fun q h0 h1 => h q (by omega) (by omega))
theorem a_shs {W : w_T} {f b a : Int} {k i : Nat} {st : Int × Int} (hi : i < 8) : a_sh W f b a (8 * (k + 1)) (8 * (i : Int)) st = a_sh W f b a (8 * k) (8 * ((i : Int) + 1)) (a_sh W f b a (7 - i) ((i : Int) * 8 + ((i : Int) + 1)) st) := by
  rw [show 8 * (k + 1) = (i + 1) + ((7 - i) + 8 * k) by omega, a_shA, a_shz (i + 1) (8 * (i : Int)) st (fun q h0 h1 => by omega), a_shA]
  rw [show 8 * (i : Int) + ((i + 1 : Nat) : Int) = (i : Int) * 8 + ((i : Int) + 1) by omega, show (i : Int) * 8 + ((i : Int) + 1) + ((7 - i : Nat) : Int) = 8 * ((i : Int) + 1) by omega]
def a_sb (st : Int × Int) : Prop := (-1 ≤ st.1 ∧ st.1 ≤ 100) ∧ (0 ≤ st.2 ∧ st.2 ≤ 3960)
theorem a_shr {W : w_T} {f b a : Int} (hr : ∀ k, 0 ≤ k → k < 64 → 0 ≤ w_ro W k ∧ w_ro W k ≤ 99) (ha : 0 ≤ a ∧ a < 8) : ∀ (n : Nat) (k : Int) (st : Int × Int), 0 ≤ k → k + n ≤ 64 → a_sb st → a_sb (a_sh W f b a n k st)
  | 0, _, _, _, _, h => h
  | n + 1, k, st, h0, h1, h => by
    rw [a_sh]
    refine a_shr hr ha n (k + 1) _ (by omega) (by omega) ?_
    split
    · rename_i c
      have := a_wor (f := f) (b := b) (x := k / 8) (y := k % 8) hr ha
      have := h.2
      exact ⟨by dsimp only; omega, by dsimp only; omega⟩
    · exact h
section SHX
variable {d : Nat} {S : ip_S} {R : ip_R} {L : ip_S}
theorem m_lay2e {x y v : Int} : m_lay S x y v 2 = ip_u (ip_u (S 2) (x * 8 + y) v) (y * 8 + x) v := by
  unfold m_lay
  rw [m_ar_ne (by omega), ip_upu, ip_upu]
theorem m_lay3e {x y v : Int} : m_lay S x y v 3 = m_fw (ip_u (ip_u (S 2) (x * 8 + y) v) (y * 8 + x) v) (S 3) := by
  unfold m_lay
  rw [m_ar_eq, ip_upu, ip_upu]
theorem m_layn {x y v : Int} {b : Nat} (h2 : b ≠ 2) (h3 : b ≠ 3) : m_lay S x y v b = S b := by
  unfold m_lay
  rw [m_ar_ne h3, ip_upc h2, ip_upc h2]
theorem x_lW {x y v : Int} : w_X (m_lay S x y v) = w_lay (w_X S) x y v := by
  unfold w_X w_lay w_kd w_nu w_go w_hr w_ro w_D w_V
  simp (disch := omega) only [m_lay2e, m_lay3e, m_layn]
theorem x_lJ {x y v : Int} (hJ : x_J S) (hv : 0 ≤ v ∧ v ≤ 99) : x_J (m_lay S x y v) := by
  unfold x_J
  simp (disch := omega) only [m_lay2e, m_lay3e, m_layn]
  exact ⟨x_ur hv hJ.1, (f_fw (x_ur hv hJ.1)).1, hJ.2.2⟩
def x_D (S : ip_S) : Prop := S 3 = m_fw (S 2) (S 3) ∧ x_sy (S 2)
theorem x_D_c {S1 : ip_S} (hD : x_D S) (h2 : S1 2 = S 2) (h3 : S1 3 = S 3) : x_D S1 := by
  unfold x_D
  rw [h2, h3]
  exact hD
theorem x_lb {S2 : ip_S} {x y : Int} (hJ : x_J S) (hD : x_D S) (hx : 0 ≤ x ∧ x < 8) (hy : 0 ≤ y ∧ y < 8) (h : x_fr (m_lay S x y 0) S2) : x_fr S (m_lay S2 x y (S 2 (x * 8 + y))) := by
  have h2 := h 2 (by omega) (by omega) (by omega) (by omega) (by omega) (by omega)
  have h3 := h 3 (by omega) (by omega) (by omega) (by omega) (by omega) (by omega)
  have e2 : m_lay S2 x y (S 2 (x * 8 + y)) 2 = S 2 := by
    rw [m_lay2e, h2, m_lay2e, x_syu hD.2 hx hy]
  intro b a1 a2 a3 a4 a5 a6
  by_cases c2 : b = 2
  · rw [c2, e2]
  · by_cases c3 : b = 3
    · rw [c3, m_lay3e, h2, h3, m_lay2e, m_lay3e, x_syu hD.2 hx hy, f_fwi hJ.1]
      exact hD.1.symm
    · rw [m_layn c2 c3, h b a1 a2 a3 a4 a5 a6, m_layn c2 c3]
theorem x95 {f b a x y : Int} (hX : x_RX R) (hJ : x_J S) (hD : x_D S) (hf : 0 ≤ f ∧ f < 6) (hb : 0 ≤ b ∧ b < 6) (ha : 0 ≤ a ∧ a < 8) (hx : 0 ≤ x ∧ x < 8) (hy : 0 ≤ y ∧ y < 8) :
    ∃ S', x_fr S S' ∧ ∀ Q, ip_wc (d + 6) 95 [.ref 0, vi (10 * f + b), vi a, vi x, vi y] 79 S R L Q = Q (some (vi (a_wo (w_X S) f b a x y))) 79 S' R L := by
  have k49 := fun Q' => p49 (d := d + 4) (n := 79) (S := S) (R := R) (L := L) (Q := Q') (x := x) (y := y) (by omega) (rx1_0 hX) hx.1 hx.2 hy.1 hy.2
  have hr := hJ.1 (x * 8 + y) (by omega) (by omega)
  have h10 : (¬ (10 : Int) = 0) = True := eq_true (by omega)
  have q1 : (10 * f + b) / 10 = f := by omega
  have q2 : (10 * f + b) % 10 = b := by omega
  unfold a_wo
  rw [show w_ro (w_X S) = S 2 from rfl]
  by_cases c : S 2 (x * 8 + y) = 0
  · refine ⟨S, x_fr_r, fun Q => ?_⟩
    rw [if_pos c]
    simp (disch := omega) only [c95, s95_0, s95_1, s95_2, s95_3, s95_4, s95_5, s95_6, s95_7, s95_8, s95_9, s95_10, s95_11, s95_12, s95_13, s95_14, s95_15, s95_16, s95_17, s95_18, s95_19, s95_20, s95_21, s95_22, s95_23, s95_24, s95_25, s95_26, s95_27, s95_28, s95_29, s95_30, s95_31, s95_32, s95_33, s95_34, ↓reduceIte, Bool.true_eq_false, Bool.false_eq_true, ip_rfS, true_or, or_true, true_and, and_true, Option.toList_some, Option.toList_none, List.cons_append, List.nil_append, ip_fxn, ip_fxi, ip_fxr, ip_fxl, ip_wid, ip_n998, ip_lt900, iO0, iO1, iA2, iA3, iA4, iA5, iA6, iA7, iA8, iO9, iA10, iA11, iA12, iA13, iA14, iA15, iA16, iO17, iA18, iO19, iA20, iA21, iA22, iA23, iO24, iA25, iO26, iA27, iA28, iO29, iA30, iA31, iO32, iA33, iA34, iO35, iA36, iA37, iO38, iA39, iA40, iO41, iA42, iA43, iO44, iA45, iA46, iA47, iA48, iA49, iA50, iA51, iA52, iA53, iO54, iA55, iO56, iA57, iO58, iA59, iO60, iA61, iO62, iA63, iA64, iA65, iA66, iA67, iA68, iA69, iA70, iA71, iA72, iA73, iA74, iA75, iA76, iA77, iA78, iOT, iAT1, iAT2, iOS, iAS, ↓yfx0_0 hX, ↓yfx0_1 hX, ↓yfx0_3 hX, ↓yfx0_4 hX, ↓yfx0_5 hX, ↓yfx0_6 hX, ↓yfx0_7 hX, ↓yfx0_8 hX, ↓yfx0_9 hX, ↓yfx1_0 hX, ↓yfx1_1 hX, ↓yfx1_2 hX, ↓yfx1_3 hX, ↓yfx1_4 hX, ↓yfx1_5 hX, ↓yfx1_6 hX, ↓yfx9_0 hX, ↓yfx9_1 hX, ↓yfx9_2 hX, ↓yfx9_3 hX, ↓yfx9_4 hX, ↓yfx9_5 hX, ↓yfx9_6 hX, ↓yfx17_0 hX, ↓yfx17_1 hX, ↓yfx17_2 hX, ↓yfx17_3 hX, ↓yfx24_0 hX, ↓yfx19_0 hX, ↓yfx19_1 hX, ↓yfx19_2 hX, ↓yfx19_3 hX, ↓yfx18_0 hX, ↓yfx26_0 hX, ↓yfx26_1 hX, ↓yfx18_1 hX, ↓yfx29_0 hX, ↓yfx29_1 hX, ↓yfx18_2 hX, ↓yfx32_0 hX, ↓yfx32_1 hX, ↓yfx18_3 hX, ↓yfx35_0 hX, ↓yfx35_1 hX, ↓yfx18_4 hX, ↓yfx38_0 hX, ↓yfx38_1 hX, ↓yfx18_5 hX, ↓yfx41_0 hX, ↓yfx41_1 hX, ↓yfx44_0 hX, ↓yfx44_1 hX, ↓yfx44_2 hX, ↓yfx44_3 hX, ↓yfx44_4 hX, ↓yfx44_5 hX, ↓yfx49_0 hX, ↓yfx54_0 hX, ↓yfx49_1 hX, ↓yfx56_0 hX, ↓yfx49_2 hX, ↓yfx58_0 hX, ↓yfx49_3 hX, ↓yfx60_0 hX, rx0_0 hX, rx0_1 hX, rx0_3 hX, rx0_4 hX, rx0_5 hX, rx0_6 hX, rx0_7 hX, rx0_8 hX, rx0_9 hX, rx1_0 hX, rx1_1 hX, rx1_2 hX, rx1_3 hX, rx1_4 hX, rx1_5 hX, rx1_6 hX, rx9_0 hX, rx9_1 hX, rx9_2 hX, rx9_3 hX, rx9_4 hX, rx9_5 hX, rx9_6 hX, rx17_0 hX, rx17_1 hX, rx17_2 hX, rx17_3 hX, rx24_0 hX, rx19_0 hX, rx19_1 hX, rx19_2 hX, rx19_3 hX, rx18_0 hX, rx26_0 hX, rx26_1 hX, rx18_1 hX, rx29_0 hX, rx29_1 hX, rx18_2 hX, rx32_0 hX, rx32_1 hX, rx18_3 hX, rx35_0 hX, rx35_1 hX, rx18_4 hX, rx38_0 hX, rx38_1 hX, rx18_5 hX, rx41_0 hX, rx41_1 hX, rx44_0 hX, rx44_1 hX, rx44_2 hX, rx44_3 hX, rx44_4 hX, rx44_5 hX, rx49_0 hX, rx54_0 hX, rx49_1 hX, rx56_0 hX, rx49_2 hX, rx58_0 hX, rx49_3 hX, rx60_0 hX, p45r, k_n1, k_n0, k_n2, ip_r0, ip_r1, k49, eq_true c]
  · have k50 := fun Q' => p50 (d := d + 2) (n := 79) (S := S) (R := R) (L := L) (Q := Q') (x := x) (y := y) (v := 0) (by omega) (rx1_0 hX) (rx1_1 hX) hx.1 hx.2 hy.1 hy.2 ip_w0
    obtain ⟨S2, f2, -, k2⟩ := x75 (d := d) (L := L) (f := f) (b := b) (a := a) hX (x_lJ (x := x) (y := y) (v := 0) hJ (by omega)) hf hb ha
    rw [x_lW] at k2
    have k51 := fun Q' => p50 (d := d + 2) (n := 79) (S := S2) (R := R) (L := L) (Q := Q') (x := x) (y := y) (v := S 2 (x * 8 + y)) (by omega) (rx1_0 hX) (rx1_1 hX) hx.1 hx.2 hy.1 hy.2 (ip_wid (by omega) (by omega))
    refine ⟨_, x_lb hJ hD hx hy f2, fun Q => ?_⟩
    rw [if_neg c]
    simp (disch := omega) only [c95, s95_0, s95_1, s95_2, s95_3, s95_4, s95_5, s95_6, s95_7, s95_8, s95_9, s95_10, s95_11, s95_12, s95_13, s95_14, s95_15, s95_16, s95_17, s95_18, s95_19, s95_20, s95_21, s95_22, s95_23, s95_24, s95_25, s95_26, s95_27, s95_28, s95_29, s95_30, s95_31, s95_32, s95_33, s95_34, ↓reduceIte, Bool.true_eq_false, Bool.false_eq_true, ip_rfS, true_or, or_true, true_and, and_true, Option.toList_some, Option.toList_none, List.cons_append, List.nil_append, ip_fxn, ip_fxi, ip_fxr, ip_fxl, ip_wid, ip_n998, ip_lt900, iO0, iO1, iA2, iA3, iA4, iA5, iA6, iA7, iA8, iO9, iA10, iA11, iA12, iA13, iA14, iA15, iA16, iO17, iA18, iO19, iA20, iA21, iA22, iA23, iO24, iA25, iO26, iA27, iA28, iO29, iA30, iA31, iO32, iA33, iA34, iO35, iA36, iA37, iO38, iA39, iA40, iO41, iA42, iA43, iO44, iA45, iA46, iA47, iA48, iA49, iA50, iA51, iA52, iA53, iO54, iA55, iO56, iA57, iO58, iA59, iO60, iA61, iO62, iA63, iA64, iA65, iA66, iA67, iA68, iA69, iA70, iA71, iA72, iA73, iA74, iA75, iA76, iA77, iA78, iOT, iAT1, iAT2, iOS, iAS, ↓yfx0_0 hX, ↓yfx0_1 hX, ↓yfx0_3 hX, ↓yfx0_4 hX, ↓yfx0_5 hX, ↓yfx0_6 hX, ↓yfx0_7 hX, ↓yfx0_8 hX, ↓yfx0_9 hX, ↓yfx1_0 hX, ↓yfx1_1 hX, ↓yfx1_2 hX, ↓yfx1_3 hX, ↓yfx1_4 hX, ↓yfx1_5 hX, ↓yfx1_6 hX, ↓yfx9_0 hX, ↓yfx9_1 hX, ↓yfx9_2 hX, ↓yfx9_3 hX, ↓yfx9_4 hX, ↓yfx9_5 hX, ↓yfx9_6 hX, ↓yfx17_0 hX, ↓yfx17_1 hX, ↓yfx17_2 hX, ↓yfx17_3 hX, ↓yfx24_0 hX, ↓yfx19_0 hX, ↓yfx19_1 hX, ↓yfx19_2 hX, ↓yfx19_3 hX, ↓yfx18_0 hX, ↓yfx26_0 hX, ↓yfx26_1 hX, ↓yfx18_1 hX, ↓yfx29_0 hX, ↓yfx29_1 hX, ↓yfx18_2 hX, ↓yfx32_0 hX, ↓yfx32_1 hX, ↓yfx18_3 hX, ↓yfx35_0 hX, ↓yfx35_1 hX, ↓yfx18_4 hX, ↓yfx38_0 hX, ↓yfx38_1 hX, ↓yfx18_5 hX, ↓yfx41_0 hX, ↓yfx41_1 hX, ↓yfx44_0 hX, ↓yfx44_1 hX, ↓yfx44_2 hX, ↓yfx44_3 hX, ↓yfx44_4 hX, ↓yfx44_5 hX, ↓yfx49_0 hX, ↓yfx54_0 hX, ↓yfx49_1 hX, ↓yfx56_0 hX, ↓yfx49_2 hX, ↓yfx58_0 hX, ↓yfx49_3 hX, ↓yfx60_0 hX, rx0_0 hX, rx0_1 hX, rx0_3 hX, rx0_4 hX, rx0_5 hX, rx0_6 hX, rx0_7 hX, rx0_8 hX, rx0_9 hX, rx1_0 hX, rx1_1 hX, rx1_2 hX, rx1_3 hX, rx1_4 hX, rx1_5 hX, rx1_6 hX, rx9_0 hX, rx9_1 hX, rx9_2 hX, rx9_3 hX, rx9_4 hX, rx9_5 hX, rx9_6 hX, rx17_0 hX, rx17_1 hX, rx17_2 hX, rx17_3 hX, rx24_0 hX, rx19_0 hX, rx19_1 hX, rx19_2 hX, rx19_3 hX, rx18_0 hX, rx26_0 hX, rx26_1 hX, rx18_1 hX, rx29_0 hX, rx29_1 hX, rx18_2 hX, rx32_0 hX, rx32_1 hX, rx18_3 hX, rx35_0 hX, rx35_1 hX, rx18_4 hX, rx38_0 hX, rx38_1 hX, rx18_5 hX, rx41_0 hX, rx41_1 hX, rx44_0 hX, rx44_1 hX, rx44_2 hX, rx44_3 hX, rx44_4 hX, rx44_5 hX, rx49_0 hX, rx54_0 hX, rx49_1 hX, rx56_0 hX, rx49_2 hX, rx58_0 hX, rx49_3 hX, rx60_0 hX, p45r, k_n1, k_n0, k_n2, ip_r0, ip_r1, k49, c, k50, ip_div_id, ip_rem_id, h10, q1, q2, k2, k51]
theorem x94j {f b a w : Int} (hX : x_RX R) (hJ : x_J S) (hD : x_D S) (hf : 0 ≤ f ∧ f < 6) (hb : 0 ≤ b ∧ b < 6) (ha : 0 ≤ a ∧ a < 8) {i : Int} (hi : 0 ≤ i ∧ i < 8) : ∀ (k : Nat) (j : Int) (st : Int × Int) (S1 : ip_S) (v9 : Option Value), j + k = 8 → i < j → a_sb st → x_fr S S1 →
    ∃ S' v', x_fr S S' ∧ ∀ Q, ip_wp (d + 6) 94 33 [some (.ref 0), some (vi f), some (vi b), some (vi a), some (vi w), some (vi st.1), some (vi st.2), some (vi i), some (vi j), v9] [] 79 S1 R L Q = ip_wp (d + 6) 94 60 [some (.ref 0), some (vi f), some (vi b), some (vi a), some (vi w), some (vi (a_sh (w_X S) f b a k (i * 8 + j) st).1), some (vi (a_sh (w_X S) f b a k (i * 8 + j) st).2), some (vi i), some (vi 8), v'] [] 79 S' R L Q
  | 0, j, st, S1, v9, h, hij, hs, h1 => by
    obtain rfl : j = 8 := by omega
    refine ⟨S1, v9, h1, fun Q => ?_⟩
    rw [s94_33]
    simp (disch := omega) only [s94_34, s94_35, s94_36, s94_37, s94_38, s94_39, s94_40, s94_41, s94_42, s94_43, s94_44, s94_45, s94_46, s94_47, s94_48, s94_49, s94_50, s94_51, s94_52, s94_53, s94_54, s94_55, s94_56, s94_57, s94_58, s94_59, ↓reduceIte, Bool.true_eq_false, Bool.false_eq_true, ip_rfS, true_or, or_true, true_and, and_true, Option.toList_some, Option.toList_none, List.cons_append, List.nil_append, ip_fxn, ip_fxi, ip_fxr, ip_fxl, ip_wid, ip_n998, ip_lt900, iO0, iO1, iA2, iA3, iA4, iA5, iA6, iA7, iA8, iO9, iA10, iA11, iA12, iA13, iA14, iA15, iA16, iO17, iA18, iO19, iA20, iA21, iA22, iA23, iO24, iA25, iO26, iA27, iA28, iO29, iA30, iA31, iO32, iA33, iA34, iO35, iA36, iA37, iO38, iA39, iA40, iO41, iA42, iA43, iO44, iA45, iA46, iA47, iA48, iA49, iA50, iA51, iA52, iA53, iO54, iA55, iO56, iA57, iO58, iA59, iO60, iA61, iO62, iA63, iA64, iA65, iA66, iA67, iA68, iA69, iA70, iA71, iA72, iA73, iA74, iA75, iA76, iA77, iA78, iOT, iAT1, iAT2, iOS, iAS, ↓yfx0_0 hX, ↓yfx0_1 hX, ↓yfx0_3 hX, ↓yfx0_4 hX, ↓yfx0_5 hX, ↓yfx0_6 hX, ↓yfx0_7 hX, ↓yfx0_8 hX, ↓yfx0_9 hX, ↓yfx1_0 hX, ↓yfx1_1 hX, ↓yfx1_2 hX, ↓yfx1_3 hX, ↓yfx1_4 hX, ↓yfx1_5 hX, ↓yfx1_6 hX, ↓yfx9_0 hX, ↓yfx9_1 hX, ↓yfx9_2 hX, ↓yfx9_3 hX, ↓yfx9_4 hX, ↓yfx9_5 hX, ↓yfx9_6 hX, ↓yfx17_0 hX, ↓yfx17_1 hX, ↓yfx17_2 hX, ↓yfx17_3 hX, ↓yfx24_0 hX, ↓yfx19_0 hX, ↓yfx19_1 hX, ↓yfx19_2 hX, ↓yfx19_3 hX, ↓yfx18_0 hX, ↓yfx26_0 hX, ↓yfx26_1 hX, ↓yfx18_1 hX, ↓yfx29_0 hX, ↓yfx29_1 hX, ↓yfx18_2 hX, ↓yfx32_0 hX, ↓yfx32_1 hX, ↓yfx18_3 hX, ↓yfx35_0 hX, ↓yfx35_1 hX, ↓yfx18_4 hX, ↓yfx38_0 hX, ↓yfx38_1 hX, ↓yfx18_5 hX, ↓yfx41_0 hX, ↓yfx41_1 hX, ↓yfx44_0 hX, ↓yfx44_1 hX, ↓yfx44_2 hX, ↓yfx44_3 hX, ↓yfx44_4 hX, ↓yfx44_5 hX, ↓yfx49_0 hX, ↓yfx54_0 hX, ↓yfx49_1 hX, ↓yfx56_0 hX, ↓yfx49_2 hX, ↓yfx58_0 hX, ↓yfx49_3 hX, ↓yfx60_0 hX, rx0_0 hX, rx0_1 hX, rx0_3 hX, rx0_4 hX, rx0_5 hX, rx0_6 hX, rx0_7 hX, rx0_8 hX, rx0_9 hX, rx1_0 hX, rx1_1 hX, rx1_2 hX, rx1_3 hX, rx1_4 hX, rx1_5 hX, rx1_6 hX, rx9_0 hX, rx9_1 hX, rx9_2 hX, rx9_3 hX, rx9_4 hX, rx9_5 hX, rx9_6 hX, rx17_0 hX, rx17_1 hX, rx17_2 hX, rx17_3 hX, rx24_0 hX, rx19_0 hX, rx19_1 hX, rx19_2 hX, rx19_3 hX, rx18_0 hX, rx26_0 hX, rx26_1 hX, rx18_1 hX, rx29_0 hX, rx29_1 hX, rx18_2 hX, rx32_0 hX, rx32_1 hX, rx18_3 hX, rx35_0 hX, rx35_1 hX, rx18_4 hX, rx38_0 hX, rx38_1 hX, rx18_5 hX, rx41_0 hX, rx41_1 hX, rx44_0 hX, rx44_1 hX, rx44_2 hX, rx44_3 hX, rx44_4 hX, rx44_5 hX, rx49_0 hX, rx54_0 hX, rx49_1 hX, rx56_0 hX, rx49_2 hX, rx58_0 hX, rx49_3 hX, rx60_0 hX, p45r, k_n1, k_n0, k_n2, ip_r0, ip_r1, Int.lt_irrefl, a_sh]
  | k + 1, j, st, S1, v9, h, hij, hs, h1 => by
    obtain ⟨S2, f2, k2⟩ := x95 (d := d) (L := L) (f := f) (b := b) (a := a) (x := i) (y := j) hX (x_fr_J h1 hJ) (x_D_c hD (h1 2 (by omega) (by omega) (by omega) (by omega) (by omega) (by omega)) (h1 3 (by omega) (by omega) (by omega) (by omega) (by omega) (by omega))) hf hb ha hi (by omega)
    rw [x_fr_W h1 hJ] at k2
    have hw := a_wor (W := w_X S) (f := f) (b := b) (x := i) (y := j) hJ.1 ha
    have hs2 := hs.2
    rw [a_sh, show (i * 8 + j) / 8 = i by omega, show (i * 8 + j) % 8 = j by omega, show i * 8 + j + 1 = i * 8 + (j + 1) by omega]
    by_cases c : st.2 < a_wo (w_X S) f b a i j
    · rw [if_pos ⟨hij, c⟩]
      obtain ⟨S', v', i1, i2⟩ := x94j (w := w) hX hJ hD hf hb ha hi k (j + 1) (10 * i + j, a_wo (w_X S) f b a i j) S2 (some (vi (a_wo (w_X S) f b a i j))) (by omega) (by omega) ⟨by dsimp only; omega, by dsimp only; omega⟩ (x_fr_t h1 f2)
      refine ⟨S', v', i1, fun Q => ?_⟩
      rw [← i2 Q, s94_33]
      simp (disch := omega) only [s94_34, s94_35, s94_36, s94_37, s94_38, s94_39, s94_40, s94_41, s94_42, s94_43, s94_44, s94_45, s94_46, s94_47, s94_48, s94_49, s94_50, s94_51, s94_52, s94_53, s94_54, s94_55, s94_56, s94_57, s94_58, s94_59, ↓reduceIte, Bool.true_eq_false, Bool.false_eq_true, ip_rfS, true_or, or_true, true_and, and_true, Option.toList_some, Option.toList_none, List.cons_append, List.nil_append, ip_fxn, ip_fxi, ip_fxr, ip_fxl, ip_wid, ip_n998, ip_lt900, iO0, iO1, iA2, iA3, iA4, iA5, iA6, iA7, iA8, iO9, iA10, iA11, iA12, iA13, iA14, iA15, iA16, iO17, iA18, iO19, iA20, iA21, iA22, iA23, iO24, iA25, iO26, iA27, iA28, iO29, iA30, iA31, iO32, iA33, iA34, iO35, iA36, iA37, iO38, iA39, iA40, iO41, iA42, iA43, iO44, iA45, iA46, iA47, iA48, iA49, iA50, iA51, iA52, iA53, iO54, iA55, iO56, iA57, iO58, iA59, iO60, iA61, iO62, iA63, iA64, iA65, iA66, iA67, iA68, iA69, iA70, iA71, iA72, iA73, iA74, iA75, iA76, iA77, iA78, iOT, iAT1, iAT2, iOS, iAS, ↓yfx0_0 hX, ↓yfx0_1 hX, ↓yfx0_3 hX, ↓yfx0_4 hX, ↓yfx0_5 hX, ↓yfx0_6 hX, ↓yfx0_7 hX, ↓yfx0_8 hX, ↓yfx0_9 hX, ↓yfx1_0 hX, ↓yfx1_1 hX, ↓yfx1_2 hX, ↓yfx1_3 hX, ↓yfx1_4 hX, ↓yfx1_5 hX, ↓yfx1_6 hX, ↓yfx9_0 hX, ↓yfx9_1 hX, ↓yfx9_2 hX, ↓yfx9_3 hX, ↓yfx9_4 hX, ↓yfx9_5 hX, ↓yfx9_6 hX, ↓yfx17_0 hX, ↓yfx17_1 hX, ↓yfx17_2 hX, ↓yfx17_3 hX, ↓yfx24_0 hX, ↓yfx19_0 hX, ↓yfx19_1 hX, ↓yfx19_2 hX, ↓yfx19_3 hX, ↓yfx18_0 hX, ↓yfx26_0 hX, ↓yfx26_1 hX, ↓yfx18_1 hX, ↓yfx29_0 hX, ↓yfx29_1 hX, ↓yfx18_2 hX, ↓yfx32_0 hX, ↓yfx32_1 hX, ↓yfx18_3 hX, ↓yfx35_0 hX, ↓yfx35_1 hX, ↓yfx18_4 hX, ↓yfx38_0 hX, ↓yfx38_1 hX, ↓yfx18_5 hX, ↓yfx41_0 hX, ↓yfx41_1 hX, ↓yfx44_0 hX, ↓yfx44_1 hX, ↓yfx44_2 hX, ↓yfx44_3 hX, ↓yfx44_4 hX, ↓yfx44_5 hX, ↓yfx49_0 hX, ↓yfx54_0 hX, ↓yfx49_1 hX, ↓yfx56_0 hX, ↓yfx49_2 hX, ↓yfx58_0 hX, ↓yfx49_3 hX, ↓yfx60_0 hX, rx0_0 hX, rx0_1 hX, rx0_3 hX, rx0_4 hX, rx0_5 hX, rx0_6 hX, rx0_7 hX, rx0_8 hX, rx0_9 hX, rx1_0 hX, rx1_1 hX, rx1_2 hX, rx1_3 hX, rx1_4 hX, rx1_5 hX, rx1_6 hX, rx9_0 hX, rx9_1 hX, rx9_2 hX, rx9_3 hX, rx9_4 hX, rx9_5 hX, rx9_6 hX, rx17_0 hX, rx17_1 hX, rx17_2 hX, rx17_3 hX, rx24_0 hX, rx19_0 hX, rx19_1 hX, rx19_2 hX, rx19_3 hX, rx18_0 hX, rx26_0 hX, rx26_1 hX, rx18_1 hX, rx29_0 hX, rx29_1 hX, rx18_2 hX, rx32_0 hX, rx32_1 hX, rx18_3 hX, rx35_0 hX, rx35_1 hX, rx18_4 hX, rx38_0 hX, rx38_1 hX, rx18_5 hX, rx41_0 hX, rx41_1 hX, rx44_0 hX, rx44_1 hX, rx44_2 hX, rx44_3 hX, rx44_4 hX, rx44_5 hX, rx49_0 hX, rx54_0 hX, rx49_1 hX, rx56_0 hX, rx49_2 hX, rx58_0 hX, rx49_3 hX, rx60_0 hX, p45r, k_n1, k_n0, k_n2, ip_r0, ip_r1, show j < 8 by omega, k2, c]
    · rw [if_neg (fun z => c z.2)]
      obtain ⟨S', v', i1, i2⟩ := x94j (w := w) hX hJ hD hf hb ha hi k (j + 1) st S2 (some (vi (a_wo (w_X S) f b a i j))) (by omega) (by omega) hs (x_fr_t h1 f2)
      refine ⟨S', v', i1, fun Q => ?_⟩
      rw [← i2 Q, s94_33]
      simp (disch := omega) only [s94_34, s94_35, s94_36, s94_37, s94_38, s94_39, s94_40, s94_41, s94_42, s94_43, s94_44, s94_45, s94_46, s94_47, s94_48, s94_49, s94_50, s94_51, s94_52, s94_53, s94_54, s94_55, s94_56, s94_57, s94_58, s94_59, ↓reduceIte, Bool.true_eq_false, Bool.false_eq_true, ip_rfS, true_or, or_true, true_and, and_true, Option.toList_some, Option.toList_none, List.cons_append, List.nil_append, ip_fxn, ip_fxi, ip_fxr, ip_fxl, ip_wid, ip_n998, ip_lt900, iO0, iO1, iA2, iA3, iA4, iA5, iA6, iA7, iA8, iO9, iA10, iA11, iA12, iA13, iA14, iA15, iA16, iO17, iA18, iO19, iA20, iA21, iA22, iA23, iO24, iA25, iO26, iA27, iA28, iO29, iA30, iA31, iO32, iA33, iA34, iO35, iA36, iA37, iO38, iA39, iA40, iO41, iA42, iA43, iO44, iA45, iA46, iA47, iA48, iA49, iA50, iA51, iA52, iA53, iO54, iA55, iO56, iA57, iO58, iA59, iO60, iA61, iO62, iA63, iA64, iA65, iA66, iA67, iA68, iA69, iA70, iA71, iA72, iA73, iA74, iA75, iA76, iA77, iA78, iOT, iAT1, iAT2, iOS, iAS, ↓yfx0_0 hX, ↓yfx0_1 hX, ↓yfx0_3 hX, ↓yfx0_4 hX, ↓yfx0_5 hX, ↓yfx0_6 hX, ↓yfx0_7 hX, ↓yfx0_8 hX, ↓yfx0_9 hX, ↓yfx1_0 hX, ↓yfx1_1 hX, ↓yfx1_2 hX, ↓yfx1_3 hX, ↓yfx1_4 hX, ↓yfx1_5 hX, ↓yfx1_6 hX, ↓yfx9_0 hX, ↓yfx9_1 hX, ↓yfx9_2 hX, ↓yfx9_3 hX, ↓yfx9_4 hX, ↓yfx9_5 hX, ↓yfx9_6 hX, ↓yfx17_0 hX, ↓yfx17_1 hX, ↓yfx17_2 hX, ↓yfx17_3 hX, ↓yfx24_0 hX, ↓yfx19_0 hX, ↓yfx19_1 hX, ↓yfx19_2 hX, ↓yfx19_3 hX, ↓yfx18_0 hX, ↓yfx26_0 hX, ↓yfx26_1 hX, ↓yfx18_1 hX, ↓yfx29_0 hX, ↓yfx29_1 hX, ↓yfx18_2 hX, ↓yfx32_0 hX, ↓yfx32_1 hX, ↓yfx18_3 hX, ↓yfx35_0 hX, ↓yfx35_1 hX, ↓yfx18_4 hX, ↓yfx38_0 hX, ↓yfx38_1 hX, ↓yfx18_5 hX, ↓yfx41_0 hX, ↓yfx41_1 hX, ↓yfx44_0 hX, ↓yfx44_1 hX, ↓yfx44_2 hX, ↓yfx44_3 hX, ↓yfx44_4 hX, ↓yfx44_5 hX, ↓yfx49_0 hX, ↓yfx54_0 hX, ↓yfx49_1 hX, ↓yfx56_0 hX, ↓yfx49_2 hX, ↓yfx58_0 hX, ↓yfx49_3 hX, ↓yfx60_0 hX, rx0_0 hX, rx0_1 hX, rx0_3 hX, rx0_4 hX, rx0_5 hX, rx0_6 hX, rx0_7 hX, rx0_8 hX, rx0_9 hX, rx1_0 hX, rx1_1 hX, rx1_2 hX, rx1_3 hX, rx1_4 hX, rx1_5 hX, rx1_6 hX, rx9_0 hX, rx9_1 hX, rx9_2 hX, rx9_3 hX, rx9_4 hX, rx9_5 hX, rx9_6 hX, rx17_0 hX, rx17_1 hX, rx17_2 hX, rx17_3 hX, rx24_0 hX, rx19_0 hX, rx19_1 hX, rx19_2 hX, rx19_3 hX, rx18_0 hX, rx26_0 hX, rx26_1 hX, rx18_1 hX, rx29_0 hX, rx29_1 hX, rx18_2 hX, rx32_0 hX, rx32_1 hX, rx18_3 hX, rx35_0 hX, rx35_1 hX, rx18_4 hX, rx38_0 hX, rx38_1 hX, rx18_5 hX, rx41_0 hX, rx41_1 hX, rx44_0 hX, rx44_1 hX, rx44_2 hX, rx44_3 hX, rx44_4 hX, rx44_5 hX, rx49_0 hX, rx54_0 hX, rx49_1 hX, rx56_0 hX, rx49_2 hX, rx58_0 hX, rx49_3 hX, rx60_0 hX, p45r, k_n1, k_n0, k_n2, ip_r0, ip_r1, show j < 8 by omega, k2, c]
theorem x94i {f b a w : Int} (hX : x_RX R) (hJ : x_J S) (hD : x_D S) (hf : 0 ≤ f ∧ f < 6) (hb : 0 ≤ b ∧ b < 6) (ha : 0 ≤ a ∧ a < 8) (hw : 0 ≤ w ∧ w < 2) : ∀ (k i : Nat) (st : Int × Int) (S1 : ip_S) (v8 v9 : Option Value), i + k = 8 → a_sb st → x_fr S S1 →
    ∃ S', x_fr S S' ∧ ∀ Q, ip_wp (d + 6) 94 26 [some (.ref 0), some (vi f), some (vi b), some (vi a), some (vi w), some (vi st.1), some (vi st.2), some (vi (i : Int)), v8, v9] [] 79 S1 R L Q = Q (some (vi (a_shw w (a_sh (w_X S) f b a (8 * k) (8 * (i : Int)) st)))) 79 S' R L
  | 0, i, st, S1, v8, v9, h, hs, h1 => by
    obtain rfl : i = 8 := by omega
    refine ⟨S1, h1, fun Q => ?_⟩
    rw [s94_26, Nat.mul_zero, a_sh]
    unfold a_shw
    by_cases c : w = 0
    · rw [if_pos c]
      simp (disch := omega) only [s94_27, s94_28, s94_62, s94_63, s94_64, s94_65, s94_66, s94_67, ↓reduceIte, Bool.true_eq_false, Bool.false_eq_true, ip_rfS, true_or, or_true, true_and, and_true, Option.toList_some, Option.toList_none, List.cons_append, List.nil_append, ip_fxn, ip_fxi, ip_fxr, ip_fxl, ip_wid, ip_n998, ip_lt900, iO0, iO1, iA2, iA3, iA4, iA5, iA6, iA7, iA8, iO9, iA10, iA11, iA12, iA13, iA14, iA15, iA16, iO17, iA18, iO19, iA20, iA21, iA22, iA23, iO24, iA25, iO26, iA27, iA28, iO29, iA30, iA31, iO32, iA33, iA34, iO35, iA36, iA37, iO38, iA39, iA40, iO41, iA42, iA43, iO44, iA45, iA46, iA47, iA48, iA49, iA50, iA51, iA52, iA53, iO54, iA55, iO56, iA57, iO58, iA59, iO60, iA61, iO62, iA63, iA64, iA65, iA66, iA67, iA68, iA69, iA70, iA71, iA72, iA73, iA74, iA75, iA76, iA77, iA78, iOT, iAT1, iAT2, iOS, iAS, ↓yfx0_0 hX, ↓yfx0_1 hX, ↓yfx0_3 hX, ↓yfx0_4 hX, ↓yfx0_5 hX, ↓yfx0_6 hX, ↓yfx0_7 hX, ↓yfx0_8 hX, ↓yfx0_9 hX, ↓yfx1_0 hX, ↓yfx1_1 hX, ↓yfx1_2 hX, ↓yfx1_3 hX, ↓yfx1_4 hX, ↓yfx1_5 hX, ↓yfx1_6 hX, ↓yfx9_0 hX, ↓yfx9_1 hX, ↓yfx9_2 hX, ↓yfx9_3 hX, ↓yfx9_4 hX, ↓yfx9_5 hX, ↓yfx9_6 hX, ↓yfx17_0 hX, ↓yfx17_1 hX, ↓yfx17_2 hX, ↓yfx17_3 hX, ↓yfx24_0 hX, ↓yfx19_0 hX, ↓yfx19_1 hX, ↓yfx19_2 hX, ↓yfx19_3 hX, ↓yfx18_0 hX, ↓yfx26_0 hX, ↓yfx26_1 hX, ↓yfx18_1 hX, ↓yfx29_0 hX, ↓yfx29_1 hX, ↓yfx18_2 hX, ↓yfx32_0 hX, ↓yfx32_1 hX, ↓yfx18_3 hX, ↓yfx35_0 hX, ↓yfx35_1 hX, ↓yfx18_4 hX, ↓yfx38_0 hX, ↓yfx38_1 hX, ↓yfx18_5 hX, ↓yfx41_0 hX, ↓yfx41_1 hX, ↓yfx44_0 hX, ↓yfx44_1 hX, ↓yfx44_2 hX, ↓yfx44_3 hX, ↓yfx44_4 hX, ↓yfx44_5 hX, ↓yfx49_0 hX, ↓yfx54_0 hX, ↓yfx49_1 hX, ↓yfx56_0 hX, ↓yfx49_2 hX, ↓yfx58_0 hX, ↓yfx49_3 hX, ↓yfx60_0 hX, rx0_0 hX, rx0_1 hX, rx0_3 hX, rx0_4 hX, rx0_5 hX, rx0_6 hX, rx0_7 hX, rx0_8 hX, rx0_9 hX, rx1_0 hX, rx1_1 hX, rx1_2 hX, rx1_3 hX, rx1_4 hX, rx1_5 hX, rx1_6 hX, rx9_0 hX, rx9_1 hX, rx9_2 hX, rx9_3 hX, rx9_4 hX, rx9_5 hX, rx9_6 hX, rx17_0 hX, rx17_1 hX, rx17_2 hX, rx17_3 hX, rx24_0 hX, rx19_0 hX, rx19_1 hX, rx19_2 hX, rx19_3 hX, rx18_0 hX, rx26_0 hX, rx26_1 hX, rx18_1 hX, rx29_0 hX, rx29_1 hX, rx18_2 hX, rx32_0 hX, rx32_1 hX, rx18_3 hX, rx35_0 hX, rx35_1 hX, rx18_4 hX, rx38_0 hX, rx38_1 hX, rx18_5 hX, rx41_0 hX, rx41_1 hX, rx44_0 hX, rx44_1 hX, rx44_2 hX, rx44_3 hX, rx44_4 hX, rx44_5 hX, rx49_0 hX, rx54_0 hX, rx49_1 hX, rx56_0 hX, rx49_2 hX, rx58_0 hX, rx49_3 hX, rx60_0 hX, p45r, k_n1, k_n0, k_n2, ip_r0, ip_r1, Int.cast_ofNat_Int, Int.lt_irrefl, eq_true c]
    · rw [if_neg c]
      simp (disch := omega) only [s94_27, s94_28, s94_62, s94_63, s94_64, s94_65, s94_66, s94_67, ↓reduceIte, Bool.true_eq_false, Bool.false_eq_true, ip_rfS, true_or, or_true, true_and, and_true, Option.toList_some, Option.toList_none, List.cons_append, List.nil_append, ip_fxn, ip_fxi, ip_fxr, ip_fxl, ip_wid, ip_n998, ip_lt900, iO0, iO1, iA2, iA3, iA4, iA5, iA6, iA7, iA8, iO9, iA10, iA11, iA12, iA13, iA14, iA15, iA16, iO17, iA18, iO19, iA20, iA21, iA22, iA23, iO24, iA25, iO26, iA27, iA28, iO29, iA30, iA31, iO32, iA33, iA34, iO35, iA36, iA37, iO38, iA39, iA40, iO41, iA42, iA43, iO44, iA45, iA46, iA47, iA48, iA49, iA50, iA51, iA52, iA53, iO54, iA55, iO56, iA57, iO58, iA59, iO60, iA61, iO62, iA63, iA64, iA65, iA66, iA67, iA68, iA69, iA70, iA71, iA72, iA73, iA74, iA75, iA76, iA77, iA78, iOT, iAT1, iAT2, iOS, iAS, ↓yfx0_0 hX, ↓yfx0_1 hX, ↓yfx0_3 hX, ↓yfx0_4 hX, ↓yfx0_5 hX, ↓yfx0_6 hX, ↓yfx0_7 hX, ↓yfx0_8 hX, ↓yfx0_9 hX, ↓yfx1_0 hX, ↓yfx1_1 hX, ↓yfx1_2 hX, ↓yfx1_3 hX, ↓yfx1_4 hX, ↓yfx1_5 hX, ↓yfx1_6 hX, ↓yfx9_0 hX, ↓yfx9_1 hX, ↓yfx9_2 hX, ↓yfx9_3 hX, ↓yfx9_4 hX, ↓yfx9_5 hX, ↓yfx9_6 hX, ↓yfx17_0 hX, ↓yfx17_1 hX, ↓yfx17_2 hX, ↓yfx17_3 hX, ↓yfx24_0 hX, ↓yfx19_0 hX, ↓yfx19_1 hX, ↓yfx19_2 hX, ↓yfx19_3 hX, ↓yfx18_0 hX, ↓yfx26_0 hX, ↓yfx26_1 hX, ↓yfx18_1 hX, ↓yfx29_0 hX, ↓yfx29_1 hX, ↓yfx18_2 hX, ↓yfx32_0 hX, ↓yfx32_1 hX, ↓yfx18_3 hX, ↓yfx35_0 hX, ↓yfx35_1 hX, ↓yfx18_4 hX, ↓yfx38_0 hX, ↓yfx38_1 hX, ↓yfx18_5 hX, ↓yfx41_0 hX, ↓yfx41_1 hX, ↓yfx44_0 hX, ↓yfx44_1 hX, ↓yfx44_2 hX, ↓yfx44_3 hX, ↓yfx44_4 hX, ↓yfx44_5 hX, ↓yfx49_0 hX, ↓yfx54_0 hX, ↓yfx49_1 hX, ↓yfx56_0 hX, ↓yfx49_2 hX, ↓yfx58_0 hX, ↓yfx49_3 hX, ↓yfx60_0 hX, rx0_0 hX, rx0_1 hX, rx0_3 hX, rx0_4 hX, rx0_5 hX, rx0_6 hX, rx0_7 hX, rx0_8 hX, rx0_9 hX, rx1_0 hX, rx1_1 hX, rx1_2 hX, rx1_3 hX, rx1_4 hX, rx1_5 hX, rx1_6 hX, rx9_0 hX, rx9_1 hX, rx9_2 hX, rx9_3 hX, rx9_4 hX, rx9_5 hX, rx9_6 hX, rx17_0 hX, rx17_1 hX, rx17_2 hX, rx17_3 hX, rx24_0 hX, rx19_0 hX, rx19_1 hX, rx19_2 hX, rx19_3 hX, rx18_0 hX, rx26_0 hX, rx26_1 hX, rx18_1 hX, rx29_0 hX, rx29_1 hX, rx18_2 hX, rx32_0 hX, rx32_1 hX, rx18_3 hX, rx35_0 hX, rx35_1 hX, rx18_4 hX, rx38_0 hX, rx38_1 hX, rx18_5 hX, rx41_0 hX, rx41_1 hX, rx44_0 hX, rx44_1 hX, rx44_2 hX, rx44_3 hX, rx44_4 hX, rx44_5 hX, rx49_0 hX, rx54_0 hX, rx49_1 hX, rx56_0 hX, rx49_2 hX, rx58_0 hX, rx49_3 hX, rx60_0 hX, p45r, k_n1, k_n0, k_n2, ip_r0, ip_r1, Int.cast_ofNat_Int, Int.lt_irrefl, c]
  | k + 1, i, st, S1, v8, v9, h, hs, h1 => by
    obtain ⟨S2, v2, f2, k2⟩ := x94j (d := d) (L := L) (w := w) hX hJ hD hf hb ha (i := (i : Int)) (by omega) (7 - i) ((i : Int) + 1) st S1 v9 (by omega) (by omega) hs h1
    have hs2 := a_shr (W := w_X S) (f := f) (b := b) (a := a) hJ.1 ha (7 - i) ((i : Int) * 8 + ((i : Int) + 1)) st (by omega) (by omega) hs
    obtain ⟨S', i1, i2⟩ := x94i hX hJ hD hf hb ha hw k (i + 1) (a_sh (w_X S) f b a (7 - i) ((i : Int) * 8 + ((i : Int) + 1)) st) S2 (some (vi 8)) v2 (by omega) hs2 f2
    refine ⟨S', i1, fun Q => ?_⟩
    rw [Int.natCast_add, Int.cast_ofNat_Int] at i2
    rw [a_shs (by omega), ← i2 Q, s94_26]
    simp (disch := omega) only [s94_27, s94_28, s94_29, s94_30, s94_31, s94_32, ↓reduceIte, Bool.true_eq_false, Bool.false_eq_true, ip_rfS, true_or, or_true, true_and, and_true, Option.toList_some, Option.toList_none, List.cons_append, List.nil_append, ip_fxn, ip_fxi, ip_fxr, ip_fxl, ip_wid, ip_n998, ip_lt900, iO0, iO1, iA2, iA3, iA4, iA5, iA6, iA7, iA8, iO9, iA10, iA11, iA12, iA13, iA14, iA15, iA16, iO17, iA18, iO19, iA20, iA21, iA22, iA23, iO24, iA25, iO26, iA27, iA28, iO29, iA30, iA31, iO32, iA33, iA34, iO35, iA36, iA37, iO38, iA39, iA40, iO41, iA42, iA43, iO44, iA45, iA46, iA47, iA48, iA49, iA50, iA51, iA52, iA53, iO54, iA55, iO56, iA57, iO58, iA59, iO60, iA61, iO62, iA63, iA64, iA65, iA66, iA67, iA68, iA69, iA70, iA71, iA72, iA73, iA74, iA75, iA76, iA77, iA78, iOT, iAT1, iAT2, iOS, iAS, ↓yfx0_0 hX, ↓yfx0_1 hX, ↓yfx0_3 hX, ↓yfx0_4 hX, ↓yfx0_5 hX, ↓yfx0_6 hX, ↓yfx0_7 hX, ↓yfx0_8 hX, ↓yfx0_9 hX, ↓yfx1_0 hX, ↓yfx1_1 hX, ↓yfx1_2 hX, ↓yfx1_3 hX, ↓yfx1_4 hX, ↓yfx1_5 hX, ↓yfx1_6 hX, ↓yfx9_0 hX, ↓yfx9_1 hX, ↓yfx9_2 hX, ↓yfx9_3 hX, ↓yfx9_4 hX, ↓yfx9_5 hX, ↓yfx9_6 hX, ↓yfx17_0 hX, ↓yfx17_1 hX, ↓yfx17_2 hX, ↓yfx17_3 hX, ↓yfx24_0 hX, ↓yfx19_0 hX, ↓yfx19_1 hX, ↓yfx19_2 hX, ↓yfx19_3 hX, ↓yfx18_0 hX, ↓yfx26_0 hX, ↓yfx26_1 hX, ↓yfx18_1 hX, ↓yfx29_0 hX, ↓yfx29_1 hX, ↓yfx18_2 hX, ↓yfx32_0 hX, ↓yfx32_1 hX, ↓yfx18_3 hX, ↓yfx35_0 hX, ↓yfx35_1 hX, ↓yfx18_4 hX, ↓yfx38_0 hX, ↓yfx38_1 hX, ↓yfx18_5 hX, ↓yfx41_0 hX, ↓yfx41_1 hX, ↓yfx44_0 hX, ↓yfx44_1 hX, ↓yfx44_2 hX, ↓yfx44_3 hX, ↓yfx44_4 hX, ↓yfx44_5 hX, ↓yfx49_0 hX, ↓yfx54_0 hX, ↓yfx49_1 hX, ↓yfx56_0 hX, ↓yfx49_2 hX, ↓yfx58_0 hX, ↓yfx49_3 hX, ↓yfx60_0 hX, rx0_0 hX, rx0_1 hX, rx0_3 hX, rx0_4 hX, rx0_5 hX, rx0_6 hX, rx0_7 hX, rx0_8 hX, rx0_9 hX, rx1_0 hX, rx1_1 hX, rx1_2 hX, rx1_3 hX, rx1_4 hX, rx1_5 hX, rx1_6 hX, rx9_0 hX, rx9_1 hX, rx9_2 hX, rx9_3 hX, rx9_4 hX, rx9_5 hX, rx9_6 hX, rx17_0 hX, rx17_1 hX, rx17_2 hX, rx17_3 hX, rx24_0 hX, rx19_0 hX, rx19_1 hX, rx19_2 hX, rx19_3 hX, rx18_0 hX, rx26_0 hX, rx26_1 hX, rx18_1 hX, rx29_0 hX, rx29_1 hX, rx18_2 hX, rx32_0 hX, rx32_1 hX, rx18_3 hX, rx35_0 hX, rx35_1 hX, rx18_4 hX, rx38_0 hX, rx38_1 hX, rx18_5 hX, rx41_0 hX, rx41_1 hX, rx44_0 hX, rx44_1 hX, rx44_2 hX, rx44_3 hX, rx44_4 hX, rx44_5 hX, rx49_0 hX, rx54_0 hX, rx49_1 hX, rx56_0 hX, rx49_2 hX, rx58_0 hX, rx49_3 hX, rx60_0 hX, p45r, k_n1, k_n0, k_n2, ip_r0, ip_r1, show (i : Int) < 8 by omega, k2]
    simp (disch := omega) only [s94_60, s94_61, ↓reduceIte, Bool.true_eq_false, Bool.false_eq_true, ip_rfS, true_or, or_true, true_and, and_true, Option.toList_some, Option.toList_none, List.cons_append, List.nil_append, ip_fxn, ip_fxi, ip_fxr, ip_fxl, ip_wid, ip_n998, ip_lt900, iO0, iO1, iA2, iA3, iA4, iA5, iA6, iA7, iA8, iO9, iA10, iA11, iA12, iA13, iA14, iA15, iA16, iO17, iA18, iO19, iA20, iA21, iA22, iA23, iO24, iA25, iO26, iA27, iA28, iO29, iA30, iA31, iO32, iA33, iA34, iO35, iA36, iA37, iO38, iA39, iA40, iO41, iA42, iA43, iO44, iA45, iA46, iA47, iA48, iA49, iA50, iA51, iA52, iA53, iO54, iA55, iO56, iA57, iO58, iA59, iO60, iA61, iO62, iA63, iA64, iA65, iA66, iA67, iA68, iA69, iA70, iA71, iA72, iA73, iA74, iA75, iA76, iA77, iA78, iOT, iAT1, iAT2, iOS, iAS, ↓yfx0_0 hX, ↓yfx0_1 hX, ↓yfx0_3 hX, ↓yfx0_4 hX, ↓yfx0_5 hX, ↓yfx0_6 hX, ↓yfx0_7 hX, ↓yfx0_8 hX, ↓yfx0_9 hX, ↓yfx1_0 hX, ↓yfx1_1 hX, ↓yfx1_2 hX, ↓yfx1_3 hX, ↓yfx1_4 hX, ↓yfx1_5 hX, ↓yfx1_6 hX, ↓yfx9_0 hX, ↓yfx9_1 hX, ↓yfx9_2 hX, ↓yfx9_3 hX, ↓yfx9_4 hX, ↓yfx9_5 hX, ↓yfx9_6 hX, ↓yfx17_0 hX, ↓yfx17_1 hX, ↓yfx17_2 hX, ↓yfx17_3 hX, ↓yfx24_0 hX, ↓yfx19_0 hX, ↓yfx19_1 hX, ↓yfx19_2 hX, ↓yfx19_3 hX, ↓yfx18_0 hX, ↓yfx26_0 hX, ↓yfx26_1 hX, ↓yfx18_1 hX, ↓yfx29_0 hX, ↓yfx29_1 hX, ↓yfx18_2 hX, ↓yfx32_0 hX, ↓yfx32_1 hX, ↓yfx18_3 hX, ↓yfx35_0 hX, ↓yfx35_1 hX, ↓yfx18_4 hX, ↓yfx38_0 hX, ↓yfx38_1 hX, ↓yfx18_5 hX, ↓yfx41_0 hX, ↓yfx41_1 hX, ↓yfx44_0 hX, ↓yfx44_1 hX, ↓yfx44_2 hX, ↓yfx44_3 hX, ↓yfx44_4 hX, ↓yfx44_5 hX, ↓yfx49_0 hX, ↓yfx54_0 hX, ↓yfx49_1 hX, ↓yfx56_0 hX, ↓yfx49_2 hX, ↓yfx58_0 hX, ↓yfx49_3 hX, ↓yfx60_0 hX, rx0_0 hX, rx0_1 hX, rx0_3 hX, rx0_4 hX, rx0_5 hX, rx0_6 hX, rx0_7 hX, rx0_8 hX, rx0_9 hX, rx1_0 hX, rx1_1 hX, rx1_2 hX, rx1_3 hX, rx1_4 hX, rx1_5 hX, rx1_6 hX, rx9_0 hX, rx9_1 hX, rx9_2 hX, rx9_3 hX, rx9_4 hX, rx9_5 hX, rx9_6 hX, rx17_0 hX, rx17_1 hX, rx17_2 hX, rx17_3 hX, rx24_0 hX, rx19_0 hX, rx19_1 hX, rx19_2 hX, rx19_3 hX, rx18_0 hX, rx26_0 hX, rx26_1 hX, rx18_1 hX, rx29_0 hX, rx29_1 hX, rx18_2 hX, rx32_0 hX, rx32_1 hX, rx18_3 hX, rx35_0 hX, rx35_1 hX, rx18_4 hX, rx38_0 hX, rx38_1 hX, rx18_5 hX, rx41_0 hX, rx41_1 hX, rx44_0 hX, rx44_1 hX, rx44_2 hX, rx44_3 hX, rx44_4 hX, rx44_5 hX, rx49_0 hX, rx54_0 hX, rx49_1 hX, rx56_0 hX, rx49_2 hX, rx58_0 hX, rx49_3 hX, rx60_0 hX, p45r, k_n1, k_n0, k_n2, ip_r0, ip_r1]
theorem x94r {f b a w : Int} (hX : x_RX R) (hJ : x_J S) (hD : x_D S) (hf : 0 ≤ f ∧ f < 6) (hb : 0 ≤ b ∧ b < 6) (ha : 0 ≤ a ∧ a < 8) (hw : 0 ≤ w ∧ w < 2) :
    ∃ S', x_fr S S' ∧ ∀ Q, ip_wp (d + 6) 94 15 [some (.ref 0), some (vi f), some (vi b), some (vi a), some (vi w), none, none, none, none, none] [] 79 S R L Q = Q (some (vi (a_shw w (a_sh (w_X S) f b a 64 0 (-1, (w_rz (w_X S) f b a).2.2.1))))) 79 S' R L := by
  obtain ⟨S1, f1, -, k1⟩ := x75 (d := d + 1) (L := L) (f := f) (b := b) (a := a) hX hJ hf hb ha
  have r3 := (w_rzr (W := w_X S) (f := f) (b := b) (a := a) hJ.1 ha).2.2.1
  obtain ⟨S', i1, i2⟩ := x94i (d := d) (L := L) hX hJ hD hf hb ha hw 8 0 (-1, (w_rz (w_X S) f b a).2.2.1) S1 none none (by omega) ⟨by dsimp only; omega, by dsimp only; omega⟩ f1
  refine ⟨S', i1, fun Q => ?_⟩
  rw [Int.cast_ofNat_Int, Int.mul_zero, show 8 * 8 = 64 from rfl] at i2
  rw [← i2 Q]
  simp (disch := omega) only [s94_15, s94_16, s94_17, s94_18, s94_19, s94_20, s94_21, s94_22, s94_23, s94_24, s94_25, ↓reduceIte, Bool.true_eq_false, Bool.false_eq_true, ip_rfS, true_or, or_true, true_and, and_true, Option.toList_some, Option.toList_none, List.cons_append, List.nil_append, ip_fxn, ip_fxi, ip_fxr, ip_fxl, ip_wid, ip_n998, ip_lt900, iO0, iO1, iA2, iA3, iA4, iA5, iA6, iA7, iA8, iO9, iA10, iA11, iA12, iA13, iA14, iA15, iA16, iO17, iA18, iO19, iA20, iA21, iA22, iA23, iO24, iA25, iO26, iA27, iA28, iO29, iA30, iA31, iO32, iA33, iA34, iO35, iA36, iA37, iO38, iA39, iA40, iO41, iA42, iA43, iO44, iA45, iA46, iA47, iA48, iA49, iA50, iA51, iA52, iA53, iO54, iA55, iO56, iA57, iO58, iA59, iO60, iA61, iO62, iA63, iA64, iA65, iA66, iA67, iA68, iA69, iA70, iA71, iA72, iA73, iA74, iA75, iA76, iA77, iA78, iOT, iAT1, iAT2, iOS, iAS, ↓yfx0_0 hX, ↓yfx0_1 hX, ↓yfx0_3 hX, ↓yfx0_4 hX, ↓yfx0_5 hX, ↓yfx0_6 hX, ↓yfx0_7 hX, ↓yfx0_8 hX, ↓yfx0_9 hX, ↓yfx1_0 hX, ↓yfx1_1 hX, ↓yfx1_2 hX, ↓yfx1_3 hX, ↓yfx1_4 hX, ↓yfx1_5 hX, ↓yfx1_6 hX, ↓yfx9_0 hX, ↓yfx9_1 hX, ↓yfx9_2 hX, ↓yfx9_3 hX, ↓yfx9_4 hX, ↓yfx9_5 hX, ↓yfx9_6 hX, ↓yfx17_0 hX, ↓yfx17_1 hX, ↓yfx17_2 hX, ↓yfx17_3 hX, ↓yfx24_0 hX, ↓yfx19_0 hX, ↓yfx19_1 hX, ↓yfx19_2 hX, ↓yfx19_3 hX, ↓yfx18_0 hX, ↓yfx26_0 hX, ↓yfx26_1 hX, ↓yfx18_1 hX, ↓yfx29_0 hX, ↓yfx29_1 hX, ↓yfx18_2 hX, ↓yfx32_0 hX, ↓yfx32_1 hX, ↓yfx18_3 hX, ↓yfx35_0 hX, ↓yfx35_1 hX, ↓yfx18_4 hX, ↓yfx38_0 hX, ↓yfx38_1 hX, ↓yfx18_5 hX, ↓yfx41_0 hX, ↓yfx41_1 hX, ↓yfx44_0 hX, ↓yfx44_1 hX, ↓yfx44_2 hX, ↓yfx44_3 hX, ↓yfx44_4 hX, ↓yfx44_5 hX, ↓yfx49_0 hX, ↓yfx54_0 hX, ↓yfx49_1 hX, ↓yfx56_0 hX, ↓yfx49_2 hX, ↓yfx58_0 hX, ↓yfx49_3 hX, ↓yfx60_0 hX, rx0_0 hX, rx0_1 hX, rx0_3 hX, rx0_4 hX, rx0_5 hX, rx0_6 hX, rx0_7 hX, rx0_8 hX, rx0_9 hX, rx1_0 hX, rx1_1 hX, rx1_2 hX, rx1_3 hX, rx1_4 hX, rx1_5 hX, rx1_6 hX, rx9_0 hX, rx9_1 hX, rx9_2 hX, rx9_3 hX, rx9_4 hX, rx9_5 hX, rx9_6 hX, rx17_0 hX, rx17_1 hX, rx17_2 hX, rx17_3 hX, rx24_0 hX, rx19_0 hX, rx19_1 hX, rx19_2 hX, rx19_3 hX, rx18_0 hX, rx26_0 hX, rx26_1 hX, rx18_1 hX, rx29_0 hX, rx29_1 hX, rx18_2 hX, rx32_0 hX, rx32_1 hX, rx18_3 hX, rx35_0 hX, rx35_1 hX, rx18_4 hX, rx38_0 hX, rx38_1 hX, rx18_5 hX, rx41_0 hX, rx41_1 hX, rx44_0 hX, rx44_1 hX, rx44_2 hX, rx44_3 hX, rx44_4 hX, rx44_5 hX, rx49_0 hX, rx54_0 hX, rx49_1 hX, rx56_0 hX, rx49_2 hX, rx58_0 hX, rx49_3 hX, rx60_0 hX, p45r, k_n1, k_n0, k_n2, ip_r0, ip_r1, k1]
end SHX
