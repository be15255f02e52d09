/-! the relation of the two -/
def x_rg (f : Int → Int) (n lo hi : Int) : Prop := ∀ k, 0 ≤ k → k < n → lo ≤ f k ∧ f k ≤ hi
theorem x_rgc {f g : Int → Int} {n lo hi : Int} (h : x_rg f n lo hi) (e : ∀ k, 0 ≤ k → k < n → g k = f k) : x_rg g n lo hi := fun k h0 h1 => by
  rw [e k h0 h1]
  exact h k h0 h1
theorem x_rgu {f : Int → Int} {n lo hi i v : Int} (h : x_rg f n lo hi) (hv : lo ≤ v ∧ v ≤ hi) : x_rg (ip_u f i v) n lo hi := fun k h0 h1 => by
  unfold ip_u
  split
  · exact hv
  · exact h k h0 h1
/-- a world: roads, miles, kinds, numbers, goals, ridden, dials -/
def x_wi (ro D kd nu go rd di : Int → Int) : Prop := x_rg ro 64 0 99 ∧ x_rg D 64 0 999 ∧ x_rg kd 6 0 5 ∧ x_rg nu 6 0 9 ∧ x_rg go 6 0 7 ∧ x_rg rd 6 0 99999 ∧ (0 ≤ di 0 ∧ di 0 < 24) ∧ (0 ≤ di 1 ∧ di 1 < 6) ∧ (∀ k, 0 ≤ k → k < 64 → D k = m_fw ro D k) ∧ x_sy ro ∧ (∀ i, 0 ≤ i → i < 8 → ro (i * 8 + i) = 0)
theorem x_wic {ro D kd nu go rd di ro' D' kd' nu' go' rd' di' : Int → Int} (h : x_wi ro D kd nu go rd di) (h1 : ∀ k, 0 ≤ k → k < 64 → ro' k = ro k) (h2 : ∀ k, 0 ≤ k → k < 64 → D' k = D k) (h3 : ∀ k, 0 ≤ k → k < 6 → kd' k = kd k) (h4 : ∀ k, 0 ≤ k → k < 6 → nu' k = nu k) (h5 : ∀ k, 0 ≤ k → k < 6 → go' k = go k) (h6 : ∀ k, 0 ≤ k → k < 6 → rd' k = rd k) (h7 : di' 0 = di 0) (h8 : di' 1 = di 1) : x_wi ro' D' kd' nu' go' rd' di' := by
  obtain ⟨a1, a2, a3, a4, a5, a6, a7, a8, a9, a10, a11⟩ := h
  refine ⟨x_rgc a1 h1, x_rgc a2 h2, x_rgc a3 h3, x_rgc a4 h4, x_rgc a5 h5, x_rgc a6 h6, by rw [h7]; exact a7, by rw [h8]; exact a8, fun k k0 k1 => ?_, fun x y x0 x1 y0 y1 => ?_, fun i i0 i1 => ?_⟩
  · rw [h2 k k0 k1, a9 k k0 k1]
    exact f_fwc a1 (fun q q0 q1 => (h1 q q0 q1).symm) k k0 k1
  · rw [h1 _ (by omega) (by omega), h1 _ (by omega) (by omega)]
    exact a10 x y x0 x1 y0 y1
  · rw [h1 _ (by omega) (by omega)]
    exact a11 i i0 i1
def x_tx (A : ip_S) : Prop := ∀ t : Nat, t < 6 → (∀ k, 0 ≤ k → k < 160 → ip_w (A (27 + 3 * t) k) = A (27 + 3 * t) k) ∧ (∀ k, 0 ≤ k → k < 3 → 0 ≤ A (28 + 3 * t) k ∧ A (28 + 3 * t) k ≤ 160)
def x_c4 (A B : ip_S) : Prop := B 62 11 = A 1 7 ∧ (∀ p, 0 ≤ p → p < A 1 7 → B 67 p = A 4 p ∧ B 68 (3 * p) = A 5 p ∧ B 68 (3 * p + 1) = A 6 p) ∧ B 62 7 = A 8 0 ∧ B 62 4 = A 8 1 ∧ (∀ k, 0 ≤ k → k < 64 → B 66 k = A 2 k ∧ B 69 k = A 3 k)
def x_c5 (A B : ip_S) : Prop := (A 0 2 = 0 ∨ A 0 2 = 1) ∧ (0 ≤ A 9 7 ∧ A 9 7 ≤ 6) ∧ (A 0 2 = 0 → B 62 38 = -1) ∧ (A 0 2 = 1 → B 62 38 = A 9 7 ∧ A 9 7 ≤ A 1 7 ∧ A 16 1 < A 17 4 ∧ (∀ p, 0 ≤ p → p < A 9 7 → A 12 p = A 4 p ∧ B 74 (3 * p) = A 13 p ∧ B 74 (3 * p + 1) = A 14 p) ∧ B 62 39 = A 16 0 ∧ B 62 40 = A 16 1 ∧ (∀ k, 0 ≤ k → k < 64 → B 73 k = A 10 k))
def x_V0 (A : ip_S) (t : Nat) : Int → (Int → Int) → Int := fun p F => v_val (A (27 + 3 * t)) (A (28 + 3 * t)) F p
def x_c6 (A B : ip_S) : Prop := (1 ≤ A 17 4 ∧ A 17 4 ≤ 6) ∧ A 8 1 < A 17 4 ∧ B 62 3 = A 17 4 ∧ (0 ≤ A 19 4 ∧ A 19 4 ≤ 160) ∧ B 62 6 = A 19 4 ∧ x_rg (A 20) 160 0 255 ∧ (∀ i, 0 ≤ i → i < A 19 4 → B 65 i = A 20 i) ∧ x_W (A 21) ∧ x_W (A 23) ∧ (∀ t : Nat, (t : Int) < A 17 4 → y_tx B (t : Int) (x_V0 A t))
def x_sh (A B : ip_S) (q : Nat) : Prop := (-1 ≤ A (54 + 2 * q) 1 ∧ A (54 + 2 * q) 1 ≤ 2) ∧ (0 ≤ A (54 + 2 * q) 2 ∧ A (54 + 2 * q) 2 ≤ 40) ∧ x_rg (A (55 + 2 * q)) 40 (-2147483648) 2147483647 ∧ (0 ≤ B 75 q ∧ B 75 q ≤ 1) ∧ (-1 ≤ B 76 q ∧ B 76 q ≤ 2) ∧ (-2147483648 ≤ B 77 q ∧ B 77 q < 2147483648) ∧ (A (54 + 2 * q) 1 = -1 → B 75 q = 0) ∧ (¬ A (54 + 2 * q) 1 = -1 → B 75 q = 1 ∧ B 76 q = A (54 + 2 * q) 1 ∧ B 77 q = A (54 + 2 * q) 2 ∧ ∀ i, 0 ≤ i → i < A (54 + 2 * q) 2 → B 78 (40 * (q : Int) + i) = A (55 + 2 * q) i)
def x_c7 (A B : ip_S) : Prop := x_rg (B 78) 160 (-2147483648) 2147483647 ∧ ∀ q : Nat, q < 4 → x_sh A B q
def y_rw (f : Int → Int) : Prop := ∀ p, 0 ≤ p → p < 6 → (0 ≤ f (3 * p) ∧ f (3 * p) < 10) ∧ (0 ≤ f (3 * p + 1) ∧ f (3 * p + 1) < 8) ∧ (0 ≤ f (3 * p + 2) ∧ f (3 * p + 2) ≤ 99999)
def y_mi (B : ip_S) : Prop := x_rg (B 67) 6 0 5 ∧ y_rw (B 68) ∧ y_rw (B 74) ∧ x_rg (B 73) 64 0 99 ∧ (-1 ≤ B 62 38 ∧ B 62 38 ≤ 6) ∧ (0 ≤ B 62 39 ∧ B 62 39 < 24) ∧ (0 ≤ B 62 40 ∧ B 62 40 < 6)
def x_rel (A B : ip_S) : Prop := x_wi (A 2) (A 3) (A 4) (A 5) (A 6) (A 7) (A 8) ∧ x_wi (A 10) (A 11) (A 12) (A 13) (A 14) (A 15) (A 16) ∧ x_tx A ∧ (0 ≤ A 1 7 ∧ A 1 7 ≤ 6) ∧ x_c4 A B ∧ x_c5 A B ∧ x_c6 A B ∧ x_c7 A B ∧ y_mi B
section REL
variable {A B A' B' : ip_S}
theorem x_relJ (h : x_rel A B) : x_J A := by
  obtain ⟨⟨a1, a2, a3, a4, a5, a6, a7, a8, a9, a10, a11⟩, -, ht, -⟩ := h
  exact ⟨a1, a2, fun q h0 h1 => by have := a3 q h0 h1; omega, fun q h0 h1 => by have := a4 q h0 h1; omega, fun q h0 h1 => by have := a5 q h0 h1; omega, a7, a8, ht⟩
theorem x_relD (h : x_rel A B) : x_D A := by
  obtain ⟨⟨a1, a2, a3, a4, a5, a6, a7, a8, a9, a10, a11⟩, -⟩ := h
  refine ⟨?_, a10⟩
  funext k
  by_cases c : 0 ≤ k ∧ k < 64
  · exact a9 k c.1 c.2
  · rw [f_fwo c]
theorem x_rel7 (h : x_rel A B) : x_rd7 A := h.1.2.2.2.2.2.1
theorem x_relok (h : x_rel A B) : w_ok (w_X A) := by
  obtain ⟨⟨a1, a2, a3, a4, a5, a6, a7, a8, a9, a10, a11⟩, -⟩ := h
  refine ⟨fun p h0 h1 => ?_, a7, fun k h0 h1 => ⟨a1 k h0 h1, a2 k h0 h1⟩⟩
  have b3 := a3 p h0 h1
  have b4 := a4 p h0 h1
  have b5 := a5 p h0 h1
  show (0 ≤ A 4 p ∧ A 4 p < 6) ∧ (0 ≤ A 5 p ∧ A 5 p < 10) ∧ (0 ≤ A 6 p ∧ A 6 p < 8)
  omega
theorem x_relgd (h : x_rel A B) : w_gd (w_X A) := by
  obtain ⟨⟨a1, a2, a3, a4, a5, a6, a7, a8, a9, a10, a11⟩, -⟩ := h
  exact (f_ivc (f := m_fw (A 2) (A 3)) a9 (f_fw a1)).2.2
theorem x_relR (h : x_rel A B) : y_R (w_X A) (A 1 7) B := by
  obtain ⟨w, -, -, hp, ⟨c1, c2, c3, c4, c5⟩, -, c6, -⟩ := h
  have h8 := w.2.2.2.2.2.2.2.1
  refine ⟨hp.2, c2, c3, c5, by rw [c4]; exact h8, ?_⟩
  have ht := c6.2.2.2.2.2.2.2.2.2 (A 8 1).toNat (by have := c6.2.1; omega)
  rw [Int.toNat_of_nonneg h8.1] at ht
  rw [c4]
  exact ht
theorem x_relyD (h : x_rel A B) : y_D B := by
  obtain ⟨⟨a1, a2, a3, a4, a5, a6, a7, a8, a9, a10, a11⟩, -, -, -, ⟨-, -, -, -, c5⟩, -⟩ := h
  refine ⟨?_, fun x y x0 x1 y0 y1 => ?_⟩
  · funext k
    by_cases c : 0 ≤ k ∧ k < 64
    · rw [(c5 k c.1 c.2).2, a9 k c.1 c.2]
      exact f_fwc a1 (fun q q0 q1 => (c5 q q0 q1).1.symm) k c.1 c.2
    · rw [f_fwo c]
  · rw [(c5 _ (by omega) (by omega)).1, (c5 _ (by omega) (by omega)).1]
    exact a10 x y x0 x1 y0 y1
theorem x_relyd (h : x_rel A B) : y_rd B := fun p h0 h1 => (h.2.2.2.2.2.2.2.2.2.1 p h0 h1).2.2
/-- what of the class the relation sees -/
def x_sa (b : Nat) : Prop := b < 62 ∧ b ≠ 7 ∧ b ≠ 25 ∧ ¬ (44 ≤ b ∧ b ≤ 53)
theorem x_relA (h : x_rel A B) (e : ∀ b : Nat, x_sa b → A' b = A b) (e7 : x_rg (A' 7) 6 0 99999) : x_rel A' B := by
  obtain ⟨w1, w2, ht, hp, c4, c5, c6, c7, mi⟩ := h
  have g : ∀ b : Nat, b < 62 → b ≠ 7 → b ≠ 25 → ¬ (44 ≤ b ∧ b ≤ 53) → A' b = A b := fun b h1 h2 h3 h4 => e b ⟨h1, h2, h3, h4⟩
  obtain ⟨a1, a2, a3, a4, a5, a6, a7⟩ := w1
  refine ⟨?_, ?_, ?_, ?_, ?_, ?_, ?_, ?_, mi⟩
  · rw [g 2 (by omega) (by omega) (by omega) (by omega), g 3 (by omega) (by omega) (by omega) (by omega), g 4 (by omega) (by omega) (by omega) (by omega), g 5 (by omega) (by omega) (by omega) (by omega), g 6 (by omega) (by omega) (by omega) (by omega), g 8 (by omega) (by omega) (by omega) (by omega)]
    exact ⟨a1, a2, a3, a4, a5, e7, a7⟩
  · rw [g 10 (by omega) (by omega) (by omega) (by omega), g 11 (by omega) (by omega) (by omega) (by omega), g 12 (by omega) (by omega) (by omega) (by omega), g 13 (by omega) (by omega) (by omega) (by omega), g 14 (by omega) (by omega) (by omega) (by omega), g 15 (by omega) (by omega) (by omega) (by omega), g 16 (by omega) (by omega) (by omega) (by omega)]
    exact w2
  · intro t h0
    rw [g (27 + 3 * t) (by omega) (by omega) (by omega) (by omega), g (28 + 3 * t) (by omega) (by omega) (by omega) (by omega)]
    exact ht t h0
  · rw [g 1 (by omega) (by omega) (by omega) (by omega)]
    exact hp
  · unfold x_c4
    rw [g 1 (by omega) (by omega) (by omega) (by omega), g 2 (by omega) (by omega) (by omega) (by omega), g 3 (by omega) (by omega) (by omega) (by omega), g 4 (by omega) (by omega) (by omega) (by omega), g 5 (by omega) (by omega) (by omega) (by omega), g 6 (by omega) (by omega) (by omega) (by omega), g 8 (by omega) (by omega) (by omega) (by omega)]
    exact c4
  · unfold x_c5
    rw [g 0 (by omega) (by omega) (by omega) (by omega), g 9 (by omega) (by omega) (by omega) (by omega), g 1 (by omega) (by omega) (by omega) (by omega), g 4 (by omega) (by omega) (by omega) (by omega), g 10 (by omega) (by omega) (by omega) (by omega), g 12 (by omega) (by omega) (by omega) (by omega), g 13 (by omega) (by omega) (by omega) (by omega), g 14 (by omega) (by omega) (by omega) (by omega), g 16 (by omega) (by omega) (by omega) (by omega), g 17 (by omega) (by omega) (by omega) (by omega)]
    exact c5
  · obtain ⟨d1, d2, d3, d4, d5, d6, d7, d8, d9, d10⟩ := c6
    unfold x_c6
    rw [g 17 (by omega) (by omega) (by omega) (by omega), g 8 (by omega) (by omega) (by omega) (by omega), g 19 (by omega) (by omega) (by omega) (by omega), g 20 (by omega) (by omega) (by omega) (by omega), g 21 (by omega) (by omega) (by omega) (by omega), g 23 (by omega) (by omega) (by omega) (by omega)]
    refine ⟨d1, d2, d3, d4, d5, d6, d7, d8, d9, fun t h0 => ?_⟩
    unfold x_V0
    rw [g (27 + 3 * t) (by omega) (by omega) (by omega) (by omega), g (28 + 3 * t) (by omega) (by omega) (by omega) (by omega)]
    exact d10 t h0
  · refine ⟨c7.1, fun q hq => ?_⟩
    unfold x_sh
    rw [g (54 + 2 * q) (by omega) (by omega) (by omega) (by omega), g (55 + 2 * q) (by omega) (by omega) (by omega) (by omega)]
    exact c7.2 q hq
theorem x_relg (h : x_rel A B) (g : x_g A A') : x_rel A' B := x_relA h (fun b hb => g.1 b (by unfold x_sa at hb; omega) (by unfold x_sa at hb; omega) (by unfold x_sa at hb; omega) (by unfold x_sa at hb; omega) (by unfold x_sa at hb; omega) (by unfold x_sa at hb; omega) (by unfold x_sa at hb; omega) (by unfold x_sa at hb; omega) (by unfold x_sa at hb; omega) (by unfold x_sa at hb; omega) (by unfold x_sa at hb; omega)) (g.2 (x_rel7 h))
theorem x_relAl (h : x_rel A B) (e : ∀ b : Nat, b < 62 → A' b = A b) : x_rel A' B := x_relA h (fun b hb => e b hb.1) (by rw [e 7 (by omega)]; exact x_rel7 h)
/-- what of the reference the relation sees: all but its scratch -/
def y_z (B B' : ip_S) : Prop := (∀ b : Nat, 62 < b → b < 79 → b ≠ 68 → b ≠ 70 → b ≠ 71 → b ≠ 72 → B' b = B b) ∧ (∀ k, ¬ y_s2 k → B' 62 k = B 62 k) ∧ (∀ p, 0 ≤ p → p < 6 → B' 68 (3 * p) = B 68 (3 * p) ∧ B' 68 (3 * p + 1) = B 68 (3 * p + 1)) ∧ (y_rd B → y_rd B')
theorem y_z_h (h : y_h B B') : y_z B B' := ⟨fun b h0 _ h1 h2 h3 _ => h.1 b (by omega) h1 h2 h3, h.2.1, h.2.2.1, h.2.2.2⟩
theorem y_z_k (h : y_k B B') : y_z B B' := ⟨fun b h0 _ h1 h2 h3 h4 => h.1 b (by omega) h2 h4, h.2, fun p _ _ => by rw [h.1 68 (by omega) (by omega) (by omega)]; exact ⟨rfl, rfl⟩, fun z => by
  unfold y_rd at *
  rw [h.1 68 (by omega) (by omega) (by omega)]
  exact z⟩
theorem y_z_g (h : y_g B B') : y_z B B' := y_z_h (y_h_f h)
theorem y_z_f (h : y_fr B B') : y_z B B' := y_z_g (y_g_f h)
theorem x_relz (h : x_rel A B) (z : y_z B B') : x_rel A B' := by
  obtain ⟨w1, w2, ht, hp, c4, c5, c6, c7, mi⟩ := h
  have g : ∀ b : Nat, 62 < b → b < 79 → b ≠ 68 → b ≠ 70 → b ≠ 71 → b ≠ 72 → B' b = B b := z.1
  have s : ∀ k, ¬ y_s2 k → B' 62 k = B 62 k := z.2.1
  have r := z.2.2.1
  have hy : y_rd B' := z.2.2.2 (fun p h0 h1 => (mi.2.1 p h0 h1).2.2)
  refine ⟨w1, w2, ht, hp, ?_, ?_, ?_, ?_, ?_⟩
  · obtain ⟨d1, d2, d3, d4, d5⟩ := c4
    unfold x_c4
    rw [s 11 (by unfold y_s2; omega), s 7 (by unfold y_s2; omega), s 4 (by unfold y_s2; omega), g 67 (by omega) (by omega) (by omega) (by omega) (by omega) (by omega), g 66 (by omega) (by omega) (by omega) (by omega) (by omega) (by omega), g 69 (by omega) (by omega) (by omega) (by omega) (by omega) (by omega)]
    refine ⟨d1, fun p h0 h1 => ?_, d3, d4, d5⟩
    rw [(r p h0 (by omega)).1, (r p h0 (by omega)).2]
    exact d2 p h0 h1
  · unfold x_c5
    rw [s 38 (by unfold y_s2; omega), s 39 (by unfold y_s2; omega), s 40 (by unfold y_s2; omega), g 74 (by omega) (by omega) (by omega) (by omega) (by omega) (by omega), g 73 (by omega) (by omega) (by omega) (by omega) (by omega) (by omega)]
    exact c5
  · obtain ⟨d1, d2, d3, d4, d5, d6, d7, d8, d9, d10⟩ := c6
    unfold x_c6
    rw [s 3 (by unfold y_s2; omega), s 6 (by unfold y_s2; omega), g 65 (by omega) (by omega) (by omega) (by omega) (by omega) (by omega)]
    exact ⟨d1, d2, d3, d4, d5, d6, d7, d8, d9, fun t h0 => y_tx_c (d10 t h0) (g 63 (by omega) (by omega) (by omega) (by omega) (by omega) (by omega)) (g 64 (by omega) (by omega) (by omega) (by omega) (by omega) (by omega))⟩
  · refine ⟨by rw [g 78 (by omega) (by omega) (by omega) (by omega) (by omega) (by omega)]; exact c7.1, fun q hq => ?_⟩
    unfold x_sh
    rw [g 75 (by omega) (by omega) (by omega) (by omega) (by omega) (by omega), g 76 (by omega) (by omega) (by omega) (by omega) (by omega) (by omega), g 77 (by omega) (by omega) (by omega) (by omega) (by omega) (by omega), g 78 (by omega) (by omega) (by omega) (by omega) (by omega) (by omega)]
    exact c7.2 q hq
  · obtain ⟨d1, d2, d3, d4, d5, d6, d7⟩ := mi
    unfold y_mi
    rw [g 67 (by omega) (by omega) (by omega) (by omega) (by omega) (by omega), g 74 (by omega) (by omega) (by omega) (by omega) (by omega) (by omega), g 73 (by omega) (by omega) (by omega) (by omega) (by omega) (by omega), s 38 (by unfold y_s2; omega), s 39 (by unfold y_s2; omega), s 40 (by unfold y_s2; omega)]
    refine ⟨d1, fun p h0 h1 => ?_, d3, d4, d5, d6, d7⟩
    rw [(r p h0 h1).1, (r p h0 h1).2]
    exact ⟨(d2 p h0 h1).1, (d2 p h0 h1).2.1, hy p h0 h1⟩
theorem x_relBh (h : x_rel A B) (e : ∀ b : Nat, 62 ≤ b → b < 79 → B' b = B b) : x_rel A B' := x_relz h ⟨fun b h0 h1 _ _ _ _ => e b (by omega) h1, fun k _ => by rw [e 62 (by omega) (by omega)], fun p _ _ => by rw [e 68 (by omega) (by omega)]; exact ⟨rfl, rfl⟩, fun z => by
  unfold y_rd at *
  rw [e 68 (by omega) (by omega)]
  exact z⟩
/-- one call on both sides, out of its steps -/
def r_two (kX kM : Nat) (as : List Value) (S : ip_S) (R : ip_R) (L : ip_S) (a a' : Value) : Prop := ∃ S1 S2 R2 L2, S1 900 = S 900 ∧ S2 900 = S 900 ∧ x_rel S2 S2 ∧ x_RX R2 ∧ x_RM R2 ∧ (∀ Q, ip_wc 100 kX (.ref 0 :: as) 79 S R L Q = Q (some a) 79 S1 R2 L) ∧ (∀ Q, ip_wc 100 kM (.ref 62 :: as) 79 S1 R2 L Q = Q (some a') 79 S2 R2 L2)
def r_do (kX kM : Nat) (as : List Value) (S : ip_S) (R : ip_R) (L : ip_S) : Prop := ∃ a, r_two kX kM as S R L (vi a) (vi a)
theorem x_rel2 {S S1 S2 : ip_S} (h : x_rel S S) (h1 : ∀ b : Nat, 62 ≤ b → b < 79 → S1 b = S b) (h2 : ∀ b : Nat, b < 62 → S2 b = S1 b) (k : x_rel S S1 → x_rel S1 S2) : x_rel S2 S2 := x_relAl (k (x_relBh h h1)) h2
end REL
