/-! people by a sheet, films and texts, on both sides -/
section RPT
variable {S A B : ip_S} {R : ip_R} {L : ip_S}
theorem u_pp {s : Nat} {a : Int} (hs : s < 4) : ∀ (k : Nat) (i c : Int) (A B : ip_S), x_rel A B → ¬ A (54 + 2 * s) 1 = -1 → 0 ≤ i →
    (x_pp s a k i c A).1 = (y_pp (s : Int) a k i c B).1 ∧ x_rel (x_pp s a k i c A).2 (y_pp (s : Int) a k i c B).2 ∧ (∀ b : Nat, b ≠ 1 → b ≠ 4 → b ≠ 5 → b ≠ 6 → b ≠ 7 → (x_pp s a k i c A).2 b = A b) ∧ (∀ b : Nat, b ≠ 62 → b ≠ 67 → b ≠ 68 → (y_pp (s : Int) a k i c B).2 b = B b)
  | 0, i, c, A, B, h, hne, hi => ⟨rfl, h, fun _ _ _ _ _ _ => rfl, fun _ _ _ _ => rfl⟩
  | k + 1, i, c, A, B, h, hne, hi => by
    obtain ⟨hp, -⟩ : (0 ≤ A 1 7 ∧ A 1 7 ≤ 6) ∧ True := ⟨h.2.2.2.1, trivial⟩
    have c4 := h.2.2.2.2.1
    obtain ⟨a1, a2, a3, a4, a5, a6, a7, a8⟩ := h.2.2.2.2.2.2.2.1.2 s hs
    obtain ⟨g1, g2, g3, g4⟩ := a8 hne
    rw [x_pp, y_pp, g3, c4.1]
    by_cases c1 : 0 ≤ a ∧ a ≤ A (54 + 2 * s) 2 - (3 * i + 3)
    · rw [if_pos c1, if_pos c1]
      have e0 := g4 (a + 3 * i) (by omega) (by omega)
      have e1 := g4 (a + 3 * i + 1) (by omega) (by omega)
      have e2 := g4 (a + 3 * i + 2) (by omega) (by omega)
      rw [show 40 * (s : Int) + (a + 3 * i) = 40 * (s : Int) + a + 3 * i by omega] at e0
      rw [show 40 * (s : Int) + (a + 3 * i + 1) = 40 * (s : Int) + a + 3 * i + 1 by omega] at e1
      rw [show 40 * (s : Int) + (a + 3 * i + 2) = 40 * (s : Int) + a + 3 * i + 2 by omega] at e2
      rw [e0, e1, e2]
      generalize A (55 + 2 * s) (a + 3 * i) = x0 at *
      generalize A (55 + 2 * s) (a + 3 * i + 1) = x1 at *
      generalize A (55 + 2 * s) (a + 3 * i + 2) = x2 at *
      by_cases c2 : (0 ≤ x0 ∧ x0 < 6) ∧ (0 ≤ x1 ∧ x1 < 10) ∧ (0 ≤ x2 ∧ x2 < 8)
      · rw [if_pos c2, if_pos c2]
        by_cases c3 : A 1 7 < 6
        · rw [if_pos c3, if_pos c3]
          have h2 := u_pe h (k := x0) (u := x1) (g := x2) rfl c3 c2.1 c2.2.1 c2.2.2
          have e54 : m_wel A (A 1 7) x0 x1 x2 (54 + 2 * s) = A (54 + 2 * s) := m_welc (by omega) (by omega) (by omega) (by omega) (by omega)
          obtain ⟨i1, i2, i3, i4⟩ := u_pp (a := a) hs k (i + 1) (c + 1) _ _ h2 (by rw [e54]; exact hne) (by omega)
          exact ⟨i1, i2, fun b b1 b2 b3 b4 b5 => (i3 b b1 b2 b3 b4 b5).trans (m_welc b1 b2 b3 b4 b5), fun b b1 b2 b3 => (i4 b b1 b2 b3).trans (m_welc2 b1 b2 b3)⟩
        · rw [if_neg c3, if_neg c3]
          exact u_pp hs k (i + 1) c A B h hne (by omega)
      · rw [if_neg c2, if_neg c2]
        exact u_pp hs k (i + 1) c A B h hne (by omega)
    · rw [if_neg c1, if_neg c1]
      exact ⟨rfl, h, fun _ _ _ _ _ _ => rfl, fun _ _ _ _ => rfl⟩
theorem r_people {s v a n : Int} (hr : x_rel S S) (hX : x_RX R) (hM : x_RM R) (hs : -2147483648 ≤ s ∧ s < 2147483648) (hv : -2147483648 ≤ v ∧ v < 2147483648) (ha : -2147483648 ≤ a ∧ a < 2147483648) (hn : -2147483648 ≤ n ∧ n < 2147483648) : ∃ z, r_two 121 230 [vi s, vi v, vi a, vi n] S R L (vi z) (vi z) := by
  obtain ⟨hp, hm0⟩ := x_relp hr
  have q1 := x_relsh hr
  have kx := fun Q => p121 (d := 97) (Q := Q) (S := S) (L := L) hs hv ha hn hX q1
  have km := fun (S1 : ip_S) (e : ∀ b : Nat, 62 ≤ b → b < 79 → S1 b = S b) Q => p230 (d := 97) (S := S1) (Q := Q) (L := L) hs hv ha hn hM (x_relsM (x_relBh hr e))
  by_cases c : (0 ≤ s ∧ s < 4) ∧ (0 ≤ v ∧ v < 3) ∧ (0 ≤ n ∧ n < 7)
  · have es : ((s.toNat : Nat) : Int) = s := Int.toNat_of_nonneg c.1.1
    obtain ⟨r1, r2⟩ := x_rels1 hr c.1
    simp only [if_pos c] at kx km
    by_cases c1 : S (54 + 2 * s.toNat) 1 = -1
    · have km0 := km S (fun _ _ _ => rfl)
      simp only [if_pos c1, if_pos (r1 c1)] at kx km0
      exact ⟨-11, r_same hr hX hM kx km0⟩
    · obtain ⟨g1, g2, g3, g4⟩ := r2 c1
      simp only [if_neg c1] at kx
      have hq := (q1 s.toNat (by omega)).2
      by_cases c2 : S (54 + 2 * s.toNat) 1 = v
      · simp only [if_pos c2] at kx
        have sh := (hr.2.2.2.2.2.2.2.1.2 s.toNat (by omega)).2.2.1
        have kx2 : ∀ Q, ip_wc 100 121 [.ref 0, vi s, vi v, vi a, vi n] 79 S R L Q = Q (some (vi (x_pp s.toNat a n.toNat 0 0 S).1)) 79 (x_pp s.toNat a n.toNat 0 0 S).2 R L := fun Q => by
          rw [kx Q]
          exact x121r (d := 97) (L := L) (Q := Q) (s := s.toNat) hX (by omega) ha (by omega) hp hq (fun i i0 i1 => by have := sh i i0 i1; omega)
        generalize hS1 : (x_pp s.toNat a n.toNat 0 0 S).2 = S1 at *
        have f0 := u_pp (a := a) (s := s.toNat) (by omega) n.toNat 0 0 S S hr c1 (by omega)
        rw [hS1] at f0
        have e1 : ∀ b : Nat, 62 ≤ b → S1 b = S b := fun b hb => f0.2.2.1 b (by omega) (by omega) (by omega) (by omega) (by omega)
        have hSB : x_rel S S1 := x_relBh hr (fun b h0 _ => e1 b h0)
        obtain ⟨i1, i2, i3, i4⟩ := u_pp (a := a) (s := s.toNat) (by omega) n.toNat 0 0 S S1 hSB c1 (by omega)
        rw [es, hS1] at i2
        rw [es] at i1 i4
        have k1 := km S1 (fun b hb _ => e1 b hb)
        have e75 := e1 75 (by omega)
        have e76 := e1 76 (by omega)
        have e77 := e1 77 (by omega)
        have e62 := e1 62 (by omega)
        have z := hSB.2.2.2.2.2.2.2.1.1
        have km2 : ∀ Q, ip_wc 100 230 [.ref 62, vi s, vi v, vi a, vi n] 79 S1 R L Q = Q (some (vi (x_pp s.toNat a n.toNat 0 0 S).1)) 79 (y_pp s a n.toNat 0 0 S1).2 R L := fun Q => by
          have k2 := k1 Q
          rw [e75, e76, g1, g2, if_neg (by omega), if_pos c2] at k2
          rw [k2, i1]
          exact y230r (d := 96) (L := L) (Q := Q) hM c.1 ha (by omega) (by rw [e62, hm0]; exact hp) (by rw [e77, g3]; exact hq) (fun i i0 i1 => by have := z i i0 i1; omega)
        exact ⟨_, r_ch hr hX hM e1 (fun b hb => i4 b (by omega) (by omega) (by omega)) (i4 900 (by omega) (by omega) (by omega)) (fun _ => i2) kx2 km2⟩
      · have km0 := km S (fun _ _ _ => rfl)
        simp only [if_neg c2] at kx
        simp only [if_neg (show ¬ S 75 s = 0 by omega), if_neg (show ¬ S 76 s = v by rw [g2]; exact c2)] at km0
        exact ⟨-13, r_same hr hX hM kx km0⟩
  · have km0 := km S (fun _ _ _ => rfl)
    simp only [if_neg c] at kx km0
    exact ⟨-2, r_same hr hX hM kx km0⟩
theorem m_flmf {s : Nat} {n i : Int} {q : w_R} {b : Nat} (hs : s < 4) (h : b < 54 ∨ 62 ≤ b) : m_flm S s n i q b = S b := by
  unfold m_flm
  rw [m_ar_ne (by omega), ip_upc (by omega), ip_upc (by omega)]
theorem r_film {s t a n : Int} (hr : x_rel S S) (hX : x_RX R) (hM : x_RM R) (hs : -2147483648 ≤ s ∧ s < 2147483648) (ht : -2147483648 ≤ t ∧ t < 2147483648) (ha : -2147483648 ≤ a ∧ a < 2147483648) (hn : -2147483648 ≤ n ∧ n < 2147483648) : ∃ z, r_two 102 219 [vi s, vi t, vi a, vi n] S R L (vi z) (vi z) := by
  obtain ⟨hp, hm0⟩ := x_relp hr
  have hJ := x_relJ hr
  have kx := fun Q => p102 (d := 95) (Q := Q) (S := S) (L := L) hs ht ha hn hX rfl hp.1 hp.2
  have km := fun (S1 : ip_S) (e : S1 62 11 = S 1 7) Q => p219 (d := 95) (S := S1) (Q := Q) (L := L) hs ht ha hn hM e hp.1 hp.2
  by_cases c : (0 ≤ s ∧ s < 4) ∧ (0 ≤ t ∧ (0 ≤ t / 10 ∧ t / 10 < S 1 7) ∧ (0 ≤ t % 10 ∧ t % 10 < S 1 7) ∧ ¬ t / 10 = t % 10) ∧ (0 ≤ a ∧ a < 8) ∧ (0 ≤ n ∧ n < 21)
  · have es : ((s.toNat : Nat) : Int) = s := Int.toNat_of_nonneg c.1.1
    simp only [if_pos c] at kx km
    obtain ⟨S1, g1, k1⟩ := x102r (d := 93) (L := L) (s := s) (t := t) (a := a) (n := n) hX hJ (x_rel7 hr) rfl hp.2 c.1 (by omega) (by omega) (by omega) c.2.2.1 (by omega)
    have r := w_rzr (W := w_X S) (f := t / 10) (b := t % 10) (a := a) hJ.1 c.2.2.1
    generalize hq : w_rz (w_X S) (t / 10) (t % 10) a = q at *
    have e1 : ∀ b : Nat, 62 ≤ b → m_flm S1 s.toNat n n q b = S b := fun b hb => by rw [m_flmf (by omega) (Or.inr hb), x_gl g1 hb]
    have hSB : x_rel S (m_flm S1 s.toNat n n q) := x_relBh hr (fun b h0 _ => e1 b h0)
    obtain ⟨S2, w2, g2, k2⟩ := y219r (d := 51) (L := L) (W := w_X S) (m := S 1 7) (S := m_flm S1 s.toNat n n q) (s := s) (t := t) (a := a) (n := n) hM (x_relok hr) (x_relR hSB) (x_relgd hr) c.1 (by omega) (by omega) (by omega) c.2.2.1 (by omega)
    rw [hq] at k2
    refine ⟨n, r_ch (S1 := m_flm S1 s.toNat n n q) (S2 := n_flm S2 s n n q) (L2 := ip_up L 62 24 w2) hr hX hM e1 (fun b hb => ?_) ?_ (fun _ => ?_) (fun Q => (kx Q).trans (k1 Q)) (fun Q => (km _ (by rw [e1 62 (by omega)]; exact hm0) Q).trans (k2 Q))⟩
    · rw [n_flmn (by omega) (by omega) (by omega) (by omega)]
      exact g2.1 b (by omega) (by omega) (by omega)
    · rw [n_flmn (by omega) (by omega) (by omega) (by omega)]
      exact g2.1 900 (by omega) (by omega) (by omega)
    · have h3 := u_flm (s := s.toNat) (n := n) (q := q) (x_relz (x_relg hSB g1) (y_z_g g2)) (by omega) (by omega) r.2.1 r.2.2.2.2.1
      rwa [es] at h3
  · simp only [if_neg c] at kx km
    exact ⟨-2, r_same hr hX hM kx (km S hm0)⟩
/-! a text -/
theorem m_tk63 {tc z k : Int} : m_tk S tc z 63 k = m_tcp (S 63) (S 65) (160 * tc) z k := by simp [m_tk, ip_up, ip_ar]
theorem m_tk64 {tc z k : Int} : m_tk S tc z 64 k = if k = tc then z else S 64 k := by
  unfold m_tk
  rw [ip_upc (by omega), ip_upu, m_ar_ne (by omega)]
  rfl
theorem m_tk6 {tc z : Int} : m_tk S tc z 62 6 = 0 := by
  unfold m_tk
  rw [ip_ups]
theorem m_tkk {tc z k : Int} (h : ¬ k = 6) : m_tk S tc z 62 k = S 62 k := by
  unfold m_tk
  rw [ip_upk h, ip_upc (by omega), m_ar_ne (by omega)]
theorem m_tkn {tc z : Int} {b : Nat} (h1 : b ≠ 62) (h2 : b ≠ 63) (h3 : b ≠ 64) : m_tk S tc z b = S b := by
  unfold m_tk
  rw [ip_upc h1, ip_upc h3, m_ar_ne h2]
/-- what the class writes of a text: T, P, N, la the tokens, c, e the codes and ends of text t -/
def x_tw (A A' : ip_S) (t : Nat) (c e : Int → Int) : Prop := (∀ b : Nat, b < 17 ∨ b = 18 ∨ b = 20 ∨ b = 25 ∨ (26 ≤ b ∧ b ≠ 26 + 3 * t ∧ b ≠ 27 + 3 * t ∧ b ≠ 28 + 3 * t) → A' b = A b) ∧ A' 19 4 = 0 ∧ x_W (A' 21) ∧ x_W (A' 23) ∧ A' (27 + 3 * t) = c ∧ A' (28 + 3 * t) = e ∧ (∀ k, 0 ≤ k → k < 160 → ip_w (c k) = c k) ∧ (∀ k, 0 ≤ k → k < 3 → 0 ≤ e k ∧ e k ≤ 160)
theorem y_tx_s {s : Int} {V : Int → (Int → Int) → Int} (h : y_tx B s V) {B' : ip_S} (h4 : B' 64 s = B 64 s) (h3 : ∀ i, 0 ≤ i → i < 160 → B' 63 (160 * s + i) = B 63 (160 * s + i)) : y_tx B' s V := by
  obtain ⟨b, sz, T, P, N, la, e1, e2, e3, e4, e5⟩ := h
  exact ⟨b, sz, T, P, N, la, h4.trans e1, e2, fun i i0 i1 => (h3 i i0 (by omega)).trans (e3 i i0 i1), e4, e5⟩
theorem u_tx {A' B' : ip_S} {t : Nat} {c e : Int → Int} {kn : Int} (h : x_rel A B) (ht : (t : Int) = A 17 4) (ht6 : t < 6) (hA : x_tw A A' t c e) (hk : A' 17 4 = kn) (hkn : A 17 4 ≤ kn ∧ kn ≤ A 17 4 + 1) (b62 : ∀ k, ¬ y_sc k → ¬ k = 3 → B' 62 k = m_tk B (t : Int) (A 19 4) 62 k) (b3 : B' 62 3 = kn) (bn : ∀ b : Nat, 62 < b → b < 79 → B' b = m_tk B (t : Int) (A 19 4) b) (hnew : kn = A 17 4 + 1 → y_tx B' (t : Int) (x_V0 A' t)) : x_rel A' B' := by
  obtain ⟨w1, w2, hx, hp, c4, c5, c6, c7, mi⟩ := h
  obtain ⟨eA, a19, a21, a23, ac, ae, acr, aer⟩ := hA
  have sk : ∀ k, k < 13 ∨ 27 < k → ¬ y_sc k := fun k hk z => by
    unfold y_sc at z
    omega
  have bk : ∀ k, k < 13 ∨ 27 < k → ¬ k = 3 → ¬ k = 6 → B' 62 k = B 62 k := fun k h1 h2 h3 => by rw [b62 k (sk k h1) h2, m_tkk h3]
  have bb : ∀ b : Nat, 62 < b → b < 79 → b ≠ 63 → b ≠ 64 → B' b = B b := fun b h1 h2 h3 h4 => by rw [bn b h1 h2, m_tkn (by omega) h3 h4]
  obtain ⟨d1, d2, d3, d4, d5, d6, d7, d8, d9, d10⟩ := c6
  refine ⟨?_, ?_, ?_, ?_, ?_, ?_, ?_, ?_, ?_⟩
  · rw [eA 2 (by omega), eA 3 (by omega), eA 4 (by omega), eA 5 (by omega), eA 6 (by omega), eA 7 (by omega), eA 8 (by omega)]
    exact w1
  · rw [eA 10 (by omega), eA 11 (by omega), eA 12 (by omega), eA 13 (by omega), eA 14 (by omega), eA 15 (by omega), eA 16 (by omega)]
    exact w2
  · intro s hs
    by_cases q : s = t
    · subst q
      rw [ac, ae]
      exact ⟨acr, aer⟩
    · rw [eA (27 + 3 * s) (by omega), eA (28 + 3 * s) (by omega)]
      exact hx s hs
  · rw [eA 1 (by omega)]
    exact hp
  · unfold x_c4
    rw [eA 1 (by omega), eA 2 (by omega), eA 3 (by omega), eA 4 (by omega), eA 5 (by omega), eA 6 (by omega), eA 8 (by omega), bk 11 (by omega) (by omega) (by omega), bk 7 (by omega) (by omega) (by omega), bk 4 (by omega) (by omega) (by omega), bb 66 (by omega) (by omega) (by omega) (by omega), bb 67 (by omega) (by omega) (by omega) (by omega), bb 68 (by omega) (by omega) (by omega) (by omega), bb 69 (by omega) (by omega) (by omega) (by omega)]
    exact c4
  · obtain ⟨g1, g2, g3, g4⟩ := c5
    unfold x_c5
    rw [eA 0 (by omega), eA 1 (by omega), eA 9 (by omega), eA 4 (by omega), eA 10 (by omega), eA 12 (by omega), eA 13 (by omega), eA 14 (by omega), eA 16 (by omega), hk, bk 38 (by omega) (by omega) (by omega), bk 39 (by omega) (by omega) (by omega), bk 40 (by omega) (by omega) (by omega), bb 73 (by omega) (by omega) (by omega) (by omega), bb 74 (by omega) (by omega) (by omega) (by omega)]
    refine ⟨g1, g2, g3, fun z => ?_⟩
    obtain ⟨f1, f2, f3, f4⟩ := g4 z
    exact ⟨f1, f2, by omega, f4⟩
  · unfold x_c6
    rw [hk, b3, a19, b62 6 (sk 6 (by omega)) (by omega), m_tk6, eA 8 (by omega), eA 20 (by omega)]
    refine ⟨by omega, by omega, rfl, by omega, rfl, d6, fun i i0 i1 => absurd i1 (by omega), a21, a23, fun s hs => ?_⟩
    by_cases q : s = t
    · subst q
      exact hnew (by omega)
    · rw [x_V0c (A := A) (eA _ (by omega)) (eA _ (by omega))]
      refine y_tx_s (d10 s (by omega)) ?_ (fun i i0 i1 => ?_)
      · rw [bn 64 (by omega) (by omega), m_tk64, if_neg (by omega)]
      · rw [bn 63 (by omega) (by omega), m_tk63]
        unfold m_tcp
        exact if_neg (by omega)
  · exact x_c7c c7 (fun q hq => ⟨eA _ (by omega), eA _ (by omega)⟩) (bb 75 (by omega) (by omega) (by omega) (by omega)) (bb 76 (by omega) (by omega) (by omega) (by omega)) (bb 77 (by omega) (by omega) (by omega) (by omega)) (bb 78 (by omega) (by omega) (by omega) (by omega))
  · exact y_mic mi (by rw [bb 67 (by omega) (by omega) (by omega) (by omega)]; exact mi.1) (by rw [bb 68 (by omega) (by omega) (by omega) (by omega)]; exact mi.2.1) (bb 73 (by omega) (by omega) (by omega) (by omega)) (bb 74 (by omega) (by omega) (by omega) (by omega)) (bk 38 (by omega) (by omega) (by omega)) (bk 39 (by omega) (by omega) (by omega)) (bk 40 (by omega) (by omega) (by omega))
theorem x_S2n {z : Int} {t b : Nat} (h : b < 17 ∨ b = 17 ∨ b = 18 ∨ b = 20 ∨ b = 25 ∨ (26 ≤ b ∧ b ≠ 26 + 3 * t ∧ b ≠ 27 + 3 * t ∧ b ≠ 28 + 3 * t)) : x_S2 S z t b = S b := by
  funext k
  unfold x_S2 k_RS
  rw [if_neg (by omega), if_neg (by omega), if_neg (by omega), if_neg (by omega), if_neg (by omega)]
  unfold x_S1 k_TS
  rw [if_neg (by omega), if_neg (by omega), if_neg (by omega), if_neg (by omega)]
theorem x_S2c {z : Int} {t : Nat} : x_S2 S z t (27 + 3 * t) = (x_got S z t).2.2.2.1 ∧ x_S2 S z t (28 + 3 * t) = (x_got S z t).2.2.2.2 ∧ x_S2 S z t 21 = (x_spt S z).2.1 ∧ x_S2 S z t 23 = (x_spt S z).2.2.2 := by
  refine ⟨?_, ?_, ?_, ?_⟩
  · funext k
    unfold x_S2 k_RS
    rw [if_neg (by omega), if_neg (by omega), if_neg (by omega), if_pos rfl]
  · funext k
    unfold x_S2 k_RS
    rw [if_neg (by omega), if_neg (by omega), if_neg (by omega), if_neg (by omega), if_pos rfl]
  · funext k
    unfold x_S2 k_RS
    rw [if_neg (by omega), if_neg (by omega), if_neg (by omega), if_neg (by omega), if_neg (by omega)]
    unfold x_S1 k_TS
    rw [if_neg (by omega), if_pos rfl]
  · funext k
    unfold x_S2 k_RS
    rw [if_neg (by omega), if_neg (by omega), if_neg (by omega), if_neg (by omega), if_neg (by omega)]
    unfold x_S1 k_TS
    rw [if_neg (by omega), if_neg (by omega), if_neg (by omega), if_pos rfl]
theorem r_text (hr : x_rel S S) (hX : x_RX R) (hM : x_RM R) : ∃ a, r_two 72 191 [] S R L (vi a) (vi a) := by
  obtain ⟨d1, d2, d3, d4, d5, d6, d7, d8, d9, d10⟩ := hr.2.2.2.2.2.2.1
  have hx := hr.2.2.1
  by_cases c : S 17 4 = 6
  · exact ⟨-4, r_same hr hX hM (fun Q => p72f (d := 98) (L := L) (Q := Q) hX c) (fun Q => p191f (d := 99) (L := L) (Q := Q) hM (d3.trans c))⟩
  · obtain ⟨t, ht⟩ : ∃ t : Nat, (t : Int) = S 17 4 := ⟨(S 17 4).toNat, Int.toNat_of_nonneg (by omega)⟩
    have ht6 : t < 6 := by omega
    generalize hz : S 19 4 = z at *
    have hb : ∀ i, 0 ≤ i → i < 160 → 0 ≤ S 20 i ∧ S 20 i < 256 := fun i i0 i1 => by
      have := d6 i i0 i1
      omega
    have hTk : y_Tok (S 20) z (x_spt S z).2.1 (x_spt S z).2.2.1 (x_spt S z).2.2.2 (x_spt S z).1 := y_TokS d4.1
    have hs := k_spl_r (b := S 20) (sz := z) d4.2 hb z.toNat 0 0 0 (S 21) (S 22) (S 23) (by omega) (by omega) (by omega) (by omega) d8 d9
    rw [show k_spl (S 20) z z.toNat 0 0 0 (S 21) (S 22) (S 23) = x_spt S z from rfl] at hs
    obtain ⟨hla, hWT, hWN⟩ := hs
    have hT := hTk.2.2.2.1
    have rf := x_rdf (P := (x_spt S z).2.2.1) (q := x_got S z t) (T := (x_spt S z).2.1) (N := (x_spt S z).2.2.2) (la := (x_spt S z).1) (c := S (27 + 3 * t)) (e := S (28 + 3 * t)) rfl
    have rw := x_rdw hT (fun j j0 j1 => hWN j j0 (by omega)) 3 0 0 0 (S (27 + 3 * t)) (S (28 + 3 * t)) (x_got S z t) (by omega) (by omega) (by omega) hla.1 (by omega) (by omega) (hx t ht6).1 (hx t ht6).2 rfl
    have ar := x_atr (N := (x_spt S z).2.2.2) hT hla.1
    have pr := y_Tokr hTk _ ar.1 ar.2
    have hfl : x_fl S z t = if x_acc (x_spt S z).2.1 (x_spt S z).2.2.2 (x_spt S z).1 = true then -1 else (x_spt S z).2.2.1 (x_at (x_spt S z).2.1 (x_spt S z).2.2.2 (x_spt S z).1) := by
      unfold x_fl x_flt
      rw [← rf.1]
      by_cases g : x_acc (x_spt S z).2.1 (x_spt S z).2.2.2 (x_spt S z).1 = true
      · rw [if_pos g, if_pos (rf.2.2 g)]
      · rw [if_neg g, if_neg (fun u => g (rf.2.1 u))]
    have hrd := fun (g : x_acc (x_spt S z).2.1 (x_spt S z).2.2.2 (x_spt S z).1 = true) => x_rdv hT ⟨hla.1, by omega⟩ g (c := S (27 + 3 * t)) (e := S (28 + 3 * t)) (q := x_got S z t) rfl
    have kx := fun Q => p72 (d := 48) (S := S) (L := L) (Q := Q) hX ht6 ht.symm hz d4.1 d4.2 hb d8 d9 (by rw [hfl]; split <;> exact ip_wid (by omega) (by omega))
    have eS := fun b => x_S2n (S := S) (z := z) (t := t) (b := b)
    obtain ⟨s1, s2, s3, s4⟩ := x_S2c (S := S) (z := z) (t := t)
    generalize hT0 : (x_spt S z).2.1 = T at *
    generalize hP0 : (x_spt S z).2.2.1 = P at *
    generalize hN0 : (x_spt S z).2.2.2 = N at *
    generalize hl0 : (x_spt S z).1 = la at *
    have tw : ∀ S1 : ip_S, (∀ b : Nat, b ≠ 19 → b ≠ 17 → S1 b = x_S2 S z t b) → S1 19 4 = 0 → x_tw S S1 t (x_got S z t).2.2.2.1 (x_got S z t).2.2.2.2 := fun S1 e e19 => ⟨fun b hb => by rw [e b (by omega) (by omega), eS b (by omega)], e19, by rw [e 21 (by omega) (by omega), s3]; exact hWT, by rw [e 23 (by omega) (by omega), s4]; exact hWN, by rw [e _ (by omega) (by omega), s1], by rw [e _ (by omega) (by omega), s2], rw.2.1, rw.2.2⟩
    have go : ∀ (S1 : ip_S) (kn : Int), (∀ b : Nat, b ≠ 19 → b ≠ 17 → S1 b = x_S2 S z t b) → S1 19 4 = 0 → S1 17 4 = kn → (kn = if x_acc T N la = true then S 17 4 + 1 else S 17 4) → (∀ b : Nat, 62 ≤ b → S1 b = S b) ∧ ∃ S2 L2, (∀ b : Nat, b < 62 → S2 b = S1 b) ∧ S2 900 = S1 900 ∧ (x_rel S S1 → x_rel S1 S2) ∧ ∀ Q, ip_wc 100 191 [.ref 62] 79 S1 (ip_ur R 24 1 (26 + 3 * t)) L Q = Q (some (vi (if x_acc T N la = true then (t : Int) else -100 - P (x_at T N la)))) 79 S2 (ip_ur R 24 1 (26 + 3 * t)) L2 := fun S1 kn e e19 e17 hkn => by
      have e1 : ∀ b : Nat, 62 ≤ b → S1 b = S b := fun b hb0 => by rw [e b (by omega) (by omega), eS b (by omega)]
      refine ⟨e1, ?_⟩
      obtain ⟨S2, w2, g2, k2⟩ := y191b (d := 56) (S := S1) (R := ip_ur R 24 1 (26 + 3 * t)) (L := L) (tc := (t : Int)) (z := z) (bb := S 20) (T := T) (P := P) (N := N) (la := la) (x_RMu hM) (by omega) (by rw [e1 62 (by omega), d3, ht]) (by rw [e1 62 (by omega)]; exact d5) d4 (fun i i0 i1 => by rw [e1 65 (by omega), d7 i i0 i1]; exact hb i i0 (by omega)) (fun i i0 i1 => by rw [e1 65 (by omega), d7 i i0 i1]) hTk (by omega)
      have m62 : ∀ k, ¬ y_sc k → S2 62 k = m_tk S1 (t : Int) z 62 k := g2.2
      have mb : ∀ b : Nat, b ≠ 62 → S2 b = m_tk S1 (t : Int) z b := g2.1
      have twS := tw S1 e e19
      by_cases g : x_acc T N la = true
      · simp only [if_pos g] at k2 hkn ⊢
        have rdv := (hrd g).2.2
        refine ⟨ip_up S2 62 3 ((t : Int) + 1), ip_up L 62 24 w2, fun b hb0 => by rw [ip_upc (by omega), mb b (by omega), m_tkn (by omega) (by omega) (by omega)], by rw [ip_upc (by omega), mb 900 (by omega), m_tkn (by omega) (by omega) (by omega)], fun h => ?_, k2⟩
        refine u_tx h ht ht6 twS e17 (by omega) (fun k h1 h2 => by rw [ip_upk h2, m62 k h1, hz]) (by rw [ip_ups]; omega) (fun b h1 h2 => by rw [ip_upc (by omega), mb b (by omega), hz]) (fun _ => ?_)
        refine ⟨S 20, z, T, P, N, la, ?_, d4, fun i i0 i1 => ?_, fun i i0 i1 => hb i i0 (by omega), hTk, g, fun k F k0 k1 => ?_⟩
        · rw [ip_upc (by omega), mb 64 (by omega), m_tk64, if_pos rfl]
        · rw [ip_upc (by omega), mb 63 (by omega), m_tk63]
          unfold m_tcp
          rw [if_pos (by omega), show 160 * (t : Int) + i - 160 * (t : Int) = i by omega, e1 65 (by omega), d7 i i0 i1]
        · unfold x_V0
          rw [twS.2.2.2.2.1, twS.2.2.2.2.2.1]
          exact rdv k F k0 k1
      · simp only [if_neg g] at k2 hkn ⊢
        refine ⟨S2, ip_up L 62 24 w2, fun b hb0 => by rw [mb b (by omega), m_tkn (by omega) (by omega) (by omega)], by rw [mb 900 (by omega), m_tkn (by omega) (by omega) (by omega)], fun h => ?_, k2⟩
        refine u_tx h ht ht6 twS e17 (by omega) (fun k h1 h2 => by rw [m62 k h1, hz]) ?_ (fun b h1 h2 => by rw [mb b (by omega), hz]) (fun u => absurd u (by omega))
        rw [m62 3 (by unfold y_sc; omega), m_tkk (by omega), e1 62 (by omega), d3]
        omega
    by_cases g : x_acc T N la = true
    · rw [if_pos g] at hfl
      simp only [if_pos hfl] at kx
      obtain ⟨e1, S2, L2, f1, f2, f3, f4⟩ := go (ip_up (ip_up (x_S2 S z t) 19 4 0) 17 4 ((t : Int) + 1)) ((t : Int) + 1) (fun b h1 h2 => by rw [ip_upc h2, ip_upc h1]) (by rw [ip_upc (by omega), ip_ups]) ip_ups (by rw [if_pos g, ht])
      simp only [if_pos g] at f4
      exact ⟨(t : Int), r_ch hr (x_RXu hX) (x_RMu hM) e1 f1 f2 f3 kx f4⟩
    · rw [if_neg g] at hfl
      simp only [if_neg (show ¬ x_fl S z t = -1 by rw [hfl]; omega)] at kx
      rw [hfl] at kx
      obtain ⟨e1, S2, L2, f1, f2, f3, f4⟩ := go (ip_up (x_S2 S z t) 19 4 0) (S 17 4) (fun b h1 h2 => by rw [ip_upc h1]) (by rw [ip_ups]) (by rw [ip_upc (by omega), eS 17 (by omega)]) (by rw [if_neg g])
      simp only [if_neg g] at f4
      exact ⟨-100 - P (x_at T N la), r_ch hr (x_RXu hX) (x_RMu hM) e1 f1 f2 f3 kx f4⟩
end RPT
