/-! the calls that change something, on both sides -/
section RCH
variable {S A B : ip_S} {R : ip_R} {L : ip_S}
theorem r_ch {kX kM : Nat} {as : List Value} {a : Value} {S1 S2 : ip_S} {R1 : ip_R} {L2 : ip_S} (hr : x_rel S S) (hX : x_RX R1) (hM : x_RM R1) (h1 : ∀ b : Nat, 62 ≤ b → S1 b = S b) (h2 : ∀ b : Nat, b < 62 → S2 b = S1 b) (h9 : S2 900 = S1 900) (k : x_rel S S1 → x_rel S1 S2) (kx : ∀ Q, ip_wc 100 kX (.ref 0 :: as) 79 S R L Q = Q (some a) 79 S1 R1 L) (km : ∀ Q, ip_wc 100 kM (.ref 62 :: as) 79 S1 R1 L Q = Q (some a) 79 S2 R1 L2) : r_two kX kM as S R L a a :=
  ⟨S1, S2, R1, L2, h1 900 (by omega), h9.trans (h1 900 (by omega)), x_rel2 hr (fun b h0 _ => h1 b h0) h2 k, hX, hM, kx, km⟩
theorem r_same {kX kM : Nat} {as : List Value} {a : Value} (hr : x_rel S S) (hX : x_RX R) (hM : x_RM R) (kx : ∀ Q, ip_wc 100 kX (.ref 0 :: as) 79 S R L Q = Q (some a) 79 S R L) (km : ∀ Q, ip_wc 100 kM (.ref 62 :: as) 79 S R L Q = Q (some a) 79 S R L) : r_two kX kM as S R L a a := ⟨S, S, R, L, rfl, rfl, hr, hX, hM, kx, km⟩
theorem r_uX {c : Nat} {i v : Int} (hc : c < 62) : ∀ b : Nat, 62 ≤ b → ip_up S c i v b = S b := fun b hb => ip_upc (by omega)
theorem r_set {w o v : Int} (hr : x_rel S S) (hX : x_RX R) (hM : x_RM R) (hw : -2147483648 ≤ w ∧ w < 2147483648) (ho : -2147483648 ≤ o ∧ o < 2147483648) (hv : -2147483648 ≤ v ∧ v < 2147483648) : ∃ a, r_two 44 127 [vi w, vi o, vi v] S R L (vi a) (vi a) := by
  obtain ⟨hp, hm0⟩ := x_relp hr
  have c4 := hr.2.2.2.2.1
  have kx := fun Q => p44 (d := 97) (Q := Q) (L := L) hX rfl hp.1 hp.2 hw ho hv
  have km := fun (S1 : ip_S) (e : S1 62 11 = S 1 7) Q => p127 (d := 96) (S := S1) (Q := Q) (L := L) hM e hp.1 hp.2 hw ho hv
  by_cases c1 : w = 0
  · by_cases c2 : 0 ≤ v ∧ v < 24
    · simp only [if_pos c1, if_pos c2] at kx km
      exact ⟨S 8 0, r_ch hr hX hM (r_uX (by omega)) (fun b hb => ip_upc (by omega)) (ip_upc (by omega)) (fun h => u_hr h c2) kx (fun Q => by rw [km _ (by rw [ip_upc (by omega)]; exact hm0) Q, ip_upc (by omega), c4.2.2.1])⟩
    · simp only [if_pos c1, if_neg c2] at kx km
      exact ⟨-2, r_same hr hX hM kx (km S hm0)⟩
  · simp only [if_neg c1] at kx km
    by_cases c2 : (0 ≤ o ∧ o < S 1 7) ∧ w = 1 ∧ 0 ≤ v ∧ v < 10
    · simp only [if_pos c2] at kx km
      exact ⟨S 5 o, r_ch hr hX hM (r_uX (by omega)) (fun b hb => ip_upc (by omega)) (ip_upc (by omega)) (fun h => u_nu h c2.1 c2.2.2) kx (fun Q => by rw [km _ (by rw [ip_upc (by omega)]; exact hm0) Q, ip_upc (by omega), (c4.2.1 o c2.1.1 c2.1.2).2.1])⟩
    · simp only [if_neg c2] at kx km
      by_cases c3 : (0 ≤ o ∧ o < S 1 7) ∧ w = 2 ∧ 0 ≤ v ∧ v < 8
      · simp only [if_pos c3] at kx km
        exact ⟨S 6 o, r_ch hr hX hM (r_uX (by omega)) (fun b hb => ip_upc (by omega)) (ip_upc (by omega)) (fun h => u_go h c3.1 c3.2.2) kx (fun Q => by rw [km _ (by rw [ip_upc (by omega)]; exact hm0) Q, ip_upc (by omega), (c4.2.1 o c3.1.1 c3.1.2).2.2])⟩
      · simp only [if_neg c3] at kx km
        exact ⟨-2, r_same hr hX hM kx (km S hm0)⟩
theorem r_road {x y v : Int} (hr : x_rel S S) (hX : x_RX R) (hM : x_RM R) (hx : -2147483648 ≤ x ∧ x < 2147483648) (hy : -2147483648 ≤ y ∧ y < 2147483648) (hv : -2147483648 ≤ v ∧ v < 2147483648) : ∃ a, r_two 48 186 [vi x, vi y, vi v] S R L (vi a) (vi a) := by
  have c4 := hr.2.2.2.2.1
  have kx := fun Q => p48 (d := 95) (Q := Q) (S := S) (L := L) hx hy hv hX
  have km := fun (S1 : ip_S) Q => p186 (d := 96) (S := S1) (Q := Q) (L := L) hx hy hv hM
  by_cases c : (0 ≤ x ∧ x < 8) ∧ (0 ≤ y ∧ y < 8) ∧ ¬ x = y ∧ (0 ≤ v ∧ v < 100)
  · simp only [if_pos c] at kx km
    exact ⟨S 2 (x * 8 + y), r_ch hr hX hM (fun b hb => m_layn (by omega) (by omega)) (fun b hb => n_layn (by omega) (by omega)) (n_layn (by omega) (by omega)) (fun h => u_ro h c.1 c.2.1 c.2.2.1 (by omega)) kx (fun Q => by rw [km _ Q, m_layn (by omega) (by omega), (c4.2.2.2.2 _ (by omega) (by omega)).1])⟩
  · simp only [if_neg c] at kx km
    exact ⟨-2, r_same hr hX hM kx (km S)⟩
theorem r_person {k u g : Int} (hr : x_rel S S) (hX : x_RX R) (hM : x_RM R) (hk : -2147483648 ≤ k ∧ k < 2147483648) (hu : -2147483648 ≤ u ∧ u < 2147483648) (hg : -2147483648 ≤ g ∧ g < 2147483648) : ∃ a, r_two 51 189 [vi k, vi u, vi g] S R L (vi a) (vi a) := by
  obtain ⟨hp, hm0⟩ := x_relp hr
  have kx := fun Q => p51 (d := 98) (Q := Q) (S := S) (L := L) hk hu hg hX rfl hp.1 hp.2
  have km := fun (S1 : ip_S) (e : S1 62 11 = S 1 7) Q => p189 (d := 97) (S := S1) (Q := Q) (L := L) hk hu hg hM e hp.1 hp.2
  by_cases c : (0 ≤ k ∧ k < 6) ∧ (0 ≤ u ∧ u < 10) ∧ (0 ≤ g ∧ g < 8)
  · simp only [if_pos c] at kx km
    by_cases c2 : S 1 7 < 6
    · simp only [if_pos c2] at kx km
      exact ⟨S 1 7, r_ch hr hX hM (fun b hb => m_welc (by omega) (by omega) (by omega) (by omega) (by omega)) (fun b hb => m_welc2 (by omega) (by omega) (by omega)) (m_welc2 (by omega) (by omega) (by omega)) (fun h => u_pe h rfl c2 c.1 c.2.1 c.2.2) kx (fun Q => km _ (by rw [m_welc (by omega) (by omega) (by omega) (by omega) (by omega)]; exact hm0) Q)⟩
    · simp only [if_neg c2] at kx km
      exact ⟨-4, r_same hr hX hM kx (km S hm0)⟩
  · simp only [if_neg c] at kx km
    exact ⟨-2, r_same hr hX hM kx (km S hm0)⟩
theorem r_feed {v : Int} (hr : x_rel S S) (hX : x_RX R) (hM : x_RM R) (hv : -2147483648 ≤ v ∧ v < 2147483648) : ∃ a, r_two 71 190 [vi v] S R L (vi a) (vi a) := by
  obtain ⟨d1, d2, d3, d4, d5, -⟩ := hr.2.2.2.2.2.2.1
  have kx := fun Q => p71 (d := 98) (Q := Q) (S := S) (L := L) hv hX rfl d4.1 d4.2
  have km := fun (S1 : ip_S) (e : S1 62 6 = S 19 4) Q => p190 (d := 98) (S := S1) (Q := Q) (L := L) hv hM e d4.1 d4.2
  by_cases c : 0 ≤ v ∧ v < 256
  · simp only [if_pos c] at kx km
    by_cases c2 : S 19 4 < 160
    · simp only [if_pos c2] at kx km
      exact ⟨S 19 4 + 1, r_ch hr hX hM (fun b hb => by rw [ip_upc (by omega), ip_upc (by omega)]) (fun b hb => by rw [ip_upc (by omega), ip_upc (by omega)]) (by rw [ip_upc (by omega), ip_upc (by omega)]) (fun h => u_fe h rfl c2 c) kx (fun Q => km _ (by rw [ip_upc (by omega), ip_upc (by omega)]; exact d5) Q)⟩
    · simp only [if_neg c2] at kx km
      exact ⟨-4, r_same hr hX hM kx (km S d5)⟩
  · simp only [if_neg c] at kx km
    exact ⟨-2, r_same hr hX hM kx (km S d5)⟩
theorem r_force {t : Int} (hr : x_rel S S) (hX : x_RX R) (hM : x_RM R) (ht : -2147483648 ≤ t ∧ t < 2147483648) : ∃ a, r_two 73 192 [vi t] S R L (vi a) (vi a) := by
  obtain ⟨d1, d2, d3, -⟩ := hr.2.2.2.2.2.2.1
  have c4 := hr.2.2.2.2.1
  have kx := fun Q => p73 (d := 98) (Q := Q) (S := S) (L := L) ht hX rfl (by omega) d1.2
  have km := fun (S1 : ip_S) (e : S1 62 3 = S 17 4) Q => p192 (d := 98) (S := S1) (Q := Q) (L := L) ht hM e (by omega) d1.2
  by_cases c : 0 ≤ t ∧ t < S 17 4
  · simp only [if_pos c] at kx km
    exact ⟨S 8 1, r_ch hr hX hM (r_uX (by omega)) (fun b hb => ip_upc (by omega)) (ip_upc (by omega)) (fun h => u_ru h c) kx (fun Q => by rw [km _ (by rw [ip_upc (by omega)]; exact d3) Q, ip_upc (by omega), c4.2.2.2.1])⟩
  · simp only [if_neg c] at kx km
    exact ⟨-2, r_same hr hX hM kx (km S d3)⟩
theorem m_imgf {b : Nat} (h : 62 ≤ b) : m_img S b = S b := by
  unfold m_img
  rw [ip_upc (by omega), ip_upc (by omega), m_cpf (by omega)]
theorem m_bckf {b : Nat} (h : 62 ≤ b) : m_bck S b = S b := by
  unfold m_bck
  rw [ip_upc (by omega), m_cpf (by omega)]
theorem m_img2f {b : Nat} (h : b < 62 ∨ 78 < b) : m_img2 S b = S b := by
  unfold m_img2 m_cpA
  rw [ip_upc (by omega), ip_upc (by omega), ip_upc (by omega), m_ar_ne (by omega), m_ar_ne (by omega)]
theorem m_bck2f {b : Nat} (h : b < 62 ∨ 78 < b) : m_bck2 S b = S b := by
  unfold m_bck2 m_spr m_cpA
  rw [ip_upc (by omega), ip_upc (by omega), ip_upc (by omega), m_ar_ne (by omega), m_ar_ne (by omega), m_ar_ne (by omega)]
theorem y_rw18 {f : Int → Int} (h : y_rw f) : ∀ k, 0 ≤ k → k < 18 → ip_w (f k) = f k := fun k h0 h1 => by
  obtain ⟨a1, a2, a3⟩ := h (k / 3) (by omega) (by omega)
  have : k = 3 * (k / 3) ∨ k = 3 * (k / 3) + 1 ∨ k = 3 * (k / 3) + 2 := by omega
  rcases this with e | e | e
  · rw [e]; exact ip_wid (by omega) (by omega)
  · rw [e]; exact ip_wid (by omega) (by omega)
  · rw [e]; exact ip_wid (by omega) (by omega)
theorem r_image (hr : x_rel S S) (hX : x_RX R) (hM : x_RM R) : ∃ a, r_two 111 225 [] S R L (vi a) (vi a) := by
  obtain ⟨hp, hm0⟩ := x_relp hr
  have c4 := hr.2.2.2.2.1
  have mi := hr.2.2.2.2.2.2.2.2
  have hw := hr.1
  have h80 := hw.2.2.2.2.2.2.1
  have h81 := hw.2.2.2.2.2.2.2.1
  have e : ∀ b : Nat, 62 ≤ b → m_img S b = S b := fun b hb => m_imgf hb
  refine ⟨S 1 7, r_ch (S1 := m_img S) (S2 := m_img2 (m_img S)) (L2 := L) hr hX hM e (fun b hb => m_img2f (Or.inl hb)) (m_img2f (by omega)) (fun h => u_im h) (fun Q => p111 (d := 98) (Q := Q) (L := L) hX hp.1 hp.2) (fun Q => ?_)⟩
  rw [p225 (d := 99) (S := m_img S) (Q := Q) (L := L) hM (fun k k0 k1 => by rw [e 66 (by omega), (c4.2.2.2.2 k k0 k1).1]; have := hw.1 k k0 k1; exact ip_wid (by omega) (by omega)) (by rw [e 68 (by omega)]; exact y_rw18 mi.2.1) (by rw [e 62 (by omega), hm0]; exact ip_wid (by omega) (by omega)) (by rw [e 62 (by omega), c4.2.2.1]; exact ip_wid (by omega) (by omega)) (by rw [e 62 (by omega), c4.2.2.2.1]; exact ip_wid (by omega) (by omega)), e 62 (by omega), hm0]
theorem r_back (hr : x_rel S S) (hX : x_RX R) (hM : x_RM R) : ∃ a, r_two 113 226 [] S R L (vi a) (vi a) := by
  obtain ⟨c1, c2, c3, c5⟩ := hr.2.2.2.2.2.1
  obtain ⟨m1, m2, m3, m4, m5, m6, m7⟩ := hr.2.2.2.2.2.2.2.2
  have kx := fun Q => p113 (d := 98) (Q := Q) (S := S) (L := L) hX c2.1 c2.2 (by omega) (by omega)
  have km := fun (S1 : ip_S) (e : ∀ b : Nat, 62 ≤ b → S1 b = S b) Q => p226 (d := 98) (S := S1) (Q := Q) (L := L) hM (fun k k0 k1 => by rw [e 73 (by omega)]; have := m4 k k0 k1; exact ip_wid (by omega) (by omega)) (by rw [e 74 (by omega)]; exact y_rw18 m3) (by rw [e 62 (by omega)]; exact m5.1) (by rw [e 62 (by omega)]; exact m5.2) (by rw [e 62 (by omega)]; exact ip_wid (by omega) (by omega)) (by rw [e 62 (by omega)]; exact ip_wid (by omega) (by omega))
  by_cases c : S 0 2 = 0
  · have km0 := km S (fun _ _ => rfl)
    simp only [if_pos c, if_pos (c3 c)] at kx km0
    exact ⟨-3, r_same hr hX hM kx km0⟩
  · have c1' : S 0 2 = 1 := by omega
    obtain ⟨f1, -⟩ := c5 c1'
    have km0 := km (m_bck S) (fun b hb => m_bckf hb)
    rw [m_bckf (by omega)] at km0
    simp only [if_neg c, if_neg (show ¬ S 62 38 = -1 by omega)] at kx km0
    rw [f1] at km0
    exact ⟨S 9 7, r_ch (S1 := m_bck S) (S2 := m_bck2 (m_bck S)) (L2 := L) hr hX hM (fun b hb => m_bckf hb) (fun b hb => m_bck2f (Or.inl hb)) (m_bck2f (by omega)) (fun h => u_bk h c1') kx km0⟩
theorem m_becf {s : Nat} {v n : Int} {b : Nat} (hs : s < 4) (h : b < 54 ∨ 62 ≤ b) : m_bec S s v n b = S b := by
  unfold m_bec
  rw [m_ar_ne (by omega), ip_upc (by omega), ip_upc (by omega)]
theorem r_sheet {s v n : Int} (hr : x_rel S S) (hX : x_RX R) (hM : x_RM R) (hs : -2147483648 ≤ s ∧ s < 2147483648) (hv : -2147483648 ≤ v ∧ v < 2147483648) (hn : -2147483648 ≤ n ∧ n < 2147483648) : ∃ a, r_two 117 220 [vi s, vi v, vi n] S R L (vi a) (vi a) := by
  have kx := fun Q => p117 (d := 98) (Q := Q) (S := S) (L := L) hs hv hn hX
  have km := fun (S1 : ip_S) Q => p220 (d := 97) (S := S1) (Q := Q) (L := L) hs hv hn hM
  by_cases c : (0 ≤ s ∧ s < 4) ∧ -1 ≤ v ∧ v < 3
  · have es : ((s.toNat : Nat) : Int) = s := Int.toNat_of_nonneg c.1.1
    simp only [if_pos c] at kx km
    by_cases c2 : v = -1
    · simp only [if_pos c2] at kx km
      exact ⟨1, r_ch hr hX hM (fun b hb => m_becf (by omega) (Or.inr hb)) (fun b hb => m_hdrn (by omega) (by omega) (by omega)) (m_hdrn (by omega) (by omega) (by omega)) (fun h => by have := u_bec0 (s := s.toNat) h (by omega) hn; rwa [es] at this) kx (km _)⟩
    · simp only [if_neg c2] at kx km
      by_cases c3 : n ≤ 40
      · simp only [if_pos c3] at kx km
        by_cases c5 : 0 ≤ n
        · simp only [if_pos c5] at kx km
          exact ⟨1, r_ch hr hX hM (fun b hb => m_becf (by omega) (Or.inr hb)) (fun b hb => by unfold m_bec2; rw [m_ar_ne (by omega), m_hdrn (by omega) (by omega) (by omega)]) (by unfold m_bec2; rw [m_ar_ne (by omega), m_hdrn (by omega) (by omega) (by omega)]) (fun h => by have := u_bec (s := s.toNat) (v := v) (n := n) h (by omega) (by omega) ⟨c5, c3⟩; rwa [es] at this) kx (km _)⟩
        · simp only [if_neg c5] at kx km
          exact ⟨-14, r_same hr hX hM kx (km S)⟩
      · simp only [if_neg c3] at kx km
        exact ⟨-2, r_same hr hX hM kx (km S)⟩
  · simp only [if_neg c] at kx km
    exact ⟨-2, r_same hr hX hM kx (km S)⟩
theorem h_putr {so v : Int} (hv : -2147483648 ≤ v ∧ v < 2147483648) : -2147483648 ≤ h_put so v ∧ h_put so v ≤ 2147483647 := by
  have h : ip_w (h_put so v) = h_put so v := h_putw (ip_wid hv.1 hv.2)
  rw [← h]
  unfold ip_w
  have h1 := Int32.le_toInt (Int32.ofInt (h_put so v))
  have h2 := Int32.toInt_lt (Int32.ofInt (h_put so v))
  omega
theorem x_relsh (hr : x_rel S S) : ∀ q : Nat, q < 4 → (-1 ≤ S (54 + 2 * q) 1 ∧ S (54 + 2 * q) 1 ≤ 2) ∧ 0 ≤ S (54 + 2 * q) 2 ∧ S (54 + 2 * q) 2 ≤ 40 := fun q hq => by
  obtain ⟨a1, a2, -⟩ := hr.2.2.2.2.2.2.2.1.2 q hq
  exact ⟨a1, a2⟩
theorem x_relsM (hr : x_rel A B) : ∀ q : Int, 0 ≤ q → q < 4 → (0 ≤ B 75 q ∧ B 75 q ≤ 1) ∧ (-1 ≤ B 76 q ∧ B 76 q ≤ 2) ∧ ip_w (B 77 q) = B 77 q ∧ (B 75 q = 1 → 0 ≤ B 77 q ∧ B 77 q ≤ 40) := fun q h0 h1 => by
  obtain ⟨a1, a2, a3, a4, a5, a6, a7, a8⟩ := hr.2.2.2.2.2.2.2.1.2 q.toNat (by omega)
  rw [Int.toNat_of_nonneg h0] at a4 a5 a6 a7 a8
  refine ⟨a4, a5, ip_wid a6.1 a6.2, fun h => ?_⟩
  by_cases c : A (54 + 2 * q.toNat) 1 = -1
  · have := a7 c
    omega
  · rw [(a8 c).2.2.1]
    exact a2
/-- what the relation says of one sheet, its number as the call gives it -/
theorem x_rels1 {s : Int} (hr : x_rel A B) (hs : 0 ≤ s ∧ s < 4) : (A (54 + 2 * s.toNat) 1 = -1 → B 75 s = 0) ∧ (¬ A (54 + 2 * s.toNat) 1 = -1 → B 75 s = 1 ∧ B 76 s = A (54 + 2 * s.toNat) 1 ∧ B 77 s = A (54 + 2 * s.toNat) 2 ∧ ∀ i, 0 ≤ i → i < A (54 + 2 * s.toNat) 2 → B 78 (40 * s + i) = A (55 + 2 * s.toNat) i) := by
  obtain ⟨a1, a2, a3, a4, a5, a6, a7, a8⟩ := hr.2.2.2.2.2.2.2.1.2 s.toNat (by omega)
  rw [Int.toNat_of_nonneg hs.1] at a7 a8
  exact ⟨a7, a8⟩
theorem r_cell {s i v : Int} (hr : x_rel S S) (hX : x_RX R) (hM : x_RM R) (hs : -2147483648 ≤ s ∧ s < 2147483648) (hi : -2147483648 ≤ i ∧ i < 2147483648) (hv : -2147483648 ≤ v ∧ v < 2147483648) : ∃ a, r_two 118 228 [vi s, vi i, vi v] S R L (vi a) (vi a) := by
  have q1 := x_relsh hr
  have kx := fun Q => p118 (d := 98) (Q := Q) (S := S) (L := L) hs hi hv hX q1
  have km := fun (S1 : ip_S) (e : ∀ b : Nat, 62 ≤ b → b < 79 → S1 b = S b) Q => p228 (d := 97) (S := S1) (Q := Q) (L := L) hs hi hv hM (x_relsM (x_relBh hr e))
  by_cases c : 0 ≤ s ∧ s < 4
  · have es : ((s.toNat : Nat) : Int) = s := Int.toNat_of_nonneg c.1
    obtain ⟨r1, r2⟩ := x_rels1 hr c
    simp only [if_pos c] at kx km
    by_cases c1 : S (54 + 2 * s.toNat) 1 = -1
    · have km0 := km S (fun _ _ _ => rfl)
      simp only [if_pos c1, if_pos (r1 c1)] at kx km0
      exact ⟨-11, r_same hr hX hM kx km0⟩
    · obtain ⟨g1, g2, g3, g4⟩ := r2 c1
      simp only [if_neg c1] at kx
      by_cases c2 : 0 ≤ i ∧ i < S (54 + 2 * s.toNat) 2
      · have km1 := km (ip_up S (55 + 2 * s.toNat) i (h_put (S (54 + 2 * s.toNat) 1) v)) (fun b hb _ => ip_upc (by omega))
        have e75 : ip_up S (55 + 2 * s.toNat) i (h_put (S (54 + 2 * s.toNat) 1) v) 75 = S 75 := ip_upc (by omega)
        have e76 : ip_up S (55 + 2 * s.toNat) i (h_put (S (54 + 2 * s.toNat) 1) v) 76 = S 76 := ip_upc (by omega)
        have e77 : ip_up S (55 + 2 * s.toNat) i (h_put (S (54 + 2 * s.toNat) 1) v) 77 = S 77 := ip_upc (by omega)
        rw [e75, e76, e77, g1, g2, g3] at km1
        simp only [if_pos c2] at kx
        have hq := (q1 s.toNat (by omega)).2
        simp only [if_pos c2, if_neg (show ¬ (1 : Int) = 0 by omega)] at km1
        refine ⟨1, r_ch hr hX hM (fun b hb => ip_upc (by omega)) (fun b hb => ip_upc (by omega)) (ip_upc (by omega)) (fun h => ?_) kx km1⟩
        have := u_cell (s := s.toNat) (i := i) (w := h_put (S (54 + 2 * s.toNat) 1) v) h (by omega) (by omega) (h_putr hv)
        rwa [es] at this
      · have km0 := km S (fun _ _ _ => rfl)
        simp only [if_neg c2] at kx
        simp only [g1, g3, if_neg c2, if_neg (show ¬ (1 : Int) = 0 by omega)] at km0
        exact ⟨-12, r_same hr hX hM kx km0⟩
  · have km0 := km S (fun _ _ _ => rfl)
    simp only [if_neg c] at kx km0
    exact ⟨-2, r_same hr hX hM kx km0⟩
theorem r_copy {s i t j n : Int} (hr : x_rel S S) (hX : x_RX R) (hM : x_RM R) (hs : -2147483648 ≤ s ∧ s < 2147483648) (hi : -2147483648 ≤ i ∧ i < 2147483648) (ht : -2147483648 ≤ t ∧ t < 2147483648) (hj : -2147483648 ≤ j ∧ j < 2147483648) (hn : -2147483648 ≤ n ∧ n < 2147483648) : ∃ a, r_two 119 229 [vi s, vi i, vi t, vi j, vi n] S R L (vi a) (vi a) := by
  have q1 := x_relsh hr
  have kx := fun Q => p119 (d := 98) (Q := Q) (S := S) (L := L) hs hi ht hj hn hX q1
  have km := fun (S1 : ip_S) (e : ∀ b : Nat, 62 ≤ b → b < 79 → S1 b = S b) Q => p229 (d := 97) (S := S1) (Q := Q) (L := L) hs hi ht hj hn hM (x_relsM (x_relBh hr e))
  by_cases c : (0 ≤ s ∧ s < 4) ∧ (0 ≤ t ∧ t < 4)
  · have es : ((s.toNat : Nat) : Int) = s := Int.toNat_of_nonneg c.1.1
    have et : ((t.toNat : Nat) : Int) = t := Int.toNat_of_nonneg c.2.1
    obtain ⟨r1, r2⟩ := x_rels1 hr c.1
    obtain ⟨t1, t2⟩ := x_rels1 hr c.2
    simp only [if_pos c] at kx km
    by_cases c1 : S (54 + 2 * s.toNat) 1 = -1 ∨ S (54 + 2 * t.toNat) 1 = -1
    · have km0 := km S (fun _ _ _ => rfl)
      simp only [if_pos c1] at kx
      simp only [if_pos (show S 75 s = 0 ∨ S 75 t = 0 from c1.elim (fun z => Or.inl (r1 z)) (fun z => Or.inr (t1 z)))] at km0
      exact ⟨-11, r_same hr hX hM kx km0⟩
    · obtain ⟨g1, g2, g3, g4⟩ := r2 (fun z => c1 (Or.inl z))
      obtain ⟨f1, f2, f3, f4⟩ := t2 (fun z => c1 (Or.inr z))
      simp only [if_neg c1] at kx
      have hq := (q1 s.toNat (by omega)).2
      have hqt := (q1 t.toNat (by omega)).2
      by_cases c2 : S (54 + 2 * s.toNat) 1 = S (54 + 2 * t.toNat) 1
      · simp only [if_pos c2] at kx
        have hS1 : ∀ (S1 : ip_S), (∀ b : Nat, 62 ≤ b → b < 79 → S1 b = S b) → ∀ Q, ip_wc 100 229 [.ref 62, vi s, vi i, vi t, vi j, vi n] 79 S1 R L Q = if (0 ≤ n ∧ 0 ≤ i ∧ i ≤ S (54 + 2 * s.toNat) 2 - n) ∧ (0 ≤ n ∧ 0 ≤ j ∧ j ≤ S (54 + 2 * t.toNat) 2 - n) then Q (some (vi n)) 79 (ip_cp S1 78 (40 * s + i) 78 (40 * t + j) n) R L else Q (some (vi (-12))) 79 S1 R L := fun S1 e Q => by
          have z := x_relBh hr e
          have e77 := e 77 (by omega) (by omega)
          have k1 := km S1 e Q
          rw [e 75 (by omega) (by omega), e 76 (by omega) (by omega), g1, g2, f1, f2, if_neg (by omega), if_pos c2] at k1
          rw [k1]
          have k2 := y229r (d := 99) (S := S1) (L := L) (Q := Q) (s := s) (i := i) (t := t) (j := j) (n := n) hM c.1 c.2 hi hj hn (by rw [e77, g3]; exact hq) (by rw [e77, f3]; exact hqt) (fun k k0 k1 => by have := z.2.2.2.2.2.2.2.1.1 k k0 k1; omega)
          rw [k2, e77, g3, f3]
        by_cases c3 : (0 ≤ n ∧ 0 ≤ i ∧ i ≤ S (54 + 2 * s.toNat) 2 - n) ∧ (0 ≤ n ∧ 0 ≤ j ∧ j ≤ S (54 + 2 * t.toNat) 2 - n)
        · simp only [if_pos c3] at kx hS1
          refine ⟨n, r_ch hr hX hM (fun b hb => ip_cpc (by omega)) (fun b hb => ip_cpc (by omega)) (ip_cpc (by omega)) (fun h => ?_) kx (hS1 _ (fun b hb _ => ip_cpc (by omega)))⟩
          have := u_copy (s := s.toNat) (t := t.toNat) (i := i) (j := j) (n := n) h (by omega) (by omega) (fun z => c1 (Or.inl z)) (by omega) (by omega) (by omega)
          rwa [es, et] at this
        · simp only [if_neg c3] at kx hS1
          exact ⟨-12, r_same hr hX hM kx (hS1 S (fun _ _ _ => rfl))⟩
      · simp only [if_neg c2] at kx
        have km0 := km S (fun _ _ _ => rfl)
        simp only [if_neg (show ¬ (S 75 s = 0 ∨ S 75 t = 0) by omega), if_neg (show ¬ S 76 s = S 76 t by rw [g2, f2]; exact c2)] at km0
        exact ⟨-13, r_same hr hX hM kx km0⟩
  · have km0 := km S (fun _ _ _ => rfl)
    simp only [if_neg c] at kx km0
    exact ⟨-2, r_same hr hX hM kx km0⟩
end RCH
