/-! image, back, sheets: kept in the relation -/
section UPE
variable {A B A' B' : ip_S}
theorem ip_cpi {S : ip_S} {a b : Nat} {n y : Int} (h0 : 0 ≤ y) (h1 : y < n) : ip_cp S a 0 b 0 n b y = S a y := by
  unfold ip_cp
  rw [if_pos ⟨rfl, h0, by omega⟩]
  congr 1
  omega
theorem m_cpf {s t b : Nat} (h : b ≤ t ∨ t + 7 < b) : m_cpw A s t b = A b := by
  funext k
  exact m_cpw7 h
theorem m_cp1 : (∀ k, 0 ≤ k → k < 64 → m_cpw A 1 9 10 k = A 2 k ∧ m_cpw A 1 9 11 k = A 3 k) ∧ (∀ k, 0 ≤ k → k < 6 → m_cpw A 1 9 12 k = A 4 k ∧ m_cpw A 1 9 13 k = A 5 k ∧ m_cpw A 1 9 14 k = A 6 k ∧ m_cpw A 1 9 15 k = A 7 k) ∧ (∀ k, 0 ≤ k → k < 2 → m_cpw A 1 9 16 k = A 8 k) := by
  unfold m_cpw
  refine ⟨fun k h0 h1 => ?_, fun k h0 h1 => ?_, fun k h0 h1 => ?_⟩
  all_goals simp (disch := omega) only [Nat.reduceAdd, ip_cpc, ip_cpi, and_self]
theorem m_cp9 : (∀ k, 0 ≤ k → k < 64 → m_cpw A 9 1 2 k = A 10 k ∧ m_cpw A 9 1 3 k = A 11 k) ∧ (∀ k, 0 ≤ k → k < 6 → m_cpw A 9 1 4 k = A 12 k ∧ m_cpw A 9 1 5 k = A 13 k ∧ m_cpw A 9 1 6 k = A 14 k ∧ m_cpw A 9 1 7 k = A 15 k) ∧ (∀ k, 0 ≤ k → k < 2 → m_cpw A 9 1 8 k = A 16 k) := by
  unfold m_cpw
  refine ⟨fun k h0 h1 => ?_, fun k h0 h1 => ?_, fun k h0 h1 => ?_⟩
  all_goals simp (disch := omega) only [Nat.reduceAdd, ip_cpc, ip_cpi, and_self]
theorem y_rwc {f g : Int → Int} (h : y_rw f) (e : ∀ k, 0 ≤ k → k < 18 → g k = f k) : y_rw g := fun p h0 h1 => by
  rw [e _ (by omega) (by omega), e _ (by omega) (by omega), e _ (by omega) (by omega)]
  exact h p h0 h1
theorem u_im (h : x_rel A B) : x_rel (m_img A) (m_img2 B) := by
  obtain ⟨w1, w2, ht, hp, c4, c5, c6, c7, mi⟩ := h
  have k6 := c6.2.1
  have h80 := w1.2.2.2.2.2.2.1
  have h81 := w1.2.2.2.2.2.2.2.1
  obtain ⟨p1, p2, p3⟩ := m_cp1 (A := A)
  have eA : ∀ b : Nat, b ≠ 0 → b ≠ 9 → b < 9 ∨ 16 < b → m_img A b = A b := fun b h0 h9 hb => by
    unfold m_img
    rw [ip_upc h0, ip_upc h9, m_cpf (by omega)]
  have eC : ∀ b : Nat, b ≠ 0 → b ≠ 9 → m_img A b = m_cpw A 1 9 b := fun b h0 h9 => by
    unfold m_img
    rw [ip_upc h0, ip_upc h9]
  have e02 : m_img A 0 2 = 1 := by unfold m_img; rw [ip_ups]
  have e97 : m_img A 9 7 = A 1 7 := by unfold m_img; rw [ip_upc (by omega), ip_ups]
  have eB : ∀ b : Nat, b ≠ 62 → b ≠ 73 → b ≠ 74 → m_img2 B b = B b := fun b h1 h2 h3 => by
    unfold m_img2 m_cpA
    rw [ip_upc h1, ip_upc h1, ip_upc h1, m_ar_ne h3, m_ar_ne h2]
  have eL : ∀ i, ¬ i = 38 → ¬ i = 39 → ¬ i = 40 → m_img2 B 62 i = B 62 i := fun i h1 h2 h3 => by
    unfold m_img2 m_cpA
    rw [ip_upk h3, ip_upk h2, ip_upk h1, m_ar_ne (by omega), m_ar_ne (by omega)]
  have b38 : m_img2 B 62 38 = B 62 11 := by unfold m_img2; rw [ip_upk (by omega), ip_upk (by omega), ip_ups]
  have b39 : m_img2 B 62 39 = B 62 7 := by unfold m_img2; rw [ip_upk (by omega), ip_ups]
  have b40 : m_img2 B 62 40 = B 62 4 := by unfold m_img2; rw [ip_ups]
  have b73 : ∀ k, 0 ≤ k → k < 64 → m_img2 B 73 k = B 66 k := fun k h0 h1 => by
    unfold m_img2 m_cpA
    rw [ip_upc (by omega), ip_upc (by omega), ip_upc (by omega), m_ar_ne (by omega), m_ar_eq]
    exact if_pos ⟨h0, h1⟩
  have b74 : ∀ k, 0 ≤ k → k < 18 → m_img2 B 74 k = B 68 k := fun k h0 h1 => by
    unfold m_img2 m_cpA
    rw [ip_upc (by omega), ip_upc (by omega), ip_upc (by omega), m_ar_eq, m_ar_ne (by omega)]
    exact if_pos ⟨h0, h1⟩
  refine ⟨?_, ?_, ?_, ?_, ?_, ?_, ?_, ?_, ?_⟩
  · rw [eA 2 (by omega) (by omega) (by omega), eA 3 (by omega) (by omega) (by omega), eA 4 (by omega) (by omega) (by omega), eA 5 (by omega) (by omega) (by omega), eA 6 (by omega) (by omega) (by omega), eA 7 (by omega) (by omega) (by omega), eA 8 (by omega) (by omega) (by omega)]
    exact w1
  · rw [eC 10 (by omega) (by omega), eC 11 (by omega) (by omega), eC 12 (by omega) (by omega), eC 13 (by omega) (by omega), eC 14 (by omega) (by omega), eC 15 (by omega) (by omega), eC 16 (by omega) (by omega)]
    exact x_wic w1 (fun k h0 h1 => (p1 k h0 h1).1) (fun k h0 h1 => (p1 k h0 h1).2) (fun k h0 h1 => (p2 k h0 h1).1) (fun k h0 h1 => (p2 k h0 h1).2.1) (fun k h0 h1 => (p2 k h0 h1).2.2.1) (fun k h0 h1 => (p2 k h0 h1).2.2.2) (p3 0 (by omega) (by omega)) (p3 1 (by omega) (by omega))
  · intro t h0
    rw [eA (27 + 3 * t) (by omega) (by omega) (by omega), eA (28 + 3 * t) (by omega) (by omega) (by omega)]
    exact ht t h0
  · rw [eA 1 (by omega) (by omega) (by omega)]
    exact hp
  · unfold x_c4
    rw [eA 1 (by omega) (by omega) (by omega), eA 2 (by omega) (by omega) (by omega), eA 3 (by omega) (by omega) (by omega), eA 4 (by omega) (by omega) (by omega), eA 5 (by omega) (by omega) (by omega), eA 6 (by omega) (by omega) (by omega), eA 8 (by omega) (by omega) (by omega), eL 11 (by omega) (by omega) (by omega), eL 7 (by omega) (by omega) (by omega), eL 4 (by omega) (by omega) (by omega), eB 66 (by omega) (by omega) (by omega), eB 67 (by omega) (by omega) (by omega), eB 68 (by omega) (by omega) (by omega), eB 69 (by omega) (by omega) (by omega)]
    exact c4
  · unfold x_c5
    rw [e02, e97, b38, b39, b40, eA 1 (by omega) (by omega) (by omega), eA 17 (by omega) (by omega) (by omega), eA 4 (by omega) (by omega) (by omega), eC 10 (by omega) (by omega), eC 12 (by omega) (by omega), eC 13 (by omega) (by omega), eC 14 (by omega) (by omega), eC 16 (by omega) (by omega), p3 0 (by omega) (by omega), p3 1 (by omega) (by omega)]
    refine ⟨Or.inr rfl, hp, fun z => absurd z (by decide), fun _ => ⟨c4.1, Int.le_refl _, k6, fun p h0 h1 => ?_, c4.2.2.1, c4.2.2.2.1, fun k h0 h1 => ?_⟩⟩
    · obtain ⟨f1, f2, f3⟩ := c4.2.1 p h0 h1
      rw [b74 _ (by omega) (by omega), b74 _ (by omega) (by omega), (p2 p h0 (by omega)).1, (p2 p h0 (by omega)).2.1, (p2 p h0 (by omega)).2.2.1]
      exact ⟨rfl, f2, f3⟩
    · rw [b73 k h0 h1, (p1 k h0 h1).1]
      exact (c4.2.2.2.2 k h0 h1).1
  · exact x_c6c c6 (by rw [eA 17 (by omega) (by omega) (by omega)]) (by rw [eA 8 (by omega) (by omega) (by omega)]; exact k6) (eA 19 (by omega) (by omega) (by omega)) (eA 20 (by omega) (by omega) (by omega)) (eA 21 (by omega) (by omega) (by omega)) (eA 23 (by omega) (by omega) (by omega)) (fun t _ => ⟨eA _ (by omega) (by omega) (by omega), eA _ (by omega) (by omega) (by omega)⟩) (eL 3 (by omega) (by omega) (by omega)) (eL 6 (by omega) (by omega) (by omega)) (eB 63 (by omega) (by omega) (by omega)) (eB 64 (by omega) (by omega) (by omega)) (eB 65 (by omega) (by omega) (by omega))
  · exact x_c7c c7 (fun q _ => ⟨eA _ (by omega) (by omega) (by omega), eA _ (by omega) (by omega) (by omega)⟩) (eB 75 (by omega) (by omega) (by omega)) (eB 76 (by omega) (by omega) (by omega)) (eB 77 (by omega) (by omega) (by omega)) (eB 78 (by omega) (by omega) (by omega))
  · obtain ⟨m1, m2, m3, m4, m5, m6, m7⟩ := mi
    unfold y_mi
    rw [b38, b39, b40, eB 67 (by omega) (by omega) (by omega), eB 68 (by omega) (by omega) (by omega), c4.1, c4.2.2.1, c4.2.2.2.1]
    exact ⟨m1, m2, y_rwc m2 b74, x_rgc w1.1 (fun k h0 h1 => (b73 k h0 h1).trans (c4.2.2.2.2 k h0 h1).1), by omega, h80, h81⟩
theorem u_bk (h : x_rel A B) (hk : A 0 2 = 1) : x_rel (m_bck A) (m_bck2 B) := by
  obtain ⟨w1, w2, ht, hp, c4, c5, c6, c7, mi⟩ := h
  have h80 := w2.2.2.2.2.2.2.1
  have h81 := w2.2.2.2.2.2.2.2.1
  obtain ⟨d1, d2, -, d4⟩ := c5
  obtain ⟨f1, f2, f3, f4, f5, f6, f7⟩ := d4 hk
  obtain ⟨m1, m2, m3, m4, m5, m6, m7⟩ := mi
  obtain ⟨p1, p2, p3⟩ := m_cp9 (A := A)
  have eA : ∀ b : Nat, b ≠ 1 → b = 0 ∨ 8 < b → m_bck A b = A b := fun b h1 hb => by
    unfold m_bck
    rw [ip_upc h1, m_cpf (by omega)]
  have eC : ∀ b : Nat, b ≠ 1 → m_bck A b = m_cpw A 9 1 b := fun b h1 => by
    unfold m_bck
    rw [ip_upc h1]
  have e17 : m_bck A 1 7 = A 9 7 := by unfold m_bck; rw [ip_ups]
  have eB : ∀ b : Nat, b ≠ 62 → b ≠ 66 → b ≠ 68 → b ≠ 69 → m_bck2 B b = B b := fun b h1 h2 h3 h4 => by
    unfold m_bck2 m_spr m_cpA
    rw [ip_upc h1, ip_upc h1, ip_upc h1, m_ar_ne h4, m_ar_ne h3, m_ar_ne h2]
  have eL : ∀ i, ¬ i = 11 → ¬ i = 7 → ¬ i = 4 → m_bck2 B 62 i = B 62 i := fun i h1 h2 h3 => by
    unfold m_bck2 m_spr m_cpA
    rw [ip_upk h3, ip_upk h2, ip_upk h1, m_ar_ne (by omega), m_ar_ne (by omega), m_ar_ne (by omega)]
  have b11 : m_bck2 B 62 11 = B 62 38 := by unfold m_bck2; rw [ip_upk (by omega), ip_upk (by omega), ip_ups]
  have b7 : m_bck2 B 62 7 = B 62 39 := by unfold m_bck2; rw [ip_upk (by omega), ip_ups]
  have b4 : m_bck2 B 62 4 = B 62 40 := by unfold m_bck2; rw [ip_ups]
  have b66 : ∀ k, 0 ≤ k → k < 64 → m_bck2 B 66 k = B 73 k := fun k h0 h1 => by
    unfold m_bck2 m_spr m_cpA
    rw [ip_upc (by omega), ip_upc (by omega), ip_upc (by omega), m_ar_ne (by omega), m_ar_ne (by omega), m_ar_eq]
    exact if_pos ⟨h0, h1⟩
  have b68 : ∀ k, 0 ≤ k → k < 18 → m_bck2 B 68 k = B 74 k := fun k h0 h1 => by
    unfold m_bck2 m_spr m_cpA
    rw [ip_upc (by omega), ip_upc (by omega), ip_upc (by omega), m_ar_ne (by omega), m_ar_eq, m_ar_ne (by omega)]
    exact if_pos ⟨h0, h1⟩
  have b69 : ∀ k, 0 ≤ k → k < 64 → m_bck2 B 69 k = A 11 k := fun k h0 h1 => by
    have e66 : ∀ q, 0 ≤ q → q < 64 → (m_cpA (m_cpA B 73 66 64) 74 68 18) 66 q = A 10 q := fun q q0 q1 => by
      rw [← f7 q q0 q1]
      unfold m_cpA
      rw [m_ar_ne (by omega), m_ar_eq]
      exact if_pos ⟨q0, q1⟩
    unfold m_bck2 m_spr
    rw [ip_upc (by omega), ip_upc (by omega), ip_upc (by omega), m_ar_eq, w2.2.2.2.2.2.2.2.2.1 k h0 h1]
    exact (f_fwc w2.1 (fun q q0 q1 => (e66 q q0 q1).symm) k h0 h1).symm
  refine ⟨?_, ?_, ?_, ?_, ?_, ?_, ?_, ?_, ?_⟩
  · rw [eC 2 (by omega), eC 3 (by omega), eC 4 (by omega), eC 5 (by omega), eC 6 (by omega), eC 7 (by omega), eC 8 (by omega)]
    exact x_wic w2 (fun k h0 h1 => (p1 k h0 h1).1) (fun k h0 h1 => (p1 k h0 h1).2) (fun k h0 h1 => (p2 k h0 h1).1) (fun k h0 h1 => (p2 k h0 h1).2.1) (fun k h0 h1 => (p2 k h0 h1).2.2.1) (fun k h0 h1 => (p2 k h0 h1).2.2.2) (p3 0 (by omega) (by omega)) (p3 1 (by omega) (by omega))
  · rw [eA 10 (by omega) (by omega), eA 11 (by omega) (by omega), eA 12 (by omega) (by omega), eA 13 (by omega) (by omega), eA 14 (by omega) (by omega), eA 15 (by omega) (by omega), eA 16 (by omega) (by omega)]
    exact w2
  · intro t h0
    rw [eA (27 + 3 * t) (by omega) (by omega), eA (28 + 3 * t) (by omega) (by omega)]
    exact ht t h0
  · rw [e17]
    exact d2
  · unfold x_c4
    rw [e17, b11, b7, b4, eC 2 (by omega), eC 3 (by omega), eC 4 (by omega), eC 5 (by omega), eC 6 (by omega), eC 8 (by omega), p3 0 (by omega) (by omega), p3 1 (by omega) (by omega), eB 67 (by omega) (by omega) (by omega) (by omega)]
    refine ⟨f1, fun p h0 h1 => ?_, f5, f6, fun k h0 h1 => ?_⟩
    · obtain ⟨g1, g2, g3⟩ := f4 p h0 h1
      rw [b68 _ (by omega) (by omega), b68 _ (by omega) (by omega), (p2 p h0 (by omega)).1, (p2 p h0 (by omega)).2.1, (p2 p h0 (by omega)).2.2.1, g1]
      exact ⟨(c4.2.1 p h0 (by omega)).1, g2, g3⟩
    · rw [b66 k h0 h1, b69 k h0 h1, (p1 k h0 h1).1, (p1 k h0 h1).2]
      exact ⟨f7 k h0 h1, rfl⟩
  · unfold x_c5
    rw [e17, eA 0 (by omega) (by omega), eA 9 (by omega) (by omega), eA 10 (by omega) (by omega), eA 12 (by omega) (by omega), eA 13 (by omega) (by omega), eA 14 (by omega) (by omega), eA 16 (by omega) (by omega), eA 17 (by omega) (by omega), eC 4 (by omega), eL 38 (by omega) (by omega) (by omega), eL 39 (by omega) (by omega) (by omega), eL 40 (by omega) (by omega) (by omega), eB 73 (by omega) (by omega) (by omega) (by omega), eB 74 (by omega) (by omega) (by omega) (by omega)]
    refine ⟨d1, d2, fun z => absurd z (by rw [hk]; decide), fun _ => ⟨f1, Int.le_refl _, f3, fun p h0 h1 => ?_, f5, f6, f7⟩⟩
    obtain ⟨g1, g2, g3⟩ := f4 p h0 h1
    exact ⟨(p2 p h0 (by omega)).1.symm, g2, g3⟩
  · exact x_c6c c6 (by rw [eA 17 (by omega) (by omega)]) (by rw [eC 8 (by omega), p3 1 (by omega) (by omega)]; exact f3) (eA 19 (by omega) (by omega)) (eA 20 (by omega) (by omega)) (eA 21 (by omega) (by omega)) (eA 23 (by omega) (by omega)) (fun t _ => ⟨eA _ (by omega) (by omega), eA _ (by omega) (by omega)⟩) (eL 3 (by omega) (by omega) (by omega)) (eL 6 (by omega) (by omega) (by omega)) (eB 63 (by omega) (by omega) (by omega) (by omega)) (eB 64 (by omega) (by omega) (by omega) (by omega)) (eB 65 (by omega) (by omega) (by omega) (by omega))
  · exact x_c7c c7 (fun q _ => ⟨eA _ (by omega) (by omega), eA _ (by omega) (by omega)⟩) (eB 75 (by omega) (by omega) (by omega) (by omega)) (eB 76 (by omega) (by omega) (by omega) (by omega)) (eB 77 (by omega) (by omega) (by omega) (by omega)) (eB 78 (by omega) (by omega) (by omega) (by omega))
  · unfold y_mi
    rw [eL 38 (by omega) (by omega) (by omega), eL 39 (by omega) (by omega) (by omega), eL 40 (by omega) (by omega) (by omega), eB 67 (by omega) (by omega) (by omega) (by omega), eB 73 (by omega) (by omega) (by omega) (by omega), eB 74 (by omega) (by omega) (by omega) (by omega)]
    exact ⟨m1, y_rwc m3 b68, m3, m4, m5, m6, m7⟩
/-! sheets -/
theorem u_sh (h : x_rel A B) (e : ∀ b : Nat, b < 54 → A' b = A b) (eB : ∀ b : Nat, 62 ≤ b → b < 79 → b ≠ 75 → b ≠ 76 → b ≠ 77 → b ≠ 78 → B' b = B b) (c7' : x_c7 A' B') : x_rel A' B' := by
  obtain ⟨w1, w2, ht, hp, c4, c5, c6, c7, mi⟩ := h
  have k6 := c6.2.1
  refine ⟨?_, ?_, ?_, ?_, ?_, ?_, ?_, c7', ?_⟩
  · rw [e 2 (by omega), e 3 (by omega), e 4 (by omega), e 5 (by omega), e 6 (by omega), e 7 (by omega), e 8 (by omega)]
    exact w1
  · rw [e 10 (by omega), e 11 (by omega), e 12 (by omega), e 13 (by omega), e 14 (by omega), e 15 (by omega), e 16 (by omega)]
    exact w2
  · intro t h0
    rw [e (27 + 3 * t) (by omega), e (28 + 3 * t) (by omega)]
    exact ht t h0
  · rw [e 1 (by omega)]
    exact hp
  · unfold x_c4
    rw [e 1 (by omega), e 2 (by omega), e 3 (by omega), e 4 (by omega), e 5 (by omega), e 6 (by omega), e 8 (by omega), eB 62 (by omega) (by omega) (by omega) (by omega) (by omega) (by omega), eB 66 (by omega) (by omega) (by omega) (by omega) (by omega) (by omega), eB 67 (by omega) (by omega) (by omega) (by omega) (by omega) (by omega), eB 68 (by omega) (by omega) (by omega) (by omega) (by omega) (by omega), eB 69 (by omega) (by omega) (by omega) (by omega) (by omega) (by omega)]
    exact c4
  · have e62 := eB 62 (by omega) (by omega) (by omega) (by omega) (by omega) (by omega)
    exact x_c5c c5 (by rw [e 0 (by omega)]) (by rw [e 9 (by omega)]) (by rw [e 17 (by omega)]) (by rw [e 1 (by omega)]; exact Int.le_refl _) (e 10 (by omega)) (e 12 (by omega)) (e 13 (by omega)) (e 14 (by omega)) (e 16 (by omega)) (fun _ _ _ _ => by rw [e 4 (by omega)]) (by rw [e62]) (by rw [e62]) (by rw [e62]) (eB 73 (by omega) (by omega) (by omega) (by omega) (by omega) (by omega)) (eB 74 (by omega) (by omega) (by omega) (by omega) (by omega) (by omega))
  · have e62 := eB 62 (by omega) (by omega) (by omega) (by omega) (by omega) (by omega)
    exact x_c6c c6 (by rw [e 17 (by omega)]) (by rw [e 8 (by omega)]; exact k6) (e 19 (by omega)) (e 20 (by omega)) (e 21 (by omega)) (e 23 (by omega)) (fun t _ => ⟨e _ (by omega), e _ (by omega)⟩) (by rw [e62]) (by rw [e62]) (eB 63 (by omega) (by omega) (by omega) (by omega) (by omega) (by omega)) (eB 64 (by omega) (by omega) (by omega) (by omega) (by omega) (by omega)) (eB 65 (by omega) (by omega) (by omega) (by omega) (by omega) (by omega))
  · have e62 := eB 62 (by omega) (by omega) (by omega) (by omega) (by omega) (by omega)
    exact y_mic mi (by rw [eB 67 (by omega) (by omega) (by omega) (by omega) (by omega) (by omega)]; exact mi.1) (by rw [eB 68 (by omega) (by omega) (by omega) (by omega) (by omega) (by omega)]; exact mi.2.1) (eB 73 (by omega) (by omega) (by omega) (by omega) (by omega) (by omega)) (eB 74 (by omega) (by omega) (by omega) (by omega) (by omega) (by omega)) (by rw [e62]) (by rw [e62]) (by rw [e62])
theorem x_shk {q : Nat} (h : x_sh A B q) (hq : q < 4) (e1 : A' (54 + 2 * q) = A (54 + 2 * q)) (e2 : A' (55 + 2 * q) = A (55 + 2 * q)) (b75 : B' 75 q = B 75 q) (b76 : B' 76 q = B 76 q) (b77 : B' 77 q = B 77 q) (b78 : ∀ i, 0 ≤ i → i < 40 → B' 78 (40 * (q : Int) + i) = B 78 (40 * (q : Int) + i)) : x_sh A' B' q := by
  unfold x_sh
  rw [e1, e2, b75, b76, b77]
  obtain ⟨a1, a2, a3, a4, a5, a6, a7, a8⟩ := h
  refine ⟨a1, a2, a3, a4, a5, a6, a7, fun z => ?_⟩
  obtain ⟨g1, g2, g3, g4⟩ := a8 z
  refine ⟨g1, g2, g3, fun i i0 i1 => ?_⟩
  rw [b78 i i0 (by omega)]
  exact g4 i i0 i1
theorem m_hdr75 {s v n : Int} {q : Int} : m_hdr B s v n 75 q = if q = s then (if 0 ≤ v then 1 else 0) else B 75 q := by
  unfold m_hdr
  rw [ip_upc (by omega), ip_upc (by omega), ip_upu]
  rfl
theorem m_hdr76 {s v n : Int} {q : Int} : m_hdr B s v n 76 q = if q = s then v else B 76 q := by
  unfold m_hdr
  rw [ip_upc (by omega), ip_upu, ip_upc (by omega)]
  rfl
theorem m_hdr77 {s v n : Int} {q : Int} : m_hdr B s v n 77 q = if q = s then n else B 77 q := by
  unfold m_hdr
  rw [ip_upu, ip_upc (by omega), ip_upc (by omega)]
  rfl
theorem m_hdrn {s v n : Int} {b : Nat} (h1 : b ≠ 75) (h2 : b ≠ 76) (h3 : b ≠ 77) : m_hdr B s v n b = B b := by
  unfold m_hdr
  rw [ip_upc h3, ip_upc h2, ip_upc h1]
/-- a sheet made anew: the class's cells are those of m_bec, its row g; the reference's header, its row f -/
theorem u_new {s : Nat} {v w n : Int} {g f : Int → Int} (h : x_rel A B) (hs : s < 4) (hv : -1 ≤ v ∧ v ≤ 2) (hw : 0 ≤ w ∧ w ≤ 40) (hn : -2147483648 ≤ n ∧ n < 2147483648) (hg : x_rg g 40 (-2147483648) 2147483647) (hf : x_rg f 160 (-2147483648) 2147483647) (hfk : ∀ q : Nat, q < 4 → q ≠ s → ∀ i, 0 ≤ i → i < 40 → f (40 * (q : Int) + i) = B 78 (40 * (q : Int) + i)) (he : ¬ v = -1 → n = w ∧ ∀ i, 0 ≤ i → i < w → f (40 * (s : Int) + i) = g i) :
    x_rel (ip_ar (ip_up (ip_up A (54 + 2 * s) 1 v) (54 + 2 * s) 2 w) (55 + 2 * s) g) (ip_ar (m_hdr B (s : Int) v n) 78 f) := by
  have c7 := h.2.2.2.2.2.2.2.1
  refine u_sh h (fun b hb => by rw [m_ar_ne (by omega), ip_upc (by omega), ip_upc (by omega)]) (fun b _ _ h1 h2 h3 h4 => by rw [m_ar_ne h4, m_hdrn h1 h2 h3]) ⟨by rw [m_ar_eq]; exact hf, fun q hq => ?_⟩
  by_cases c : q = s
  · subst c
    have e1 : ip_ar (ip_up (ip_up A (54 + 2 * q) 1 v) (54 + 2 * q) 2 w) (55 + 2 * q) g (54 + 2 * q) 1 = v := by
      rw [m_ar_ne (by omega), ip_upk (by omega), ip_ups]
    have e2 : ip_ar (ip_up (ip_up A (54 + 2 * q) 1 v) (54 + 2 * q) 2 w) (55 + 2 * q) g (54 + 2 * q) 2 = w := by
      rw [m_ar_ne (by omega), ip_ups]
    unfold x_sh
    rw [e1, e2, m_ar_eq, m_ar_ne (by omega), m_ar_ne (by omega), m_ar_ne (by omega), m_ar_eq, m_hdr75, m_hdr76, m_hdr77, if_pos rfl, if_pos rfl, if_pos rfl]
    refine ⟨hv, hw, hg, by split <;> omega, hv, hn, fun z => by rw [if_neg (by omega)], fun z => ⟨by rw [if_pos (by omega)], rfl, (he z).1, (he z).2⟩⟩
  · exact x_shk (c7.2 q hq) hq (by rw [m_ar_ne (by omega), ip_upc (by omega), ip_upc (by omega)]) (by rw [m_ar_ne (by omega), ip_upc (by omega), ip_upc (by omega)]) (by rw [m_ar_ne (by omega), m_hdr75, if_neg (by omega)]) (by rw [m_ar_ne (by omega), m_hdr76, if_neg (by omega)]) (by rw [m_ar_ne (by omega), m_hdr77, if_neg (by omega)]) (fun i i0 i1 => by rw [m_ar_eq]; exact hfk q hq c i i0 i1)
theorem u_bec {s : Nat} {v n : Int} (h : x_rel A B) (hs : s < 4) (hv : 0 ≤ v ∧ v ≤ 2) (hn : 0 ≤ n ∧ n ≤ 40) : x_rel (m_bec A s v n) (m_bec2 B (s : Int) v n) := by
  have c7 := h.2.2.2.2.2.2.2.1
  refine u_new h hs (by omega) hn (by omega) (fun k h0 h1 => ?_) (fun k h0 h1 => ?_) (fun q hq hne i i0 i1 => ?_) (fun _ => ⟨rfl, fun i i0 i1 => ?_⟩)
  · unfold h_z
    rw [if_pos ⟨h0, h1⟩]
    omega
  · unfold m_zi
    split
    · omega
    · exact c7.1 k h0 h1
  · unfold m_zi
    exact if_neg (by omega)
  · unfold m_zi h_z
    rw [if_pos (by omega), if_pos (by omega)]
theorem u_bec0 {s : Nat} {n : Int} (h : x_rel A B) (hs : s < 4) (hn : -2147483648 ≤ n ∧ n < 2147483648) : x_rel (m_bec A s (-1) 0) (m_hdr B (s : Int) (-1) n) := by
  have c7 := h.2.2.2.2.2.2.2.1
  have e : m_hdr B (s : Int) (-1) n = ip_ar (m_hdr B (s : Int) (-1) n) 78 (B 78) := by
    funext b k
    by_cases c : b = 78
    · rw [c, m_ar_eq, m_hdr78]
    · rw [m_ar_ne c]
  rw [e]
  exact u_new h hs (by omega) (by omega) hn (fun k h0 h1 => by unfold h_z; rw [if_pos ⟨h0, h1⟩]; omega) c7.1 (fun q hq hne i i0 i1 => rfl) (fun z => absurd rfl z)
theorem u_flm {s : Nat} {n : Int} {q : w_R} (h : x_rel A B) (hs : s < 4) (hn : 0 ≤ n ∧ n ≤ 20) (hq : 0 ≤ q.2.1 ∧ q.2.1 ≤ 40) (hp : ∀ i, 0 ≤ i → i ≤ q.2.1 → 0 ≤ q.2.2.2.2 i ∧ q.2.2.2.2 i < 8) : x_rel (m_flm A s n n q) (n_flm B (s : Int) n n q) := by
  have c7 := h.2.2.2.2.2.2.2.1
  have hv : ∀ k, 0 ≤ q.2.2.2.2 (w_pb k q.2.1) ∧ q.2.2.2.2 (w_pb k q.2.1) < 8 := fun k => hp _ (w_pbr hq.1).1 (w_pbr hq.1).2
  refine u_new h hs (by omega) (by omega) (by omega) (fun k h0 h1 => ?_) (fun k h0 h1 => ?_) (fun r hr hne i i0 i1 => ?_) (fun _ => ⟨rfl, fun i i0 i1 => ?_⟩)
  · unfold h_pl h_z
    split
    · have := hv k; omega
    · rw [if_pos ⟨h0, h1⟩]; omega
  · unfold h_pm m_zi
    by_cases c1 : 40 * (s : Int) ≤ k ∧ k < 40 * (s : Int) + n
    · rw [if_pos c1]
      have := hv (k - 40 * (s : Int))
      omega
    · rw [if_neg c1, if_neg c1]
      exact c7.1 k h0 h1
  · unfold h_pm m_zi
    rw [if_neg (by omega), if_neg (by omega)]
  · unfold h_pm h_pl
    rw [if_pos (by omega), if_pos (by omega), show 40 * (s : Int) + i - 40 * (s : Int) = i by omega]
theorem u_cell {s : Nat} {i w : Int} (h : x_rel A B) (hs : s < 4) (hi : 0 ≤ i ∧ i < 40) (hw : -2147483648 ≤ w ∧ w ≤ 2147483647) : x_rel (ip_up A (55 + 2 * s) i w) (ip_up B 78 (40 * (s : Int) + i) w) := by
  have c7 := h.2.2.2.2.2.2.2.1
  refine u_sh h (fun b hb => ip_upc (by omega)) (fun b _ _ h1 h2 h3 h4 => ip_upc h4) ⟨by rw [ip_upu]; exact x_rgu c7.1 hw, fun q hq => ?_⟩
  by_cases c : q = s
  · subst c
    obtain ⟨a1, a2, a3, a4, a5, a6, a7, a8⟩ := c7.2 q hq
    unfold x_sh
    rw [ip_upc (by omega), ip_upu, ip_upc (by omega), ip_upc (by omega), ip_upc (by omega), ip_upu]
    refine ⟨a1, a2, x_rgu a3 hw, a4, a5, a6, a7, fun z => ?_⟩
    obtain ⟨g1, g2, g3, g4⟩ := a8 z
    refine ⟨g1, g2, g3, fun j j0 j1 => ?_⟩
    unfold ip_u
    by_cases c2 : j = i
    · rw [if_pos c2, if_pos (by omega)]
    · rw [if_neg c2, if_neg (by omega)]
      exact g4 j j0 j1
  · exact x_shk (c7.2 q hq) hq (ip_upc (by omega)) (ip_upc (by omega)) (by rw [ip_upc (by omega)]) (by rw [ip_upc (by omega)]) (by rw [ip_upc (by omega)]) (fun j j0 j1 => ip_upk (by omega))
theorem u_copy {s t : Nat} {i j n : Int} (h : x_rel A B) (hs : s < 4) (ht : t < 4) (es : ¬ A (54 + 2 * s) 1 = -1) (hn : 0 ≤ n) (hi : 0 ≤ i ∧ i + n ≤ A (54 + 2 * s) 2) (hj : 0 ≤ j ∧ j + n ≤ 40) : x_rel (ip_cp A (55 + 2 * s) i (55 + 2 * t) j n) (ip_cp B 78 (40 * (s : Int) + i) 78 (40 * (t : Int) + j) n) := by
  have c7 := h.2.2.2.2.2.2.2.1
  obtain ⟨s1, s2, s3, -, -, -, -, s8⟩ := c7.2 s hs
  obtain ⟨-, -, -, s9⟩ := s8 es
  refine u_sh h (fun b hb => ip_cpc (by omega)) (fun b _ _ h1 h2 h3 h4 => ip_cpc h4) ⟨fun k h0 h1 => ?_, fun q hq => ?_⟩
  · unfold ip_cp
    split
    · exact c7.1 _ (by omega) (by omega)
    · exact c7.1 k h0 h1
  · by_cases c : q = t
    · subst c
      obtain ⟨a1, a2, a3, a4, a5, a6, a7, a8⟩ := c7.2 q hq
      unfold x_sh
      have e1 : ip_cp A (55 + 2 * s) i (55 + 2 * q) j n (54 + 2 * q) = A (54 + 2 * q) := ip_cpc (by omega)
      have e75 : ip_cp B 78 (40 * (s : Int) + i) 78 (40 * (q : Int) + j) n 75 = B 75 := ip_cpc (by omega)
      have e76 : ip_cp B 78 (40 * (s : Int) + i) 78 (40 * (q : Int) + j) n 76 = B 76 := ip_cpc (by omega)
      have e77 : ip_cp B 78 (40 * (s : Int) + i) 78 (40 * (q : Int) + j) n 77 = B 77 := ip_cpc (by omega)
      rw [e1, e75, e76, e77]
      refine ⟨a1, a2, fun k h0 h1 => ?_, a4, a5, a6, a7, fun z => ?_⟩
      · unfold ip_cp
        split
        · exact s3 _ (by omega) (by omega)
        · exact a3 k h0 h1
      · obtain ⟨g1, g2, g3, g4⟩ := a8 z
        refine ⟨g1, g2, g3, fun y y0 y1 => ?_⟩
        unfold ip_cp
        by_cases c2 : j ≤ y ∧ y < j + n
        · rw [if_pos ⟨rfl, by omega, by omega⟩, if_pos ⟨rfl, c2⟩, show 40 * (s : Int) + i + (40 * (q : Int) + y - (40 * (q : Int) + j)) = 40 * (s : Int) + (i + (y - j)) by omega]
          exact s9 _ (by omega) (by omega)
        · rw [if_neg (by omega), if_neg (fun w => c2 w.2)]
          exact g4 y y0 y1
    · exact x_shk (c7.2 q hq) hq (ip_cpc (by omega)) (ip_cpc (by omega)) (by rw [ip_cpc (by omega)]) (by rw [ip_cpc (by omega)]) (by rw [ip_cpc (by omega)]) (fun y y0 y1 => if_neg (by omega))
end UPE
