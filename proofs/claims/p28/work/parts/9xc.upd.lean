/-! what the calls change, kept in the relation -/
section UPD
variable {A B A' B' : ip_S}
theorem x_V0c {t : Nat} (h1 : A' (27 + 3 * t) = A (27 + 3 * t)) (h2 : A' (28 + 3 * t) = A (28 + 3 * t)) : x_V0 A' t = x_V0 A t := by
  unfold x_V0
  rw [h1, h2]
theorem x_c6c (h : x_c6 A B) (e17 : A' 17 4 = A 17 4) (e8 : A' 8 1 < A 17 4) (e19 : A' 19 = A 19) (e20 : A' 20 = A 20) (e21 : A' 21 = A 21) (e23 : A' 23 = A 23) (et : ∀ t : Nat, t < 6 → A' (27 + 3 * t) = A (27 + 3 * t) ∧ A' (28 + 3 * t) = A (28 + 3 * t)) (b3 : B' 62 3 = B 62 3) (b6 : B' 62 6 = B 62 6) (b63 : B' 63 = B 63) (b64 : B' 64 = B 64) (b65 : B' 65 = B 65) : x_c6 A' B' := by
  obtain ⟨d1, d2, d3, d4, d5, d6, d7, d8, d9, d10⟩ := h
  unfold x_c6
  rw [e17, e19, e20, e21, e23, b3, b6, b65]
  refine ⟨d1, e8, d3, d4, d5, d6, d7, d8, d9, fun t h0 => ?_⟩
  obtain ⟨e1, e2⟩ := et t (by omega)
  rw [x_V0c e1 e2]
  exact y_tx_c (d10 t h0) b63 b64
theorem x_c7c (h : x_c7 A B) (e : ∀ q : Nat, q < 4 → A' (54 + 2 * q) = A (54 + 2 * q) ∧ A' (55 + 2 * q) = A (55 + 2 * q)) (b75 : B' 75 = B 75) (b76 : B' 76 = B 76) (b77 : B' 77 = B 77) (b78 : B' 78 = B 78) : x_c7 A' B' := by
  refine ⟨by rw [b78]; exact h.1, fun q hq => ?_⟩
  obtain ⟨e1, e2⟩ := e q hq
  unfold x_sh
  rw [e1, e2, b75, b76, b77, b78]
  exact h.2 q hq
theorem x_c5c (h : x_c5 A B) (e0 : A' 0 2 = A 0 2) (e9 : A' 9 7 = A 9 7) (e17 : A' 17 4 = A 17 4) (e1 : A 1 7 ≤ A' 1 7) (e10 : A' 10 = A 10) (e12 : A' 12 = A 12) (e13 : A' 13 = A 13) (e14 : A' 14 = A 14) (e16 : A' 16 = A 16) (e4 : A 0 2 = 1 → ∀ p, 0 ≤ p → p < A 9 7 → A' 4 p = A 4 p) (b38 : B' 62 38 = B 62 38) (b39 : B' 62 39 = B 62 39) (b40 : B' 62 40 = B 62 40) (b73 : B' 73 = B 73) (b74 : B' 74 = B 74) : x_c5 A' B' := by
  obtain ⟨d1, d2, d3, d4⟩ := h
  unfold x_c5
  rw [e0, e9, e17, e10, e12, e13, e14, e16, b38, b39, b40, b73, b74]
  refine ⟨d1, d2, d3, fun z => ?_⟩
  obtain ⟨f1, f2, f3, f4, f5, f6, f7⟩ := d4 z
  refine ⟨f1, by omega, f3, fun p h0 h1 => ?_, f5, f6, f7⟩
  rw [e4 z p h0 h1]
  exact f4 p h0 h1
theorem y_mic (h : y_mi B) (b67 : x_rg (B' 67) 6 0 5) (b68 : y_rw (B' 68)) (b73 : B' 73 = B 73) (b74 : B' 74 = B 74) (b38 : B' 62 38 = B 62 38) (b39 : B' 62 39 = B 62 39) (b40 : B' 62 40 = B 62 40) : y_mi B' := by
  unfold y_mi
  rw [b73, b74, b38, b39, b40]
  exact ⟨b67, b68, h.2.2⟩
theorem u_hr {v : Int} (h : x_rel A B) (hv : 0 ≤ v ∧ v < 24) : x_rel (ip_up A 8 0 v) (ip_up B 62 7 v) := by
  obtain ⟨w1, w2, ht, hp, c4, c5, c6, c7, mi⟩ := h
  have k6 := c6.2.1
  refine ⟨?_, ?_, ?_, ?_, ?_, ?_, ?_, ?_, ?_⟩
  · simp (disch := omega) only [ip_upc]
    obtain ⟨a1, a2, a3, a4, a5, a6, a7, a8, a9⟩ := w1
    exact ⟨a1, a2, a3, a4, a5, a6, by rw [ip_ups]; exact hv, by rw [ip_upk (by omega)]; exact a8, a9⟩
  · simp (disch := omega) only [ip_upc]
    exact w2
  · unfold x_tx
    simp (disch := omega) only [ip_upc]
    exact ht
  · simp (disch := omega) only [ip_upc]
    exact hp
  · unfold x_c4
    simp (disch := omega) only [ip_upc, ip_upk, ip_ups]
    exact ⟨c4.1, c4.2.1, trivial, c4.2.2.2⟩
  · refine x_c5c c5 ?_ ?_ ?_ ?_ ?_ ?_ ?_ ?_ ?_ ?_ ?_ ?_ ?_ ?_ ?_
    all_goals simp (disch := omega) only [ip_upc, ip_upk, Int.le_refl, implies_true]
  · exact x_c6c c6 (by rw [ip_upc (by omega)]) (by rw [ip_upk (by omega)]; exact k6) (ip_upc (by omega)) (ip_upc (by omega)) (ip_upc (by omega)) (ip_upc (by omega)) (fun t _ => ⟨ip_upc (by omega), ip_upc (by omega)⟩) (ip_upk (by omega)) (ip_upk (by omega)) (ip_upc (by omega)) (ip_upc (by omega)) (ip_upc (by omega))
  · exact x_c7c c7 (fun q _ => ⟨ip_upc (by omega), ip_upc (by omega)⟩) (ip_upc (by omega)) (ip_upc (by omega)) (ip_upc (by omega)) (ip_upc (by omega))
  · exact y_mic mi (by rw [ip_upc (by omega)]; exact mi.1) (by rw [ip_upc (by omega)]; exact mi.2.1) (ip_upc (by omega)) (ip_upc (by omega)) (ip_upk (by omega)) (ip_upk (by omega)) (ip_upk (by omega))
theorem u_ru {v : Int} (h : x_rel A B) (hv : 0 ≤ v ∧ v < A 17 4) : x_rel (ip_up A 8 1 v) (ip_up B 62 4 v) := by
  obtain ⟨w1, w2, ht, hp, c4, c5, c6, c7, mi⟩ := h
  have k6 := c6.1
  refine ⟨?_, ?_, ?_, ?_, ?_, ?_, ?_, ?_, ?_⟩
  · simp (disch := omega) only [ip_upc]
    obtain ⟨a1, a2, a3, a4, a5, a6, a7, a8, a9⟩ := w1
    exact ⟨a1, a2, a3, a4, a5, a6, by rw [ip_upk (by omega)]; exact a7, by rw [ip_ups]; omega, a9⟩
  · simp (disch := omega) only [ip_upc]
    exact w2
  · unfold x_tx
    simp (disch := omega) only [ip_upc]
    exact ht
  · simp (disch := omega) only [ip_upc]
    exact hp
  · unfold x_c4
    simp (disch := omega) only [ip_upc, ip_upk, ip_ups]
    exact ⟨c4.1, c4.2.1, c4.2.2.1, trivial, c4.2.2.2.2⟩
  · refine x_c5c c5 ?_ ?_ ?_ ?_ ?_ ?_ ?_ ?_ ?_ ?_ ?_ ?_ ?_ ?_ ?_
    all_goals simp (disch := omega) only [ip_upc, ip_upk, Int.le_refl, implies_true]
  · exact x_c6c c6 (by rw [ip_upc (by omega)]) (by rw [ip_ups]; exact hv.2) (ip_upc (by omega)) (ip_upc (by omega)) (ip_upc (by omega)) (ip_upc (by omega)) (fun t _ => ⟨ip_upc (by omega), ip_upc (by omega)⟩) (ip_upk (by omega)) (ip_upk (by omega)) (ip_upc (by omega)) (ip_upc (by omega)) (ip_upc (by omega))
  · exact x_c7c c7 (fun q _ => ⟨ip_upc (by omega), ip_upc (by omega)⟩) (ip_upc (by omega)) (ip_upc (by omega)) (ip_upc (by omega)) (ip_upc (by omega))
  · exact y_mic mi (by rw [ip_upc (by omega)]; exact mi.1) (by rw [ip_upc (by omega)]; exact mi.2.1) (ip_upc (by omega)) (ip_upc (by omega)) (ip_upk (by omega)) (ip_upk (by omega)) (ip_upk (by omega))
theorem y_rwu {f : Int → Int} {o v c : Int} (h : y_rw f) (hc : (c = 0 ∧ 0 ≤ v ∧ v < 10) ∨ (c = 1 ∧ 0 ≤ v ∧ v < 8) ∨ (c = 2 ∧ 0 ≤ v ∧ v ≤ 99999)) : y_rw (ip_u f (3 * o + c) v) := fun p h0 h1 => by
  obtain ⟨a1, a2, a3⟩ := h p h0 h1
  unfold ip_u
  refine ⟨?_, ?_, ?_⟩
  all_goals split
  all_goals first | assumption | omega
theorem u_nu {o v : Int} (h : x_rel A B) (ho : 0 ≤ o ∧ o < A 1 7) (hv : 0 ≤ v ∧ v < 10) : x_rel (ip_up A 5 o v) (ip_up B 68 (3 * o) v) := by
  obtain ⟨w1, w2, ht, hp, c4, c5, c6, c7, mi⟩ := h
  have k6 := c6.2.1
  refine ⟨?_, ?_, ?_, ?_, ?_, ?_, ?_, ?_, ?_⟩
  · simp (disch := omega) only [ip_upc]
    obtain ⟨a1, a2, a3, a4, a5, a6, a7, a8, a9⟩ := w1
    exact ⟨a1, a2, a3, by rw [ip_upu]; exact x_rgu a4 (by omega), a5, a6, a7, a8, a9⟩
  · simp (disch := omega) only [ip_upc]
    exact w2
  · unfold x_tx
    simp (disch := omega) only [ip_upc]
    exact ht
  · simp (disch := omega) only [ip_upc]
    exact hp
  · unfold x_c4
    simp (disch := omega) only [ip_upc]
    refine ⟨c4.1, fun p h0 h1 => ?_, c4.2.2⟩
    obtain ⟨f1, f2, f3⟩ := c4.2.1 p h0 h1
    refine ⟨f1, ?_, by rw [ip_upk (by omega)]; exact f3⟩
    rw [ip_upu, ip_upu]
    unfold ip_u
    by_cases c : p = o
    · rw [if_pos c, if_pos (by omega)]
    · rw [if_neg c, if_neg (by omega)]
      exact f2
  · refine x_c5c c5 ?_ ?_ ?_ ?_ ?_ ?_ ?_ ?_ ?_ ?_ ?_ ?_ ?_ ?_ ?_
    all_goals simp (disch := omega) only [ip_upc, ip_upk, Int.le_refl, implies_true]
  · exact x_c6c c6 (by rw [ip_upc (by omega)]) (by rw [ip_upc (by omega)]; exact k6) (ip_upc (by omega)) (ip_upc (by omega)) (ip_upc (by omega)) (ip_upc (by omega)) (fun t _ => ⟨ip_upc (by omega), ip_upc (by omega)⟩) (by rw [ip_upc (by omega)]) (by rw [ip_upc (by omega)]) (ip_upc (by omega)) (ip_upc (by omega)) (ip_upc (by omega))
  · exact x_c7c c7 (fun q _ => ⟨ip_upc (by omega), ip_upc (by omega)⟩) (ip_upc (by omega)) (ip_upc (by omega)) (ip_upc (by omega)) (ip_upc (by omega))
  · refine y_mic mi (by rw [ip_upc (by omega)]; exact mi.1) ?_ (ip_upc (by omega)) (ip_upc (by omega)) (by rw [ip_upc (by omega)]) (by rw [ip_upc (by omega)]) (by rw [ip_upc (by omega)])
    rw [ip_upu, show 3 * o = 3 * o + 0 by omega]
    exact y_rwu mi.2.1 (Or.inl ⟨rfl, hv⟩)
theorem u_go {o v : Int} (h : x_rel A B) (ho : 0 ≤ o ∧ o < A 1 7) (hv : 0 ≤ v ∧ v < 8) : x_rel (ip_up A 6 o v) (ip_up B 68 (3 * o + 1) v) := by
  obtain ⟨w1, w2, ht, hp, c4, c5, c6, c7, mi⟩ := h
  have k6 := c6.2.1
  refine ⟨?_, ?_, ?_, ?_, ?_, ?_, ?_, ?_, ?_⟩
  · simp (disch := omega) only [ip_upc]
    obtain ⟨a1, a2, a3, a4, a5, a6, a7, a8, a9⟩ := w1
    exact ⟨a1, a2, a3, a4, by rw [ip_upu]; exact x_rgu a5 (by omega), a6, a7, a8, a9⟩
  · simp (disch := omega) only [ip_upc]
    exact w2
  · unfold x_tx
    simp (disch := omega) only [ip_upc]
    exact ht
  · simp (disch := omega) only [ip_upc]
    exact hp
  · unfold x_c4
    simp (disch := omega) only [ip_upc]
    refine ⟨c4.1, fun p h0 h1 => ?_, c4.2.2⟩
    obtain ⟨f1, f2, f3⟩ := c4.2.1 p h0 h1
    refine ⟨f1, by rw [ip_upk (by omega)]; exact f2, ?_⟩
    rw [ip_upu, ip_upu]
    unfold ip_u
    by_cases c : p = o
    · rw [if_pos c, if_pos (by omega)]
    · rw [if_neg c, if_neg (by omega)]
      exact f3
  · refine x_c5c c5 ?_ ?_ ?_ ?_ ?_ ?_ ?_ ?_ ?_ ?_ ?_ ?_ ?_ ?_ ?_
    all_goals simp (disch := omega) only [ip_upc, ip_upk, Int.le_refl, implies_true]
  · exact x_c6c c6 (by rw [ip_upc (by omega)]) (by rw [ip_upc (by omega)]; exact k6) (ip_upc (by omega)) (ip_upc (by omega)) (ip_upc (by omega)) (ip_upc (by omega)) (fun t _ => ⟨ip_upc (by omega), ip_upc (by omega)⟩) (by rw [ip_upc (by omega)]) (by rw [ip_upc (by omega)]) (ip_upc (by omega)) (ip_upc (by omega)) (ip_upc (by omega))
  · exact x_c7c c7 (fun q _ => ⟨ip_upc (by omega), ip_upc (by omega)⟩) (ip_upc (by omega)) (ip_upc (by omega)) (ip_upc (by omega)) (ip_upc (by omega))
  · refine y_mic mi (by rw [ip_upc (by omega)]; exact mi.1) ?_ (ip_upc (by omega)) (ip_upc (by omega)) (by rw [ip_upc (by omega)]) (by rw [ip_upc (by omega)]) (by rw [ip_upc (by omega)])
    rw [ip_upu]
    exact y_rwu mi.2.1 (Or.inr (Or.inl ⟨rfl, hv⟩))
theorem u_ro {x y v : Int} (h : x_rel A B) (hx : 0 ≤ x ∧ x < 8) (hy : 0 ≤ y ∧ y < 8) (hne : ¬ x = y) (hv : 0 ≤ v ∧ v ≤ 99) : x_rel (m_lay A x y v) (m_lay2 B x y v) := by
  obtain ⟨w1, w2, ht, hp, c4, c5, c6, c7, mi⟩ := h
  have k6 := c6.2.1
  have hr := x_ur (x := x * 8 + y) (y := y * 8 + x) hv w1.1
  refine ⟨?_, ?_, ?_, ?_, ?_, ?_, ?_, ?_, ?_⟩
  · simp (disch := omega) only [m_layn, m_lay2e, m_lay3e]
    obtain ⟨a1, a2, a3, a4, a5, a6, a7, a8, a9, a10, a11⟩ := w1
    refine ⟨hr, (f_fw hr).1, a3, a4, a5, a6, a7, a8, fun k k0 k1 => ?_, fun p q p0 p1 q0 q1 => ?_, fun i i0 i1 => ?_⟩
    · exact f_fwc hr (fun _ _ _ => rfl) k k0 k1
    · have := a10 p q p0 p1 q0 q1
      unfold ip_u
      by_cases d1 : p * 8 + q = y * 8 + x
      · rw [if_pos d1]
        by_cases d2 : q * 8 + p = y * 8 + x
        · rw [if_pos d2]
        · rw [if_neg d2, if_pos (by omega)]
      · rw [if_neg d1]
        by_cases d3 : p * 8 + q = x * 8 + y
        · rw [if_pos d3, if_pos (by omega)]
        · rw [if_neg d3, if_neg (by omega), if_neg (by omega)]
          exact this
    · unfold ip_u
      rw [if_neg (by omega), if_neg (by omega)]
      exact a11 i i0 i1
  · simp (disch := omega) only [m_layn]
    exact w2
  · unfold x_tx
    simp (disch := omega) only [m_layn]
    exact ht
  · simp (disch := omega) only [m_layn]
    exact hp
  · unfold x_c4
    simp (disch := omega) only [m_layn, m_lay2e, m_lay3e, n_layn, n_lay2e, n_lay3e]
    have hc : ∀ k, 0 ≤ k → k < 64 → ip_u (ip_u (B 66) (x * 8 + y) v) (y * 8 + x) v k = ip_u (ip_u (A 2) (x * 8 + y) v) (y * 8 + x) v k := fun k h0 h1 => by
      unfold ip_u
      rw [(c4.2.2.2.2 k h0 h1).1]
    refine ⟨c4.1, c4.2.1, c4.2.2.1, c4.2.2.2.1, fun k k0 k1 => ⟨hc k k0 k1, ?_⟩⟩
    exact (f_fwc hr (fun q q0 q1 => (hc q q0 q1).symm) k k0 k1).symm
  · refine x_c5c c5 ?_ ?_ ?_ ?_ ?_ ?_ ?_ ?_ ?_ ?_ ?_ ?_ ?_ ?_ ?_
    all_goals simp (disch := omega) only [m_layn, n_layn, Int.le_refl, implies_true]
  · exact x_c6c c6 (by rw [m_layn (by omega) (by omega)]) (by rw [m_layn (by omega) (by omega)]; exact k6) (m_layn (by omega) (by omega)) (m_layn (by omega) (by omega)) (m_layn (by omega) (by omega)) (m_layn (by omega) (by omega)) (fun t _ => ⟨m_layn (by omega) (by omega), m_layn (by omega) (by omega)⟩) (by rw [n_layn (by omega) (by omega)]) (by rw [n_layn (by omega) (by omega)]) (n_layn (by omega) (by omega)) (n_layn (by omega) (by omega)) (n_layn (by omega) (by omega))
  · exact x_c7c c7 (fun q _ => ⟨m_layn (by omega) (by omega), m_layn (by omega) (by omega)⟩) (n_layn (by omega) (by omega)) (n_layn (by omega) (by omega)) (n_layn (by omega) (by omega)) (n_layn (by omega) (by omega))
  · exact y_mic mi (by rw [n_layn (by omega) (by omega)]; exact mi.1) (by rw [n_layn (by omega) (by omega)]; exact mi.2.1) (n_layn (by omega) (by omega)) (n_layn (by omega) (by omega)) (by rw [n_layn (by omega) (by omega)]) (by rw [n_layn (by omega) (by omega)]) (by rw [n_layn (by omega) (by omega)])
theorem u_pe {k u g p : Int} (h : x_rel A B) (hpp : A 1 7 = p) (hp6 : p < 6) (hk : 0 ≤ k ∧ k < 6) (hu : 0 ≤ u ∧ u < 10) (hg : 0 ≤ g ∧ g < 8) : x_rel (m_wel A p k u g) (m_wel2 B p k u g) := by
  obtain ⟨w1, w2, ht, hp, c4, c5, c6, c7, mi⟩ := h
  have k6 := c6.2.1
  have wA : ∀ b : Nat, b ≠ 1 → b ≠ 4 → b ≠ 5 → b ≠ 6 → b ≠ 7 → m_wel A p k u g b = A b := fun b h1 h2 h3 h4 h5 => m_welc h1 h2 h3 h4 h5
  have wB : ∀ b : Nat, b ≠ 62 → b ≠ 67 → b ≠ 68 → m_wel2 B p k u g b = B b := fun b h1 h2 h3 => m_welc2 h1 h2 h3
  have wL : ∀ i, ¬ i = 11 → m_wel2 B p k u g 62 i = B 62 i := fun i hi => by
    unfold m_wel2
    rw [ip_upk hi, ip_upc (by omega), ip_upc (by omega), ip_upc (by omega), ip_upc (by omega)]
  have w4 : m_wel A p k u g 4 = ip_u (A 4) p k := by
    unfold m_wel
    rw [ip_upc (by omega), ip_upc (by omega), ip_upc (by omega), ip_upc (by omega), ip_upu]
  have w5 : m_wel A p k u g 5 = ip_u (A 5) p u := by
    unfold m_wel
    rw [ip_upc (by omega), ip_upc (by omega), ip_upc (by omega), ip_upu, ip_upc (by omega)]
  have w6 : m_wel A p k u g 6 = ip_u (A 6) p g := by
    unfold m_wel
    rw [ip_upc (by omega), ip_upc (by omega), ip_upu, ip_upc (by omega), ip_upc (by omega)]
  have w7 : m_wel A p k u g 7 = ip_u (A 7) p 0 := by
    unfold m_wel
    rw [ip_upc (by omega), ip_upu, ip_upc (by omega), ip_upc (by omega), ip_upc (by omega)]
  have b67 : m_wel2 B p k u g 67 = ip_u (B 67) p k := by
    unfold m_wel2
    rw [ip_upc (by omega), ip_upc (by omega), ip_upc (by omega), ip_upc (by omega), ip_upu]
  have b68 : m_wel2 B p k u g 68 = ip_u (ip_u (ip_u (B 68) (3 * p + 0) u) (3 * p + 1) g) (3 * p + 2) 0 := by
    unfold m_wel2
    rw [ip_upc (by omega), ip_upu, ip_upu, ip_upu, ip_upc (by omega), Int.add_zero]
  refine ⟨?_, ?_, ?_, ?_, ?_, ?_, ?_, ?_, ?_⟩
  · rw [wA 2 (by omega) (by omega) (by omega) (by omega) (by omega), wA 3 (by omega) (by omega) (by omega) (by omega) (by omega), wA 8 (by omega) (by omega) (by omega) (by omega) (by omega), w4, w5, w6, w7]
    obtain ⟨a1, a2, a3, a4, a5, a6, a7, a8, a9⟩ := w1
    exact ⟨a1, a2, x_rgu a3 (by omega), x_rgu a4 (by omega), x_rgu a5 (by omega), x_rgu a6 (by omega), a7, a8, a9⟩
  · rw [wA 10 (by omega) (by omega) (by omega) (by omega) (by omega), wA 11 (by omega) (by omega) (by omega) (by omega) (by omega), wA 12 (by omega) (by omega) (by omega) (by omega) (by omega), wA 13 (by omega) (by omega) (by omega) (by omega) (by omega), wA 14 (by omega) (by omega) (by omega) (by omega) (by omega), wA 15 (by omega) (by omega) (by omega) (by omega) (by omega), wA 16 (by omega) (by omega) (by omega) (by omega) (by omega)]
    exact w2
  · intro t h0
    rw [wA (27 + 3 * t) (by omega) (by omega) (by omega) (by omega) (by omega), wA (28 + 3 * t) (by omega) (by omega) (by omega) (by omega) (by omega)]
    exact ht t h0
  · rw [m_wel17]
    omega
  · unfold x_c4
    rw [m_wel17, m_wel217, wL 7 (by omega), wL 4 (by omega), wB 66 (by omega) (by omega) (by omega), wB 69 (by omega) (by omega) (by omega), wA 2 (by omega) (by omega) (by omega) (by omega) (by omega), wA 3 (by omega) (by omega) (by omega) (by omega) (by omega), wA 8 (by omega) (by omega) (by omega) (by omega) (by omega), w4, w5, w6, b67, b68]
    refine ⟨rfl, fun q q0 q1 => ?_, c4.2.2⟩
    unfold ip_u
    by_cases c : q = p
    · subst c
      refine ⟨by rw [if_pos rfl, if_pos rfl], ?_, ?_⟩
      · rw [if_neg (by omega), if_neg (by omega), if_pos (by omega), if_pos rfl]
      · rw [if_neg (by omega), if_pos rfl, if_pos rfl]
    · obtain ⟨f1, f2, f3⟩ := c4.2.1 q q0 (by omega)
      refine ⟨by rw [if_neg c, if_neg c]; exact f1, ?_, ?_⟩
      · rw [if_neg (by omega), if_neg (by omega), if_neg (by omega), if_neg c]
        exact f2
      · rw [if_neg (by omega), if_neg (by omega), if_neg (by omega), if_neg c]
        exact f3
  · refine x_c5c c5 (by rw [wA 0 (by omega) (by omega) (by omega) (by omega) (by omega)]) (by rw [wA 9 (by omega) (by omega) (by omega) (by omega) (by omega)]) (by rw [wA 17 (by omega) (by omega) (by omega) (by omega) (by omega)]) (by rw [m_wel17]; omega) (wA 10 (by omega) (by omega) (by omega) (by omega) (by omega)) (wA 12 (by omega) (by omega) (by omega) (by omega) (by omega)) (wA 13 (by omega) (by omega) (by omega) (by omega) (by omega)) (wA 14 (by omega) (by omega) (by omega) (by omega) (by omega)) (wA 16 (by omega) (by omega) (by omega) (by omega) (by omega)) (fun z q q0 q1 => ?_) (wL 38 (by omega)) (wL 39 (by omega)) (wL 40 (by omega)) (wB 73 (by omega) (by omega) (by omega)) (wB 74 (by omega) (by omega) (by omega))
    have := (c5.2.2.2 z).2.1
    rw [w4]
    exact ip_u_ne _ _ (by omega)
  · exact x_c6c c6 (by rw [wA 17 (by omega) (by omega) (by omega) (by omega) (by omega)]) (by rw [wA 8 (by omega) (by omega) (by omega) (by omega) (by omega)]; exact k6) (wA 19 (by omega) (by omega) (by omega) (by omega) (by omega)) (wA 20 (by omega) (by omega) (by omega) (by omega) (by omega)) (wA 21 (by omega) (by omega) (by omega) (by omega) (by omega)) (wA 23 (by omega) (by omega) (by omega) (by omega) (by omega)) (fun t _ => ⟨wA _ (by omega) (by omega) (by omega) (by omega) (by omega), wA _ (by omega) (by omega) (by omega) (by omega) (by omega)⟩) (wL 3 (by omega)) (wL 6 (by omega)) (wB 63 (by omega) (by omega) (by omega)) (wB 64 (by omega) (by omega) (by omega)) (wB 65 (by omega) (by omega) (by omega))
  · exact x_c7c c7 (fun q _ => ⟨wA _ (by omega) (by omega) (by omega) (by omega) (by omega), wA _ (by omega) (by omega) (by omega) (by omega) (by omega)⟩) (wB 75 (by omega) (by omega) (by omega)) (wB 76 (by omega) (by omega) (by omega)) (wB 77 (by omega) (by omega) (by omega)) (wB 78 (by omega) (by omega) (by omega))
  · refine y_mic mi (by rw [b67]; exact x_rgu mi.1 (by omega)) ?_ (wB 73 (by omega) (by omega) (by omega)) (wB 74 (by omega) (by omega) (by omega)) (wL 38 (by omega)) (wL 39 (by omega)) (wL 40 (by omega))
    rw [b68]
    exact y_rwu (y_rwu (y_rwu mi.2.1 (Or.inl ⟨rfl, hu⟩)) (Or.inr (Or.inl ⟨rfl, hg⟩))) (Or.inr (Or.inr ⟨rfl, by omega⟩))
theorem u_fe {z v : Int} (h : x_rel A B) (hz : A 19 4 = z) (hz1 : z < 160) (hv : 0 ≤ v ∧ v < 256) : x_rel (ip_up (ip_up A 20 z v) 19 4 (z + 1)) (ip_up (ip_up B 65 z v) 62 6 (z + 1)) := by
  obtain ⟨w1, w2, ht, hp, c4, c5, c6, c7, mi⟩ := h
  refine ⟨?_, ?_, ?_, ?_, ?_, ?_, ?_, ?_, ?_⟩
  · simp (disch := omega) only [ip_upc]
    exact w1
  · simp (disch := omega) only [ip_upc]
    exact w2
  · unfold x_tx
    simp (disch := omega) only [ip_upc]
    exact ht
  · simp (disch := omega) only [ip_upc]
    exact hp
  · unfold x_c4
    simp (disch := omega) only [ip_upc, ip_upk]
    exact c4
  · refine x_c5c c5 ?_ ?_ ?_ ?_ ?_ ?_ ?_ ?_ ?_ ?_ ?_ ?_ ?_ ?_ ?_
    all_goals simp (disch := omega) only [ip_upc, ip_upk, Int.le_refl, implies_true]
  · obtain ⟨d1, d2, d3, d4, d5, d6, d7, d8, d9, d10⟩ := c6
    unfold x_c6
    have e20 : ip_up (ip_up A 20 z v) 19 4 (z + 1) 20 = ip_u (A 20) z v := by rw [ip_upc (by omega), ip_upu]
    have e65 : ip_up (ip_up B 65 z v) 62 6 (z + 1) 65 = ip_u (B 65) z v := by rw [ip_upc (by omega), ip_upu]
    rw [e20, e65]
    simp (disch := omega) only [ip_upc, ip_upk, ip_ups]
    refine ⟨d1, d2, d3, by omega, trivial, x_rgu d6 (by omega), fun i i0 i1 => ?_, d8, d9, fun t h0 => ?_⟩
    · unfold ip_u
      by_cases c : i = z
      · rw [if_pos c, if_pos c]
      · rw [if_neg c, if_neg c]
        exact d7 i i0 (by omega)
    · rw [x_V0c (A := A) (by rw [ip_upc (by omega), ip_upc (by omega)]) (by rw [ip_upc (by omega), ip_upc (by omega)])]
      exact y_tx_c (d10 t h0) (by rw [ip_upc (by omega), ip_upc (by omega)]) (by rw [ip_upc (by omega), ip_upc (by omega)])
  · exact x_c7c c7 (fun q _ => ⟨by rw [ip_upc (by omega), ip_upc (by omega)], by rw [ip_upc (by omega), ip_upc (by omega)]⟩) (by rw [ip_upc (by omega), ip_upc (by omega)]) (by rw [ip_upc (by omega), ip_upc (by omega)]) (by rw [ip_upc (by omega), ip_upc (by omega)]) (by rw [ip_upc (by omega), ip_upc (by omega)])
  · unfold y_mi
    simp (disch := omega) only [ip_upc, ip_upk]
    exact mi
end UPD
