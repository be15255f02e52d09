/-! what was told, on both sides -/
section RTL
variable {S B A : ip_S} {R : ip_R} {L : ip_S}
theorem x_Jok (h : x_J A) : w_ok (w_X A) := by
  obtain ⟨a1, a2, a3, a4, a5, a6, a7, -⟩ := h
  exact ⟨fun p h0 h1 => ⟨a3 p h0 h1, a4 p h0 h1, a5 p h0 h1⟩, a6, fun k h0 h1 => ⟨a1 k h0 h1, a2 k h0 h1⟩⟩
theorem x_gdc {A' : ip_S} (h : w_gd (w_X A)) (h2 : A' 2 = A 2) (h3 : A' 3 = A 3) : w_gd (w_X A') := by
  have e2 : w_ro (w_X A') = w_ro (w_X A) := h2
  have e3 : w_D (w_X A') = w_D (w_X A) := h3
  unfold w_gd at *
  rw [e2, e3]
  exact h
theorem x_VX {v : Int} {i : Int} {r : Nat} (hr : r = 4 ∨ r = 5 ∨ r = 6) : w_V (w_X (ip_up A r i v)) = w_V (w_X A) := by
  unfold w_X w_V
  simp (disch := omega) only [ip_upc]
theorem x_VX0 {v : Int} : w_V (w_X (ip_up A 8 0 v)) = w_V (w_X A) := by
  unfold w_X w_V
  simp (disch := omega) only [ip_upc, ip_upk]
theorem y_kdR {b v m : Int} (hb : 0 ≤ b ∧ b < 6) (hR : y_R (w_X A) m B) : y_R (w_X (ip_up A 4 b v)) m (ip_up B 67 b v) := by
  obtain ⟨r1, r2, r3, r4, r5, r6⟩ := hR
  unfold y_R
  rw [x_VX (by omega)]
  refine ⟨r1, fun p h0 h1 => ?_, ?_, fun k h0 h1 => ?_, ?_, ?_⟩
  · obtain ⟨a1, a2, a3⟩ := r2 p h0 h1
    refine ⟨?_, ?_, ?_⟩
    · show ip_up B 67 b v 67 p = ip_up A 4 b v 4 p
      rw [ip_upu, ip_upu]
      unfold ip_u
      rw [a1]
      rfl
    · rw [ip_upc (by omega)]
      exact a2
    · rw [ip_upc (by omega)]
      exact a3
  · rw [ip_upc (by omega)]
    exact r3
  · rw [ip_upc (by omega), ip_upc (by omega)]
    exact r4 k h0 h1
  · rw [ip_upc (by omega)]
    exact r5
  · rw [ip_upc (by omega)]
    exact y_tx_c r6 (ip_upc (by omega)) (ip_upc (by omega))
theorem y_nuR {b v m : Int} (hb : 0 ≤ b ∧ b < 6) (hR : y_R (w_X A) m B) : y_R (w_X (ip_up A 5 b v)) m (ip_up B 68 (3 * b) v) := by
  obtain ⟨r1, r2, r3, r4, r5, r6⟩ := hR
  unfold y_R
  rw [x_VX (by omega)]
  refine ⟨r1, fun p h0 h1 => ?_, ?_, fun k h0 h1 => ?_, ?_, ?_⟩
  · obtain ⟨a1, a2, a3⟩ := r2 p h0 h1
    refine ⟨?_, ?_, ?_⟩
    · rw [ip_upc (by omega)]
      exact a1
    · show ip_up B 68 (3 * b) v 68 (3 * p) = ip_up A 5 b v 5 p
      rw [ip_upu, ip_upu]
      unfold ip_u
      by_cases c : p = b
      · rw [if_pos c, if_pos (by omega)]
      · rw [if_neg c, if_neg (by omega)]
        exact a2
    · rw [ip_upk (by omega)]
      exact a3
  · rw [ip_upc (by omega)]
    exact r3
  · rw [ip_upc (by omega), ip_upc (by omega)]
    exact r4 k h0 h1
  · rw [ip_upc (by omega)]
    exact r5
  · rw [ip_upc (by omega)]
    exact y_tx_c r6 (ip_upc (by omega)) (ip_upc (by omega))
theorem y_goR {b v m : Int} (hb : 0 ≤ b ∧ b < 6) (hR : y_R (w_X A) m B) : y_R (w_X (ip_up A 6 b v)) m (ip_up B 68 (3 * b + 1) v) := by
  obtain ⟨r1, r2, r3, r4, r5, r6⟩ := hR
  unfold y_R
  rw [x_VX (by omega)]
  refine ⟨r1, fun p h0 h1 => ?_, ?_, fun k h0 h1 => ?_, ?_, ?_⟩
  · obtain ⟨a1, a2, a3⟩ := r2 p h0 h1
    refine ⟨?_, ?_, ?_⟩
    · rw [ip_upc (by omega)]
      exact a1
    · rw [ip_upk (by omega)]
      exact a2
    · show ip_up B 68 (3 * b + 1) v 68 (3 * p + 1) = ip_up A 6 b v 6 p
      rw [ip_upu, ip_upu]
      unfold ip_u
      by_cases c : p = b
      · rw [if_pos c, if_pos (by omega)]
      · rw [if_neg c, if_neg (by omega)]
        exact a3
  · rw [ip_upc (by omega)]
    exact r3
  · rw [ip_upc (by omega), ip_upc (by omega)]
    exact r4 k h0 h1
  · rw [ip_upc (by omega)]
    exact r5
  · rw [ip_upc (by omega)]
    exact y_tx_c r6 (ip_upc (by omega)) (ip_upc (by omega))
theorem y_hrR {v m : Int} (hR : y_R (w_X A) m B) : y_R (w_X (ip_up A 8 0 v)) m (ip_up B 62 7 v) := by
  obtain ⟨r1, r2, r3, r4, r5, r6⟩ := hR
  unfold y_R
  rw [x_VX0]
  refine ⟨r1, fun p h0 h1 => ?_, ?_, fun k h0 h1 => ?_, ?_, ?_⟩
  · rw [ip_upc (by omega), ip_upc (by omega)]
    exact r2 p h0 h1
  · show ip_up B 62 7 v 62 7 = ip_up A 8 0 v 8 0
    rw [ip_ups, ip_ups]
  · rw [ip_upc (by omega), ip_upc (by omega)]
    exact r4 k h0 h1
  · rw [ip_upk (by omega)]
    exact r5
  · rw [ip_upk (by omega)]
    exact y_tx_c r6 (ip_upc (by omega)) (ip_upc (by omega))
theorem y_ruR {v m : Int} (hv : 0 ≤ v ∧ v < 6) (hR : y_R (w_X A) m B) (ht : y_tx B v (x_V0 A v.toNat)) : y_R (w_X (ip_up A 8 1 v)) m (ip_up B 62 4 v) := by
  obtain ⟨r1, r2, r3, r4, r5, r6⟩ := hR
  have e : w_V (w_X (ip_up A 8 1 v)) = x_V0 A v.toNat := by
    unfold w_X w_V x_V0
    simp (disch := omega) only [ip_upc, ip_ups]
  unfold y_R
  rw [e]
  refine ⟨r1, fun p h0 h1 => ?_, ?_, fun k h0 h1 => ?_, ?_, ?_⟩
  · rw [ip_upc (by omega), ip_upc (by omega)]
    exact r2 p h0 h1
  · show ip_up B 62 4 v 62 7 = ip_up A 8 1 v 8 0
    rw [ip_upk (by omega), ip_upk (by omega)]
    exact r3
  · rw [ip_upc (by omega), ip_upc (by omega)]
    exact r4 k h0 h1
  · rw [ip_ups]
    exact hv
  · rw [ip_ups]
    exact y_tx_c ht (ip_upc (by omega)) (ip_upc (by omega))
theorem r_tells {s t a w : Int} (hr : x_rel S S) (hX : x_RX R) (hM : x_RM R) (hs : -2147483648 ≤ s ∧ s < 2147483648) (ht : -2147483648 ≤ t ∧ t < 2147483648) (ha : -2147483648 ≤ a ∧ a < 2147483648) (hw : -2147483648 ≤ w ∧ w < 2147483648) : ∃ v, r_two 96 214 [vi s, vi t, vi a, vi w] S R L (vi v) (vi v) := by
  obtain ⟨hp, hm0⟩ := x_relp hr
  have hJ := x_relJ hr
  have hG0 := x_relgd hr
  have c6 := hr.2.2.2.2.2.2.1
  have c7 := hr.2.2.2.2.2.2.2.1
  have k6 := c6.1
  refine ⟨if (0 ≤ s ∧ s < 4) ∧ (0 ≤ t ∧ (0 ≤ t / 10 ∧ t / 10 < S 1 7) ∧ (0 ≤ t % 10 ∧ t % 10 < S 1 7) ∧ ¬ t / 10 = t % 10) ∧ (0 ≤ a ∧ a < 8) ∧ (0 ≤ w ∧ w < 7) then (if S (54 + 2 * s.toNat) 1 = -1 then -11 else if 20 < S (54 + 2 * s.toNat) 2 then -2 else a_tlw (w_X S) (fun v => w_X (ip_up S 4 (t % 10) v)) (fun v => w_X (ip_up S 5 (t % 10) v)) (fun v => w_X (ip_up S 6 (t % 10) v)) (fun v => w_X (ip_up S 8 0 v)) (fun v => w_X (ip_up S 8 1 v)) (t / 10) (t % 10) a (S (55 + 2 * s.toNat)) (S (54 + 2 * s.toNat) 2) (S 1 7) (S 17 4) w) else -2, r_fr hr hX hM ?_ (fun S1 g1 h1 => ?_)⟩
  · by_cases c : (0 ≤ s ∧ s < 4) ∧ (0 ≤ t ∧ (0 ≤ t / 10 ∧ t / 10 < S 1 7) ∧ (0 ≤ t % 10 ∧ t % 10 < S 1 7) ∧ ¬ t / 10 = t % 10) ∧ (0 ≤ a ∧ a < 8) ∧ (0 ≤ w ∧ w < 7)
    · rw [if_pos c]
      obtain ⟨q1, q2, q3, -⟩ := c7.2 s.toNat (by omega)
      obtain ⟨S', f, k⟩ := x96r (d := 92) (L := L) (s := s) (t := t) (a := a) (w := w) hX hJ rfl hp.1 hp.2 rfl (by omega) (by omega) (by omega) (by omega) (by omega) (by omega) (by omega) q1 q2 (fun i i0 i1 => by have := q3 i i0 i1; exact ip_wid (by omega) (by omega))
      refine ⟨S', x_g_f f, fun Q => ?_⟩
      rw [← k Q]
      exact (p96 (d := 95) (Q := Q) (L := L) hs ht ha hw hX rfl hp.1 hp.2).trans (if_pos c)
    · rw [if_neg c]
      refine ⟨S, x_g_r, fun Q => ?_⟩
      exact (p96 (d := 95) (Q := Q) (L := L) hs ht ha hw hX rfl hp.1 hp.2).trans (if_neg c)
  · have hm : S1 62 11 = S 1 7 := by rw [x_gl g1 (by omega)]; exact hm0
    have hSB : x_rel S S1 := x_relBh hr (fun b h0 _ => x_gl g1 h0)
    by_cases c : (0 ≤ s ∧ s < 4) ∧ (0 ≤ t ∧ (0 ≤ t / 10 ∧ t / 10 < S 1 7) ∧ (0 ≤ t % 10 ∧ t % 10 < S 1 7) ∧ ¬ t / 10 = t % 10) ∧ (0 ≤ a ∧ a < 8) ∧ (0 ≤ w ∧ w < 7)
    · rw [if_pos c]
      have hRS := x_relR hSB
      have d7 := hSB.2.2.2.2.2.2.2.1
      obtain ⟨q1, q2, q3, q4, q5, q6, q7, q8⟩ := d7.2 s.toNat (by omega)
      have d6 := hSB.2.2.2.2.2.2.1
      have k61 := d6.1
      have es : ((s.toNat : Nat) : Int) = s := Int.toNat_of_nonneg (by omega)
      rw [es] at q4 q5 q6 q7 q8
      have hc : ∀ i, 0 ≤ i → i < 40 → ip_w (S1 78 (40 * s + i)) = S1 78 (40 * s + i) := fun i i0 i1 => by have := d7.1 (40 * s + i) (by omega) (by omega); exact ip_wid (by omega) (by omega)
      obtain ⟨S', w', f, k⟩ := y214r (d := 49) (L := L) (W := w_X S) (m := S 1 7) (S := S1) (kn := S 17 4) (s := s) (t := t) (a := a) (w0 := w)
        (G2 := fun v => w_X (ip_up S 4 (t % 10) v)) (G3 := fun v => w_X (ip_up S 5 (t % 10) v)) (G4 := fun v => w_X (ip_up S 6 (t % 10) v)) (G5 := fun v => w_X (ip_up S 8 0 v)) (G6 := fun v => w_X (ip_up S 8 1 v))
        hM (x_relok hr) hRS hG0 hm hp.1 d6.2.2.1 (by omega) (by omega) (by omega) (by omega) (by omega) (by omega) (by omega) q4
        (fun h75 => by
          by_cases c8 : S (54 + 2 * s.toNat) 1 = -1
          · have := q7 c8; omega
          · rw [(q8 c8).2.2.1]; exact q2) hc
        (fun v v0 v1 => ⟨x_Jok (x_J4 hJ (by omega)), x_gdc hG0 (ip_upc (by omega)) (ip_upc (by omega)), y_kdR (by omega) hRS⟩)
        (fun v v0 v1 => ⟨x_Jok (x_J5 hJ (by omega)), x_gdc hG0 (ip_upc (by omega)) (ip_upc (by omega)), y_nuR (by omega) hRS⟩)
        (fun v v0 v1 => ⟨x_Jok (x_J6 hJ (by omega)), x_gdc hG0 (ip_upc (by omega)) (ip_upc (by omega)), y_goR (by omega) hRS⟩)
        (fun v v0 v1 => ⟨x_Jok (x_J80 hJ (by omega)), x_gdc hG0 (ip_upc (by omega)) (ip_upc (by omega)), y_hrR hRS⟩)
        (fun v v0 v1 => ⟨x_Jok (x_J81 hJ (by omega)), x_gdc hG0 (ip_upc (by omega)) (ip_upc (by omega)), y_ruR (by omega) hRS (by
          have := d6.2.2.2.2.2.2.2.2.2 v.toNat (by omega)
          rwa [Int.toNat_of_nonneg v0] at this)⟩)
      refine ⟨S', ip_up L 62 24 w', y_z9 (y_h_f f), fun Q => ?_⟩
      have e : (if S1 75 s = 0 then (-11 : Int) else if 20 < S1 77 s then -2 else a_tlw (w_X S) (fun v => w_X (ip_up S 4 (t % 10) v)) (fun v => w_X (ip_up S 5 (t % 10) v)) (fun v => w_X (ip_up S 6 (t % 10) v)) (fun v => w_X (ip_up S 8 0 v)) (fun v => w_X (ip_up S 8 1 v)) (t / 10) (t % 10) a (fun i => S1 78 (40 * s + i)) (S1 77 s) (S 1 7) (S 17 4) w) = (if S (54 + 2 * s.toNat) 1 = -1 then -11 else if 20 < S (54 + 2 * s.toNat) 2 then -2 else a_tlw (w_X S) (fun v => w_X (ip_up S 4 (t % 10) v)) (fun v => w_X (ip_up S 5 (t % 10) v)) (fun v => w_X (ip_up S 6 (t % 10) v)) (fun v => w_X (ip_up S 8 0 v)) (fun v => w_X (ip_up S 8 1 v)) (t / 10) (t % 10) a (S (55 + 2 * s.toNat)) (S (54 + 2 * s.toNat) 2) (S 1 7) (S 17 4) w) := by
        by_cases c8 : S (54 + 2 * s.toNat) 1 = -1
        · rw [if_pos (q7 c8), if_pos c8]
        · obtain ⟨u1, u2, u3, u4⟩ := q8 c8
          rw [if_neg (by omega), if_neg c8, u3]
          by_cases c9 : 20 < S (54 + 2 * s.toNat) 2
          · rw [if_pos c9, if_pos c9]
          · rw [if_neg c9, if_neg c9]
            exact a_tlc u4
      rw [← e, ← k Q]
      exact (p214 (d := 95) (Q := Q) (L := L) hs ht ha hw hM hm hp.1 hp.2).trans (if_pos c)
    · rw [if_neg c]
      refine ⟨S1, L, y_zr, fun Q => ?_⟩
      exact (p214 (d := 95) (Q := Q) (L := L) hs ht ha hw hM hm hp.1 hp.2).trans (if_neg c)
end RTL
