/-! the calls that leave the world as it is, on both sides -/
theorem y_z9 {S S1 : ip_S} (h : y_h S S1) : y_z S S1 ∧ (∀ b : Nat, b < 62 → S1 b = S b) ∧ S1 900 = S 900 := ⟨y_z_h h, fun b hb => h.1 b (by omega) (by omega) (by omega) (by omega), h.1 900 (by omega) (by omega) (by omega) (by omega)⟩
theorem y_z9k {S S1 : ip_S} (h : y_k S S1) : y_z S S1 ∧ (∀ b : Nat, b < 62 → S1 b = S b) ∧ S1 900 = S 900 := ⟨y_z_k h, fun b hb => h.1 b (by omega) (by omega) (by omega), h.1 900 (by omega) (by omega) (by omega)⟩
section RFR
variable {S : ip_S} {R : ip_R} {L : ip_S}
theorem x_gl {S1 : ip_S} (g : x_g S S1) {b : Nat} (h : 62 ≤ b) : S1 b = S b := g.1 b (by omega) (by omega) (by omega) (by omega) (by omega) (by omega) (by omega) (by omega) (by omega) (by omega) (by omega)
theorem x_relgg {S1 : ip_S} (h : x_rel S S) (g : x_g S S1) : x_rel S1 S1 := x_relg (x_relBh h (fun b h0 _ => x_gl g h0)) g
theorem r_fr {kX kM : Nat} {as : List Value} {a a' : Value} (hr : x_rel S S) (hX : x_RX R) (hM : x_RM R) (hx : ∃ S1, x_g S S1 ∧ ∀ Q, ip_wc 100 kX (.ref 0 :: as) 79 S R L Q = Q (some a) 79 S1 R L)
    (hm : ∀ S1, x_g S S1 → x_rel S1 S1 → ∃ S2 L2, (y_z S1 S2 ∧ (∀ b : Nat, b < 62 → S2 b = S1 b) ∧ S2 900 = S1 900) ∧ ∀ Q, ip_wc 100 kM (.ref 62 :: as) 79 S1 R L Q = Q (some a') 79 S2 R L2) : r_two kX kM as S R L a a' := by
  obtain ⟨S1, g1, k1⟩ := hx
  have h1 := x_relgg hr g1
  obtain ⟨S2, L2, ⟨z1, z2, z3⟩, k2⟩ := hm S1 g1 h1
  have e9 : S1 900 = S 900 := x_gl g1 (by omega)
  exact ⟨S1, S2, R, L2, e9, z3.trans e9, x_relAl (x_relz h1 z1) z2, hX, hM, k1, k2⟩
theorem y_zr : y_z S S ∧ (∀ b : Nat, b < 62 → S b = S b) ∧ S 900 = S 900 := y_z9 y_h_r
theorem x_relp (h : x_rel S S) : (0 ≤ S 1 7 ∧ S 1 7 ≤ 6) ∧ S 62 11 = S 1 7 := ⟨h.2.2.2.1, h.2.2.2.2.1.1⟩
theorem r_goes {f b a : Int} (hr : x_rel S S) (hX : x_RX R) (hM : x_RM R) (hf : -2147483648 ≤ f ∧ f < 2147483648) (hb : -2147483648 ≤ b ∧ b < 2147483648) (ha : -2147483648 ≤ a ∧ a < 2147483648) : r_two 81 203 [vi f, vi b, vi a] S R L (vi (if ((0 ≤ f ∧ f < S 1 7) ∧ (0 ≤ b ∧ b < S 1 7) ∧ ¬ f = b) ∧ (0 ≤ a ∧ a < 8) then (w_rz (w_X S) f b a).2.2.1 else -2)) (vi (if ((0 ≤ f ∧ f < S 1 7) ∧ (0 ≤ b ∧ b < S 1 7) ∧ ¬ f = b) ∧ (0 ≤ a ∧ a < 8) then (w_rz (w_X S) f b a).2.2.1 else -2)) := by
  obtain ⟨hp, hm0⟩ := x_relp hr
  refine r_fr hr hX hM ?_ (fun S1 g1 h1 => ?_)
  · by_cases c : ((0 ≤ f ∧ f < S 1 7) ∧ (0 ≤ b ∧ b < S 1 7) ∧ ¬ f = b) ∧ (0 ≤ a ∧ a < 8)
    · rw [if_pos c]
      obtain ⟨S', f, k⟩ := x81r (d := 93) (L := L) (f := f) (b := b) (a := a) hX (x_relJ hr) (x_rel7 hr) rfl hp.2 (by omega) (by omega) (by omega)
      refine ⟨S', id f, fun Q => ?_⟩
      rw [← k Q]
      exact (p81 (d := 96) (Q := Q) (L := L) hf hb ha hX rfl hp.1 hp.2).trans (if_pos (by omega))
    · rw [if_neg c]
      refine ⟨S, x_g_r, fun Q => ?_⟩
      exact (p81 (d := 96) (Q := Q) (L := L) hf hb ha hX rfl hp.1 hp.2).trans (if_neg (by omega))
  · have hm : S1 62 11 = S 1 7 := by rw [x_gl g1 (by omega)]; exact hm0
    have hR := x_relR h1
    rw [x_g1 g1] at hR
    have hW := x_relok h1
    have hG := x_relgd h1
    rw [← x_g_W g1 (x_relJ hr)]
    by_cases c : ((0 ≤ f ∧ f < S 1 7) ∧ (0 ≤ b ∧ b < S 1 7) ∧ ¬ f = b) ∧ (0 ≤ a ∧ a < 8)
    · rw [if_pos c]
      obtain ⟨S', w', f, k⟩ := y203r (d := 50) (L := L) (f := f) (b := b) (a := a) hM hW hR hG (x_relyd h1) (by omega) (by omega) (by omega)
      refine ⟨S', ip_up L 62 24 w', y_z9 f, fun Q => ?_⟩
      rw [← k Q]
      exact (p203 (d := 96) (Q := Q) (L := L) hf hb ha hM hm hp.1 hp.2).trans (if_pos (by omega))
    · rw [if_neg c]
      refine ⟨S1, L, y_zr, fun Q => ?_⟩
      exact (p203 (d := 96) (Q := Q) (L := L) hf hb ha hM hm hp.1 hp.2).trans (if_neg (by omega))
theorem r_best {f a w : Int} (hr : x_rel S S) (hX : x_RX R) (hM : x_RM R) (hf : -2147483648 ≤ f ∧ f < 2147483648) (ha : -2147483648 ≤ a ∧ a < 2147483648) (hw : -2147483648 ≤ w ∧ w < 2147483648) : r_two 85 206 [vi f, vi a, vi w] S R L (vi (if (0 ≤ f ∧ f < S 1 7) ∧ (0 ≤ a ∧ a < 8) ∧ (0 ≤ w ∧ w < 2) then a_bv w (a_bb (w_X S) f a (S 1 7).toNat 0 (-1) 0) else -2)) (vi (if (0 ≤ f ∧ f < S 1 7) ∧ (0 ≤ a ∧ a < 8) ∧ (0 ≤ w ∧ w < 2) then a_bv w (a_bb (w_X S) f a (S 1 7).toNat 0 (-1) 0) else -2)) := by
  obtain ⟨hp, hm0⟩ := x_relp hr
  refine r_fr hr hX hM ?_ (fun S1 g1 h1 => ?_)
  · by_cases c : (0 ≤ f ∧ f < S 1 7) ∧ (0 ≤ a ∧ a < 8) ∧ (0 ≤ w ∧ w < 2)
    · rw [if_pos c]
      obtain ⟨S', f, k⟩ := x85r (d := 92) (L := L) (f := f) (a := a) (w := w) hX (x_relJ hr) rfl hp.2 (by omega) (by omega) (by omega)
      refine ⟨S', x_g_f f, fun Q => ?_⟩
      rw [← k Q]
      exact (p85 (d := 97) (Q := Q) (L := L) hf ha hw hX rfl hp.1 hp.2).trans (if_pos (by omega))
    · rw [if_neg c]
      refine ⟨S, x_g_r, fun Q => ?_⟩
      exact (p85 (d := 97) (Q := Q) (L := L) hf ha hw hX rfl hp.1 hp.2).trans (if_neg (by omega))
  · have hm : S1 62 11 = S 1 7 := by rw [x_gl g1 (by omega)]; exact hm0
    have hR := x_relR h1
    rw [x_g1 g1] at hR
    have hW := x_relok h1
    have hG := x_relgd h1
    rw [← x_g_W g1 (x_relJ hr)]
    by_cases c : (0 ≤ f ∧ f < S 1 7) ∧ (0 ≤ a ∧ a < 8) ∧ (0 ≤ w ∧ w < 2)
    · rw [if_pos c]
      obtain ⟨S', w', f, k⟩ := y206r (d := 50) (L := L) (f := f) (a := a) (w0 := w) hM hW hR hG hm (by omega) (by omega) (by omega)
      refine ⟨S', ip_up L 62 24 w', y_z9 <| y_h_f f, fun Q => ?_⟩
      rw [← k Q]
      exact (p206 (d := 97) (Q := Q) (L := L) hf ha hw hM hm hp.1 hp.2).trans (if_pos (by omega))
    · rw [if_neg c]
      refine ⟨S1, L, y_zr, fun Q => ?_⟩
      exact (p206 (d := 97) (Q := Q) (L := L) hf ha hw hM hm hp.1 hp.2).trans (if_neg (by omega))
theorem r_from {f b : Int} (hr : x_rel S S) (hX : x_RX R) (hM : x_RM R) (hf : -2147483648 ≤ f ∧ f < 2147483648) (hb : -2147483648 ≤ b ∧ b < 2147483648) : r_two 88 208 [vi f, vi b] S R L (vi (if ((0 ≤ f ∧ f < S 1 7) ∧ (0 ≤ b ∧ b < S 1 7) ∧ ¬ f = b) then a_fr (w_X S) f b 8 0 0 else -2)) (vi (if ((0 ≤ f ∧ f < S 1 7) ∧ (0 ≤ b ∧ b < S 1 7) ∧ ¬ f = b) then a_fr (w_X S) f b 8 0 0 else -2)) := by
  obtain ⟨hp, hm0⟩ := x_relp hr
  refine r_fr hr hX hM ?_ (fun S1 g1 h1 => ?_)
  · by_cases c : ((0 ≤ f ∧ f < S 1 7) ∧ (0 ≤ b ∧ b < S 1 7) ∧ ¬ f = b)
    · rw [if_pos c]
      obtain ⟨S', f, k⟩ := x88r (d := 93) (L := L) (f := f) (b := b) hX (x_relJ hr) (by omega) (by omega)
      refine ⟨S', x_g_f f, fun Q => ?_⟩
      rw [← k Q]
      exact (p88 (d := 96) (Q := Q) (L := L) hf hb hX rfl hp.1 hp.2).trans (if_pos (by omega))
    · rw [if_neg c]
      refine ⟨S, x_g_r, fun Q => ?_⟩
      exact (p88 (d := 96) (Q := Q) (L := L) hf hb hX rfl hp.1 hp.2).trans (if_neg (by omega))
  · have hm : S1 62 11 = S 1 7 := by rw [x_gl g1 (by omega)]; exact hm0
    have hR := x_relR h1
    rw [x_g1 g1] at hR
    have hW := x_relok h1
    have hG := x_relgd h1
    rw [← x_g_W g1 (x_relJ hr)]
    by_cases c : ((0 ≤ f ∧ f < S 1 7) ∧ (0 ≤ b ∧ b < S 1 7) ∧ ¬ f = b)
    · rw [if_pos c]
      obtain ⟨S', w', f, k⟩ := y208r (d := 50) (L := L) (f := f) (b := b) hM hW hR hG (by omega) (by omega)
      refine ⟨S', ip_up L 62 24 w', y_z9 <| y_h_f f, fun Q => ?_⟩
      rw [← k Q]
      exact (p208 (d := 96) (Q := Q) (L := L) hf hb hM hm hp.1 hp.2).trans (if_pos (by omega))
    · rw [if_neg c]
      refine ⟨S1, L, y_zr, fun Q => ?_⟩
      exact (p208 (d := 96) (Q := Q) (L := L) hf hb hM hm hp.1 hp.2).trans (if_neg (by omega))
theorem r_shut {f b a w : Int} (hr : x_rel S S) (hX : x_RX R) (hM : x_RM R) (hf : -2147483648 ≤ f ∧ f < 2147483648) (hb : -2147483648 ≤ b ∧ b < 2147483648) (ha : -2147483648 ≤ a ∧ a < 2147483648) (hw : -2147483648 ≤ w ∧ w < 2147483648) : r_two 94 213 [vi f, vi b, vi a, vi w] S R L (vi (if ((0 ≤ f ∧ f < S 1 7) ∧ (0 ≤ b ∧ b < S 1 7) ∧ ¬ f = b) ∧ (0 ≤ a ∧ a < 8) ∧ (0 ≤ w ∧ w < 2) then a_shw w (a_sh (w_X S) f b a 64 0 (-1, (w_rz (w_X S) f b a).2.2.1)) else -2)) (vi (if ((0 ≤ f ∧ f < S 1 7) ∧ (0 ≤ b ∧ b < S 1 7) ∧ ¬ f = b) ∧ (0 ≤ a ∧ a < 8) ∧ (0 ≤ w ∧ w < 2) then a_shw w (a_sh (w_X S) f b a 64 0 (-1, (w_rz (w_X S) f b a).2.2.1)) else -2)) := by
  obtain ⟨hp, hm0⟩ := x_relp hr
  refine r_fr hr hX hM ?_ (fun S1 g1 h1 => ?_)
  · by_cases c : ((0 ≤ f ∧ f < S 1 7) ∧ (0 ≤ b ∧ b < S 1 7) ∧ ¬ f = b) ∧ (0 ≤ a ∧ a < 8) ∧ (0 ≤ w ∧ w < 2)
    · rw [if_pos c]
      obtain ⟨S', f, k⟩ := x94r (d := 93) (L := L) (f := f) (b := b) (a := a) (w := w) hX (x_relJ hr) (x_relD hr) (by omega) (by omega) (by omega) (by omega)
      refine ⟨S', x_g_f f, fun Q => ?_⟩
      rw [← k Q]
      exact (p94 (d := 96) (Q := Q) (L := L) hf hb ha hw hX rfl hp.1 hp.2).trans (if_pos (by omega))
    · rw [if_neg c]
      refine ⟨S, x_g_r, fun Q => ?_⟩
      exact (p94 (d := 96) (Q := Q) (L := L) hf hb ha hw hX rfl hp.1 hp.2).trans (if_neg (by omega))
  · have hm : S1 62 11 = S 1 7 := by rw [x_gl g1 (by omega)]; exact hm0
    have hR := x_relR h1
    rw [x_g1 g1] at hR
    have hW := x_relok h1
    have hG := x_relgd h1
    rw [← x_g_W g1 (x_relJ hr)]
    by_cases c : ((0 ≤ f ∧ f < S 1 7) ∧ (0 ≤ b ∧ b < S 1 7) ∧ ¬ f = b) ∧ (0 ≤ a ∧ a < 8) ∧ (0 ≤ w ∧ w < 2)
    · rw [if_pos c]
      obtain ⟨S', w', f, k⟩ := y213r (d := 50) (L := L) (f := f) (b := b) (a := a) (w0 := w) hM hW hR hG (x_relyD h1) (by omega) (by omega) (by omega) (by omega)
      refine ⟨S', ip_up L 62 24 w', y_z9 <| y_h_f f, fun Q => ?_⟩
      rw [← k Q]
      exact (p213 (d := 96) (Q := Q) (L := L) hf hb ha hw hM hm hp.1 hp.2).trans (if_pos (by omega))
    · rw [if_neg c]
      refine ⟨S1, L, y_zr, fun Q => ?_⟩
      exact (p213 (d := 96) (Q := Q) (L := L) hf hb ha hw hM hm hp.1 hp.2).trans (if_neg (by omega))
theorem r_drawn {z t a : Int} (hr : x_rel S S) (hX : x_RX R) (hM : x_RM R) (hz : -2147483648 ≤ z ∧ z < 2147483648) (ht : -2147483648 ≤ t ∧ t < 2147483648) (ha : -2147483648 ≤ a ∧ a < 2147483648) : r_two 105 221 [vi z, vi t, vi a] S R L (vi (if (0 ≤ t ∧ (0 ≤ t / 10 ∧ t / 10 < S 1 7) ∧ (0 ≤ t % 10 ∧ t % 10 < S 1 7) ∧ ¬ t / 10 = t % 10) ∧ (0 ≤ a ∧ a < 8) then (w_rz (w_gz (w_X S) z (S 1 7)) (t / 10) (t % 10) a).2.2.1 else -2)) (vi (if (0 ≤ t ∧ (0 ≤ t / 10 ∧ t / 10 < S 1 7) ∧ (0 ≤ t % 10 ∧ t % 10 < S 1 7) ∧ ¬ t / 10 = t % 10) ∧ (0 ≤ a ∧ a < 8) then (w_rz (w_gz (w_X S) z (S 1 7)) (t / 10) (t % 10) a).2.2.1 else -2)) := by
  obtain ⟨hp, hm0⟩ := x_relp hr
  refine r_fr hr hX hM ?_ (fun S1 g1 h1 => ?_)
  · by_cases c : (0 ≤ t ∧ (0 ≤ t / 10 ∧ t / 10 < S 1 7) ∧ (0 ≤ t % 10 ∧ t % 10 < S 1 7) ∧ ¬ t / 10 = t % 10) ∧ (0 ≤ a ∧ a < 8)
    · rw [if_pos c]
      obtain ⟨S', f, k⟩ := x105r (d := 94) (L := L) (z := z) (t := t) (a := a) hX (x_relJ hr) rfl hp.1 hp.2 (by omega) (by omega) (by omega) (by omega)
      refine ⟨S', id f, fun Q => ?_⟩
      rw [← k Q]
      exact (p105 (d := 95) (Q := Q) (L := L) hz ht ha hX rfl hp.1 hp.2).trans (if_pos (by omega))
    · rw [if_neg c]
      refine ⟨S, x_g_r, fun Q => ?_⟩
      exact (p105 (d := 95) (Q := Q) (L := L) hz ht ha hX rfl hp.1 hp.2).trans (if_neg (by omega))
  · have hm : S1 62 11 = S 1 7 := by rw [x_gl g1 (by omega)]; exact hm0
    have hR := x_relR h1
    rw [x_g1 g1] at hR
    have hW := x_relok h1
    have hG := x_relgd h1
    rw [← x_g_W g1 (x_relJ hr)]
    by_cases c : (0 ≤ t ∧ (0 ≤ t / 10 ∧ t / 10 < S 1 7) ∧ (0 ≤ t % 10 ∧ t % 10 < S 1 7) ∧ ¬ t / 10 = t % 10) ∧ (0 ≤ a ∧ a < 8)
    · rw [if_pos c]
      obtain ⟨S', w', f, k⟩ := y221r (d := 50) (L := L) (z := z) (t := t) (a := a) hM hW hR hG hm hp.1 (by omega) (by omega) (by omega) (by omega)
      refine ⟨S', ip_up L 62 24 w', y_z9k f, fun Q => ?_⟩
      rw [← k Q]
      exact (p221 (d := 95) (Q := Q) (L := L) hz ht ha hM hm hp.1 hp.2).trans (if_pos (by omega))
    · rw [if_neg c]
      refine ⟨S1, L, y_zr, fun Q => ?_⟩
      exact (p221 (d := 95) (Q := Q) (L := L) hz ht ha hM hm hp.1 hp.2).trans (if_neg (by omega))
theorem r_chance {z q t w : Int} (hr : x_rel S S) (hX : x_RX R) (hM : x_RM R) (hz : -2147483648 ≤ z ∧ z < 2147483648) (hq : -2147483648 ≤ q ∧ q < 2147483648) (ht : -2147483648 ≤ t ∧ t < 2147483648) (hw : -2147483648 ≤ w ∧ w < 2147483648) : r_two 109 224 [vi z, vi q, vi t, vi w] S R L (vl (if (1 ≤ q ∧ q ≤ 20) ∧ (0 ≤ t ∧ (0 ≤ t / 10 ∧ t / 10 < S 1 7) ∧ (0 ≤ t % 10 ∧ t % 10 < S 1 7) ∧ ¬ t / 10 = t % 10) ∧ (0 ≤ w ∧ w < 2) then a_ch w q (a_cn (w_X S) z (S 1 7) (t / 10) (t % 10) q.toNat 0 0) else -4611686018427387904)) (vl (if (1 ≤ q ∧ q ≤ 20) ∧ (0 ≤ t ∧ (0 ≤ t / 10 ∧ t / 10 < S 1 7) ∧ (0 ≤ t % 10 ∧ t % 10 < S 1 7) ∧ ¬ t / 10 = t % 10) ∧ (0 ≤ w ∧ w < 2) then a_ch w q (a_cn (w_X S) z (S 1 7) (t / 10) (t % 10) q.toNat 0 0) else -4611686018427387904)) := by
  obtain ⟨hp, hm0⟩ := x_relp hr
  refine r_fr hr hX hM ?_ (fun S1 g1 h1 => ?_)
  · by_cases c : (1 ≤ q ∧ q ≤ 20) ∧ (0 ≤ t ∧ (0 ≤ t / 10 ∧ t / 10 < S 1 7) ∧ (0 ≤ t % 10 ∧ t % 10 < S 1 7) ∧ ¬ t / 10 = t % 10) ∧ (0 ≤ w ∧ w < 2)
    · rw [if_pos c]
      obtain ⟨S', f, k⟩ := x109r (d := 93) (L := L) (z := z) (t := t) (w := w) (q := q) hX (x_relJ hr) rfl hp.1 hp.2 (by omega) (by omega) (by omega) (by omega) (by omega) (by omega)
      refine ⟨S', id f, fun Q => ?_⟩
      rw [← k Q]
      exact (p109 (d := 95) (Q := Q) (L := L) hz hq ht hw hX rfl hp.1 hp.2).trans (if_pos (by omega))
    · rw [if_neg c]
      refine ⟨S, x_g_r, fun Q => ?_⟩
      exact (p109 (d := 95) (Q := Q) (L := L) hz hq ht hw hX rfl hp.1 hp.2).trans (if_neg (by omega))
  · have hm : S1 62 11 = S 1 7 := by rw [x_gl g1 (by omega)]; exact hm0
    have hR := x_relR h1
    rw [x_g1 g1] at hR
    have hW := x_relok h1
    have hG := x_relgd h1
    rw [← x_g_W g1 (x_relJ hr)]
    by_cases c : (1 ≤ q ∧ q ≤ 20) ∧ (0 ≤ t ∧ (0 ≤ t / 10 ∧ t / 10 < S 1 7) ∧ (0 ≤ t % 10 ∧ t % 10 < S 1 7) ∧ ¬ t / 10 = t % 10) ∧ (0 ≤ w ∧ w < 2)
    · rw [if_pos c]
      obtain ⟨S', w', f, k⟩ := y224r (d := 50) (L := L) (z := z) (t := t) (w0 := w) (q := q) hM hW hR hG hm hp.1 (by omega) (by omega) (by omega) (by omega) (by omega) (by omega)
      refine ⟨S', ip_up L 62 24 w', y_z9k f, fun Q => ?_⟩
      rw [← k Q]
      exact (p224 (d := 95) (Q := Q) (L := L) hz hq ht hw hM hm hp.1 hp.2).trans (if_pos (by omega))
    · rw [if_neg c]
      refine ⟨S1, L, y_zr, fun Q => ?_⟩
      exact (p224 (d := 95) (Q := Q) (L := L) hz hq ht hw hM hm hp.1 hp.2).trans (if_neg (by omega))
theorem r_together {a w : Int} (hr : x_rel S S) (hX : x_RX R) (hM : x_RM R) (ha : -2147483648 ≤ a ∧ a < 2147483648) (hw : -2147483648 ≤ w ∧ w < 2147483648) : r_two 89 209 [vi a, vi w] S R L (vi (if (0 ≤ a ∧ a < 8) ∧ (0 ≤ w ∧ w < 2) then t_tog (w_X S) a w (S 1 7).toNat else -2)) (vi (if (0 ≤ a ∧ a < 8) ∧ (0 ≤ w ∧ w < 2) then t_tog (w_X S) a w (S 1 7).toNat else -2)) := by
  obtain ⟨hp, hm0⟩ := x_relp hr
  have hpn : S 1 7 = ((S 1 7).toNat : Int) := (Int.toNat_of_nonneg hp.1).symm
  refine r_fr hr hX hM ?_ (fun S1 g1 h1 => ?_)
  · by_cases c : (0 ≤ a ∧ a < 8) ∧ (0 ≤ w ∧ w < 2)
    · rw [if_pos c]
      obtain ⟨S', f, k⟩ := x89r (d := 93) (L := L) (a := a) (w0 := w) hX (x_relJ hr) hpn (by omega) c.1 c.2
      refine ⟨S', f, fun Q => ?_⟩
      rw [← k Q]
      exact (p89 (d := 98) (Q := Q) (L := L) ha hw hX rfl hp.1 hp.2).trans (if_pos c)
    · rw [if_neg c]
      refine ⟨S, x_g_r, fun Q => ?_⟩
      exact (p89 (d := 98) (Q := Q) (L := L) ha hw hX rfl hp.1 hp.2).trans (if_neg c)
  · have hm : S1 62 11 = S 1 7 := by rw [x_gl g1 (by omega)]; exact hm0
    have hR := x_relR h1
    rw [x_g1 g1, hpn] at hR
    have hW := x_relok h1
    have hG := x_relgd h1
    rw [← x_g_W g1 (x_relJ hr)]
    by_cases c : (0 ≤ a ∧ a < 8) ∧ (0 ≤ w ∧ w < 2)
    · rw [if_pos c]
      obtain ⟨S', w', f, k⟩ := y209r (d := 50) (L := L) (p := (S 1 7).toNat) (a := a) (w0 := w) hM hW hR hG (hm.trans hpn) c.1 c.2
      refine ⟨S', ip_up L 62 24 w', y_z9 f, fun Q => ?_⟩
      rw [← k Q]
      exact (p209 (d := 97) (Q := Q) (L := L) ha hw hM hm hp.1 hp.2).trans (if_pos c)
    · rw [if_neg c]
      refine ⟨S1, L, y_zr, fun Q => ?_⟩
      exact (p209 (d := 97) (Q := Q) (L := L) ha hw hM hm hp.1 hp.2).trans (if_neg c)
theorem r_ride {f b a w : Int} (hr : x_rel S S) (hX : x_RX R) (hM : x_RM R) (hf : -2147483648 ≤ f ∧ f < 2147483648) (hb : -2147483648 ≤ b ∧ b < 2147483648) (ha : -2147483648 ≤ a ∧ a < 2147483648) (hw : -2147483648 ≤ w ∧ w < 2147483648) : r_two 74 197 [vi f, vi b, vi a, vi w] S R L (vi (if ((0 ≤ f ∧ f < S 1 7) ∧ (0 ≤ b ∧ b < S 1 7) ∧ ¬ f = b) ∧ (0 ≤ a ∧ a < 8) ∧ ((0 ≤ w ∧ w < 6) ∨ (10 ≤ w ∧ w ≤ 50)) then a_rid (w_X S) f b a w else -2)) (vi (if ((0 ≤ f ∧ f < S 1 7) ∧ (0 ≤ b ∧ b < S 1 7) ∧ ¬ f = b) ∧ (0 ≤ a ∧ a < 8) ∧ ((0 ≤ w ∧ w < 6) ∨ (10 ≤ w ∧ w ≤ 50)) then a_rid (w_X S) f b a w else -2)) := by
  obtain ⟨hp, hm0⟩ := x_relp hr
  refine r_fr hr hX hM ?_ (fun S1 g1 h1 => ?_)
  · obtain ⟨S', f', k⟩ := x74r (d := 94) (L := L) hX (x_relJ hr) rfl hp.1 hp.2 hf hb ha hw
    by_cases c : ((0 ≤ f ∧ f < S 1 7) ∧ (0 ≤ b ∧ b < S 1 7) ∧ ¬ f = b) ∧ (0 ≤ a ∧ a < 8) ∧ ((0 ≤ w ∧ w < 6) ∨ (10 ≤ w ∧ w ≤ 50))
    · simp only [if_pos c] at k ⊢
      exact ⟨S', x_g_f f', k⟩
    · simp only [if_neg c] at k ⊢
      exact ⟨S, x_g_r, k⟩
  · have hm : S1 62 11 = S 1 7 := by rw [x_gl g1 (by omega)]; exact hm0
    have hR := x_relR h1
    rw [x_g1 g1] at hR
    have hW := x_relok h1
    have hG := x_relgd h1
    rw [← x_g_W g1 (x_relJ hr)]
    obtain ⟨S', w', f', k⟩ := y197 (d := 50) (L := L) hM hW hR hG hm hp.1 hf hb ha hw
    by_cases c : ((0 ≤ f ∧ f < S 1 7) ∧ (0 ≤ b ∧ b < S 1 7) ∧ ¬ f = b) ∧ (0 ≤ a ∧ a < 8) ∧ ((0 ≤ w ∧ w < 6) ∨ (10 ≤ w ∧ w ≤ 50))
    · simp only [if_pos c] at k ⊢
      exact ⟨S', _, y_z9 (y_h_f f'), k⟩
    · simp only [if_neg c] at k ⊢
      exact ⟨S1, L, y_zr, k⟩
theorem r_asks {f b a s w : Int} (hr : x_rel S S) (hX : x_RX R) (hM : x_RM R) (hf : -2147483648 ≤ f ∧ f < 2147483648) (hb : -2147483648 ≤ b ∧ b < 2147483648) (ha : -2147483648 ≤ a ∧ a < 2147483648) (hs : -2147483648 ≤ s ∧ s < 2147483648) (hw : -2147483648 ≤ w ∧ w < 2147483648) : r_two 67 193 [vi f, vi b, vi a, vi s, vi w] S R L (vi (if ((0 ≤ f ∧ f < S 1 7) ∧ (0 ≤ b ∧ b < S 1 7) ∧ ¬ f = b) ∧ (0 ≤ a ∧ a < 8) ∧ (0 ≤ s ∧ s < 41) then a_ask (w_X S) f b a s w else -2)) (vi (if ((0 ≤ f ∧ f < S 1 7) ∧ (0 ≤ b ∧ b < S 1 7) ∧ ¬ f = b) ∧ (0 ≤ a ∧ a < 8) ∧ (0 ≤ s ∧ s < 41) then a_ask (w_X S) f b a s w else -2)) := by
  obtain ⟨hp, hm0⟩ := x_relp hr
  refine r_fr hr hX hM ?_ (fun S1 g1 h1 => ?_)
  · by_cases c : ((0 ≤ f ∧ f < S 1 7) ∧ (0 ≤ b ∧ b < S 1 7) ∧ ¬ f = b) ∧ (0 ≤ a ∧ a < 8) ∧ (0 ≤ s ∧ s < 41)
    · rw [if_pos c]
      obtain ⟨S', f', k⟩ := x67r (d := 95) (L := L) (f := f) (b := b) (a := a) (s := s) (w := w) hX (x_relJ hr) (by omega) (by omega) (by omega) (by omega) hw
      refine ⟨S', x_g_f f', fun Q => ?_⟩
      rw [← k Q]
      exact (p67 (d := 96) (Q := Q) (L := L) hf hb ha hs hw hX rfl hp.1 hp.2).trans (if_pos c)
    · rw [if_neg c]
      refine ⟨S, x_g_r, fun Q => ?_⟩
      exact (p67 (d := 96) (Q := Q) (L := L) hf hb ha hs hw hX rfl hp.1 hp.2).trans (if_neg c)
  · have hm : S1 62 11 = S 1 7 := by rw [x_gl g1 (by omega)]; exact hm0
    have hR := x_relR h1
    rw [x_g1 g1] at hR
    have hW := x_relok h1
    have hG := x_relgd h1
    rw [← x_g_W g1 (x_relJ hr)]
    by_cases c : ((0 ≤ f ∧ f < S 1 7) ∧ (0 ≤ b ∧ b < S 1 7) ∧ ¬ f = b) ∧ (0 ≤ a ∧ a < 8) ∧ (0 ≤ s ∧ s < 41)
    · rw [if_pos c]
      by_cases c2 : 0 ≤ w ∧ w < 6
      · obtain ⟨S', w', f', k⟩ := y193r (d := 53) (L := L) (f := f) (b := b) (a := a) (s := s) (w := w) hM hW hR (by omega) (by omega) (by omega) (by omega) c2
        refine ⟨S', ip_up L 62 24 w', y_z9 (y_h_f f'), fun Q => ?_⟩
        rw [← k Q]
        exact (p193 (d := 96) (Q := Q) (L := L) hf hb ha hs hw hM hm hp.1 hp.2).trans (if_pos (by omega))
      · have e : a_ask (w_X S1) f b a s w = -2 := by
          unfold a_ask
          rw [if_neg (by omega), if_neg (by omega), if_neg (by omega), if_neg (by omega), if_neg (by omega), if_neg (by omega)]
        rw [e]
        refine ⟨S1, L, y_zr, fun Q => ?_⟩
        exact (p193 (d := 96) (Q := Q) (L := L) hf hb ha hs hw hM hm hp.1 hp.2).trans (if_neg (by omega))
    · rw [if_neg c]
      refine ⟨S1, L, y_zr, fun Q => ?_⟩
      exact (p193 (d := 96) (Q := Q) (L := L) hf hb ha hs hw hM hm hp.1 hp.2).trans (if_neg (by omega))
end RFR
