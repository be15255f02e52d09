/-! a part of a TEXT, and the whole of it -/
section PRT
variable {d n t : Nat} {S : ip_S} {R : ip_R} {L : ip_S} {Q : Option Value → Nat → ip_S → ip_R → ip_S → Prop} {now tk sz : Int} {c e : Int → Int}
def x_E5 (T N : Int → Int) (la : Int) : Int → x_PR := x_E T la (x_lv T N la 5).2
theorem p31E (H : x_H n t S R) : x_ok n t S R L (d + 48) 31 0 (x_E5 (S 21) (S 23) (S 19 5)) := p31 (d := d + 46) H (p32 (d := d + 45) H (p37L H 5 d (by omega)).2)
theorem p28 (H : x_H n t S R) : ip_wc (d + 1) 28 [.ref (26 + 3 * t)] n (k_RS S t now tk sz c e) R L Q = Q none n (k_RS S t now tk 0 c e) R L := by
  obtain ⟨hn, ht, -⟩ := id H
  simp (disch := omega) only [c28, s28_0, s28_1, s28_2, s28_3, ↓reduceIte, Bool.true_eq_false, Bool.false_eq_true, ip_rfS, true_or, or_true, true_and, and_true, Option.toList_some, Option.toList_none, List.cons_append, List.nil_append, ip_fxn, ip_fxi, ip_fxr, ip_fxl, ip_wid, ip_n998, ip_lt900, rs_usz, iOT, ip_n998]
theorem p41 {part : Int} (H : x_H n t S R) (h0 : 0 ≤ part) (h1 : part < 3) (h2 : 0 ≤ sz) (h3 : sz ≤ 160) : ip_wc (d + 1) 41 [.ref (26 + 3 * t), vi part] n (k_RS S t now tk sz c e) R L Q = Q none n (k_RS S t now tk sz c (ip_u e part sz)) R L := by
  obtain ⟨hn, ht, -, -, -, -, -, -, hR, -⟩ := id H
  simp (disch := omega) only [c41, s41_0, s41_1, s41_2, s41_3, s41_4, s41_5, s41_6, ↓reduceIte, Bool.true_eq_false, Bool.false_eq_true, ip_rfS, true_or, or_true, true_and, and_true, Option.toList_some, Option.toList_none, List.cons_append, List.nil_append, ip_fxn, ip_fxi, ip_fxr, ip_fxl, ip_wid, ip_n998, ip_lt900, rs_sz, rs_ue, hR, iOT, iAT2, ip_n998]
def x_part (T N : Int → Int) (la part now : Int) : x_PR :=
  if T now = part then
    (if ((x_E5 T N la (x_adv la now)).1 && decide (T (x_E5 T N la (x_adv la now)).2.1 = 59)) = true then (true, x_adv la (x_E5 T N la (x_adv la now)).2.1, (x_E5 T N la (x_adv la now)).2.2)
     else (false, (x_E5 T N la (x_adv la now)).2.1, (x_E5 T N la (x_adv la now)).2.2))
  else (false, now, [])
def x_ue (e : Int → Int) (part sz : Int) (r : x_PR) : Int → Int := if r.1 = true then ip_u e part (x_sz sz r.2.2) else e
theorem p29 {part : Int} (H : x_H n t S R) (h0 : 0 ≤ part) (h1 : part < 3) (ha : 0 ≤ now) (hb : now ≤ S 19 5) (hc : 0 ≤ sz) (hd : sz ≤ 160) : ∀ r : x_PR, r = x_part (S 21) (S 23) (S 19 5) part now →
    x_in (S 19 5) now r.2.1 ∧ ip_wc (d + 49) 29 [.ref 24, vi part] n (k_RS S t now (S 21 now) sz c e) R L Q = Q (some (vi (k_n r.1))) n (k_RS S t r.2.1 (S 21 r.2.1) (x_sz sz r.2.2) (x_wr c sz r.2.2) (x_ue e part sz r)) R L := by
  intro r hr
  obtain ⟨hn, ht, hR0, hR1, -⟩ := id H
  have hw := x_Hw H ha hb
  have hv := x_advr (now := now) (la := S 19 5) hb
  by_cases h : S 21 now = part
  · obtain ⟨hz1, hz2⟩ := p31E (d := d) (L := L) H (x_adv (S 19 5) now) sz c e (fun v n' S' R' L' => ip_wp (d + 48) 29 11 [some (.ref 24), some (vi part)] (v.toList ++ []) n' S' R' L' Q) (by unfold x_in at hv; omega) hv.2 hc hd
    have hsr := x_szr (o := (x_E5 (S 21) (S 23) (S 19 5) (x_adv (S 19 5) now)).2.2) hc hd
    rw [x_part, if_pos h] at hr
    generalize hq : x_E5 (S 21) (S 23) (S 19 5) (x_adv (S 19 5) now) = q at *
    obtain ⟨ft, nw, o⟩ := q
    dsimp only at hz1 hz2 hsr hr
    have hnw : 0 ≤ nw ∧ nw ≤ S 19 5 := ⟨by unfold x_in at hz1 hv; omega, hz1.2⟩
    have hw2 := x_Hw H (k := nw) hnw.1 hnw.2
    have hv2 := x_advr (now := nw) (la := S 19 5) hz1.2
    rw [h] at hw ⊢
    cases ft
    · subst hr
      refine ⟨⟨by simp; unfold x_in at hz1 hv; omega, by simp; exact hz1.2⟩, ?_⟩
      simp (disch := omega) only [c29, s29_0, s29_1, s29_2, s29_3, s29_4, s29_5, s29_6, s29_7, s29_8, s29_9, s29_10, s29_11, s29_12, s29_13, s29_14, s29_15, s29_16, s29_17, s29_18, s29_19, s29_20, s29_21, s29_22, s29_23, s29_24, s29_25, ↓reduceIte, Bool.true_eq_false, Bool.false_eq_true, ip_rfS, true_or, or_true, true_and, and_true, Option.toList_some, Option.toList_none, List.cons_append, List.nil_append, ip_fxn, ip_fxi, ip_fxr, ip_fxl, ip_wid, ip_n998, ip_lt900, iO24, ip_n998, rs_tok, p30 H, hz2, k_n1, k_n2, k_n01, k_n0, Bool.false_and, x_ue]
      rfl
    · by_cases h5 : S 21 nw = 59
      · simp only [h5, decide_true, Bool.and_self, if_true] at hr
        subst hr
        refine ⟨⟨by dsimp only; unfold x_in at hz1 hv hv2; omega, hv2.2⟩, ?_⟩
        simp (disch := omega) only [c29, s29_0, s29_1, s29_2, s29_3, s29_4, s29_5, s29_6, s29_7, s29_8, s29_9, s29_10, s29_11, s29_12, s29_13, s29_14, s29_15, s29_16, s29_17, s29_18, s29_19, s29_20, s29_21, s29_22, s29_23, s29_24, s29_25, ↓reduceIte, Bool.true_eq_false, Bool.false_eq_true, ip_rfS, true_or, or_true, true_and, and_true, Option.toList_some, Option.toList_none, List.cons_append, List.nil_append, ip_fxn, ip_fxi, ip_fxr, ip_fxl, ip_wid, ip_n998, ip_lt900, iO24, ip_n998, p30 H, hz2, rs_tok, hw2, h5, hR1, iOT, p41 H h0 h1, k_n1, k_n2, k_n01, k_n0, x_ue]
        rfl
      · simp only [h5, decide_false, Bool.and_false, Bool.false_eq_true, if_false] at hr
        subst hr
        refine ⟨⟨by dsimp only; unfold x_in at hz1 hv; omega, hz1.2⟩, ?_⟩
        simp (disch := omega) only [c29, s29_0, s29_1, s29_2, s29_3, s29_4, s29_5, s29_6, s29_7, s29_8, s29_9, s29_10, s29_11, s29_12, s29_13, s29_14, s29_15, s29_16, s29_17, s29_18, s29_19, s29_20, s29_21, s29_22, s29_23, s29_24, s29_25, ↓reduceIte, Bool.true_eq_false, Bool.false_eq_true, ip_rfS, true_or, or_true, true_and, and_true, Option.toList_some, Option.toList_none, List.cons_append, List.nil_append, ip_fxn, ip_fxi, ip_fxr, ip_fxl, ip_wid, ip_n998, ip_lt900, iO24, ip_n998, p30 H, hz2, rs_tok, hw2, h5, k_n1, k_n2, k_n01, k_n0, x_ue]
        rfl
  · rw [x_part, if_neg h] at hr
    subst hr
    refine ⟨⟨Int.le_refl _, hb⟩, ?_⟩
    simp (disch := omega) only [c29, s29_0, s29_1, s29_2, s29_3, s29_4, s29_5, s29_6, s29_7, s29_8, s29_9, s29_10, s29_11, s29_12, s29_13, s29_14, s29_15, s29_16, s29_17, s29_18, s29_19, s29_20, s29_21, s29_22, s29_23, s29_24, s29_25, ↓reduceIte, Bool.true_eq_false, Bool.false_eq_true, ip_rfS, true_or, or_true, true_and, and_true, Option.toList_some, Option.toList_none, List.cons_append, List.nil_append, ip_fxn, ip_fxi, ip_fxr, ip_fxl, ip_wid, ip_n998, ip_lt900, iO24, ip_n998, rs_tok, hw, h, x_sz0, x_wr0, x_ue]
    rfl
end PRT
