/-! a TEXT read whole, and THE TAPE taken -/
abbrev x_RD : Type := Bool × Int × Int × (Int → Int) × (Int → Int)
def x_rd (T N : Int → Int) (la : Int) : Nat → Int → Int → Int → (Int → Int) → (Int → Int) → x_RD
  | 0, _, now, sz, c, e => (true, now, sz, c, e)
  | f + 1, part, now, sz, c, e => if (x_part T N la part now).1 = true then x_rd T N la f (part + 1) (x_part T N la part now).2.1 (x_sz sz (x_part T N la part now).2.2) (x_wr c sz (x_part T N la part now).2.2) (x_ue e part sz (x_part T N la part now))
    else (false, (x_part T N la part now).2.1, x_sz sz (x_part T N la part now).2.2, x_wr c sz (x_part T N la part now).2.2, e)
def x_flt (T P : Int → Int) (q : x_RD) : Int := if q.1 = true ∧ T q.2.1 = -1 then -1 else P q.2.1
section INT
variable {d n t : Nat} {S : ip_S} {R : ip_R} {L : ip_S} {Q : Option Value → Nat → ip_S → ip_R → ip_S → Prop} {now tk sz : Int} {c e : Int → Int}
theorem p27l (H : x_H n t S R) : ∀ (f : Nat) (part now sz : Int) (c e : Int → Int) (q : x_RD), part + f = 3 → 0 ≤ part → 0 ≤ now → now ≤ S 19 5 → 0 ≤ sz → sz ≤ 160 → q = x_rd (S 21) (S 23) (S 19 5) f part now sz c e →
    (0 ≤ q.2.1 ∧ q.2.1 ≤ S 19 5 ∧ 0 ≤ q.2.2.1 ∧ q.2.2.1 ≤ 160) ∧ ip_wp (d + 49) 27 18 [some (.ref 24), some (.ref (26 + 3 * t)), some (vi part)] [] n (k_RS S t now (S 21 now) sz c e) R L Q = Q (some (vi (x_flt (S 21) (S 22) q))) n (k_RS S t q.2.1 (S 21 q.2.1) q.2.2.1 q.2.2.2.1 q.2.2.2.2) R L
  | 0, part, now, sz, c, e, q, h, hp, ha, hb, hc, hd, hq => by
    obtain ⟨hn, ht, hR0, hR1, hS1, hS2, hS3, -⟩ := id H
    have hla := H.2.2.2.2.2.2.2.2.2.2.1
    have hw := x_Hw H ha hb
    rw [x_rd] at hq
    subst hq
    refine ⟨⟨ha, hb, hc, hd⟩, ?_⟩
    rw [s27_18]
    by_cases h1 : S 21 now = -1
    · simp (disch := omega) only [s27_0, s27_1, s27_2, s27_3, s27_4, s27_5, s27_6, s27_7, s27_8, s27_9, s27_10, s27_11, s27_12, s27_13, s27_14, s27_15, s27_16, s27_17, s27_19, s27_20, s27_21, s27_22, s27_23, s27_24, s27_25, s27_26, s27_27, s27_28, s27_29, s27_30, s27_31, s27_32, s27_33, s27_34, s27_35, s27_36, s27_37, s27_38, s27_39, s27_40, s27_41, s27_42, s27_43, s27_44, s27_45, s27_46, ↓reduceIte, Bool.true_eq_false, Bool.false_eq_true, ip_rfS, true_or, or_true, true_and, and_true, Option.toList_some, Option.toList_none, List.cons_append, List.nil_append, ip_fxn, ip_fxi, ip_fxr, ip_fxl, ip_wid, ip_n998, ip_lt900, iO24, iO19, iA22, ip_n998, rs_tok, rs_now, rs_lo, hR0, hS2, show ¬ part < 3 by omega, hw, h1, x_flt, and_self]
    · simp (disch := omega) only [s27_0, s27_1, s27_2, s27_3, s27_4, s27_5, s27_6, s27_7, s27_8, s27_9, s27_10, s27_11, s27_12, s27_13, s27_14, s27_15, s27_16, s27_17, s27_19, s27_20, s27_21, s27_22, s27_23, s27_24, s27_25, s27_26, s27_27, s27_28, s27_29, s27_30, s27_31, s27_32, s27_33, s27_34, s27_35, s27_36, s27_37, s27_38, s27_39, s27_40, s27_41, s27_42, s27_43, s27_44, s27_45, s27_46, ↓reduceIte, Bool.true_eq_false, Bool.false_eq_true, ip_rfS, true_or, or_true, true_and, and_true, Option.toList_some, Option.toList_none, List.cons_append, List.nil_append, ip_fxn, ip_fxi, ip_fxr, ip_fxl, ip_wid, ip_n998, ip_lt900, iO24, iO19, iA22, ip_n998, rs_tok, rs_now, rs_lo, hR0, hS2, show ¬ part < 3 by omega, hw, h1, x_flt, and_false]
  | f + 1, part, now, sz, c, e, q, h, hp, ha, hb, hc, hd, hq => by
    obtain ⟨hn, ht, hR0, hR1, hS1, hS2, hS3, -⟩ := id H
    have hla := H.2.2.2.2.2.2.2.2.2.2.1
    have hw := x_Hw H ha hb
    obtain ⟨hz1, hz2⟩ := p29 (d := d) (L := L) (c := c) (e := e) (Q := fun v n' S' R' L' => ip_wp (d + 49) 27 24 [some (.ref 24), some (.ref (26 + 3 * t)), some (vi part)] (v.toList ++ []) n' S' R' L' Q) H hp (by omega) ha hb hc hd _ rfl
    have hsr := x_szr (o := (x_part (S 21) (S 23) (S 19 5) part now).2.2) hc hd
    rw [x_rd] at hq
    generalize hr : x_part (S 21) (S 23) (S 19 5) part now = r at *
    obtain ⟨ft, nw, o⟩ := r
    dsimp only at hz1 hz2 hsr hq
    have hnw : 0 ≤ nw ∧ nw ≤ S 19 5 := ⟨by unfold x_in at hz1; omega, hz1.2⟩
    cases ft
    · simp only [Bool.false_eq_true, if_false] at hq
      subst hq
      refine ⟨⟨hnw.1, hnw.2, hsr.1, hsr.2⟩, ?_⟩
      rw [s27_18]
      simp (disch := omega) only [s27_0, s27_1, s27_2, s27_3, s27_4, s27_5, s27_6, s27_7, s27_8, s27_9, s27_10, s27_11, s27_12, s27_13, s27_14, s27_15, s27_16, s27_17, s27_19, s27_20, s27_21, s27_22, s27_23, s27_24, s27_25, s27_26, s27_27, s27_28, s27_29, s27_30, s27_31, s27_32, s27_33, s27_34, s27_35, s27_36, s27_37, s27_38, s27_39, s27_40, s27_41, s27_42, s27_43, s27_44, s27_45, s27_46, ↓reduceIte, Bool.true_eq_false, Bool.false_eq_true, ip_rfS, true_or, or_true, true_and, and_true, Option.toList_some, Option.toList_none, List.cons_append, List.nil_append, ip_fxn, ip_fxi, ip_fxr, ip_fxl, ip_wid, ip_n998, ip_lt900, iO24, iO19, iA22, ip_n998, rs_tok, rs_now, rs_lo, hR0, hS2, show part < 3 by omega, hw, hz2, k_n1, k_n0, x_flt, false_and, x_ue]
    · simp only [if_true] at hq
      obtain ⟨hy1, hy2⟩ := p27l H f (part + 1) nw (x_sz sz o) (x_wr c sz o) (x_ue e part sz (true, nw, o)) q (by omega) (by omega) hnw.1 hnw.2 hsr.1 hsr.2 hq
      refine ⟨hy1, ?_⟩
      rw [s27_18]
      simp (disch := omega) only [s27_0, s27_1, s27_2, s27_3, s27_4, s27_5, s27_6, s27_7, s27_8, s27_9, s27_10, s27_11, s27_12, s27_13, s27_14, s27_15, s27_16, s27_17, s27_19, s27_20, s27_21, s27_22, s27_23, s27_24, s27_25, s27_26, s27_27, s27_28, s27_29, s27_30, s27_31, s27_32, s27_33, s27_34, s27_35, s27_36, s27_37, s27_38, s27_39, s27_40, s27_41, s27_42, s27_43, s27_44, s27_45, s27_46, ↓reduceIte, Bool.true_eq_false, Bool.false_eq_true, ip_rfS, true_or, or_true, true_and, and_true, Option.toList_some, Option.toList_none, List.cons_append, List.nil_append, ip_fxn, ip_fxi, ip_fxr, ip_fxl, ip_wid, ip_n998, ip_lt900, iO24, iO19, iA22, ip_n998, rs_tok, rs_now, rs_lo, hR0, hS2, show part < 3 by omega, hw, hz2, k_n1, k_n0, hy2]
theorem rs_self : k_RS S t (S 24 2) (S 24 3) (S (26 + 3 * t) 2) (S (27 + 3 * t)) (S (28 + 3 * t)) = S := by
  funext a k; unfold k_RS
  repeat' split
  all_goals first | rfl | (rename_i h; obtain ⟨rfl, rfl⟩ := h; rfl) | (rename_i h; subst h; rfl)
def x_read (T N : Int → Int) (la : Int) (c e : Int → Int) : x_RD := x_rd T N la 3 0 0 0 c e
theorem p27 {q : x_RD} (H : x_H n t S (ip_ur R 24 1 (26 + 3 * t))) (hq : q = x_read (S 21) (S 23) (S 19 5) (S (27 + 3 * t)) (S (28 + 3 * t))) :
    (0 ≤ q.2.1 ∧ q.2.1 ≤ S 19 5 ∧ 0 ≤ q.2.2.1 ∧ q.2.2.1 ≤ 160) ∧ ip_wc (d + 50) 27 [.ref 24, .ref (26 + 3 * t)] n S R L Q = Q (some (vi (x_flt (S 21) (S 22) q))) n (k_RS S t q.2.1 (S 21 q.2.1) q.2.2.1 q.2.2.2.1 q.2.2.2.2) (ip_ur R 24 1 (26 + 3 * t)) L := by
  obtain ⟨hn, ht, hR0, hR1, hS1, hS2, hS3, -⟩ := id H
  have hla := H.2.2.2.2.2.2.2.2.2.1
  have hw := x_Hw H (k := 0) (by omega) hla
  obtain ⟨hy1, hy2⟩ := p27l (d := d) (Q := Q) (L := L) H 3 0 0 0 (S (27 + 3 * t)) (S (28 + 3 * t)) q (by omega) (by omega) (by omega) hla (by omega) (by omega) hq
  refine ⟨hy1, ?_⟩
  have key : ∀ v1 v2 v3 : Int, ip_wc (d + 50) 27 [.ref 24, .ref (26 + 3 * t)] n (k_RS S t v1 v2 v3 (S (27 + 3 * t)) (S (28 + 3 * t))) R L Q = Q (some (vi (x_flt (S 21) (S 22) q))) n (k_RS S t q.2.1 (S 21 q.2.1) q.2.2.1 q.2.2.2.1 q.2.2.2.2) (ip_ur R 24 1 (26 + 3 * t)) L := fun v1 v2 v3 => by
    simp (disch := omega) only [c27, s27_0, s27_1, s27_2, s27_3, s27_4, s27_5, s27_6, s27_7, s27_8, s27_9, s27_10, s27_11, s27_12, s27_13, s27_14, s27_15, s27_16, s27_17, ↓reduceIte, Bool.true_eq_false, Bool.false_eq_true, ip_rfS, true_or, or_true, true_and, and_true, Option.toList_some, Option.toList_none, List.cons_append, List.nil_append, ip_fxn, ip_fxi, ip_fxr, ip_fxl, ip_wid, ip_n998, ip_lt900, iO24, iO19, iOT, iA21, ip_n998, ip_lt900, hR0, hR1, hS1, p28 H, rs_unow, rs_utok, rs_lo, hw, hy2]
  have k2 := key (S 24 2) (S 24 3) (S (26 + 3 * t) 2)
  rw [rs_self] at k2
  exact k2
/-! THE TAPE taken -/
theorem p16f {kn : Int} (hn : 44 ≤ n) (hk : S 17 4 = kn) (h : 6 ≤ kn) (h2 : kn ≤ 6) : ip_wc (d + 1) 16 [.ref 17] n S R L Q = Q (some (vi (-4))) n S R L := by
  simp (disch := omega) only [c16, s16_0, s16_1, s16_2, s16_3, s16_4, s16_5, s16_6, s16_7, s16_8, s16_9, s16_10, s16_11, s16_12, s16_13, s16_14, s16_15, s16_16, s16_17, s16_18, s16_19, s16_20, s16_21, s16_22, s16_23, s16_24, s16_25, s16_26, s16_27, s16_28, s16_29, s16_30, s16_31, s16_32, s16_33, s16_34, s16_35, s16_36, s16_37, s16_38, s16_39, ↓reduceIte, Bool.true_eq_false, Bool.false_eq_true, ip_rfS, true_or, or_true, true_and, and_true, Option.toList_some, Option.toList_none, List.cons_append, List.nil_append, ip_fxn, ip_fxi, ip_fxr, ip_fxl, ip_wid, ip_n998, ip_lt900, iO17, ip_n998, hk, show ¬ kn < 6 by omega]
end INT
