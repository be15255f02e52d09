/-! the READER, level by level -/
section RDV
variable {d n t : Nat} {S : ip_S} {R : ip_R} {L : ip_S} {Q : Option Value → Nat → ip_S → ip_R → ip_S → Prop} {op : Int}
theorem p34d {one : Int → x_PR} (H : x_H n t S R) (hs : x_ok n t S R L (d + 1) 35 op (x_sum (S 21) (S 19 5) one)) : x_ok n t S R L (d + 2) 34 op (x_cmp (S 21) (S 19 5) one) := by
  intro now sz c e Q ha hb hc hd
  obtain ⟨hn, ht, hR0, hR1, -⟩ := id H
  obtain ⟨hz1, hz2⟩ := hs now sz c e (fun v n' S' R' L' => ip_wp (d + 1) 34 3 [some (.ref 24), some (vi op), none, none] (v.toList ++ []) n' S' R' L' Q) ha hb hc hd
  have hsr := x_szr (o := (x_sum (S 21) (S 19 5) one now).2.2) hc hd
  generalize hr : x_sum (S 21) (S 19 5) one now = r at *
  obtain ⟨ft, nw, o⟩ := r
  dsimp only at hz1 hz2 hsr
  have hnw : 0 ≤ nw ∧ nw ≤ S 19 5 := ⟨by unfold x_in at hz1; omega, hz1.2⟩
  have hw := x_Hw H (k := nw) hnw.1 hnw.2
  cases hq : (ft && decide (S 21 nw = 60 ∨ S 21 nw = 61))
  · have hL : x_cmp (S 21) (S 19 5) one now = (ft, nw, o) := by rw [x_cmp, hr, hq]; exact if_neg (by decide)
    rw [hL]
    refine ⟨hz1, ?_⟩
    cases ft
    · simp (disch := omega) only [c34, s34_0, s34_1, s34_2, s34_3, s34_4, s34_5, s34_6, s34_7, s34_8, s34_9, s34_10, s34_11, s34_12, s34_13, s34_14, s34_15, s34_16, s34_17, s34_18, s34_19, s34_20, s34_21, s34_22, s34_23, s34_24, s34_25, s34_26, s34_27, s34_28, s34_29, s34_30, s34_31, s34_32, s34_33, ↓reduceIte, Bool.true_eq_false, Bool.false_eq_true, ip_rfS, true_or, or_true, true_and, and_true, Option.toList_some, Option.toList_none, List.cons_append, List.nil_append, ip_fxn, ip_fxi, ip_fxr, ip_fxl, ip_wid, ip_n998, ip_lt900, iO24, ip_n998, hz2, k_n1, k_n0, k_n2, k_nt, k_n01, false_or]
    · have hq2 : ¬ S 21 nw = 60 ∧ ¬ S 21 nw = 61 := by
        constructor <;> (intro z; simp [z] at hq)
      simp (disch := omega) only [c34, s34_0, s34_1, s34_2, s34_3, s34_4, s34_5, s34_6, s34_7, s34_8, s34_9, s34_10, s34_11, s34_12, s34_13, s34_14, s34_15, s34_16, s34_17, s34_18, s34_19, s34_20, s34_21, s34_22, s34_23, s34_24, s34_25, s34_26, s34_27, s34_28, s34_29, s34_30, s34_31, s34_32, s34_33, ↓reduceIte, Bool.true_eq_false, Bool.false_eq_true, ip_rfS, true_or, or_true, true_and, and_true, Option.toList_some, Option.toList_none, List.cons_append, List.nil_append, ip_fxn, ip_fxi, ip_fxr, ip_fxl, ip_wid, ip_n998, ip_lt900, iO24, ip_n998, hz2, rs_tok, hw, hq2.1, hq2.2, k_n1, k_n0, k_n2, k_nt, k_n01, false_or]
  · have hft : ft = true := by cases ft <;> simp at hq ⊢
    subst hft
    have hq2 : S 21 nw = 60 ∨ S 21 nw = 61 := by simpa using hq
    have hv := x_advr (now := nw) (la := S 19 5) hz1.2
    have hL : x_cmp (S 21) (S 19 5) one now = ((x_sum (S 21) (S 19 5) one (x_adv (S 19 5) nw)).1, (x_sum (S 21) (S 19 5) one (x_adv (S 19 5) nw)).2.1, o ++ ((x_sum (S 21) (S 19 5) one (x_adv (S 19 5) nw)).2.2 ++ [if S 21 nw = 60 then -24 else -25])) := by rw [x_cmp, hr, hq]; exact if_pos rfl
    obtain ⟨hy1, hy2⟩ := hs (x_adv (S 19 5) nw) (x_sz sz o) (x_wr c sz o) e (fun v n' S' R' L' => ip_wp (d + 1) 34 27 [some (.ref 24), some (vi op), some (vi (k_n true)), some (vi (if S 21 nw = 60 then -24 else -25))] (v.toList ++ []) n' S' R' L' Q) (by unfold x_in at hz1 hv; omega) hv.2 hsr.1 hsr.2
    have hsr2 := x_szr (o := o ++ (x_sum (S 21) (S 19 5) one (x_adv (S 19 5) nw)).2.2) hc hd
    rw [hL]
    refine ⟨⟨by dsimp only; unfold x_in at hv hz1 hy1; omega, hy1.2⟩, ?_⟩
    rcases hq2 with hq2 | hq2
    · rw [if_pos hq2] at hy2 ⊢
      simp (disch := omega) only [c34, s34_0, s34_1, s34_2, s34_3, s34_4, s34_5, s34_6, s34_7, s34_8, s34_9, s34_10, s34_11, s34_12, s34_13, s34_14, s34_15, s34_16, s34_17, s34_18, s34_19, s34_20, s34_21, s34_22, s34_23, s34_24, s34_25, s34_26, s34_27, s34_28, s34_29, s34_30, s34_31, s34_32, s34_33, ↓reduceIte, Bool.true_eq_false, Bool.false_eq_true, ip_rfS, true_or, or_true, true_and, and_true, Option.toList_some, Option.toList_none, List.cons_append, List.nil_append, ip_fxn, ip_fxi, ip_fxr, ip_fxl, ip_wid, ip_n998, ip_lt900, iO24, ip_n998, hz2, hy2, rs_tok, hw, hq2, k_n1, k_n0, k_n2, k_nt, k_n01, false_or, p30 H, hR1, iOT, p38 H (v := -24) (ip_wid (by omega) (by omega)), x_szA, x_wrA, ip_lt900, List.append_assoc]
    · rw [if_neg (show ¬ S 21 nw = 60 by omega)] at hy2 ⊢
      simp (disch := omega) only [c34, s34_0, s34_1, s34_2, s34_3, s34_4, s34_5, s34_6, s34_7, s34_8, s34_9, s34_10, s34_11, s34_12, s34_13, s34_14, s34_15, s34_16, s34_17, s34_18, s34_19, s34_20, s34_21, s34_22, s34_23, s34_24, s34_25, s34_26, s34_27, s34_28, s34_29, s34_30, s34_31, s34_32, s34_33, ↓reduceIte, Bool.true_eq_false, Bool.false_eq_true, ip_rfS, true_or, or_true, true_and, and_true, Option.toList_some, Option.toList_none, List.cons_append, List.nil_append, ip_fxn, ip_fxi, ip_fxr, ip_fxl, ip_wid, ip_n998, ip_lt900, iO24, ip_n998, hz2, hy2, rs_tok, hw, hq2, show ¬ (61 : Int) = 60 by omega, k_n1, k_n0, k_n2, k_nt, k_n01, false_or, p30 H, hR1, iOT, p38 H (v := -25) (ip_wid (by omega) (by omega)), x_szA, x_wrA, ip_lt900, List.append_assoc]
/-- a NOT where nothing more may be opened -/
theorem p33d0 {one : Int → x_PR} (H : x_H n t S R) (hs : x_ok n t S R L (d + 1) 34 5 (x_cmp (S 21) (S 19 5) one)) : x_ok n t S R L (d + 2) 33 5 (x_not (S 21) one (S 19 5) x_no) := by
  intro now sz c e Q ha hb hc hd
  obtain ⟨hn, ht, hR0, hR1, -⟩ := id H
  have hw := x_Hw H ha hb
  by_cases h : S 21 now = 5
  · have hL : x_not (S 21) one (S 19 5) x_no now = (false, now, []) := by rw [x_not, if_pos h]; rfl
    rw [hL]
    refine ⟨⟨Int.le_refl _, hb⟩, ?_⟩
    simp (disch := omega) only [c33, s33_0, s33_1, s33_2, s33_3, s33_4, s33_5, s33_6, s33_7, s33_8, s33_9, s33_10, s33_11, s33_12, s33_13, s33_14, s33_15, s33_16, s33_17, s33_18, s33_19, s33_20, s33_21, s33_22, s33_23, s33_24, s33_25, s33_26, ↓reduceIte, Bool.true_eq_false, Bool.false_eq_true, ip_rfS, true_or, or_true, true_and, and_true, Option.toList_some, Option.toList_none, List.cons_append, List.nil_append, ip_fxn, ip_fxi, ip_fxr, ip_fxl, ip_wid, ip_n998, ip_lt900, iO24, ip_n998, rs_tok, hw, h, x_sz0, x_wr0, show ¬ (5 : Int) < 5 by omega, show k_n false = 0 from rfl]
  · have hL : x_not (S 21) one (S 19 5) x_no now = x_cmp (S 21) (S 19 5) one now := by rw [x_not, if_neg h]
    rw [hL]
    obtain ⟨hz1, hz2⟩ := hs now sz c e (fun v n' S' R' L' => ip_wp (d + 1) 33 7 [some (.ref 24), some (vi 5), none] (v.toList ++ []) n' S' R' L' Q) ha hb hc hd
    refine ⟨hz1, ?_⟩
    simp (disch := omega) only [c33, s33_0, s33_1, s33_2, s33_3, s33_4, s33_5, s33_6, s33_7, s33_8, s33_9, s33_10, s33_11, s33_12, s33_13, s33_14, s33_15, s33_16, s33_17, s33_18, s33_19, s33_20, s33_21, s33_22, s33_23, s33_24, s33_25, s33_26, ↓reduceIte, Bool.true_eq_false, Bool.false_eq_true, ip_rfS, true_or, or_true, true_and, and_true, Option.toList_some, Option.toList_none, List.cons_append, List.nil_append, ip_fxn, ip_fxi, ip_fxr, ip_fxl, ip_wid, ip_n998, ip_lt900, iO24, ip_n998, rs_tok, hw, h, hz2, k_n2]
theorem p33d {one nt : Int → x_PR} (ho : 0 ≤ op) (ho2 : op < 5) (H : x_H n t S R) (hs : x_ok n t S R L (d + 1) 34 op (x_cmp (S 21) (S 19 5) one)) (hp : x_ok n t S R L (d + 1) 33 (op + 1) nt) : x_ok n t S R L (d + 2) 33 op (x_not (S 21) one (S 19 5) (x_nopn (S 19 5) nt)) := by
  intro now sz c e Q ha hb hc hd
  obtain ⟨hn, ht, hR0, hR1, -⟩ := id H
  have hw := x_Hw H ha hb
  by_cases h : S 21 now = 5
  · have hv := x_advr (now := now) (la := S 19 5) hb
    have hL : x_not (S 21) one (S 19 5) (x_nopn (S 19 5) nt) now = ((nt (x_adv (S 19 5) now)).1, (nt (x_adv (S 19 5) now)).2.1, (nt (x_adv (S 19 5) now)).2.2 ++ [-12]) := by rw [x_not, if_pos h]; rfl
    rw [hL]
    obtain ⟨hz1, hz2⟩ := hp (x_adv (S 19 5) now) sz c e (fun v n' S' R' L' => ip_wp (d + 1) 33 20 [some (.ref 24), some (vi op), none] (v.toList ++ []) n' S' R' L' Q) (by unfold x_in at hv; omega) hv.2 hc hd
    have hsr := x_szr (o := (nt (x_adv (S 19 5) now)).2.2) hc hd
    refine ⟨⟨by dsimp only; unfold x_in at hv hz1; omega, hz1.2⟩, ?_⟩
    simp (disch := omega) only [c33, s33_0, s33_1, s33_2, s33_3, s33_4, s33_5, s33_6, s33_7, s33_8, s33_9, s33_10, s33_11, s33_12, s33_13, s33_14, s33_15, s33_16, s33_17, s33_18, s33_19, s33_20, s33_21, s33_22, s33_23, s33_24, s33_25, s33_26, ↓reduceIte, Bool.true_eq_false, Bool.false_eq_true, ip_rfS, true_or, or_true, true_and, and_true, Option.toList_some, Option.toList_none, List.cons_append, List.nil_append, ip_fxn, ip_fxi, ip_fxr, ip_fxl, ip_wid, ip_n998, ip_lt900, iO24, ip_n998, rs_tok, hw, h, show op < 5 by omega, p30 H, hz2, hR1, iOT, p38 H (v := -12) (ip_wid (by omega) (by omega)), x_szA, x_wrA, ip_lt900, List.append_assoc, k_n1, k_n2, k_n01, k_n0]
  · have hL : x_not (S 21) one (S 19 5) (x_nopn (S 19 5) nt) now = x_cmp (S 21) (S 19 5) one now := by rw [x_not, if_neg h]
    rw [hL]
    obtain ⟨hz1, hz2⟩ := hs now sz c e (fun v n' S' R' L' => ip_wp (d + 1) 33 7 [some (.ref 24), some (vi op), none] (v.toList ++ []) n' S' R' L' Q) ha hb hc hd
    refine ⟨hz1, ?_⟩
    simp (disch := omega) only [c33, s33_0, s33_1, s33_2, s33_3, s33_4, s33_5, s33_6, s33_7, s33_8, s33_9, s33_10, s33_11, s33_12, s33_13, s33_14, s33_15, s33_16, s33_17, s33_18, s33_19, s33_20, s33_21, s33_22, s33_23, s33_24, s33_25, s33_26, ↓reduceIte, Bool.true_eq_false, Bool.false_eq_true, ip_rfS, true_or, or_true, true_and, and_true, Option.toList_some, Option.toList_none, List.cons_append, List.nil_append, ip_fxn, ip_fxi, ip_fxr, ip_fxl, ip_wid, ip_n998, ip_lt900, iO24, ip_n998, rs_tok, hw, h, hz2, k_n2]
theorem p39d {one : Int → x_PR} (H : x_H n t S R) (hs : x_ok n t S R L (d + 1) 37 op one) {now sz : Int} {c e : Int → Int} (ha : 0 ≤ now) (hb : now ≤ S 19 5) (hc : 0 ≤ sz) (hd : sz ≤ 160) :
    x_in (S 19 5) now (one (x_adv (S 19 5) now)).2.1 ∧ ip_wc (d + 2) 39 [.ref 24, vi op] n (k_RS S t now (S 21 now) sz c e) R L Q = Q (some (vi (k_n (one (x_adv (S 19 5) now)).1))) n (k_RS S t (one (x_adv (S 19 5) now)).2.1 (S 21 (one (x_adv (S 19 5) now)).2.1) (x_sz sz ((one (x_adv (S 19 5) now)).2.2 ++ [-11])) (x_wr c sz ((one (x_adv (S 19 5) now)).2.2 ++ [-11])) e) R L := by
  obtain ⟨hn, ht, hR0, hR1, -⟩ := id H
  have hv := x_advr (now := now) (la := S 19 5) hb
  obtain ⟨hz1, hz2⟩ := hs (x_adv (S 19 5) now) sz c e (fun v n' S' R' L' => ip_wp (d + 1) 39 5 [some (.ref 24), some (vi op), none] (v.toList ++ []) n' S' R' L' Q) (by unfold x_in at hv; omega) hv.2 hc hd
  have hsr := x_szr (o := (one (x_adv (S 19 5) now)).2.2) hc hd
  refine ⟨⟨by unfold x_in at hv hz1; omega, hz1.2⟩, ?_⟩
  simp (disch := omega) only [c39, s39_0, s39_1, s39_2, s39_3, s39_4, s39_5, s39_6, s39_7, s39_8, s39_9, s39_10, s39_11, ↓reduceIte, Bool.true_eq_false, Bool.false_eq_true, ip_rfS, true_or, or_true, true_and, and_true, Option.toList_some, Option.toList_none, List.cons_append, List.nil_append, ip_fxn, ip_fxi, ip_fxr, ip_fxl, ip_wid, ip_n998, ip_lt900, iO24, ip_n998, p30 H, hz2, hR1, iOT, p38 H (v := -11) (ip_wid (by omega) (by omega)), x_szA, x_wrA, ip_lt900, List.append_assoc, k_n1, k_n2, k_n01, k_n0]
theorem p40d {ee : Int → x_PR} (H : x_H n t S R) (hs : x_ok n t S R L (d + 1) 31 op ee) {now sz : Int} {c e : Int → Int} (ha : 0 ≤ now) (hb : now ≤ S 19 5) (hc : 0 ≤ sz) (hd : sz ≤ 160) :
    ∀ r : x_PR, r = (if ((ee (x_adv (S 19 5) now)).1 && decide (S 21 (ee (x_adv (S 19 5) now)).2.1 = 41)) = true then (true, x_adv (S 19 5) (ee (x_adv (S 19 5) now)).2.1, (ee (x_adv (S 19 5) now)).2.2) else (false, (ee (x_adv (S 19 5) now)).2.1, (ee (x_adv (S 19 5) now)).2.2)) →
    x_in (S 19 5) now r.2.1 ∧ ip_wc (d + 2) 40 [.ref 24, vi op] n (k_RS S t now (S 21 now) sz c e) R L Q = Q (some (vi (k_n r.1))) n (k_RS S t r.2.1 (S 21 r.2.1) (x_sz sz r.2.2) (x_wr c sz r.2.2) e) R L := by
  intro r hr
  obtain ⟨hn, ht, hR0, hR1, -⟩ := id H
  have hv := x_advr (now := now) (la := S 19 5) hb
  obtain ⟨hz1, hz2⟩ := hs (x_adv (S 19 5) now) sz c e (fun v n' S' R' L' => ip_wp (d + 1) 40 5 [some (.ref 24), some (vi op)] (v.toList ++ []) n' S' R' L' Q) (by unfold x_in at hv; omega) hv.2 hc hd
  have hsr := x_szr (o := (ee (x_adv (S 19 5) now)).2.2) hc hd
  generalize hq : ee (x_adv (S 19 5) now) = q at *
  obtain ⟨ft, nw, o⟩ := q
  dsimp only at hz1 hz2 hsr hr
  have hnw : 0 ≤ nw ∧ nw ≤ S 19 5 := ⟨by unfold x_in at hz1 hv; omega, hz1.2⟩
  have hw := x_Hw H (k := nw) hnw.1 hnw.2
  have hv2 := x_advr (now := nw) (la := S 19 5) hz1.2
  cases ft
  · subst hr
    refine ⟨⟨by simp; unfold x_in at hz1 hv; omega, by simp; exact hz1.2⟩, ?_⟩
    simp (disch := omega) only [c40, s40_0, s40_1, s40_2, s40_3, s40_4, s40_5, s40_6, s40_7, s40_8, s40_9, s40_10, s40_11, s40_12, s40_13, s40_14, s40_15, ↓reduceIte, Bool.true_eq_false, Bool.false_eq_true, ip_rfS, true_or, or_true, true_and, and_true, Option.toList_some, Option.toList_none, List.cons_append, List.nil_append, ip_fxn, ip_fxi, ip_fxr, ip_fxl, ip_wid, ip_n998, ip_lt900, iO24, ip_n998, p30 H, hz2, k_n1, k_n2, k_n01, k_n0, Bool.false_and]
    rfl
  · by_cases h : S 21 nw = 41
    · simp only [h, decide_true, Bool.and_self, if_true] at hr
      subst hr
      refine ⟨⟨by dsimp only; unfold x_in at hz1 hv hv2; omega, hv2.2⟩, ?_⟩
      simp (disch := omega) only [c40, s40_0, s40_1, s40_2, s40_3, s40_4, s40_5, s40_6, s40_7, s40_8, s40_9, s40_10, s40_11, s40_12, s40_13, s40_14, s40_15, ↓reduceIte, Bool.true_eq_false, Bool.false_eq_true, ip_rfS, true_or, or_true, true_and, and_true, Option.toList_some, Option.toList_none, List.cons_append, List.nil_append, ip_fxn, ip_fxi, ip_fxr, ip_fxl, ip_wid, ip_n998, ip_lt900, iO24, ip_n998, p30 H, hz2, rs_tok, hw, h, k_n1, k_n2, k_n01, k_n0]
      rfl
    · simp only [h, decide_false, Bool.and_false, Bool.false_eq_true, if_false] at hr
      subst hr
      refine ⟨⟨by dsimp only; unfold x_in at hz1 hv; omega, hz1.2⟩, ?_⟩
      simp (disch := omega) only [c40, s40_0, s40_1, s40_2, s40_3, s40_4, s40_5, s40_6, s40_7, s40_8, s40_9, s40_10, s40_11, s40_12, s40_13, s40_14, s40_15, ↓reduceIte, Bool.true_eq_false, Bool.false_eq_true, ip_rfS, true_or, or_true, true_and, and_true, Option.toList_some, Option.toList_none, List.cons_append, List.nil_append, ip_fxn, ip_fxi, ip_fxr, ip_fxl, ip_wid, ip_n998, ip_lt900, iO24, ip_n998, p30 H, hz2, rs_tok, hw, h, k_n1, k_n2, k_n01, k_n0]
      rfl
/-- one, of a level: NUMBER or NAME -/
theorem p37w {els : Int → x_PR} (H : x_H n t S R) {now sz : Int} {c e : Int → Int} (ha : 0 ≤ now) (hb : now ≤ S 19 5) (hc : 0 ≤ sz) (hd : sz ≤ 160)
    (he : ¬ S 21 now = 20 → ¬ (6 ≤ S 21 now ∧ S 21 now < 12) → x_in (S 19 5) now (els now).2.1 ∧ ip_wp (d + 1) 37 38 [some (.ref 24), some (vi op)] [] n (k_RS S t now (S 21 now) sz c e) R L Q = Q (some (vi (k_n (els now).1))) n (k_RS S t (els now).2.1 (S 21 (els now).2.1) (x_sz sz (els now).2.2) (x_wr c sz (els now).2.2) e) R L) :
    x_in (S 19 5) now (x_one (S 21) (S 23) (S 19 5) els now).2.1 ∧ ip_wc (d + 2) 37 [.ref 24, vi op] n (k_RS S t now (S 21 now) sz c e) R L Q = Q (some (vi (k_n (x_one (S 21) (S 23) (S 19 5) els now).1))) n (k_RS S t (x_one (S 21) (S 23) (S 19 5) els now).2.1 (S 21 (x_one (S 21) (S 23) (S 19 5) els now).2.1) (x_sz sz (x_one (S 21) (S 23) (S 19 5) els now).2.2) (x_wr c sz (x_one (S 21) (S 23) (S 19 5) els now).2.2) e) R L := by
  obtain ⟨hn, ht, hR0, hR1, hS1, hS2, hS3, -⟩ := id H
  have hw := x_Hw H ha hb
  have hw3 := x_Hv H ha hb
  have hla := H.2.2.2.2.2.2.2.2.2.2.1
  have hv := x_advr (now := now) (la := S 19 5) hb
  by_cases h1 : S 21 now = 20
  · have hL : x_one (S 21) (S 23) (S 19 5) els now = (true, x_adv (S 19 5) now, [S 23 now]) := by rw [x_one, if_pos h1]
    rw [hL]
    refine ⟨hv, ?_⟩
    simp (disch := omega) only [c37, s37_0, s37_1, s37_2, s37_3, s37_4, s37_5, s37_6, s37_7, s37_8, s37_9, s37_10, s37_11, s37_12, s37_13, s37_14, s37_15, s37_16, s37_17, s37_18, s37_19, s37_20, s37_21, s37_22, s37_23, s37_24, s37_25, s37_26, s37_27, s37_28, s37_29, s37_30, s37_31, s37_32, s37_33, s37_34, s37_35, s37_36, s37_37, s37_39, s37_40, s37_41, s37_42, s37_43, s37_44, s37_45, s37_46, s37_47, s37_48, s37_49, s37_50, s37_51, s37_52, s37_53, s37_54, s37_55, s37_56, s37_57, s37_58, s37_59, s37_60, s37_61, s37_62, s37_63, s37_64, s37_65, s37_66, ↓reduceIte, Bool.true_eq_false, Bool.false_eq_true, ip_rfS, true_or, or_true, true_and, and_true, Option.toList_some, Option.toList_none, List.cons_append, List.nil_append, ip_fxn, ip_fxi, ip_fxr, ip_fxl, ip_wid, ip_n998, ip_lt900, iO24, iO19, iA23, ip_n998, rs_tok, rs_now, rs_lo, hw, hw3, h1, hR0, hR1, hS3, p30 H, iOT, p38 H (v := S 23 now) hw3, ip_lt900]
    rfl
  · by_cases h2 : 6 ≤ S 21 now ∧ S 21 now < 12
    · have hL : x_one (S 21) (S 23) (S 19 5) els now = (true, x_adv (S 19 5) now, [-1 - (S 21 now - 6)]) := by rw [x_one, if_neg h1, if_pos h2]
      rw [hL]
      refine ⟨hv, ?_⟩
      simp (disch := omega) only [c37, s37_0, s37_1, s37_2, s37_3, s37_4, s37_5, s37_6, s37_7, s37_8, s37_9, s37_10, s37_11, s37_12, s37_13, s37_14, s37_15, s37_16, s37_17, s37_18, s37_19, s37_20, s37_21, s37_22, s37_23, s37_24, s37_25, s37_26, s37_27, s37_28, s37_29, s37_30, s37_31, s37_32, s37_33, s37_34, s37_35, s37_36, s37_37, s37_39, s37_40, s37_41, s37_42, s37_43, s37_44, s37_45, s37_46, s37_47, s37_48, s37_49, s37_50, s37_51, s37_52, s37_53, s37_54, s37_55, s37_56, s37_57, s37_58, s37_59, s37_60, s37_61, s37_62, s37_63, s37_64, s37_65, s37_66, ↓reduceIte, Bool.true_eq_false, Bool.false_eq_true, ip_rfS, true_or, or_true, true_and, and_true, Option.toList_some, Option.toList_none, List.cons_append, List.nil_append, ip_fxn, ip_fxi, ip_fxr, ip_fxl, ip_wid, ip_n998, ip_lt900, iO24, ip_n998, rs_tok, rs_now, hw, h1, show ¬ S 21 now < 6 by omega, h2.2, hR1, p30 H, iOT, p38 H (v := -1 - (S 21 now - 6)) (ip_wid (by omega) (by omega)), ip_lt900]
      rfl
    · have hL : x_one (S 21) (S 23) (S 19 5) els now = els now := by rw [x_one, if_neg h1, if_neg h2]
      rw [hL]
      obtain ⟨he1, he2⟩ := he h1 h2
      refine ⟨he1, ?_⟩
      by_cases h3 : S 21 now < 6
      · simp (disch := omega) only [c37, s37_0, s37_1, s37_2, s37_3, s37_4, s37_5, s37_6, s37_7, s37_8, s37_9, s37_10, s37_11, s37_12, s37_13, s37_14, s37_15, s37_16, s37_17, s37_18, s37_19, s37_20, s37_21, s37_22, s37_23, s37_24, s37_25, s37_26, s37_27, s37_28, s37_29, s37_30, s37_31, s37_32, s37_33, s37_34, s37_35, s37_36, s37_37, s37_39, s37_40, s37_41, s37_42, s37_43, s37_44, s37_45, s37_46, s37_47, s37_48, s37_49, s37_50, s37_51, s37_52, s37_53, s37_54, s37_55, s37_56, s37_57, s37_58, s37_59, s37_60, s37_61, s37_62, s37_63, s37_64, s37_65, s37_66, ↓reduceIte, Bool.true_eq_false, Bool.false_eq_true, ip_rfS, true_or, or_true, true_and, and_true, Option.toList_some, Option.toList_none, List.cons_append, List.nil_append, ip_fxn, ip_fxi, ip_fxr, ip_fxl, ip_wid, ip_n998, ip_lt900, iO24, ip_n998, rs_tok, rs_now, hw, h1, h3, he2]
      · simp (disch := omega) only [c37, s37_0, s37_1, s37_2, s37_3, s37_4, s37_5, s37_6, s37_7, s37_8, s37_9, s37_10, s37_11, s37_12, s37_13, s37_14, s37_15, s37_16, s37_17, s37_18, s37_19, s37_20, s37_21, s37_22, s37_23, s37_24, s37_25, s37_26, s37_27, s37_28, s37_29, s37_30, s37_31, s37_32, s37_33, s37_34, s37_35, s37_36, s37_37, s37_39, s37_40, s37_41, s37_42, s37_43, s37_44, s37_45, s37_46, s37_47, s37_48, s37_49, s37_50, s37_51, s37_52, s37_53, s37_54, s37_55, s37_56, s37_57, s37_58, s37_59, s37_60, s37_61, s37_62, s37_63, s37_64, s37_65, s37_66, ↓reduceIte, Bool.true_eq_false, Bool.false_eq_true, ip_rfS, true_or, or_true, true_and, and_true, Option.toList_some, Option.toList_none, List.cons_append, List.nil_append, ip_fxn, ip_fxi, ip_fxr, ip_fxl, ip_wid, ip_n998, ip_lt900, iO24, ip_n998, rs_tok, rs_now, hw, h1, h3, show ¬ S 21 now < 12 by omega, he2]
theorem p37d0 (H : x_H n t S R) : x_ok n t S R L (d + 2) 37 5 (x_one (S 21) (S 23) (S 19 5) x_no) := by
  intro now sz c e Q ha hb hc hd
  refine p37w H ha hb hc hd (fun _ _ => ⟨⟨Int.le_refl _, hb⟩, ?_⟩)
  rw [s37_38]
  simp (disch := omega) only [s37_0, s37_1, s37_2, s37_3, s37_4, s37_5, s37_6, s37_7, s37_8, s37_9, s37_10, s37_11, s37_12, s37_13, s37_14, s37_15, s37_16, s37_17, s37_18, s37_19, s37_20, s37_21, s37_22, s37_23, s37_24, s37_25, s37_26, s37_27, s37_28, s37_29, s37_30, s37_31, s37_32, s37_33, s37_34, s37_35, s37_36, s37_37, s37_39, s37_40, s37_41, s37_42, s37_43, s37_44, s37_45, s37_46, s37_47, s37_48, s37_49, s37_50, s37_51, s37_52, s37_53, s37_54, s37_55, s37_56, s37_57, s37_58, s37_59, s37_60, s37_61, s37_62, s37_63, s37_64, s37_65, s37_66, ↓reduceIte, Bool.true_eq_false, Bool.false_eq_true, ip_rfS, true_or, or_true, true_and, and_true, Option.toList_some, Option.toList_none, List.cons_append, List.nil_append, ip_fxn, ip_fxi, ip_fxr, ip_fxl, ip_wid, ip_n998, ip_lt900, x_no, x_sz0, x_wr0, show ¬ (5 : Int) < 5 by omega]
  rfl
theorem p37d {one ee : Int → x_PR} (ho : 0 ≤ op) (ho2 : op < 5) (H : x_H n t S R) (h1 : x_ok n t S R L (d + 1) 37 (op + 1) one) (h2 : x_ok n t S R L (d + 1) 31 (op + 1) ee) : x_ok n t S R L (d + 3) 37 op (x_one (S 21) (S 23) (S 19 5) (x_opn (S 21) (S 19 5) one ee)) := by
  intro now sz c e Q ha hb hc hd
  refine p37w (d := d + 1) H ha hb hc hd (fun _ _ => ?_)
  obtain ⟨hn, ht, hR0, hR1, -⟩ := id H
  have hw := x_Hw H ha hb
  rw [s37_38]
  by_cases h3 : S 21 now = 45
  · have hL : x_opn (S 21) (S 19 5) one ee now = ((one (x_adv (S 19 5) now)).1, (one (x_adv (S 19 5) now)).2.1, (one (x_adv (S 19 5) now)).2.2 ++ [-11]) := by rw [x_opn, if_pos h3]
    rw [hL]
    obtain ⟨hz1, hz2⟩ := p39d (Q := fun v n' S' R' L' => ip_wp (d + 2) 37 66 [some (.ref 24), some (vi op)] (v.toList ++ []) n' S' R' L' Q) H h1 (e := e) (c := c) ha hb hc hd
    refine ⟨hz1, ?_⟩
    rw [h3] at hz2 hw
    rw [show d + 1 + 1 = d + 2 from rfl]
    simp (disch := omega) only [s37_0, s37_1, s37_2, s37_3, s37_4, s37_5, s37_6, s37_7, s37_8, s37_9, s37_10, s37_11, s37_12, s37_13, s37_14, s37_15, s37_16, s37_17, s37_18, s37_19, s37_20, s37_21, s37_22, s37_23, s37_24, s37_25, s37_26, s37_27, s37_28, s37_29, s37_30, s37_31, s37_32, s37_33, s37_34, s37_35, s37_36, s37_37, s37_39, s37_40, s37_41, s37_42, s37_43, s37_44, s37_45, s37_46, s37_47, s37_48, s37_49, s37_50, s37_51, s37_52, s37_53, s37_54, s37_55, s37_56, s37_57, s37_58, s37_59, s37_60, s37_61, s37_62, s37_63, s37_64, s37_65, s37_66, ↓reduceIte, Bool.true_eq_false, Bool.false_eq_true, ip_rfS, true_or, or_true, true_and, and_true, Option.toList_some, Option.toList_none, List.cons_append, List.nil_append, ip_fxn, ip_fxi, ip_fxr, ip_fxl, ip_wid, ip_n998, ip_lt900, iO24, ip_n998, rs_tok, hw, h3, show op < 5 by omega, hz2, k_n2]
  · by_cases h4 : S 21 now = 40
    · have hL : x_opn (S 21) (S 19 5) one ee now = (if ((ee (x_adv (S 19 5) now)).1 && decide (S 21 (ee (x_adv (S 19 5) now)).2.1 = 41)) = true then (true, x_adv (S 19 5) (ee (x_adv (S 19 5) now)).2.1, (ee (x_adv (S 19 5) now)).2.2) else (false, (ee (x_adv (S 19 5) now)).2.1, (ee (x_adv (S 19 5) now)).2.2)) := by rw [x_opn, if_neg h3, if_pos h4]
      obtain ⟨hz1, hz2⟩ := p40d (Q := fun v n' S' R' L' => ip_wp (d + 2) 37 62 [some (.ref 24), some (vi op)] (v.toList ++ []) n' S' R' L' Q) H h2 (e := e) (c := c) ha hb hc hd _ hL
      refine ⟨hz1, ?_⟩
      clear hL
      rw [h4] at hz2 hw
      rw [show d + 1 + 1 = d + 2 from rfl]
      simp (disch := omega) only [s37_0, s37_1, s37_2, s37_3, s37_4, s37_5, s37_6, s37_7, s37_8, s37_9, s37_10, s37_11, s37_12, s37_13, s37_14, s37_15, s37_16, s37_17, s37_18, s37_19, s37_20, s37_21, s37_22, s37_23, s37_24, s37_25, s37_26, s37_27, s37_28, s37_29, s37_30, s37_31, s37_32, s37_33, s37_34, s37_35, s37_36, s37_37, s37_39, s37_40, s37_41, s37_42, s37_43, s37_44, s37_45, s37_46, s37_47, s37_48, s37_49, s37_50, s37_51, s37_52, s37_53, s37_54, s37_55, s37_56, s37_57, s37_58, s37_59, s37_60, s37_61, s37_62, s37_63, s37_64, s37_65, s37_66, ↓reduceIte, Bool.true_eq_false, Bool.false_eq_true, ip_rfS, true_or, or_true, true_and, and_true, Option.toList_some, Option.toList_none, List.cons_append, List.nil_append, ip_fxn, ip_fxi, ip_fxr, ip_fxl, ip_wid, ip_n998, ip_lt900, iO24, ip_n998, rs_tok, hw, h3, h4, show ¬ (40 : Int) = 45 by omega, show op < 5 by omega, hz2, k_n1, k_n0]
      cases (x_opn (S 21) (S 19 5) one ee now).1 <;> rfl
    · have hL : x_opn (S 21) (S 19 5) one ee now = (false, now, []) := by rw [x_opn, if_neg h3, if_neg h4]
      rw [hL]
      refine ⟨⟨Int.le_refl _, hb⟩, ?_⟩
      simp (disch := omega) only [s37_0, s37_1, s37_2, s37_3, s37_4, s37_5, s37_6, s37_7, s37_8, s37_9, s37_10, s37_11, s37_12, s37_13, s37_14, s37_15, s37_16, s37_17, s37_18, s37_19, s37_20, s37_21, s37_22, s37_23, s37_24, s37_25, s37_26, s37_27, s37_28, s37_29, s37_30, s37_31, s37_32, s37_33, s37_34, s37_35, s37_36, s37_37, s37_39, s37_40, s37_41, s37_42, s37_43, s37_44, s37_45, s37_46, s37_47, s37_48, s37_49, s37_50, s37_51, s37_52, s37_53, s37_54, s37_55, s37_56, s37_57, s37_58, s37_59, s37_60, s37_61, s37_62, s37_63, s37_64, s37_65, s37_66, ↓reduceIte, Bool.true_eq_false, Bool.false_eq_true, ip_rfS, true_or, or_true, true_and, and_true, Option.toList_some, Option.toList_none, List.cons_append, List.nil_append, ip_fxn, ip_fxi, ip_fxr, ip_fxl, ip_wid, ip_n998, ip_lt900, iO24, ip_n998, rs_tok, hw, h3, h4, show op < 5 by omega, x_sz0, x_wr0]
      rfl
/-- the whole of a level -/
theorem p37L (H : x_H n t S R) : ∀ (l : Nat) (d : Nat), l ≤ 5 → x_ok n t S R L (d + 8 * l + 2) 37 (5 - (l : Int)) (x_lv (S 21) (S 23) (S 19 5) l).1 ∧ x_ok n t S R L (d + 8 * l + 6) 33 (5 - (l : Int)) (x_lv (S 21) (S 23) (S 19 5) l).2
  | 0, d, _ => by
    have h1 : ∀ d, x_ok n t S R L (d + 2) 37 5 (x_lv (S 21) (S 23) (S 19 5) 0).1 := fun d => p37d0 H
    refine ⟨h1 d, ?_⟩
    exact p33d0 (d := d + 4) H (p34d (d := d + 3) H (p35 (d := d + 2) H (p36 (d := d + 1) H (h1 d))))
  | l + 1, d, h => by
    have e : 5 - ((l + 1 : Nat) : Int) + 1 = 5 - (l : Int) := by omega
    have hA : ∀ d, x_ok n t S R L (d + 8 * l + 8 + 2) 37 (5 - ((l + 1 : Nat) : Int)) (x_lv (S 21) (S 23) (S 19 5) (l + 1)).1 := fun d => by
      obtain ⟨-, h2⟩ := p37L H l d (by omega)
      obtain ⟨h1, -⟩ := p37L H l (d + 6) (by omega)
      refine p37d (d := d + 8 * l + 7) (by omega) (by omega) H ?_ ?_
      · rw [e, show d + 8 * l + 7 + 1 = d + 6 + 8 * l + 2 by omega]; exact h1
      · rw [e]; exact p31 (d := d + 8 * l + 6) H (p32 (d := d + 8 * l + 5) H h2)
    have h2' := (p37L H l (d + 7) (by omega)).2
    refine ⟨hA d, ?_⟩
    refine p33d (d := d + 8 * l + 12) (by omega) (by omega) H (p34d (d := d + 8 * l + 11) H (p35 (d := d + 8 * l + 10) H (p36 (d := d + 8 * l + 9) H (hA d)))) ?_
    rw [e, show d + 8 * l + 12 + 1 = d + 7 + 8 * l + 6 by omega]
    exact h2'
end RDV
