/-! the READER: each method writes what the pure reading says -/
def x_in (la now r : Int) : Prop := now ≤ r ∧ r ≤ la
def x_ok (n t : Nat) (S : ip_S) (R : ip_R) (L : ip_S) (dd k : Nat) (op : Int) (f : Int → x_PR) : Prop := ∀ (now sz : Int) (c e : Int → Int) (Q : Option Value → Nat → ip_S → ip_R → ip_S → Prop), 0 ≤ now → now ≤ S 19 5 → 0 ≤ sz → sz ≤ 160 →
  x_in (S 19 5) now (f now).2.1 ∧ ip_wc dd k [.ref 24, vi op] n (k_RS S t now (S 21 now) sz c e) R L Q = Q (some (vi (k_n (f now).1))) n (k_RS S t (f now).2.1 (S 21 (f now).2.1) (x_sz sz (f now).2.2) (x_wr c sz (f now).2.2) e) R L
theorem k_nt : (k_n true = 1) = True := eq_true rfl
theorem k_n01 {p : Bool} {P : Prop} : ((p = false ∨ k_n p = 1) ∧ P) = P := by cases p <;> simp [k_n]
section RDL
variable {d n t : Nat} {S : ip_S} {R : ip_R} {L : ip_S} {Q : Option Value → Nat → ip_S → ip_R → ip_S → Prop} {op : Int}
theorem x_advr {la now : Int} (h : now ≤ la) : x_in la now (x_adv la now) := by unfold x_in x_adv; split <;> omega
theorem x_Hw {k : Int} (H : x_H n t S R) (h0 : 0 ≤ k) (h1 : k ≤ S 19 5) : ip_w (S 21 k) = S 21 k := H.2.2.2.2.2.2.2.2.2.2.2.1 k h0 (by have := H.2.2.2.2.2.2.2.2.2.2.1; omega)
theorem x_Hv {k : Int} (H : x_H n t S R) (h0 : 0 ≤ k) (h1 : k ≤ S 19 5) : ip_w (S 23 k) = S 23 k := H.2.2.2.2.2.2.2.2.2.2.2.2 k h0 (by have := H.2.2.2.2.2.2.2.2.2.2.1; omega)

theorem p36l {f0 : Int → x_PR} (H : x_H n t S R) (hs : x_ok n t S R L (d + 1) 37 op f0) : ∀ (f : Nat) (i : Int) (ft : Bool) (now sz : Int) (c e : Int → Int), 160 - i = f → 0 ≤ i → 0 ≤ now → now ≤ S 19 5 → 0 ≤ sz → sz ≤ 160 →
    x_in (S 19 5) now (x_loop (S 21) (S 19 5) (x_is 42) (fun _ => -23) f0 f ft now).2.1 ∧
    ip_wp (d + 1) 36 6 [some (.ref 24), some (vi op), some (vi (k_n ft)), some (vi i)] [] n (k_RS S t now (S 21 now) sz c e) R L Q =
      Q (some (vi (k_n (x_loop (S 21) (S 19 5) (x_is 42) (fun _ => -23) f0 f ft now).1))) n (k_RS S t (x_loop (S 21) (S 19 5) (x_is 42) (fun _ => -23) f0 f ft now).2.1 (S 21 (x_loop (S 21) (S 19 5) (x_is 42) (fun _ => -23) f0 f ft now).2.1) (x_sz sz (x_loop (S 21) (S 19 5) (x_is 42) (fun _ => -23) f0 f ft now).2.2) (x_wr c sz (x_loop (S 21) (S 19 5) (x_is 42) (fun _ => -23) f0 f ft now).2.2) e) R L
  | 0, i, ft, now, sz, c, e, h, hi, ha, hb, hc, hd => by
    refine ⟨⟨Int.le_refl _, hb⟩, ?_⟩
    rw [s36_6]
    simp (disch := omega) only [s36_0, s36_1, s36_2, s36_3, s36_4, s36_5, s36_7, s36_8, s36_9, s36_10, s36_11, s36_12, s36_13, s36_14, s36_15, s36_16, s36_17, s36_18, s36_19, s36_20, s36_21, s36_22, s36_23, s36_24, s36_25, s36_26, s36_27, s36_28, ↓reduceIte, Bool.true_eq_false, Bool.false_eq_true, ip_rfS, true_or, or_true, true_and, and_true, Option.toList_some, Option.toList_none, List.cons_append, List.nil_append, ip_fxn, ip_fxi, ip_fxr, ip_fxl, ip_wid, ip_n998, ip_lt900, show ¬ i < 160 by omega, x_loop, x_sz0, x_wr0, k_n1, k_n0, k_n2, k_nt, k_n01, false_or]
  | f + 1, i, ft, now, sz, c, e, h, hi, ha, hb, hc, hd => by
    have hw := x_Hw H ha hb
    obtain ⟨hn, ht, hR0, hR1, -⟩ := id H
    cases hq : (ft && x_is 42 (S 21 now))
    · have hL : x_loop (S 21) (S 19 5) (x_is 42) (fun _ => -23) f0 (f + 1) ft now = (ft, now, []) := by rw [x_loop, hq]; exact if_neg (by decide)
      rw [hL]
      refine ⟨⟨Int.le_refl _, hb⟩, ?_⟩
      rw [s36_6]
      cases ft
      · simp (disch := omega) only [s36_0, s36_1, s36_2, s36_3, s36_4, s36_5, s36_7, s36_8, s36_9, s36_10, s36_11, s36_12, s36_13, s36_14, s36_15, s36_16, s36_17, s36_18, s36_19, s36_20, s36_21, s36_22, s36_23, s36_24, s36_25, s36_26, s36_27, s36_28, ↓reduceIte, Bool.true_eq_false, Bool.false_eq_true, ip_rfS, true_or, or_true, true_and, and_true, Option.toList_some, Option.toList_none, List.cons_append, List.nil_append, ip_fxn, ip_fxi, ip_fxr, ip_fxl, ip_wid, ip_n998, ip_lt900, show i < 160 by omega, x_sz0, x_wr0, k_n1, k_n0, k_n2, k_nt, k_n01, false_or]
      · have hq2 : ¬ S 21 now = 42 := by
          intro z; simp [x_is, x_pm, z] at hq
        simp (disch := omega) only [s36_0, s36_1, s36_2, s36_3, s36_4, s36_5, s36_7, s36_8, s36_9, s36_10, s36_11, s36_12, s36_13, s36_14, s36_15, s36_16, s36_17, s36_18, s36_19, s36_20, s36_21, s36_22, s36_23, s36_24, s36_25, s36_26, s36_27, s36_28, ↓reduceIte, Bool.true_eq_false, Bool.false_eq_true, ip_rfS, true_or, or_true, true_and, and_true, Option.toList_some, Option.toList_none, List.cons_append, List.nil_append, ip_fxn, ip_fxi, ip_fxr, ip_fxl, ip_wid, ip_n998, ip_lt900, show i < 160 by omega, x_sz0, x_wr0, rs_tok, iO24, ip_n998, hw, hq2, k_n1, k_n0, k_n2, k_nt, k_n01, false_or]
    · have hft : ft = true := by cases ft <;> simp at hq ⊢
      subst hft
      have hq2 : S 21 now = 42 := by simpa [x_is, x_pm] using hq
      have hv := x_advr (now := now) (la := S 19 5) hb
      obtain ⟨hz1, hz2⟩ := hs (x_adv (S 19 5) now) sz c e (fun v n' S' R' L' => ip_wp (d + 1) 36 20 [some (.ref 24), some (vi op), some (vi (k_n true)), some (vi i)] (v.toList ++ []) n' S' R' L' Q) (by unfold x_in at hv; omega) hv.2 hc hd
      have hsr := x_szr (o := (f0 (x_adv (S 19 5) now)).2.2) hc hd
      have hsr2 := x_szr (o := [-23]) hsr.1 hsr.2
      obtain ⟨hy1, hy2⟩ := p36l H hs f (i + 1) (f0 (x_adv (S 19 5) now)).1 (f0 (x_adv (S 19 5) now)).2.1 (x_sz (x_sz sz (f0 (x_adv (S 19 5) now)).2.2) [-23]) (x_wr (x_wr c sz (f0 (x_adv (S 19 5) now)).2.2) (x_sz sz (f0 (x_adv (S 19 5) now)).2.2) [-23]) e (by omega) (by omega) (by unfold x_in at hv hz1; omega) hz1.2 hsr2.1 hsr2.2
      have hL : x_loop (S 21) (S 19 5) (x_is 42) (fun _ => -23) f0 (f + 1) true now = ((x_loop (S 21) (S 19 5) (x_is 42) (fun _ => -23) f0 f (f0 (x_adv (S 19 5) now)).1 (f0 (x_adv (S 19 5) now)).2.1).1, (x_loop (S 21) (S 19 5) (x_is 42) (fun _ => -23) f0 f (f0 (x_adv (S 19 5) now)).1 (f0 (x_adv (S 19 5) now)).2.1).2.1, (f0 (x_adv (S 19 5) now)).2.2 ++ -23 :: (x_loop (S 21) (S 19 5) (x_is 42) (fun _ => -23) f0 f (f0 (x_adv (S 19 5) now)).1 (f0 (x_adv (S 19 5) now)).2.1).2.2) := by rw [x_loop, hq]; exact if_pos rfl
      rw [hL]
      refine ⟨⟨by dsimp only; unfold x_in at hv hz1 hy1; omega, hy1.2⟩, ?_⟩
      simp (disch := omega) only [x_szA, x_wrA, List.append_assoc, ↓reduceIte, Bool.true_eq_false, Bool.false_eq_true, ip_rfS, true_or, or_true, true_and, and_true, Option.toList_some, Option.toList_none, List.cons_append, List.nil_append, ip_fxn, ip_fxi, ip_fxr, ip_fxl, ip_wid, ip_n998, ip_lt900] at hy2
      rw [s36_6]
      simp (disch := omega) only [s36_0, s36_1, s36_2, s36_3, s36_4, s36_5, s36_7, s36_8, s36_9, s36_10, s36_11, s36_12, s36_13, s36_14, s36_15, s36_16, s36_17, s36_18, s36_19, s36_20, s36_21, s36_22, s36_23, s36_24, s36_25, s36_26, s36_27, s36_28, ↓reduceIte, Bool.true_eq_false, Bool.false_eq_true, ip_rfS, true_or, or_true, true_and, and_true, Option.toList_some, Option.toList_none, List.cons_append, List.nil_append, ip_fxn, ip_fxi, ip_fxr, ip_fxl, ip_wid, ip_n998, ip_lt900, show i < 160 by omega, rs_tok, iO24, ip_n998, hw, hq2, p30 H, hz2, hR1, iOT, p38 H (v := -23) (ip_wid (by omega) (by omega)), x_szA, x_wrA, ip_lt900, List.append_assoc, hy2, k_n1, k_n0, k_n2, k_nt, k_n01, false_or]

theorem p36 {f0 : Int → x_PR} (H : x_H n t S R) (hs : x_ok n t S R L (d + 1) 37 op f0) : x_ok n t S R L (d + 2) 36 op (x_rep (S 21) (S 19 5) (x_is 42) (fun _ => -23) f0) := by
  intro now sz c e Q ha hb hc hd
  obtain ⟨hn, ht, hR0, hR1, -⟩ := id H
  obtain ⟨hz1, hz2⟩ := hs now sz c e (fun v n S R L => ip_wp (d + 1) 36 3 [some (.ref 24), some (vi op), none, none] (v.toList ++ []) n S R L Q) ha hb hc hd
  have hsr := x_szr (o := (f0 now).2.2) hc hd
  obtain ⟨hy1, hy2⟩ := p36l (Q := Q) H hs 160 0 (f0 now).1 (f0 now).2.1 (x_sz sz (f0 now).2.2) (x_wr c sz (f0 now).2.2) e (by omega) (by omega) (by unfold x_in at hz1; omega) hz1.2 hsr.1 hsr.2
  refine ⟨⟨by unfold x_rep x_in at *; dsimp only; omega, hy1.2⟩, ?_⟩
  simp (disch := omega) only [x_szA, x_wrA, List.append_assoc, ↓reduceIte, Bool.true_eq_false, Bool.false_eq_true, ip_rfS, true_or, or_true, true_and, and_true, Option.toList_some, Option.toList_none, List.cons_append, List.nil_append, ip_fxn, ip_fxi, ip_fxr, ip_fxl, ip_wid, ip_n998, ip_lt900] at hy2
  simp (disch := omega) only [c36, s36_0, s36_1, s36_2, s36_3, s36_4, s36_5, ↓reduceIte, Bool.true_eq_false, Bool.false_eq_true, ip_rfS, true_or, or_true, true_and, and_true, Option.toList_some, Option.toList_none, List.cons_append, List.nil_append, ip_fxn, ip_fxi, ip_fxr, ip_fxl, ip_wid, ip_n998, ip_lt900, iO24, ip_n998, hz2, hy2, x_rep]

theorem p32l {f0 : Int → x_PR} (H : x_H n t S R) (hs : x_ok n t S R L (d + 1) 33 op f0) : ∀ (f : Nat) (i : Int) (ft : Bool) (now sz : Int) (c e : Int → Int), 160 - i = f → 0 ≤ i → 0 ≤ now → now ≤ S 19 5 → 0 ≤ sz → sz ≤ 160 →
    x_in (S 19 5) now (x_loop (S 21) (S 19 5) (x_is 4) (fun _ => -26) f0 f ft now).2.1 ∧
    ip_wp (d + 1) 32 6 [some (.ref 24), some (vi op), some (vi (k_n ft)), some (vi i)] [] n (k_RS S t now (S 21 now) sz c e) R L Q =
      Q (some (vi (k_n (x_loop (S 21) (S 19 5) (x_is 4) (fun _ => -26) f0 f ft now).1))) n (k_RS S t (x_loop (S 21) (S 19 5) (x_is 4) (fun _ => -26) f0 f ft now).2.1 (S 21 (x_loop (S 21) (S 19 5) (x_is 4) (fun _ => -26) f0 f ft now).2.1) (x_sz sz (x_loop (S 21) (S 19 5) (x_is 4) (fun _ => -26) f0 f ft now).2.2) (x_wr c sz (x_loop (S 21) (S 19 5) (x_is 4) (fun _ => -26) f0 f ft now).2.2) e) R L
  | 0, i, ft, now, sz, c, e, h, hi, ha, hb, hc, hd => by
    refine ⟨⟨Int.le_refl _, hb⟩, ?_⟩
    rw [s32_6]
    simp (disch := omega) only [s32_0, s32_1, s32_2, s32_3, s32_4, s32_5, s32_7, s32_8, s32_9, s32_10, s32_11, s32_12, s32_13, s32_14, s32_15, s32_16, s32_17, s32_18, s32_19, s32_20, s32_21, s32_22, s32_23, s32_24, s32_25, s32_26, s32_27, s32_28, ↓reduceIte, Bool.true_eq_false, Bool.false_eq_true, ip_rfS, true_or, or_true, true_and, and_true, Option.toList_some, Option.toList_none, List.cons_append, List.nil_append, ip_fxn, ip_fxi, ip_fxr, ip_fxl, ip_wid, ip_n998, ip_lt900, show ¬ i < 160 by omega, x_loop, x_sz0, x_wr0, k_n1, k_n0, k_n2, k_nt, k_n01, false_or]
  | f + 1, i, ft, now, sz, c, e, h, hi, ha, hb, hc, hd => by
    have hw := x_Hw H ha hb
    obtain ⟨hn, ht, hR0, hR1, -⟩ := id H
    cases hq : (ft && x_is 4 (S 21 now))
    · have hL : x_loop (S 21) (S 19 5) (x_is 4) (fun _ => -26) f0 (f + 1) ft now = (ft, now, []) := by rw [x_loop, hq]; exact if_neg (by decide)
      rw [hL]
      refine ⟨⟨Int.le_refl _, hb⟩, ?_⟩
      rw [s32_6]
      cases ft
      · simp (disch := omega) only [s32_0, s32_1, s32_2, s32_3, s32_4, s32_5, s32_7, s32_8, s32_9, s32_10, s32_11, s32_12, s32_13, s32_14, s32_15, s32_16, s32_17, s32_18, s32_19, s32_20, s32_21, s32_22, s32_23, s32_24, s32_25, s32_26, s32_27, s32_28, ↓reduceIte, Bool.true_eq_false, Bool.false_eq_true, ip_rfS, true_or, or_true, true_and, and_true, Option.toList_some, Option.toList_none, List.cons_append, List.nil_append, ip_fxn, ip_fxi, ip_fxr, ip_fxl, ip_wid, ip_n998, ip_lt900, show i < 160 by omega, x_sz0, x_wr0, k_n1, k_n0, k_n2, k_nt, k_n01, false_or]
      · have hq2 : ¬ S 21 now = 4 := by
          intro z; simp [x_is, x_pm, z] at hq
        simp (disch := omega) only [s32_0, s32_1, s32_2, s32_3, s32_4, s32_5, s32_7, s32_8, s32_9, s32_10, s32_11, s32_12, s32_13, s32_14, s32_15, s32_16, s32_17, s32_18, s32_19, s32_20, s32_21, s32_22, s32_23, s32_24, s32_25, s32_26, s32_27, s32_28, ↓reduceIte, Bool.true_eq_false, Bool.false_eq_true, ip_rfS, true_or, or_true, true_and, and_true, Option.toList_some, Option.toList_none, List.cons_append, List.nil_append, ip_fxn, ip_fxi, ip_fxr, ip_fxl, ip_wid, ip_n998, ip_lt900, show i < 160 by omega, x_sz0, x_wr0, rs_tok, iO24, ip_n998, hw, hq2, k_n1, k_n0, k_n2, k_nt, k_n01, false_or]
    · have hft : ft = true := by cases ft <;> simp at hq ⊢
      subst hft
      have hq2 : S 21 now = 4 := by simpa [x_is, x_pm] using hq
      have hv := x_advr (now := now) (la := S 19 5) hb
      obtain ⟨hz1, hz2⟩ := hs (x_adv (S 19 5) now) sz c e (fun v n' S' R' L' => ip_wp (d + 1) 32 20 [some (.ref 24), some (vi op), some (vi (k_n true)), some (vi i)] (v.toList ++ []) n' S' R' L' Q) (by unfold x_in at hv; omega) hv.2 hc hd
      have hsr := x_szr (o := (f0 (x_adv (S 19 5) now)).2.2) hc hd
      have hsr2 := x_szr (o := [-26]) hsr.1 hsr.2
      obtain ⟨hy1, hy2⟩ := p32l H hs f (i + 1) (f0 (x_adv (S 19 5) now)).1 (f0 (x_adv (S 19 5) now)).2.1 (x_sz (x_sz sz (f0 (x_adv (S 19 5) now)).2.2) [-26]) (x_wr (x_wr c sz (f0 (x_adv (S 19 5) now)).2.2) (x_sz sz (f0 (x_adv (S 19 5) now)).2.2) [-26]) e (by omega) (by omega) (by unfold x_in at hv hz1; omega) hz1.2 hsr2.1 hsr2.2
      have hL : x_loop (S 21) (S 19 5) (x_is 4) (fun _ => -26) f0 (f + 1) true now = ((x_loop (S 21) (S 19 5) (x_is 4) (fun _ => -26) f0 f (f0 (x_adv (S 19 5) now)).1 (f0 (x_adv (S 19 5) now)).2.1).1, (x_loop (S 21) (S 19 5) (x_is 4) (fun _ => -26) f0 f (f0 (x_adv (S 19 5) now)).1 (f0 (x_adv (S 19 5) now)).2.1).2.1, (f0 (x_adv (S 19 5) now)).2.2 ++ -26 :: (x_loop (S 21) (S 19 5) (x_is 4) (fun _ => -26) f0 f (f0 (x_adv (S 19 5) now)).1 (f0 (x_adv (S 19 5) now)).2.1).2.2) := by rw [x_loop, hq]; exact if_pos rfl
      rw [hL]
      refine ⟨⟨by dsimp only; unfold x_in at hv hz1 hy1; omega, hy1.2⟩, ?_⟩
      simp (disch := omega) only [x_szA, x_wrA, List.append_assoc, ↓reduceIte, Bool.true_eq_false, Bool.false_eq_true, ip_rfS, true_or, or_true, true_and, and_true, Option.toList_some, Option.toList_none, List.cons_append, List.nil_append, ip_fxn, ip_fxi, ip_fxr, ip_fxl, ip_wid, ip_n998, ip_lt900] at hy2
      rw [s32_6]
      simp (disch := omega) only [s32_0, s32_1, s32_2, s32_3, s32_4, s32_5, s32_7, s32_8, s32_9, s32_10, s32_11, s32_12, s32_13, s32_14, s32_15, s32_16, s32_17, s32_18, s32_19, s32_20, s32_21, s32_22, s32_23, s32_24, s32_25, s32_26, s32_27, s32_28, ↓reduceIte, Bool.true_eq_false, Bool.false_eq_true, ip_rfS, true_or, or_true, true_and, and_true, Option.toList_some, Option.toList_none, List.cons_append, List.nil_append, ip_fxn, ip_fxi, ip_fxr, ip_fxl, ip_wid, ip_n998, ip_lt900, show i < 160 by omega, rs_tok, iO24, ip_n998, hw, hq2, p30 H, hz2, hR1, iOT, p38 H (v := -26) (ip_wid (by omega) (by omega)), x_szA, x_wrA, ip_lt900, List.append_assoc, hy2, k_n1, k_n0, k_n2, k_nt, k_n01, false_or]

theorem p32 {f0 : Int → x_PR} (H : x_H n t S R) (hs : x_ok n t S R L (d + 1) 33 op f0) : x_ok n t S R L (d + 2) 32 op (x_rep (S 21) (S 19 5) (x_is 4) (fun _ => -26) f0) := by
  intro now sz c e Q ha hb hc hd
  obtain ⟨hn, ht, hR0, hR1, -⟩ := id H
  obtain ⟨hz1, hz2⟩ := hs now sz c e (fun v n S R L => ip_wp (d + 1) 32 3 [some (.ref 24), some (vi op), none, none] (v.toList ++ []) n S R L Q) ha hb hc hd
  have hsr := x_szr (o := (f0 now).2.2) hc hd
  obtain ⟨hy1, hy2⟩ := p32l (Q := Q) H hs 160 0 (f0 now).1 (f0 now).2.1 (x_sz sz (f0 now).2.2) (x_wr c sz (f0 now).2.2) e (by omega) (by omega) (by unfold x_in at hz1; omega) hz1.2 hsr.1 hsr.2
  refine ⟨⟨by unfold x_rep x_in at *; dsimp only; omega, hy1.2⟩, ?_⟩
  simp (disch := omega) only [x_szA, x_wrA, List.append_assoc, ↓reduceIte, Bool.true_eq_false, Bool.false_eq_true, ip_rfS, true_or, or_true, true_and, and_true, Option.toList_some, Option.toList_none, List.cons_append, List.nil_append, ip_fxn, ip_fxi, ip_fxr, ip_fxl, ip_wid, ip_n998, ip_lt900] at hy2
  simp (disch := omega) only [c32, s32_0, s32_1, s32_2, s32_3, s32_4, s32_5, ↓reduceIte, Bool.true_eq_false, Bool.false_eq_true, ip_rfS, true_or, or_true, true_and, and_true, Option.toList_some, Option.toList_none, List.cons_append, List.nil_append, ip_fxn, ip_fxi, ip_fxr, ip_fxl, ip_wid, ip_n998, ip_lt900, iO24, ip_n998, hz2, hy2, x_rep]

theorem p31l {f0 : Int → x_PR} (H : x_H n t S R) (hs : x_ok n t S R L (d + 1) 32 op f0) : ∀ (f : Nat) (i : Int) (ft : Bool) (now sz : Int) (c e : Int → Int), 160 - i = f → 0 ≤ i → 0 ≤ now → now ≤ S 19 5 → 0 ≤ sz → sz ≤ 160 →
    x_in (S 19 5) now (x_loop (S 21) (S 19 5) (x_is 3) (fun _ => -27) f0 f ft now).2.1 ∧
    ip_wp (d + 1) 31 6 [some (.ref 24), some (vi op), some (vi (k_n ft)), some (vi i)] [] n (k_RS S t now (S 21 now) sz c e) R L Q =
      Q (some (vi (k_n (x_loop (S 21) (S 19 5) (x_is 3) (fun _ => -27) f0 f ft now).1))) n (k_RS S t (x_loop (S 21) (S 19 5) (x_is 3) (fun _ => -27) f0 f ft now).2.1 (S 21 (x_loop (S 21) (S 19 5) (x_is 3) (fun _ => -27) f0 f ft now).2.1) (x_sz sz (x_loop (S 21) (S 19 5) (x_is 3) (fun _ => -27) f0 f ft now).2.2) (x_wr c sz (x_loop (S 21) (S 19 5) (x_is 3) (fun _ => -27) f0 f ft now).2.2) e) R L
  | 0, i, ft, now, sz, c, e, h, hi, ha, hb, hc, hd => by
    refine ⟨⟨Int.le_refl _, hb⟩, ?_⟩
    rw [s31_6]
    simp (disch := omega) only [s31_0, s31_1, s31_2, s31_3, s31_4, s31_5, s31_7, s31_8, s31_9, s31_10, s31_11, s31_12, s31_13, s31_14, s31_15, s31_16, s31_17, s31_18, s31_19, s31_20, s31_21, s31_22, s31_23, s31_24, s31_25, s31_26, s31_27, s31_28, ↓reduceIte, Bool.true_eq_false, Bool.false_eq_true, ip_rfS, true_or, or_true, true_and, and_true, Option.toList_some, Option.toList_none, List.cons_append, List.nil_append, ip_fxn, ip_fxi, ip_fxr, ip_fxl, ip_wid, ip_n998, ip_lt900, show ¬ i < 160 by omega, x_loop, x_sz0, x_wr0, k_n1, k_n0, k_n2, k_nt, k_n01, false_or]
  | f + 1, i, ft, now, sz, c, e, h, hi, ha, hb, hc, hd => by
    have hw := x_Hw H ha hb
    obtain ⟨hn, ht, hR0, hR1, -⟩ := id H
    cases hq : (ft && x_is 3 (S 21 now))
    · have hL : x_loop (S 21) (S 19 5) (x_is 3) (fun _ => -27) f0 (f + 1) ft now = (ft, now, []) := by rw [x_loop, hq]; exact if_neg (by decide)
      rw [hL]
      refine ⟨⟨Int.le_refl _, hb⟩, ?_⟩
      rw [s31_6]
      cases ft
      · simp (disch := omega) only [s31_0, s31_1, s31_2, s31_3, s31_4, s31_5, s31_7, s31_8, s31_9, s31_10, s31_11, s31_12, s31_13, s31_14, s31_15, s31_16, s31_17, s31_18, s31_19, s31_20, s31_21, s31_22, s31_23, s31_24, s31_25, s31_26, s31_27, s31_28, ↓reduceIte, Bool.true_eq_false, Bool.false_eq_true, ip_rfS, true_or, or_true, true_and, and_true, Option.toList_some, Option.toList_none, List.cons_append, List.nil_append, ip_fxn, ip_fxi, ip_fxr, ip_fxl, ip_wid, ip_n998, ip_lt900, show i < 160 by omega, x_sz0, x_wr0, k_n1, k_n0, k_n2, k_nt, k_n01, false_or]
      · have hq2 : ¬ S 21 now = 3 := by
          intro z; simp [x_is, x_pm, z] at hq
        simp (disch := omega) only [s31_0, s31_1, s31_2, s31_3, s31_4, s31_5, s31_7, s31_8, s31_9, s31_10, s31_11, s31_12, s31_13, s31_14, s31_15, s31_16, s31_17, s31_18, s31_19, s31_20, s31_21, s31_22, s31_23, s31_24, s31_25, s31_26, s31_27, s31_28, ↓reduceIte, Bool.true_eq_false, Bool.false_eq_true, ip_rfS, true_or, or_true, true_and, and_true, Option.toList_some, Option.toList_none, List.cons_append, List.nil_append, ip_fxn, ip_fxi, ip_fxr, ip_fxl, ip_wid, ip_n998, ip_lt900, show i < 160 by omega, x_sz0, x_wr0, rs_tok, iO24, ip_n998, hw, hq2, k_n1, k_n0, k_n2, k_nt, k_n01, false_or]
    · have hft : ft = true := by cases ft <;> simp at hq ⊢
      subst hft
      have hq2 : S 21 now = 3 := by simpa [x_is, x_pm] using hq
      have hv := x_advr (now := now) (la := S 19 5) hb
      obtain ⟨hz1, hz2⟩ := hs (x_adv (S 19 5) now) sz c e (fun v n' S' R' L' => ip_wp (d + 1) 31 20 [some (.ref 24), some (vi op), some (vi (k_n true)), some (vi i)] (v.toList ++ []) n' S' R' L' Q) (by unfold x_in at hv; omega) hv.2 hc hd
      have hsr := x_szr (o := (f0 (x_adv (S 19 5) now)).2.2) hc hd
      have hsr2 := x_szr (o := [-27]) hsr.1 hsr.2
      obtain ⟨hy1, hy2⟩ := p31l H hs f (i + 1) (f0 (x_adv (S 19 5) now)).1 (f0 (x_adv (S 19 5) now)).2.1 (x_sz (x_sz sz (f0 (x_adv (S 19 5) now)).2.2) [-27]) (x_wr (x_wr c sz (f0 (x_adv (S 19 5) now)).2.2) (x_sz sz (f0 (x_adv (S 19 5) now)).2.2) [-27]) e (by omega) (by omega) (by unfold x_in at hv hz1; omega) hz1.2 hsr2.1 hsr2.2
      have hL : x_loop (S 21) (S 19 5) (x_is 3) (fun _ => -27) f0 (f + 1) true now = ((x_loop (S 21) (S 19 5) (x_is 3) (fun _ => -27) f0 f (f0 (x_adv (S 19 5) now)).1 (f0 (x_adv (S 19 5) now)).2.1).1, (x_loop (S 21) (S 19 5) (x_is 3) (fun _ => -27) f0 f (f0 (x_adv (S 19 5) now)).1 (f0 (x_adv (S 19 5) now)).2.1).2.1, (f0 (x_adv (S 19 5) now)).2.2 ++ -27 :: (x_loop (S 21) (S 19 5) (x_is 3) (fun _ => -27) f0 f (f0 (x_adv (S 19 5) now)).1 (f0 (x_adv (S 19 5) now)).2.1).2.2) := by rw [x_loop, hq]; exact if_pos rfl
      rw [hL]
      refine ⟨⟨by dsimp only; unfold x_in at hv hz1 hy1; omega, hy1.2⟩, ?_⟩
      simp (disch := omega) only [x_szA, x_wrA, List.append_assoc, ↓reduceIte, Bool.true_eq_false, Bool.false_eq_true, ip_rfS, true_or, or_true, true_and, and_true, Option.toList_some, Option.toList_none, List.cons_append, List.nil_append, ip_fxn, ip_fxi, ip_fxr, ip_fxl, ip_wid, ip_n998, ip_lt900] at hy2
      rw [s31_6]
      simp (disch := omega) only [s31_0, s31_1, s31_2, s31_3, s31_4, s31_5, s31_7, s31_8, s31_9, s31_10, s31_11, s31_12, s31_13, s31_14, s31_15, s31_16, s31_17, s31_18, s31_19, s31_20, s31_21, s31_22, s31_23, s31_24, s31_25, s31_26, s31_27, s31_28, ↓reduceIte, Bool.true_eq_false, Bool.false_eq_true, ip_rfS, true_or, or_true, true_and, and_true, Option.toList_some, Option.toList_none, List.cons_append, List.nil_append, ip_fxn, ip_fxi, ip_fxr, ip_fxl, ip_wid, ip_n998, ip_lt900, show i < 160 by omega, rs_tok, iO24, ip_n998, hw, hq2, p30 H, hz2, hR1, iOT, p38 H (v := -27) (ip_wid (by omega) (by omega)), x_szA, x_wrA, ip_lt900, List.append_assoc, hy2, k_n1, k_n0, k_n2, k_nt, k_n01, false_or]

theorem p31 {f0 : Int → x_PR} (H : x_H n t S R) (hs : x_ok n t S R L (d + 1) 32 op f0) : x_ok n t S R L (d + 2) 31 op (x_rep (S 21) (S 19 5) (x_is 3) (fun _ => -27) f0) := by
  intro now sz c e Q ha hb hc hd
  obtain ⟨hn, ht, hR0, hR1, -⟩ := id H
  obtain ⟨hz1, hz2⟩ := hs now sz c e (fun v n S R L => ip_wp (d + 1) 31 3 [some (.ref 24), some (vi op), none, none] (v.toList ++ []) n S R L Q) ha hb hc hd
  have hsr := x_szr (o := (f0 now).2.2) hc hd
  obtain ⟨hy1, hy2⟩ := p31l (Q := Q) H hs 160 0 (f0 now).1 (f0 now).2.1 (x_sz sz (f0 now).2.2) (x_wr c sz (f0 now).2.2) e (by omega) (by omega) (by unfold x_in at hz1; omega) hz1.2 hsr.1 hsr.2
  refine ⟨⟨by unfold x_rep x_in at *; dsimp only; omega, hy1.2⟩, ?_⟩
  simp (disch := omega) only [x_szA, x_wrA, List.append_assoc, ↓reduceIte, Bool.true_eq_false, Bool.false_eq_true, ip_rfS, true_or, or_true, true_and, and_true, Option.toList_some, Option.toList_none, List.cons_append, List.nil_append, ip_fxn, ip_fxi, ip_fxr, ip_fxl, ip_wid, ip_n998, ip_lt900] at hy2
  simp (disch := omega) only [c31, s31_0, s31_1, s31_2, s31_3, s31_4, s31_5, ↓reduceIte, Bool.true_eq_false, Bool.false_eq_true, ip_rfS, true_or, or_true, true_and, and_true, Option.toList_some, Option.toList_none, List.cons_append, List.nil_append, ip_fxn, ip_fxi, ip_fxr, ip_fxl, ip_wid, ip_n998, ip_lt900, iO24, ip_n998, hz2, hy2, x_rep]

theorem p35l {f0 : Int → x_PR} (H : x_H n t S R) (hs : x_ok n t S R L (d + 1) 36 op f0) : ∀ (f : Nat) (i : Int) (ft : Bool) (lo : Option Value) (now sz : Int) (c e : Int → Int), 160 - i = f → 0 ≤ i → 0 ≤ now → now ≤ S 19 5 → 0 ≤ sz → sz ≤ 160 →
    x_in (S 19 5) now (x_loop (S 21) (S 19 5) (x_pm) x_pmc f0 f ft now).2.1 ∧
    ip_wp (d + 1) 35 6 [some (.ref 24), some (vi op), some (vi (k_n ft)), some (vi i), lo] [] n (k_RS S t now (S 21 now) sz c e) R L Q =
      Q (some (vi (k_n (x_loop (S 21) (S 19 5) (x_pm) x_pmc f0 f ft now).1))) n (k_RS S t (x_loop (S 21) (S 19 5) (x_pm) x_pmc f0 f ft now).2.1 (S 21 (x_loop (S 21) (S 19 5) (x_pm) x_pmc f0 f ft now).2.1) (x_sz sz (x_loop (S 21) (S 19 5) (x_pm) x_pmc f0 f ft now).2.2) (x_wr c sz (x_loop (S 21) (S 19 5) (x_pm) x_pmc f0 f ft now).2.2) e) R L
  | 0, i, ft, lo, now, sz, c, e, h, hi, ha, hb, hc, hd => by
    refine ⟨⟨Int.le_refl _, hb⟩, ?_⟩
    rw [s35_6]
    simp (disch := omega) only [s35_0, s35_1, s35_2, s35_3, s35_4, s35_5, s35_7, s35_8, s35_9, s35_10, s35_11, s35_12, s35_13, s35_14, s35_15, s35_16, s35_17, s35_18, s35_19, s35_20, s35_21, s35_22, s35_23, s35_24, s35_25, s35_26, s35_27, s35_28, s35_29, s35_30, s35_31, s35_32, s35_33, s35_34, s35_35, s35_36, s35_37, s35_38, s35_39, s35_40, ↓reduceIte, Bool.true_eq_false, Bool.false_eq_true, ip_rfS, true_or, or_true, true_and, and_true, Option.toList_some, Option.toList_none, List.cons_append, List.nil_append, ip_fxn, ip_fxi, ip_fxr, ip_fxl, ip_wid, ip_n998, ip_lt900, show ¬ i < 160 by omega, x_loop, x_sz0, x_wr0, k_n1, k_n0, k_n2, k_nt, k_n01, false_or]
  | f + 1, i, ft, lo, now, sz, c, e, h, hi, ha, hb, hc, hd => by
    have hw := x_Hw H ha hb
    obtain ⟨hn, ht, hR0, hR1, -⟩ := id H
    cases hq : (ft && x_pm (S 21 now))
    · have hL : x_loop (S 21) (S 19 5) (x_pm) x_pmc f0 (f + 1) ft now = (ft, now, []) := by rw [x_loop, hq]; exact if_neg (by decide)
      rw [hL]
      refine ⟨⟨Int.le_refl _, hb⟩, ?_⟩
      rw [s35_6]
      cases ft
      · simp (disch := omega) only [s35_0, s35_1, s35_2, s35_3, s35_4, s35_5, s35_7, s35_8, s35_9, s35_10, s35_11, s35_12, s35_13, s35_14, s35_15, s35_16, s35_17, s35_18, s35_19, s35_20, s35_21, s35_22, s35_23, s35_24, s35_25, s35_26, s35_27, s35_28, s35_29, s35_30, s35_31, s35_32, s35_33, s35_34, s35_35, s35_36, s35_37, s35_38, s35_39, s35_40, ↓reduceIte, Bool.true_eq_false, Bool.false_eq_true, ip_rfS, true_or, or_true, true_and, and_true, Option.toList_some, Option.toList_none, List.cons_append, List.nil_append, ip_fxn, ip_fxi, ip_fxr, ip_fxl, ip_wid, ip_n998, ip_lt900, show i < 160 by omega, x_sz0, x_wr0, k_n1, k_n0, k_n2, k_nt, k_n01, false_or]
      · have hq2 : ¬ (S 21 now = 43 ∨ S 21 now = 45) := by
          intro z; simp [x_is, x_pm, z] at hq
        simp (disch := omega) only [s35_0, s35_1, s35_2, s35_3, s35_4, s35_5, s35_7, s35_8, s35_9, s35_10, s35_11, s35_12, s35_13, s35_14, s35_15, s35_16, s35_17, s35_18, s35_19, s35_20, s35_21, s35_22, s35_23, s35_24, s35_25, s35_26, s35_27, s35_28, s35_29, s35_30, s35_31, s35_32, s35_33, s35_34, s35_35, s35_36, s35_37, s35_38, s35_39, s35_40, ↓reduceIte, Bool.true_eq_false, Bool.false_eq_true, ip_rfS, true_or, or_true, true_and, and_true, Option.toList_some, Option.toList_none, List.cons_append, List.nil_append, ip_fxn, ip_fxi, ip_fxr, ip_fxl, ip_wid, ip_n998, ip_lt900, show i < 160 by omega, x_sz0, x_wr0, rs_tok, iO24, ip_n998, hw, show ¬ S 21 now = 43 by omega, show ¬ S 21 now = 45 by omega, k_n1, k_n0, k_n2, k_nt, k_n01, false_or]
    · have hft : ft = true := by cases ft <;> simp at hq ⊢
      subst hft
      have hq2 : (S 21 now = 43 ∨ S 21 now = 45) := by simpa [x_is, x_pm] using hq
      have hv := x_advr (now := now) (la := S 19 5) hb
      obtain ⟨hz1, hz2⟩ := hs (x_adv (S 19 5) now) sz c e (fun v n' S' R' L' => ip_wp (d + 1) 35 32 [some (.ref 24), some (vi op), some (vi (k_n true)), some (vi i), some (vi (x_pmc (S 21 now)))] (v.toList ++ []) n' S' R' L' Q) (by unfold x_in at hv; omega) hv.2 hc hd
      have hsr := x_szr (o := (f0 (x_adv (S 19 5) now)).2.2) hc hd
      have hsr2 := x_szr (o := [(x_pmc (S 21 now))]) hsr.1 hsr.2
      obtain ⟨hy1, hy2⟩ := p35l H hs f (i + 1) (f0 (x_adv (S 19 5) now)).1 (some (vi (x_pmc (S 21 now)))) (f0 (x_adv (S 19 5) now)).2.1 (x_sz (x_sz sz (f0 (x_adv (S 19 5) now)).2.2) [(x_pmc (S 21 now))]) (x_wr (x_wr c sz (f0 (x_adv (S 19 5) now)).2.2) (x_sz sz (f0 (x_adv (S 19 5) now)).2.2) [(x_pmc (S 21 now))]) e (by omega) (by omega) (by unfold x_in at hv hz1; omega) hz1.2 hsr2.1 hsr2.2
      have hL : x_loop (S 21) (S 19 5) (x_pm) x_pmc f0 (f + 1) true now = ((x_loop (S 21) (S 19 5) (x_pm) x_pmc f0 f (f0 (x_adv (S 19 5) now)).1 (f0 (x_adv (S 19 5) now)).2.1).1, (x_loop (S 21) (S 19 5) (x_pm) x_pmc f0 f (f0 (x_adv (S 19 5) now)).1 (f0 (x_adv (S 19 5) now)).2.1).2.1, (f0 (x_adv (S 19 5) now)).2.2 ++ (x_pmc (S 21 now)) :: (x_loop (S 21) (S 19 5) (x_pm) x_pmc f0 f (f0 (x_adv (S 19 5) now)).1 (f0 (x_adv (S 19 5) now)).2.1).2.2) := by rw [x_loop, hq]; exact if_pos rfl
      rw [hL]
      refine ⟨⟨by dsimp only; unfold x_in at hv hz1 hy1; omega, hy1.2⟩, ?_⟩
      simp (disch := omega) only [x_szA, x_wrA, List.append_assoc, ↓reduceIte, Bool.true_eq_false, Bool.false_eq_true, ip_rfS, true_or, or_true, true_and, and_true, Option.toList_some, Option.toList_none, List.cons_append, List.nil_append, ip_fxn, ip_fxi, ip_fxr, ip_fxl, ip_wid, ip_n998, ip_lt900] at hy2
      rw [s35_6]
      rcases hq2 with hq2 | hq2
      · have hcd : x_pmc (S 21 now) = -21 := by rw [hq2]; rfl
        simp only [hcd] at hz2 hy2 ⊢
        simp (disch := omega) only [s35_0, s35_1, s35_2, s35_3, s35_4, s35_5, s35_7, s35_8, s35_9, s35_10, s35_11, s35_12, s35_13, s35_14, s35_15, s35_16, s35_17, s35_18, s35_19, s35_20, s35_21, s35_22, s35_23, s35_24, s35_25, s35_26, s35_27, s35_28, s35_29, s35_30, s35_31, s35_32, s35_33, s35_34, s35_35, s35_36, s35_37, s35_38, s35_39, s35_40, ↓reduceIte, Bool.true_eq_false, Bool.false_eq_true, ip_rfS, true_or, or_true, true_and, and_true, Option.toList_some, Option.toList_none, List.cons_append, List.nil_append, ip_fxn, ip_fxi, ip_fxr, ip_fxl, ip_wid, ip_n998, ip_lt900, show i < 160 by omega, rs_tok, iO24, ip_n998, hw, hq2, show ¬ (45 : Int) = 43 by omega, p30 H, hz2, hR1, iOT, p38 H (v := -21) (ip_wid (by omega) (by omega)), x_szA, x_wrA, ip_lt900, List.append_assoc, hy2, k_n1, k_n0, k_n2, k_nt, k_n01, false_or]
      · have hcd : x_pmc (S 21 now) = -22 := by rw [hq2]; rfl
        simp only [hcd] at hz2 hy2 ⊢
        simp (disch := omega) only [s35_0, s35_1, s35_2, s35_3, s35_4, s35_5, s35_7, s35_8, s35_9, s35_10, s35_11, s35_12, s35_13, s35_14, s35_15, s35_16, s35_17, s35_18, s35_19, s35_20, s35_21, s35_22, s35_23, s35_24, s35_25, s35_26, s35_27, s35_28, s35_29, s35_30, s35_31, s35_32, s35_33, s35_34, s35_35, s35_36, s35_37, s35_38, s35_39, s35_40, ↓reduceIte, Bool.true_eq_false, Bool.false_eq_true, ip_rfS, true_or, or_true, true_and, and_true, Option.toList_some, Option.toList_none, List.cons_append, List.nil_append, ip_fxn, ip_fxi, ip_fxr, ip_fxl, ip_wid, ip_n998, ip_lt900, show i < 160 by omega, rs_tok, iO24, ip_n998, hw, hq2, show ¬ (45 : Int) = 43 by omega, p30 H, hz2, hR1, iOT, p38 H (v := -22) (ip_wid (by omega) (by omega)), x_szA, x_wrA, ip_lt900, List.append_assoc, hy2, k_n1, k_n0, k_n2, k_nt, k_n01, false_or]

theorem p35 {f0 : Int → x_PR} (H : x_H n t S R) (hs : x_ok n t S R L (d + 1) 36 op f0) : x_ok n t S R L (d + 2) 35 op (x_rep (S 21) (S 19 5) (x_pm) x_pmc f0) := by
  intro now sz c e Q ha hb hc hd
  obtain ⟨hn, ht, hR0, hR1, -⟩ := id H
  obtain ⟨hz1, hz2⟩ := hs now sz c e (fun v n S R L => ip_wp (d + 1) 35 3 [some (.ref 24), some (vi op), none, none, none] (v.toList ++ []) n S R L Q) ha hb hc hd
  have hsr := x_szr (o := (f0 now).2.2) hc hd
  obtain ⟨hy1, hy2⟩ := p35l (Q := Q) H hs 160 0 (f0 now).1 none (f0 now).2.1 (x_sz sz (f0 now).2.2) (x_wr c sz (f0 now).2.2) e (by omega) (by omega) (by unfold x_in at hz1; omega) hz1.2 hsr.1 hsr.2
  refine ⟨⟨by unfold x_rep x_in at *; dsimp only; omega, hy1.2⟩, ?_⟩
  simp (disch := omega) only [x_szA, x_wrA, List.append_assoc, ↓reduceIte, Bool.true_eq_false, Bool.false_eq_true, ip_rfS, true_or, or_true, true_and, and_true, Option.toList_some, Option.toList_none, List.cons_append, List.nil_append, ip_fxn, ip_fxi, ip_fxr, ip_fxl, ip_wid, ip_n998, ip_lt900] at hy2
  simp (disch := omega) only [c35, s35_0, s35_1, s35_2, s35_3, s35_4, s35_5, ↓reduceIte, Bool.true_eq_false, Bool.false_eq_true, ip_rfS, true_or, or_true, true_and, and_true, Option.toList_some, Option.toList_none, List.cons_append, List.nil_append, ip_fxn, ip_fxi, ip_fxr, ip_fxl, ip_wid, ip_n998, ip_lt900, iO24, ip_n998, hz2, hy2, x_rep]

end RDL
