/-! what a TEXT reads as: codes out of TOKENS -/
abbrev x_PR : Type := Bool × Int × List Int
def x_adv (la now : Int) : Int := if now < la then now + 1 else now
def x_loop (T : Int → Int) (la : Int) (op : Int → Bool) (code : Int → Int) (sub : Int → x_PR) : Nat → Bool → Int → x_PR
  | 0, ft, now => (ft, now, [])
  | f + 1, ft, now => if (ft && op (T now)) = true then
      ((x_loop T la op code sub f (sub (x_adv la now)).1 (sub (x_adv la now)).2.1).1,
       (x_loop T la op code sub f (sub (x_adv la now)).1 (sub (x_adv la now)).2.1).2.1,
       (sub (x_adv la now)).2.2 ++ code (T now) :: (x_loop T la op code sub f (sub (x_adv la now)).1 (sub (x_adv la now)).2.1).2.2)
    else (ft, now, [])
def x_rep (T : Int → Int) (la : Int) (op : Int → Bool) (code : Int → Int) (sub : Int → x_PR) (now : Int) : x_PR :=
  ((x_loop T la op code sub 160 (sub now).1 (sub now).2.1).1, (x_loop T la op code sub 160 (sub now).1 (sub now).2.1).2.1, (sub now).2.2 ++ (x_loop T la op code sub 160 (sub now).1 (sub now).2.1).2.2)
def x_is (o tk : Int) : Bool := decide (tk = o)
def x_pm (tk : Int) : Bool := decide (tk = 43 ∨ tk = 45)
def x_pmc (tk : Int) : Int := if tk = 43 then -21 else -22
def x_term (T : Int → Int) (la : Int) (one : Int → x_PR) : Int → x_PR := x_rep T la (x_is 42) (fun _ => -23) one
def x_sum (T : Int → Int) (la : Int) (one : Int → x_PR) : Int → x_PR := x_rep T la x_pm x_pmc (x_term T la one)
def x_cmp (T : Int → Int) (la : Int) (one : Int → x_PR) (now : Int) : x_PR :=
  if ((x_sum T la one now).1 && decide (T (x_sum T la one now).2.1 = 60 ∨ T (x_sum T la one now).2.1 = 61)) = true then
    ((x_sum T la one (x_adv la (x_sum T la one now).2.1)).1, (x_sum T la one (x_adv la (x_sum T la one now).2.1)).2.1,
      (x_sum T la one now).2.2 ++ ((x_sum T la one (x_adv la (x_sum T la one now).2.1)).2.2 ++ [if T (x_sum T la one now).2.1 = 60 then -24 else -25]))
  else x_sum T la one now
def x_and (T : Int → Int) (la : Int) (nt : Int → x_PR) : Int → x_PR := x_rep T la (x_is 4) (fun _ => -26) nt
def x_E (T : Int → Int) (la : Int) (nt : Int → x_PR) : Int → x_PR := x_rep T la (x_is 3) (fun _ => -27) (x_and T la nt)
/-- a NUMBER or a NAME, else what else is open -/
def x_one (T N : Int → Int) (la : Int) (els : Int → x_PR) (now : Int) : x_PR :=
  if T now = 20 then (true, x_adv la now, [N now])
  else if 6 ≤ T now ∧ T now < 12 then (true, x_adv la now, [-1 - (T now - 6)])
  else els now
def x_no : Int → x_PR := fun now => (false, now, [])
def x_opn (T : Int → Int) (la : Int) (one ee : Int → x_PR) (now : Int) : x_PR :=
  if T now = 45 then ((one (x_adv la now)).1, (one (x_adv la now)).2.1, (one (x_adv la now)).2.2 ++ [-11])
  else if T now = 40 then
    (if ((ee (x_adv la now)).1 && decide (T (ee (x_adv la now)).2.1 = 41)) = true then (true, x_adv la (ee (x_adv la now)).2.1, (ee (x_adv la now)).2.2)
     else (false, (ee (x_adv la now)).2.1, (ee (x_adv la now)).2.2))
  else (false, now, [])
def x_not (T : Int → Int) (one : Int → x_PR) (la : Int) (prev : Int → x_PR) (now : Int) : x_PR :=
  if T now = 5 then prev now else x_cmp T la one now
def x_nopn (la : Int) (nt : Int → x_PR) (now : Int) : x_PR := ((nt (x_adv la now)).1, (nt (x_adv la now)).2.1, (nt (x_adv la now)).2.2 ++ [-12])
/-- of a level (so many may yet be opened): one, and a NOT -/
def x_lv (T N : Int → Int) (la : Int) : Nat → (Int → x_PR) × (Int → x_PR)
  | 0 => (x_one T N la x_no, x_not T (x_one T N la x_no) la x_no)
  | l + 1 => (x_one T N la (x_opn T la (x_lv T N la l).1 (x_E T la (x_lv T N la l).2)),
      x_not T (x_one T N la (x_opn T la (x_lv T N la l).1 (x_E T la (x_lv T N la l).2))) la (x_nopn la (x_lv T N la l).2))
/-! what is written -/
def x_sz (sz : Int) (o : List Int) : Int := if sz + (o.length : Int) ≤ 160 then sz + (o.length : Int) else 160
def x_wr (c : Int → Int) (sz : Int) (o : List Int) : Int → Int := fun k => if sz ≤ k ∧ k < sz + (o.length : Int) ∧ k < 160 then o.getD (k - sz).toNat 0 else c k
theorem x_sz0 {sz : Int} (h : sz ≤ 160) : x_sz sz [] = sz := by simp [x_sz]; omega
theorem x_wr0 {sz : Int} {c : Int → Int} : x_wr c sz [] = c := by funext k; simp only [x_wr, List.length_nil]; exact if_neg (by omega)
theorem x_szr {sz : Int} {o : List Int} (h0 : 0 ≤ sz) (h : sz ≤ 160) : 0 ≤ x_sz sz o ∧ x_sz sz o ≤ 160 := by unfold x_sz; split <;> omega
theorem x_szA {sz : Int} {a b : List Int} (h : sz ≤ 160) : x_sz (x_sz sz a) b = x_sz sz (a ++ b) := by
  unfold x_sz
  simp only [List.length_append]
  repeat' split
  all_goals omega
theorem x_wrA {sz : Int} {c : Int → Int} {a b : List Int} (h0 : 0 ≤ sz) (h : sz ≤ 160) : x_wr (x_wr c sz a) (x_sz sz a) b = x_wr c sz (a ++ b) := by
  funext k
  unfold x_wr x_sz
  simp only [List.length_append, List.getD_eq_getElem?_getD, List.getElem?_append]
  by_cases h1 : sz + (a.length : Int) ≤ 160
  · rw [if_pos h1]
    by_cases h2 : sz + (a.length : Int) ≤ k ∧ k < sz + (a.length : Int) + (b.length : Int) ∧ k < 160
    · rw [if_pos h2, if_pos (by omega), if_neg (by omega), show (k - (sz + (a.length : Int))).toNat = (k - sz).toNat - a.length by omega]
    · rw [if_neg h2]
      by_cases h3 : sz ≤ k ∧ k < sz + (a.length : Int) ∧ k < 160
      · rw [if_pos h3, if_pos (by omega), if_pos (by omega)]
      · rw [if_neg h3, if_neg (by omega)]
  · rw [if_neg h1, if_neg (by omega)]
    by_cases h3 : sz ≤ k ∧ k < sz + (a.length : Int) ∧ k < 160
    · rw [if_pos h3, if_pos (by omega), if_pos (by omega)]
    · rw [if_neg h3, if_neg (by omega)]
theorem x_wru {sz v : Int} {c : Int → Int} (h : sz < 160) : ip_u c sz v = x_wr c sz [v] := by
  funext k
  unfold ip_u x_wr
  by_cases h1 : k = sz
  · subst h1; rw [if_pos rfl, if_pos (by simp only [List.length_singleton]; omega)]; simp
  · rw [if_neg h1, if_neg (by simp only [List.length_singleton]; omega)]
theorem x_wrf {v : Int} {sz : Int} {c : Int → Int} (h : 160 ≤ sz) : x_wr c sz [v] = c := by
  funext k; unfold x_wr; exact if_neg (by omega)
/-! the READER's state -/
def k_RS (S : ip_S) (t : Nat) (now tk sz : Int) (c e : Int → Int) : ip_S := fun a k =>
  if a = 24 ∧ k = 2 then now else if a = 24 ∧ k = 3 then tk else if a = 26 + 3 * t ∧ k = 2 then sz else if a = 27 + 3 * t then c k else if a = 28 + 3 * t then e k else S a k
section RDR
variable {d n t : Nat} {S : ip_S} {R : ip_R} {L : ip_S} {Q : Option Value → Nat → ip_S → ip_R → ip_S → Prop} {now tk sz v i : Int} {c e : Int → Int}
theorem rs_now : k_RS S t now tk sz c e 24 2 = now := rfl
theorem rs_tok : k_RS S t now tk sz c e 24 3 = tk := rfl
theorem rs_sz : k_RS S t now tk sz c e (26 + 3 * t) 2 = sz := by unfold k_RS; rw [if_neg (by omega), if_neg (by omega), if_pos ⟨rfl, rfl⟩]
theorem rs_lo {a : Nat} (h : a < 24) : k_RS S t now tk sz c e a i = S a i := by unfold k_RS; rw [if_neg (by omega), if_neg (by omega), if_neg (by omega), if_neg (by omega), if_neg (by omega)]
theorem rs_unow : ip_up (k_RS S t now tk sz c e) 24 2 v = k_RS S t v tk sz c e := by
  funext a k; unfold ip_up k_RS
  by_cases h : a = 24 ∧ k = 2 <;> simp [h]
theorem rs_utok : ip_up (k_RS S t now tk sz c e) 24 3 v = k_RS S t now v sz c e := by
  funext a k; unfold ip_up k_RS
  by_cases h : a = 24 ∧ k = 3
  · simp [h]
  · simp only [h, if_false]
theorem rs_usz : ip_up (k_RS S t now tk sz c e) (26 + 3 * t) 2 v = k_RS S t now tk v c e := by
  funext a k; unfold ip_up k_RS
  by_cases h : a = 26 + 3 * t ∧ k = 2
  · rw [if_pos h, if_neg (by omega), if_neg (by omega), if_pos h]
  · simp only [h, if_false]
theorem rs_uc : ip_up (k_RS S t now tk sz c e) (27 + 3 * t) i v = k_RS S t now tk sz (ip_u c i v) e := by
  funext a k; unfold ip_up k_RS ip_u
  by_cases h : a = 27 + 3 * t
  · rw [if_neg (show ¬ (a = 24 ∧ k = 2) by omega), if_neg (show ¬ (a = 24 ∧ k = 3) by omega), if_neg (show ¬ (a = 26 + 3 * t ∧ k = 2) by omega), if_pos h, if_neg (show ¬ (a = 24 ∧ k = 2) by omega), if_neg (show ¬ (a = 24 ∧ k = 3) by omega), if_neg (show ¬ (a = 26 + 3 * t ∧ k = 2) by omega), if_pos h]
    simp [h]
  · simp only [h, false_and, if_false]
theorem rs_ue : ip_up (k_RS S t now tk sz c e) (28 + 3 * t) i v = k_RS S t now tk sz c (ip_u e i v) := by
  funext a k; unfold ip_up k_RS ip_u
  by_cases h : a = 28 + 3 * t
  · rw [if_neg (show ¬ (a = 24 ∧ k = 2) by omega), if_neg (show ¬ (a = 24 ∧ k = 3) by omega), if_neg (show ¬ (a = 26 + 3 * t ∧ k = 2) by omega), if_neg (show ¬ (a = 27 + 3 * t) by omega), if_pos h, if_neg (show ¬ (a = 24 ∧ k = 2) by omega), if_neg (show ¬ (a = 24 ∧ k = 3) by omega), if_neg (show ¬ (a = 26 + 3 * t ∧ k = 2) by omega), if_neg (show ¬ (a = 27 + 3 * t) by omega), if_pos h]
    simp [h]
  · simp only [h, false_and, if_false]
/-- what the READER stands on -/
def x_H (n t : Nat) (S : ip_S) (R : ip_R) : Prop := 44 ≤ n ∧ t < 6 ∧ R 24 0 = some 19 ∧ R 24 1 = some (26 + 3 * t) ∧ R 19 1 = some 21 ∧ R 19 2 = some 22 ∧ R 19 3 = some 23 ∧ R (26 + 3 * t) 0 = some (27 + 3 * t) ∧ R (26 + 3 * t) 1 = some (28 + 3 * t) ∧ 0 ≤ S 19 5 ∧ S 19 5 ≤ 160 ∧ (∀ k, 0 ≤ k → k ≤ 160 → ip_w (S 21 k) = S 21 k) ∧ (∀ k, 0 ≤ k → k ≤ 160 → ip_w (S 23 k) = S 23 k)
theorem x_c160 : ((160 : Nat) : Int) = 160 := rfl
theorem iAT3 (h : t < 6) (hn : 44 ≤ n) : ((27 + 3 * t < n) ∧ (ip_kd (27 + 3 * t)).1 = 0) = True := eq_true (by
  have := (of_eq_true (iAT1 (z := 0) h hn (by omega) (by omega))); exact ⟨this.1, this.2.1⟩)
theorem iAT4 (h : t < 6) : (ip_kd (27 + 3 * t)).2 = 160 := by
  match t, h with
  | 0, _ => rfl
  | 1, _ => rfl
  | 2, _ => rfl
  | 3, _ => rfl
  | 4, _ => rfl
  | 5, _ => rfl
  | t + 6, h => omega
theorem p38 (H : x_H n t S R) (hv : ip_w v = v) (h0 : 0 ≤ sz) (h1 : sz ≤ 160) : ip_wc (d + 1) 38 [.ref (26 + 3 * t), vi v] n (k_RS S t now tk sz c e) R L Q = Q none n (k_RS S t now tk (x_sz sz [v]) (x_wr c sz [v]) e) R L := by
  obtain ⟨hn, ht, -, -, -, -, -, hR1, -⟩ := H
  by_cases h : sz < 160
  · simp (disch := omega) only [c38, s38_0, s38_1, s38_2, s38_3, s38_4, s38_5, s38_6, s38_7, s38_8, s38_9, s38_10, s38_11, s38_12, s38_13, s38_14, s38_15, s38_16, s38_17, s38_18, ↓reduceIte, Bool.true_eq_false, Bool.false_eq_true, ip_rfS, true_or, or_true, true_and, and_true, Option.toList_some, Option.toList_none, List.cons_append, List.nil_append, ip_fxn, ip_fxi, ip_fxr, ip_fxl, ip_wid, ip_n998, ip_lt900, rs_sz, rs_uc, rs_usz, hR1, iOT, iAT1, iAT3, iAT4, ip_n998, h, hv, x_c160, x_wru]
    rw [show x_sz sz [v] = sz + 1 by unfold x_sz; rw [if_pos (by simp only [List.length_singleton]; omega)]; rfl]
  · simp (disch := omega) only [c38, s38_0, s38_1, s38_2, s38_3, s38_4, s38_5, s38_6, s38_7, s38_8, s38_9, s38_10, s38_11, s38_12, s38_13, s38_14, s38_15, s38_16, s38_17, s38_18, ↓reduceIte, Bool.true_eq_false, Bool.false_eq_true, ip_rfS, true_or, or_true, true_and, and_true, Option.toList_some, Option.toList_none, List.cons_append, List.nil_append, ip_fxn, ip_fxi, ip_fxr, ip_fxl, ip_wid, ip_n998, ip_lt900, rs_sz, rs_uc, rs_usz, hR1, iOT, iAT1, iAT3, iAT4, ip_n998, h, hv, x_c160, x_wrf]
    rw [show x_sz sz [v] = sz by unfold x_sz; rw [if_neg (by simp only [List.length_singleton]; omega)]; omega]
theorem p30 (H : x_H n t S R) (h0 : 0 ≤ now) (h1 : now ≤ S 19 5) : ip_wc (d + 1) 30 [.ref 24] n (k_RS S t now tk sz c e) R L Q = Q none n (k_RS S t (x_adv (S 19 5) now) (S 21 (x_adv (S 19 5) now)) sz c e) R L := by
  obtain ⟨hn, ht, hR0, -, hR2, -, -, -, -, h2, h3, h4, -⟩ := H
  unfold x_adv
  by_cases h : now < S 19 5
  · have hw := h4 (now + 1) (by omega) (by omega)
    simp (disch := omega) only [c30, s30_0, s30_1, s30_2, s30_3, s30_4, s30_5, s30_6, s30_7, s30_8, s30_9, s30_10, s30_11, s30_12, s30_13, s30_14, s30_15, s30_16, s30_17, s30_18, s30_19, s30_20, ↓reduceIte, Bool.true_eq_false, Bool.false_eq_true, ip_rfS, true_or, or_true, true_and, and_true, Option.toList_some, Option.toList_none, List.cons_append, List.nil_append, ip_fxn, ip_fxi, ip_fxr, ip_fxl, ip_wid, ip_n998, ip_lt900, rs_now, rs_lo, rs_unow, rs_utok, hR0, hR2, iO24, iO19, iA21, ip_n998, h, hw]
  · have hw := h4 now (by omega) (by omega)
    simp (disch := omega) only [c30, s30_0, s30_1, s30_2, s30_3, s30_4, s30_5, s30_6, s30_7, s30_8, s30_9, s30_10, s30_11, s30_12, s30_13, s30_14, s30_15, s30_16, s30_17, s30_18, s30_19, s30_20, ↓reduceIte, Bool.true_eq_false, Bool.false_eq_true, ip_rfS, true_or, or_true, true_and, and_true, Option.toList_some, Option.toList_none, List.cons_append, List.nil_append, ip_fxn, ip_fxi, ip_fxr, ip_fxl, ip_wid, ip_n998, ip_lt900, rs_now, rs_lo, rs_unow, rs_utok, hR0, hR2, iO24, iO19, iA21, ip_n998, h, hw]
end RDR
