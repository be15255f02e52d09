/-! the reference on a TOKEN -/
def v_s1 (F : Int → Int) (c : Int) (l : List Int) : Option (List Int) :=
  if -7 < c then some ((if 0 ≤ c then c else F (-1 - c)) :: l)
  else if c ≤ -21 then (match l with | b :: a :: t => some (v_jn c a b :: t) | _ => none)
  else (match l with | a :: t => some (v_tn c a :: t) | [] => none)
def v_rl (F : Int → Int) : List Int → Option (List Int) → Option (List Int)
  | [], l => l
  | c :: r, l => v_rl F r (l.bind (v_s1 F c))
def y_val (F : Int → Int) (o : List Int) (v : Int) : Prop := ∀ l, v_rl F o (some l) = some (v :: l)
theorem v_rla {F : Int → Int} : ∀ (x y : List Int) (l : Option (List Int)), v_rl F (x ++ y) l = v_rl F y (v_rl F x l)
  | [], _, _ => rfl
  | c :: r, y, l => v_rla r y _
theorem y_val2 {F : Int → Int} {x y : List Int} {v w c : Int} (hx : y_val F x v) (hy : y_val F y w) (hc : c ≤ -21) : y_val F (x ++ (y ++ [c])) (v_jn c v w) := fun l => by
  rw [v_rla, v_rla, hx l, hy (v :: l)]
  simp only [v_rl, Option.bind_some, v_s1]
  rw [if_neg (by omega), if_pos hc]
theorem y_val1 {F : Int → Int} {x : List Int} {v c : Int} (hx : y_val F x v) (hc : c ≤ -7) (hc2 : -21 < c) : y_val F (x ++ [c]) (v_tn c v) := fun l => by
  rw [v_rla, hx l]
  simp only [v_rl, Option.bind_some, v_s1]
  rw [if_neg (by omega), if_neg (by omega)]
theorem y_val0 {F : Int → Int} {c : Int} (hc : -7 < c) : y_val F [c] (if 0 ≤ c then c else F (-1 - c)) := fun l => by
  simp only [v_rl, Option.bind_some, v_s1]
  rw [if_pos hc]
def y_nam (S : ip_S) : Int → Int := fun k => ip_w (S 62 (13 + k))
def y_C (S : ip_S) (b : Int → Int) (sz : Int) (T P N : Int → Int) (la : Int) : Prop := y_T S b sz ∧ y_Tok b sz T P N la ∧ True
def y_wds (b : Int → Int) (sz : Int) (T : Int → Int) (j h a : Int) : Prop := ∀ k : Nat, k < 12 → (decide (h ≤ a + 8) && y_ls b sz a h 0 (y_W8 k)) = decide (T j = (k : Int))
def y_J (b : Int → Int) (sz : Int) (T P N : Int → Int) (la j h t a w : Int) : Prop := a = P j ∧ (0 ≤ a ∧ a ≤ sz) ∧
  ((T j = -1 ∧ t = 0) ∨ (j < la ∧ T j = 20 ∧ t = 2 ∧ w = N j ∧ ip_w w = w ∧ 0 ≤ w ∧ h = y_E b sz a) ∨ (j < la ∧ (40 ≤ T j ∧ T j ≤ 61) ∧ t = 3 ∧ w = T j ∧ h = y_E b sz a) ∨
   (j < la ∧ (0 ≤ T j ∧ T j < 12) ∧ t = 1 ∧ h = y_E b sz a ∧ y_wds b sz T j h a) ∨ (T j = -2 ∧ (t = 4 ∨ (t = 1 ∧ (a ≤ h ∧ h ≤ sz) ∧ y_wds b sz T j h a))))
def y_res (S : ip_S) (b : Int → Int) (sz : Int) (T P N : Int → Int) (la : Int) (q : x_PR) (v h t a w bd fl : Int) : Prop := (q.1 = true → bd = 0 ∧ y_J b sz T P N la q.2.1 h t a w ∧ ip_w v = v ∧ y_val (y_nam S) q.2.2 v) ∧ (q.1 = false → bd = 1 ∧ fl = P q.2.1)
def y_in (la j : Int) (q : x_PR) : Prop := j ≤ q.2.1 ∧ q.2.1 ≤ la ∧ (q.1 = true → j < q.2.1)
def y_ok (S : ip_S) (R : ip_R) (L : ip_S) (b : Int → Int) (sz : Int) (T P N : Int → Int) (la : Int) (dd m : Nat) (op : Int) (f : Int → x_PR) : Prop := ∀ (j h t a w fl : Int), 0 ≤ j → j ≤ la → y_J b sz T P N la j h t a w →
  y_in la j (f j) ∧ ∃ v h' t' a' w' bd' fl', y_res S b sz T P N la (f j) v h' t' a' w' bd' fl' ∧
    ∀ Q, ip_wc dd m [.ref 62] 79 (y_P S h t a op 0 fl) R (ip_up L 62 24 w) Q = Q (some (vi v)) 79 (y_P S h' t' a' op bd' fl') R (ip_up L 62 24 w')
section TKM
variable {d : Nat} {S : ip_S} {R : ip_R} {L : ip_S} {b : Int → Int} {sz : Int} {T P N : Int → Int} {la j h t a w op bd fl : Int}
theorem y_Jt (J : y_J b sz T P N la j h t a w) : 0 ≤ t ∧ t ≤ 4 := by
  obtain ⟨-, -, J⟩ := J
  rcases J with J | J | J | J | ⟨-, J | J⟩ <;> omega
theorem y_Jsg (J : y_J b sz T P N la j h t a w) {s : Int} (hs : 40 ≤ s) : (decide (t = 3) && decide (w = s)) = decide (T j = s) := by
  obtain ⟨-, -, J⟩ := J
  rcases J with J | J | J | J | ⟨J, J' | J'⟩
  · rw [decide_eq_false (show ¬ t = 3 by omega), decide_eq_false (show ¬ T j = s by omega)]; rfl
  · rw [decide_eq_false (show ¬ t = 3 by omega), decide_eq_false (show ¬ T j = s by omega)]; rfl
  · rw [decide_eq_true J.2.2.1, J.2.2.2.1]; rfl
  · rw [decide_eq_false (show ¬ t = 3 by omega), decide_eq_false (show ¬ T j = s by omega)]; rfl
  · rw [decide_eq_false (show ¬ t = 3 by omega), decide_eq_false (show ¬ T j = s by omega)]; rfl
  · rw [decide_eq_false (show ¬ t = 3 by omega), decide_eq_false (show ¬ T j = s by omega)]; rfl
theorem y_Jwd (J : y_J b sz T P N la j h t a w) {k : Nat} (hk : k < 12) : (decide (t = 1) && (decide (h ≤ a + 8) && y_ls b sz a h 0 (y_W8 k))) = decide (T j = (k : Int)) := by
  obtain ⟨-, -, J⟩ := J
  rcases J with J | J | J | J | ⟨J, J' | J'⟩
  · rw [decide_eq_false (show ¬ t = 1 by omega), decide_eq_false (show ¬ T j = k by omega)]; rfl
  · rw [decide_eq_false (show ¬ t = 1 by omega), decide_eq_false (show ¬ T j = k by omega)]; rfl
  · rw [decide_eq_false (show ¬ t = 1 by omega), decide_eq_false (show ¬ T j = k by omega)]; rfl
  · rw [decide_eq_true J.2.2.1, Bool.true_and]; exact J.2.2.2.2 k hk
  · rw [decide_eq_false (show ¬ t = 1 by omega), decide_eq_false (show ¬ T j = k by omega)]; rfl
  · rw [decide_eq_true J'.1, Bool.true_and]; exact J'.2.2 k hk
theorem k_numr {b : Int → Int} : ∀ (f : Nat) (i a : Int), (∀ q, i ≤ q → q < i + f → k_di (b q) = true) → f ≤ 4 → 0 ≤ a → a < 10 ^ (4 - f) → 0 ≤ k_num b f i a ∧ k_num b f i a < 10000
  | 0, i, a, _, _, h0, h1 => ⟨h0, h1⟩
  | f + 1, i, a, hd, hf, h0, h1 => by
    have hi := of_decide_eq_true (hd i (Int.le_refl _) (by omega))
    rw [k_num]
    refine k_numr f (i + 1) _ (fun q h2 h3 => hd q (by omega) (by omega)) (by omega) (by omega) ?_
    have e : (10 : Int) ^ (4 - f) = 10 * 10 ^ (4 - (f + 1)) := by
      rw [show 4 - f = (4 - (f + 1)) + 1 by omega, Int.pow_succ, Int.mul_comm]
    rw [e]
    omega
theorem k_endd : ∀ (f : Nat) (i : Int), ∀ q, i ≤ q → q < k_end b sz false true f i → q < i + f → k_di (b q) = true
  | 0, i, q, h1, h2, h3 => by omega
  | f + 1, i, q, h1, h2, h3 => by
    rw [k_end] at h2
    by_cases c : i < sz
    · rw [if_pos c] at h2
      simp only [Bool.false_and, Bool.true_and, Bool.false_or] at h2
      by_cases c2 : k_di (b i) = true
      · rw [if_pos c2] at h2
        by_cases e : q = i
        · subst e; exact c2
        · exact k_endd f (i + 1) q (by omega) h2 (by omega)
      · rw [if_neg c2] at h2; omega
    · rw [if_neg c] at h2; omega
theorem y_nwk : ∀ (f : Nat) (h n w : Int), sz - h = f → 0 ≤ n → n + (k_end b sz false true f h - h) ≤ 4 → y_nw b sz f h n w = k_num b (k_end b sz false true f h - h).toNat h w
  | 0, h, n, w, hf, hn, hk => by
    rw [k_end, show (sz - h).toNat = 0 by omega]
    rfl
  | f + 1, h, n, w, hf, hn, hk => by
    rw [y_nw]
    rw [k_end, if_pos (show h < sz by omega)] at hk ⊢
    simp only [Bool.false_and, Bool.true_and, Bool.false_or] at hk ⊢
    by_cases c : k_di (b h) = true
    · have hr := k_end_r (b := b) (sz := sz) (w := false) (u := true) f (h + 1) (by omega)
      rw [if_pos c] at hk ⊢
      rw [if_pos ⟨by omega, c⟩, if_pos (by omega), y_nwk f (h + 1) (n + 1) _ (by omega) (by omega) (by omega)]
      obtain ⟨g, hg⟩ : ∃ g, (k_end b sz false true f (h + 1) - h).toNat = g + 1 := ⟨(k_end b sz false true f (h + 1) - h).toNat - 1, by omega⟩
      rw [hg, k_num, show (k_end b sz false true f (h + 1) - (h + 1)).toNat = g by omega, Int.mul_comm]
    · rw [if_neg c, if_neg (by simp [c]), Int.sub_self]
      rfl
theorem y_Jx (hT : y_T S b sz) (hk : y_Tok b sz T P N la) {h0 : Int} (hh : 0 ≤ h0 ∧ h0 ≤ sz) (hj : 0 ≤ j ∧ j ≤ la) (hP : P j = y_sk b (sz - h0).toNat h0) : y_J b sz T P N la j (y_nx b sz h0 w).1 (y_nx b sz h0 w).2.1 (y_nx b sz h0 w).2.2.1 (y_nx b sz h0 w).2.2.2 := by
  obtain ⟨t1, t2, t3, t4, t5⟩ := hT
  obtain ⟨k1, k2, k3, k4, k5⟩ := hk
  unfold y_nx
  rw [← hP]
  by_cases c : j = la
  · subst c
    rw [if_pos (by omega)]
    exact ⟨k5.symm, by dsimp only; omega, Or.inl ⟨k4, rfl⟩⟩
  · obtain ⟨⟨p0, p1, p2, p3⟩, -⟩ := k3 j hj.1 (by omega)
    generalize hPj : P j = p at *
    rw [if_neg (by omega)]
    have r := t5 p p0 p1
    have hE := y_Er (b := b) (sz := sz) p1
    unfold k_tok at p2
    by_cases c1 : k_le (b p) = true
    · have c1' := of_decide_eq_true c1
      have c2 : k_di (b p) = false := decide_eq_false (by omega)
      have e : k_end b sz true false (sz - p).toNat (p + 1) = y_E b sz p := by unfold y_E; rw [c1, c2]
      rw [if_neg (by rw [c2]; decide), if_pos c1] at p2
      rw [if_pos c1, e]
      have hlet : ∀ (f : Nat) (i : Int), ∀ q, i ≤ q → q < k_end b sz true false f i → q < i + f → k_le (b q) = true := by
        intro f
        induction f with
        | zero => intro i q h1 h2 h3; omega
        | succ f ih =>
          intro i q h1 h2 h3
          rw [k_end] at h2
          by_cases d1 : i < sz
          · rw [if_pos d1] at h2
            simp only [Bool.false_and, Bool.true_and, Bool.or_false] at h2
            by_cases d2 : k_le (b i) = true
            · rw [if_pos d2] at h2
              by_cases e : q = i
              · subst e; exact d2
              · exact ih (i + 1) q (by omega) h2 (by omega)
            · rw [if_neg d2] at h2; omega
          · rw [if_neg d1] at h2; omega
      have hl : ∀ i, p ≤ i → i < y_E b sz p → b i ≠ 0 := by
        intro i h1 h2
        by_cases e2 : i = p
        · subst e2; omega
        · have := of_decide_eq_true (hlet (sz - p).toNat (p + 1) i (by omega) (by rw [e]; exact h2) (by omega))
          omega
      have hw : y_wds b sz T j (y_E b sz p) p := fun k hk => by
        rw [p2]
        exact y_lsW (by omega) (by omega) hl hk
      have hr := k_word_r (b := b) (p := p) (e := y_E b sz p) 12 0
      have hn := k_wordn (b := b) (p := p) (e := y_E b sz p) 12 0
      refine ⟨hPj.symm, by dsimp only; omega, ?_⟩
      rcases hn with hn | hn
      · exact Or.inr (Or.inr (Or.inr (Or.inr ⟨by rw [p2, hn], Or.inr ⟨rfl, by dsimp only; omega, hw⟩⟩)))
      · exact Or.inr (Or.inr (Or.inr (Or.inl ⟨by omega, by omega, rfl, rfl, hw⟩)))
    · have c1f : k_le (b p) = false := by simpa using c1
      rw [if_neg c1]
      by_cases c2 : k_di (b p) = true
      · have e : k_end b sz false true (sz - p).toNat (p + 1) = y_E b sz p := by unfold y_E; rw [c1f, c2]
        rw [if_pos c2] at p2
        rw [if_pos c2, e]
        by_cases c3 : 4 < y_E b sz p - p
        · rw [if_pos c3] at p2
          rw [if_pos c3]
          exact ⟨hPj.symm, by dsimp only; omega, Or.inr (Or.inr (Or.inr (Or.inr ⟨p2, Or.inl rfl⟩)))⟩
        · rw [if_neg c3] at p2
          rw [if_neg c3]
          rw [if_pos p2] at p3
          have h2 : k_end b sz false true (sz - p).toNat p = y_E b sz p := by
            obtain ⟨g, hg⟩ : ∃ g, (sz - p).toNat = g + 1 := ⟨(sz - p).toNat - 1, by omega⟩
            rw [← e, k_ends (sz - p).toNat g (p + 1) (by omega) (by omega), hg, k_end, if_pos (by omega), if_pos (by rw [c2]; rfl)]
          have hnw := y_nwk (b := b) (sz := sz) (sz - p).toNat p 0 0 (by omega) (by omega) (by rw [h2]; omega)
          rw [h2] at hnw
          have hnr := k_numr (b := b) (y_E b sz p - p).toNat p 0 (fun q h3 h4 => k_endd (sz - p).toNat p q h3 (by rw [h2]; omega) (by omega)) (by omega) (by omega) (Int.pow_pos (by omega))
          have hwid : ip_w (k_num b (y_E b sz p - p).toNat p 0) = k_num b (y_E b sz p - p).toNat p 0 := ip_wid (by omega) (by omega)
          refine ⟨hPj.symm, by dsimp only; omega, Or.inr (Or.inl ⟨by omega, p2, rfl, ?_, ?_, ?_, rfl⟩)⟩
          · dsimp only; rw [hnw, p3, hwid]
          · dsimp only; rw [hnw, hwid]
          · dsimp only; rw [hnw]; exact hnr.1
      · have c2f : k_di (b p) = false := by simpa using c2
        rw [if_neg c2, if_neg c1] at p2
        rw [if_neg c2]
        by_cases c3 : k_sg (b p) = true
        · have c3' := of_decide_eq_true c3
          rw [if_pos c3] at p2
          have e : y_E b sz p = p + 1 := by
            unfold y_E
            rw [c1f, c2f]
            obtain ⟨g, hg⟩ : ∃ g, (sz - p).toNat = g + 1 := ⟨(sz - p).toNat - 1, by omega⟩
            rw [hg, k_end]
            simp only [Bool.false_and, Bool.or_self, Bool.false_eq_true, if_false]
            split <;> omega
          rw [if_pos c3]
          exact ⟨hPj.symm, by dsimp only; omega, Or.inr (Or.inr (Or.inl ⟨by omega, by omega, rfl, p2.symm, e.symm⟩))⟩
        · rw [if_neg c3] at p2
          rw [if_neg c3]
          exact ⟨hPj.symm, by dsimp only; omega, Or.inr (Or.inr (Or.inr (Or.inr ⟨p2, Or.inl rfl⟩)))⟩
theorem y_Jh (J : y_J b sz T P N la j h t a w) (h1 : ¬ T j = -1) (h2 : ¬ T j = -2) : j < la ∧ h = y_E b sz (P j) := by
  obtain ⟨rfl, -, J⟩ := J
  rcases J with J | J | J | J | J
  · exact absurd J.1 h1
  · exact ⟨J.1, J.2.2.2.2.2.2⟩
  · exact ⟨J.1, J.2.2.2.2⟩
  · exact ⟨J.1, J.2.2.2.1⟩
  · exact absurd J.1 h2
/-- on to the next TOKEN -/
theorem q138 (hM : x_RM R) (hC : y_C S b sz T P N la) (hj : 0 ≤ j) (J : y_J b sz T P N la j h t a w) (h1 : ¬ T j = -1) (h2 : ¬ T j = -2) : j < la ∧ x_adv la j = j + 1 ∧ ∃ h' t' a' w', y_J b sz T P N la (j + 1) h' t' a' w' ∧ ∀ {op fl Q}, ip_wc (d + 3) 138 [.ref 62] 79 (y_P S h t a op 0 fl) R (ip_up L 62 24 w) Q = Q none 79 (y_P S h' t' a' op 0 fl) R (ip_up L 62 24 w') := by
  obtain ⟨hT, hk, -⟩ := hC
  obtain ⟨q1, q2⟩ := y_Jh J h1 h2
  obtain ⟨⟨p0, p1, -, -⟩, p4⟩ := hk.2.2.1 j hj q1
  have hE := y_Er (b := b) (sz := sz) p1
  rw [← q2] at p4 hE
  refine ⟨q1, by unfold x_adv; rw [if_pos q1], _, _, _, _, y_Jx (w := w) hT hk (h0 := h) ⟨by omega, by omega⟩ ⟨by omega, by omega⟩ p4, fun {op fl Q} => ?_⟩
  exact p138 (d := d) (t := t) (a := a) (o := op) (bd := 0) (fl := fl) (w := w) (Q := Q) (L := L) hM hT (by omega) (by omega)
theorem p156 {s : Int} (hs : 0 ≤ s ∧ s < 128) (hb : bd = 0 ∨ bd = 1) (ht : 0 ≤ t ∧ t ≤ 4) {Q} : ip_wc (d + 1) 156 [.ref 62, vi s] 79 (y_P S h t a op bd fl) R (ip_up L 62 24 w) Q = Q (some (vi (k_n (decide (bd = 0) && (decide (t = 3) && decide (ip_w64 w = s)))))) 79 (y_P S h t a op bd fl) R (ip_up L 62 24 w) := by
  have eL : ip_up L 62 24 w 62 24 = w := ip_up_at
  have w64 : ip_w64 s = s := ip_w64id (by omega) (by omega)
  rcases hb with hb | hb
  · subst hb
    by_cases c1 : t = 3
    · by_cases c2 : ip_w64 w = s
      · simp (disch := omega) only [c156, s156_0, s156_1, s156_2, s156_3, s156_4, s156_5, s156_6, s156_7, s156_8, s156_9, s156_10, s156_11, s156_12, s156_13, s156_14, s156_15, s156_16, ↓reduceIte, Bool.true_eq_false, Bool.false_eq_true, ip_rfS, true_or, or_true, true_and, and_true, Option.toList_some, Option.toList_none, List.cons_append, List.nil_append, ip_fxn, ip_fxi, ip_fxr, ip_fxl, ip_wid, ip_n998, ip_lt900, iO0, iO1, iA2, iA3, iA4, iA5, iA6, iA7, iA8, iO9, iA10, iA11, iA12, iA13, iA14, iA15, iA16, iO17, iA18, iO19, iA20, iA21, iA22, iA23, iO24, iA25, iO26, iA27, iA28, iO29, iA30, iA31, iO32, iA33, iA34, iO35, iA36, iA37, iO38, iA39, iA40, iO41, iA42, iA43, iO44, iA45, iA46, iA47, iA48, iA49, iA50, iA51, iA52, iA53, iO54, iA55, iO56, iA57, iO58, iA59, iO60, iA61, iO62, iA63, iA64, iA65, iA66, iA67, iA68, iA69, iA70, iA71, iA72, iA73, iA74, iA75, iA76, iA77, iA78, iOT, iAT1, iAT2, iOS, iAS, yp_d, yp_t, c1, eL, w64, c2, ip_cmpl, Int.lt_irrefl, if_false, ip_w0, ip_r1, decide_true, Bool.and_self]
        rfl
      · have ec : ¬ ip_w (ip_cmpl (ip_w64 w) s) = 0 := by
          unfold ip_cmpl
          by_cases z : s < ip_w64 w
          · rw [if_pos z, ip_w1]; omega
          · rw [if_neg z, if_neg c2, ip_wid (by omega) (by omega)]; omega
        simp (disch := omega) only [c156, s156_0, s156_1, s156_2, s156_3, s156_4, s156_5, s156_6, s156_7, s156_8, s156_9, s156_10, s156_11, s156_12, s156_13, s156_14, s156_15, s156_16, ↓reduceIte, Bool.true_eq_false, Bool.false_eq_true, ip_rfS, true_or, or_true, true_and, and_true, Option.toList_some, Option.toList_none, List.cons_append, List.nil_append, ip_fxn, ip_fxi, ip_fxr, ip_fxl, ip_wid, ip_n998, ip_lt900, iO0, iO1, iA2, iA3, iA4, iA5, iA6, iA7, iA8, iO9, iA10, iA11, iA12, iA13, iA14, iA15, iA16, iO17, iA18, iO19, iA20, iA21, iA22, iA23, iO24, iA25, iO26, iA27, iA28, iO29, iA30, iA31, iO32, iA33, iA34, iO35, iA36, iA37, iO38, iA39, iA40, iO41, iA42, iA43, iO44, iA45, iA46, iA47, iA48, iA49, iA50, iA51, iA52, iA53, iO54, iA55, iO56, iA57, iO58, iA59, iO60, iA61, iO62, iA63, iA64, iA65, iA66, iA67, iA68, iA69, iA70, iA71, iA72, iA73, iA74, iA75, iA76, iA77, iA78, iOT, iAT1, iAT2, iOS, iAS, yp_d, yp_t, c1, eL, w64, ec, ip_r0, decide_true, decide_eq_false c2, Bool.and_false]
        rfl
    · simp (disch := omega) only [c156, s156_0, s156_1, s156_2, s156_3, s156_4, s156_5, s156_6, s156_7, s156_8, s156_9, s156_10, s156_11, s156_12, s156_13, s156_14, s156_15, s156_16, ↓reduceIte, Bool.true_eq_false, Bool.false_eq_true, ip_rfS, true_or, or_true, true_and, and_true, Option.toList_some, Option.toList_none, List.cons_append, List.nil_append, ip_fxn, ip_fxi, ip_fxr, ip_fxl, ip_wid, ip_n998, ip_lt900, iO0, iO1, iA2, iA3, iA4, iA5, iA6, iA7, iA8, iO9, iA10, iA11, iA12, iA13, iA14, iA15, iA16, iO17, iA18, iO19, iA20, iA21, iA22, iA23, iO24, iA25, iO26, iA27, iA28, iO29, iA30, iA31, iO32, iA33, iA34, iO35, iA36, iA37, iO38, iA39, iA40, iO41, iA42, iA43, iO44, iA45, iA46, iA47, iA48, iA49, iA50, iA51, iA52, iA53, iO54, iA55, iO56, iA57, iO58, iA59, iO60, iA61, iO62, iA63, iA64, iA65, iA66, iA67, iA68, iA69, iA70, iA71, iA72, iA73, iA74, iA75, iA76, iA77, iA78, iOT, iAT1, iAT2, iOS, iAS, yp_d, yp_t, c1, ip_r0, decide_false, Bool.false_and, Bool.and_false]
      rfl
  · subst hb
    simp (disch := omega) only [c156, s156_0, s156_1, s156_2, s156_3, s156_4, s156_5, s156_6, s156_7, s156_8, s156_9, s156_10, s156_11, s156_12, s156_13, s156_14, s156_15, s156_16, ↓reduceIte, Bool.true_eq_false, Bool.false_eq_true, ip_rfS, true_or, or_true, true_and, and_true, Option.toList_some, Option.toList_none, List.cons_append, List.nil_append, ip_fxn, ip_fxi, ip_fxr, ip_fxl, ip_wid, ip_n998, ip_lt900, iO0, iO1, iA2, iA3, iA4, iA5, iA6, iA7, iA8, iO9, iA10, iA11, iA12, iA13, iA14, iA15, iA16, iO17, iA18, iO19, iA20, iA21, iA22, iA23, iO24, iA25, iO26, iA27, iA28, iO29, iA30, iA31, iO32, iA33, iA34, iO35, iA36, iA37, iO38, iA39, iA40, iO41, iA42, iA43, iO44, iA45, iA46, iA47, iA48, iA49, iA50, iA51, iA52, iA53, iO54, iA55, iO56, iA57, iO58, iA59, iO60, iA61, iO62, iA63, iA64, iA65, iA66, iA67, iA68, iA69, iA70, iA71, iA72, iA73, iA74, iA75, iA76, iA77, iA78, iOT, iAT1, iAT2, iOS, iAS, yp_d, ip_r0, Int.reduceEq, decide_false, Bool.false_and]
    rfl
theorem q156 (J : y_J b sz T P N la j h t a w) {s : Int} (hs : 40 ≤ s ∧ s < 128) {Q} : ip_wc (d + 1) 156 [.ref 62, vi s] 79 (y_P S h t a op 0 fl) R (ip_up L 62 24 w) Q = Q (some (vi (k_n (decide (T j = s))))) 79 (y_P S h t a op 0 fl) R (ip_up L 62 24 w) := by
  rw [p156 (by omega) (Or.inl rfl) (y_Jt J), decide_eq_true (show (0 : Int) = 0 from rfl), Bool.true_and, ← y_Jsg J (by omega)]
  obtain ⟨-, -, J⟩ := J
  by_cases c : t = 3
  · have e : ip_w64 w = w := by
      rcases J with J | J | J | J | ⟨J, J' | J'⟩
      all_goals first | omega | exact ip_w64id (by omega) (by omega)
    rw [e]
  · rw [decide_eq_false c, Bool.false_and, Bool.false_and]
theorem q156b {s : Int} (hs : 0 ≤ s ∧ s < 128) {Q} : ip_wc (d + 1) 156 [.ref 62, vi s] 79 (y_P S h t a op 1 fl) R (ip_up L 62 24 w) Q = Q (some (vi 0)) 79 (y_P S h t a op 1 fl) R (ip_up L 62 24 w) := by
  simp (disch := omega) only [c156, s156_0, s156_1, s156_2, s156_3, s156_4, s156_5, s156_6, s156_7, s156_8, s156_9, s156_10, s156_11, s156_12, s156_13, s156_14, s156_15, s156_16, ↓reduceIte, Bool.true_eq_false, Bool.false_eq_true, ip_rfS, true_or, or_true, true_and, and_true, Option.toList_some, Option.toList_none, List.cons_append, List.nil_append, ip_fxn, ip_fxi, ip_fxr, ip_fxl, ip_wid, ip_n998, ip_lt900, iO0, iO1, iA2, iA3, iA4, iA5, iA6, iA7, iA8, iO9, iA10, iA11, iA12, iA13, iA14, iA15, iA16, iO17, iA18, iO19, iA20, iA21, iA22, iA23, iO24, iA25, iO26, iA27, iA28, iO29, iA30, iA31, iO32, iA33, iA34, iO35, iA36, iA37, iO38, iA39, iA40, iO41, iA42, iA43, iO44, iA45, iA46, iA47, iA48, iA49, iA50, iA51, iA52, iA53, iO54, iA55, iO56, iA57, iO58, iA59, iO60, iA61, iO62, iA63, iA64, iA65, iA66, iA67, iA68, iA69, iA70, iA71, iA72, iA73, iA74, iA75, iA76, iA77, iA78, iOT, iAT1, iAT2, iOS, iAS, yp_d, ip_r0, Int.reduceEq]
theorem p141 {i c : Int} (hM : x_RM R) (hT : y_T S b sz) (ha : 0 ≤ a ∧ a ≤ sz) (hh : h ≤ sz) (hi : 0 ≤ i ∧ i < 8) (hc : 0 ≤ c ∧ c < 128) (hh0 : 0 ≤ h) {Q} : ip_wc (d + 2) 141 [.ref 62, vi i, vi c] 79 (y_P S h t a op bd fl) R L Q = Q (some (vi (k_n (y_il b sz a h i c)))) 79 (y_P S h t a op bd fl) R L := by
  have hs := hT.2.2.1
  unfold y_il
  by_cases c1 : a + i < h
  · have q := fun Q' => p139 (d := d) (Q := Q') (L := L) (h := h) (t := t) (a := a) (o := op) (bd := bd) (fl := fl) hM hT (i := a + i) (by omega) (by omega)
    have r := y_br hT (i := a + i) (by omega)
    rw [if_pos c1]
    by_cases c2 : y_b b sz (a + i) = c
    · simp (disch := omega) only [c141, s141_0, s141_1, s141_2, s141_3, s141_4, s141_5, s141_6, s141_7, s141_8, s141_9, s141_10, s141_11, s141_12, s141_13, s141_14, s141_15, s141_16, s141_17, s141_18, s141_19, s141_20, s141_21, s141_22, s141_23, s141_24, ↓reduceIte, Bool.true_eq_false, Bool.false_eq_true, ip_rfS, true_or, or_true, true_and, and_true, Option.toList_some, Option.toList_none, List.cons_append, List.nil_append, ip_fxn, ip_fxi, ip_fxr, ip_fxl, ip_wid, ip_n998, ip_lt900, iO0, iO1, iA2, iA3, iA4, iA5, iA6, iA7, iA8, iO9, iA10, iA11, iA12, iA13, iA14, iA15, iA16, iO17, iA18, iO19, iA20, iA21, iA22, iA23, iO24, iA25, iO26, iA27, iA28, iO29, iA30, iA31, iO32, iA33, iA34, iO35, iA36, iA37, iO38, iA39, iA40, iO41, iA42, iA43, iO44, iA45, iA46, iA47, iA48, iA49, iA50, iA51, iA52, iA53, iO54, iA55, iO56, iA57, iO58, iA59, iO60, iA61, iO62, iA63, iA64, iA65, iA66, iA67, iA68, iA69, iA70, iA71, iA72, iA73, iA74, iA75, iA76, iA77, iA78, iOT, iAT1, iAT2, iOS, iAS, yp_a, yp_h, c1, q, c2, ip_r1, decide_true]
      rfl
    · simp (disch := omega) only [c141, s141_0, s141_1, s141_2, s141_3, s141_4, s141_5, s141_6, s141_7, s141_8, s141_9, s141_10, s141_11, s141_12, s141_13, s141_14, s141_15, s141_16, s141_17, s141_18, s141_19, s141_20, s141_21, s141_22, s141_23, s141_24, ↓reduceIte, Bool.true_eq_false, Bool.false_eq_true, ip_rfS, true_or, or_true, true_and, and_true, Option.toList_some, Option.toList_none, List.cons_append, List.nil_append, ip_fxn, ip_fxi, ip_fxr, ip_fxl, ip_wid, ip_n998, ip_lt900, iO0, iO1, iA2, iA3, iA4, iA5, iA6, iA7, iA8, iO9, iA10, iA11, iA12, iA13, iA14, iA15, iA16, iO17, iA18, iO19, iA20, iA21, iA22, iA23, iO24, iA25, iO26, iA27, iA28, iO29, iA30, iA31, iO32, iA33, iA34, iO35, iA36, iA37, iO38, iA39, iA40, iO41, iA42, iA43, iO44, iA45, iA46, iA47, iA48, iA49, iA50, iA51, iA52, iA53, iO54, iA55, iO56, iA57, iO58, iA59, iO60, iA61, iO62, iA63, iA64, iA65, iA66, iA67, iA68, iA69, iA70, iA71, iA72, iA73, iA74, iA75, iA76, iA77, iA78, iOT, iAT1, iAT2, iOS, iAS, yp_a, yp_h, c1, q, c2, ip_r0, decide_false]
      rfl
  · rw [if_neg c1]
    by_cases c2 : c = 0
    · simp (disch := omega) only [c141, s141_0, s141_1, s141_2, s141_3, s141_4, s141_5, s141_6, s141_7, s141_8, s141_9, s141_10, s141_11, s141_12, s141_13, s141_14, s141_15, s141_16, s141_17, s141_18, s141_19, s141_20, s141_21, s141_22, s141_23, s141_24, ↓reduceIte, Bool.true_eq_false, Bool.false_eq_true, ip_rfS, true_or, or_true, true_and, and_true, Option.toList_some, Option.toList_none, List.cons_append, List.nil_append, ip_fxn, ip_fxi, ip_fxr, ip_fxl, ip_wid, ip_n998, ip_lt900, iO0, iO1, iA2, iA3, iA4, iA5, iA6, iA7, iA8, iO9, iA10, iA11, iA12, iA13, iA14, iA15, iA16, iO17, iA18, iO19, iA20, iA21, iA22, iA23, iO24, iA25, iO26, iA27, iA28, iO29, iA30, iA31, iO32, iA33, iA34, iO35, iA36, iA37, iO38, iA39, iA40, iO41, iA42, iA43, iO44, iA45, iA46, iA47, iA48, iA49, iA50, iA51, iA52, iA53, iO54, iA55, iO56, iA57, iO58, iA59, iO60, iA61, iO62, iA63, iA64, iA65, iA66, iA67, iA68, iA69, iA70, iA71, iA72, iA73, iA74, iA75, iA76, iA77, iA78, iOT, iAT1, iAT2, iOS, iAS, yp_a, yp_h, c1, c2, ip_r1, decide_true]
      rfl
    · simp (disch := omega) only [c141, s141_0, s141_1, s141_2, s141_3, s141_4, s141_5, s141_6, s141_7, s141_8, s141_9, s141_10, s141_11, s141_12, s141_13, s141_14, s141_15, s141_16, s141_17, s141_18, s141_19, s141_20, s141_21, s141_22, s141_23, s141_24, ↓reduceIte, Bool.true_eq_false, Bool.false_eq_true, ip_rfS, true_or, or_true, true_and, and_true, Option.toList_some, Option.toList_none, List.cons_append, List.nil_append, ip_fxn, ip_fxi, ip_fxr, ip_fxl, ip_wid, ip_n998, ip_lt900, iO0, iO1, iA2, iA3, iA4, iA5, iA6, iA7, iA8, iO9, iA10, iA11, iA12, iA13, iA14, iA15, iA16, iO17, iA18, iO19, iA20, iA21, iA22, iA23, iO24, iA25, iO26, iA27, iA28, iO29, iA30, iA31, iO32, iA33, iA34, iO35, iA36, iA37, iO38, iA39, iA40, iO41, iA42, iA43, iO44, iA45, iA46, iA47, iA48, iA49, iA50, iA51, iA52, iA53, iO54, iA55, iO56, iA57, iO58, iA59, iO60, iA61, iO62, iA63, iA64, iA65, iA66, iA67, iA68, iA69, iA70, iA71, iA72, iA73, iA74, iA75, iA76, iA77, iA78, iOT, iAT1, iAT2, iOS, iAS, yp_a, yp_h, c1, c2, ip_r0, decide_false]
      rfl
theorem q140b {c0 c1 c2 c3 c4 c5 c6 c7 : Int} {Q} : ip_wc (d + 3) 140 [.ref 62, vi c0, vi c1, vi c2, vi c3, vi c4, vi c5, vi c6, vi c7] 79 (y_P S h t a op 1 fl) R L Q = Q (some (vi 0)) 79 (y_P S h t a op 1 fl) R L := by
  simp (disch := omega) only [c140, s140_0, s140_1, s140_2, s140_3, s140_4, s140_5, s140_6, s140_7, s140_8, s140_9, s140_10, s140_11, s140_12, s140_13, s140_14, s140_15, s140_16, s140_17, s140_18, s140_19, s140_20, s140_21, s140_22, s140_23, s140_24, s140_25, s140_26, s140_27, s140_28, s140_29, s140_30, s140_31, s140_32, s140_33, s140_34, s140_35, s140_36, s140_37, s140_38, s140_39, s140_40, s140_41, s140_42, s140_43, s140_44, s140_45, s140_46, s140_47, s140_48, s140_49, s140_50, s140_51, s140_52, s140_53, s140_54, s140_55, s140_56, s140_57, ↓reduceIte, Bool.true_eq_false, Bool.false_eq_true, ip_rfS, true_or, or_true, true_and, and_true, Option.toList_some, Option.toList_none, List.cons_append, List.nil_append, ip_fxn, ip_fxi, ip_fxr, ip_fxl, ip_wid, ip_n998, ip_lt900, iO0, iO1, iA2, iA3, iA4, iA5, iA6, iA7, iA8, iO9, iA10, iA11, iA12, iA13, iA14, iA15, iA16, iO17, iA18, iO19, iA20, iA21, iA22, iA23, iO24, iA25, iO26, iA27, iA28, iO29, iA30, iA31, iO32, iA33, iA34, iO35, iA36, iA37, iO38, iA39, iA40, iO41, iA42, iA43, iO44, iA45, iA46, iA47, iA48, iA49, iA50, iA51, iA52, iA53, iO54, iA55, iO56, iA57, iO58, iA59, iO60, iA61, iO62, iA63, iA64, iA65, iA66, iA67, iA68, iA69, iA70, iA71, iA72, iA73, iA74, iA75, iA76, iA77, iA78, iOT, iAT1, iAT2, iOS, iAS, yp_d, ip_r0, Int.reduceEq]
theorem p140 {c0 c1 c2 c3 c4 c5 c6 c7 : Int} (hM : x_RM R) (hT : y_T S b sz) (ha : 0 ≤ a ∧ a ≤ sz) (ht : 0 ≤ t ∧ t ≤ 4) (hh : t = 1 → 0 ≤ h ∧ h ≤ sz) (h0 : 0 ≤ c0 ∧ c0 < 128) (h1 : 0 ≤ c1 ∧ c1 < 128) (h2 : 0 ≤ c2 ∧ c2 < 128) (h3 : 0 ≤ c3 ∧ c3 < 128) (h4 : 0 ≤ c4 ∧ c4 < 128) (h5 : 0 ≤ c5 ∧ c5 < 128) (h6 : 0 ≤ c6 ∧ c6 < 128) (h7 : 0 ≤ c7 ∧ c7 < 128) {Q} :
    ip_wc (d + 3) 140 [.ref 62, vi c0, vi c1, vi c2, vi c3, vi c4, vi c5, vi c6, vi c7] 79 (y_P S h t a op 0 fl) R L Q = Q (some (vi (k_n (decide (t = 1) && (decide (h ≤ a + 8) && y_ls b sz a h 0 [c0, c1, c2, c3, c4, c5, c6, c7]))))) 79 (y_P S h t a op 0 fl) R L := by
  have hs := hT.2.2.1
  by_cases e1 : t = 1
  · have hh' := hh e1
    subst e1
    have e1 : (1 : Int) = 1 := rfl
    have q := fun (i c : Int) (hi : 0 ≤ i ∧ i < 8) (hc : 0 ≤ c ∧ c < 128) Q => p141 (d := d) (L := L) (Q := Q) (t := 1) (op := op) (bd := 0) (fl := fl) hM hT ha hh'.2 hi hc hh'.1
    by_cases e2 : h ≤ a + 8
    · have g0 := fun Q => q 0 c0 (by omega) h0 Q
      have g1 := fun Q => q 1 c1 (by omega) h1 Q
      have g2 := fun Q => q 2 c2 (by omega) h2 Q
      have g3 := fun Q => q 3 c3 (by omega) h3 Q
      have g4 := fun Q => q 4 c4 (by omega) h4 Q
      have g5 := fun Q => q 5 c5 (by omega) h5 Q
      have g6 := fun Q => q 6 c6 (by omega) h6 Q
      have g7 := fun Q => q 7 c7 (by omega) h7 Q
      simp only [y_ls, Int.reduceAdd, Bool.and_true, decide_eq_true e1, decide_eq_true e2, Bool.true_and, Int.zero_add]
      simp (disch := omega) only [c140, s140_0, s140_1, s140_2, s140_3, s140_4, s140_5, s140_6, s140_7, s140_8, s140_9, s140_10, s140_11, s140_12, s140_13, s140_14, s140_15, s140_16, s140_17, s140_18, s140_19, s140_20, s140_21, s140_22, s140_23, s140_24, s140_25, s140_26, s140_27, s140_28, s140_29, s140_30, s140_31, s140_32, s140_33, s140_34, s140_35, s140_36, s140_37, s140_38, s140_39, s140_40, s140_41, s140_42, s140_43, s140_44, s140_45, s140_46, s140_47, s140_48, s140_49, s140_50, s140_51, s140_52, s140_53, s140_54, s140_55, s140_56, s140_57, ↓reduceIte, Bool.true_eq_false, Bool.false_eq_true, ip_rfS, true_or, or_true, true_and, and_true, Option.toList_some, Option.toList_none, List.cons_append, List.nil_append, ip_fxn, ip_fxi, ip_fxr, ip_fxl, ip_wid, ip_n998, ip_lt900, iO0, iO1, iA2, iA3, iA4, iA5, iA6, iA7, iA8, iO9, iA10, iA11, iA12, iA13, iA14, iA15, iA16, iO17, iA18, iO19, iA20, iA21, iA22, iA23, iO24, iA25, iO26, iA27, iA28, iO29, iA30, iA31, iO32, iA33, iA34, iO35, iA36, iA37, iO38, iA39, iA40, iO41, iA42, iA43, iO44, iA45, iA46, iA47, iA48, iA49, iA50, iA51, iA52, iA53, iO54, iA55, iO56, iA57, iO58, iA59, iO60, iA61, iO62, iA63, iA64, iA65, iA66, iA67, iA68, iA69, iA70, iA71, iA72, iA73, iA74, iA75, iA76, iA77, iA78, iOT, iAT1, iAT2, iOS, iAS, yp_d, yp_t, yp_h, yp_a, show ¬ a + 8 < h by omega, ip_r0, ip_r1, g0, g1, g2, g3, g4, g5, g6, g7, k_n1, k_n0]
      cases y_il b sz a h 0 c0 <;> cases y_il b sz a h 1 c1 <;> try (simp [k_n]; done)
      cases y_il b sz a h 2 c2 <;> cases y_il b sz a h 3 c3 <;> try (simp [k_n]; done)
      cases y_il b sz a h 4 c4 <;> cases y_il b sz a h 5 c5 <;> try (simp [k_n]; done)
      cases y_il b sz a h 6 c6 <;> cases y_il b sz a h 7 c7 <;> simp [k_n]
    · rw [decide_eq_false e2]
      simp (disch := omega) only [c140, s140_0, s140_1, s140_2, s140_3, s140_4, s140_5, s140_6, s140_7, s140_8, s140_9, s140_10, s140_11, s140_12, s140_13, s140_14, s140_15, s140_16, s140_17, s140_18, s140_19, s140_20, s140_21, s140_22, s140_23, s140_24, s140_25, s140_26, s140_27, s140_28, s140_29, s140_30, s140_31, s140_32, s140_33, s140_34, s140_35, s140_36, s140_37, s140_38, s140_39, s140_40, s140_41, s140_42, s140_43, s140_44, s140_45, s140_46, s140_47, s140_48, s140_49, s140_50, s140_51, s140_52, s140_53, s140_54, s140_55, s140_56, s140_57, ↓reduceIte, Bool.true_eq_false, Bool.false_eq_true, ip_rfS, true_or, or_true, true_and, and_true, Option.toList_some, Option.toList_none, List.cons_append, List.nil_append, ip_fxn, ip_fxi, ip_fxr, ip_fxl, ip_wid, ip_n998, ip_lt900, iO0, iO1, iA2, iA3, iA4, iA5, iA6, iA7, iA8, iO9, iA10, iA11, iA12, iA13, iA14, iA15, iA16, iO17, iA18, iO19, iA20, iA21, iA22, iA23, iO24, iA25, iO26, iA27, iA28, iO29, iA30, iA31, iO32, iA33, iA34, iO35, iA36, iA37, iO38, iA39, iA40, iO41, iA42, iA43, iO44, iA45, iA46, iA47, iA48, iA49, iA50, iA51, iA52, iA53, iO54, iA55, iO56, iA57, iO58, iA59, iO60, iA61, iO62, iA63, iA64, iA65, iA66, iA67, iA68, iA69, iA70, iA71, iA72, iA73, iA74, iA75, iA76, iA77, iA78, iOT, iAT1, iAT2, iOS, iAS, yp_d, yp_t, yp_h, yp_a, show a + 8 < h by omega, ip_r0, Bool.false_and, Bool.and_false]
      rfl
  · rw [decide_eq_false e1]
    simp (disch := omega) only [c140, s140_0, s140_1, s140_2, s140_3, s140_4, s140_5, s140_6, s140_7, s140_8, s140_9, s140_10, s140_11, s140_12, s140_13, s140_14, s140_15, s140_16, s140_17, s140_18, s140_19, s140_20, s140_21, s140_22, s140_23, s140_24, s140_25, s140_26, s140_27, s140_28, s140_29, s140_30, s140_31, s140_32, s140_33, s140_34, s140_35, s140_36, s140_37, s140_38, s140_39, s140_40, s140_41, s140_42, s140_43, s140_44, s140_45, s140_46, s140_47, s140_48, s140_49, s140_50, s140_51, s140_52, s140_53, s140_54, s140_55, s140_56, s140_57, ↓reduceIte, Bool.true_eq_false, Bool.false_eq_true, ip_rfS, true_or, or_true, true_and, and_true, Option.toList_some, Option.toList_none, List.cons_append, List.nil_append, ip_fxn, ip_fxi, ip_fxr, ip_fxl, ip_wid, ip_n998, ip_lt900, iO0, iO1, iA2, iA3, iA4, iA5, iA6, iA7, iA8, iO9, iA10, iA11, iA12, iA13, iA14, iA15, iA16, iO17, iA18, iO19, iA20, iA21, iA22, iA23, iO24, iA25, iO26, iA27, iA28, iO29, iA30, iA31, iO32, iA33, iA34, iO35, iA36, iA37, iO38, iA39, iA40, iO41, iA42, iA43, iO44, iA45, iA46, iA47, iA48, iA49, iA50, iA51, iA52, iA53, iO54, iA55, iO56, iA57, iO58, iA59, iO60, iA61, iO62, iA63, iA64, iA65, iA66, iA67, iA68, iA69, iA70, iA71, iA72, iA73, iA74, iA75, iA76, iA77, iA78, iOT, iAT1, iAT2, iOS, iAS, yp_d, yp_t, e1, ip_r0, Bool.false_and]
    rfl
theorem y_Jhr (J : y_J b sz T P N la j h t a w) (hT : y_T S b sz) (hk : y_Tok b sz T P N la) (hj : 0 ≤ j) : t = 1 → 0 ≤ h ∧ h ≤ sz := by
  intro ht
  obtain ⟨r, ra, J⟩ := J
  rcases J with J | J | J | J | ⟨J, J' | J'⟩
  all_goals try omega
  obtain ⟨⟨p0, p1, -, -⟩, -⟩ := hk.2.2.1 j hj J.1
  have hE := y_Er (b := b) (sz := sz) p1
  rw [← r] at hE
  omega
/-- isWord of the k-th word -/
theorem q140 (k : Nat) (hk : k < 12) {ki : Int} (hki : (k : Int) = ki) {c0 c1 c2 c3 c4 c5 c6 c7 : Int} (hW : y_W8 k = [c0, c1, c2, c3, c4, c5, c6, c7]) (hM : x_RM R) (hC : y_C S b sz T P N la) (hj : 0 ≤ j) (J : y_J b sz T P N la j h t a w) (h0 : 0 ≤ c0 ∧ c0 < 128) (h1 : 0 ≤ c1 ∧ c1 < 128) (h2 : 0 ≤ c2 ∧ c2 < 128) (h3 : 0 ≤ c3 ∧ c3 < 128) (h4 : 0 ≤ c4 ∧ c4 < 128) (h5 : 0 ≤ c5 ∧ c5 < 128) (h6 : 0 ≤ c6 ∧ c6 < 128) (h7 : 0 ≤ c7 ∧ c7 < 128) {L' Q} :
    ip_wc (d + 3) 140 [.ref 62, vi c0, vi c1, vi c2, vi c3, vi c4, vi c5, vi c6, vi c7] 79 (y_P S h t a op 0 fl) R L' Q = Q (some (vi (k_n (decide (T j = ki))))) 79 (y_P S h t a op 0 fl) R L' := by
  rw [p140 hM hC.1 J.2.1 (y_Jt J) (y_Jhr J hC.1 hC.2.1 hj) h0 h1 h2 h3 h4 h5 h6 h7, ← hW, y_Jwd J hk, hki]
theorem q143 (ha : 0 ≤ a ∧ a ≤ 160) {L' Q} : ip_wc (d + 1) 143 [.ref 62] 79 (y_P S h t a op 0 fl) R L' Q = Q none 79 (y_P S h t a op 1 a) R L' := by
  simp (disch := omega) only [c143, s143_0, s143_1, s143_2, s143_3, s143_4, s143_5, s143_6, s143_7, s143_8, s143_9, s143_10, ↓reduceIte, Bool.true_eq_false, Bool.false_eq_true, ip_rfS, true_or, or_true, true_and, and_true, Option.toList_some, Option.toList_none, List.cons_append, List.nil_append, ip_fxn, ip_fxi, ip_fxr, ip_fxl, ip_wid, ip_n998, ip_lt900, iO0, iO1, iA2, iA3, iA4, iA5, iA6, iA7, iA8, iO9, iA10, iA11, iA12, iA13, iA14, iA15, iA16, iO17, iA18, iO19, iA20, iA21, iA22, iA23, iO24, iA25, iO26, iA27, iA28, iO29, iA30, iA31, iO32, iA33, iA34, iO35, iA36, iA37, iO38, iA39, iA40, iO41, iA42, iA43, iO44, iA45, iA46, iA47, iA48, iA49, iA50, iA51, iA52, iA53, iO54, iA55, iO56, iA57, iO58, iA59, iO60, iA61, iO62, iA63, iA64, iA65, iA66, iA67, iA68, iA69, iA70, iA71, iA72, iA73, iA74, iA75, iA76, iA77, iA78, iOT, iAT1, iAT2, iOS, iAS, yp_d, yp_a, yp_ud, yp_uf, ip_r1]
theorem q143b {L' Q} : ip_wc (d + 1) 143 [.ref 62] 79 (y_P S h t a op 1 fl) R L' Q = Q none 79 (y_P S h t a op 1 fl) R L' := by
  simp (disch := omega) only [c143, s143_0, s143_1, s143_2, s143_3, s143_4, s143_5, s143_6, s143_7, s143_8, s143_9, s143_10, ↓reduceIte, Bool.true_eq_false, Bool.false_eq_true, ip_rfS, true_or, or_true, true_and, and_true, Option.toList_some, Option.toList_none, List.cons_append, List.nil_append, ip_fxn, ip_fxi, ip_fxr, ip_fxl, ip_wid, ip_n998, ip_lt900, iO0, iO1, iA2, iA3, iA4, iA5, iA6, iA7, iA8, iO9, iA10, iA11, iA12, iA13, iA14, iA15, iA16, iO17, iA18, iO19, iA20, iA21, iA22, iA23, iO24, iA25, iO26, iA27, iA28, iO29, iA30, iA31, iO32, iA33, iA34, iO35, iA36, iA37, iO38, iA39, iA40, iO41, iA42, iA43, iO44, iA45, iA46, iA47, iA48, iA49, iA50, iA51, iA52, iA53, iO54, iA55, iO56, iA57, iO58, iA59, iO60, iA61, iO62, iA63, iA64, iA65, iA66, iA67, iA68, iA69, iA70, iA71, iA72, iA73, iA74, iA75, iA76, iA77, iA78, iOT, iAT1, iAT2, iOS, iAS, yp_d, Int.reduceEq]
end TKM
