/-! all levels; a part; a text read whole by the reference -/
theorem v_rlc {F F' : Int → Int} (h : ∀ k, 0 ≤ k → k < 6 → F k = F' k) : ∀ (o : List Int) (l : Option (List Int)), v_rl F o l = v_rl F' o l
  | [], _ => rfl
  | c :: r, l => by
    unfold v_rl
    rw [v_rlc h r]
    congr 1
    cases l with
    | none => rfl
    | some l =>
      simp only [Option.bind_some]
      unfold v_s1
      by_cases c1 : -7 < c
      · rw [if_pos c1, if_pos c1]
        by_cases c2 : 0 ≤ c
        · rw [if_pos c2, if_pos c2]
        · rw [if_neg c2, if_neg c2, h _ (by omega) (by omega)]
      · rw [if_neg c1, if_neg c1]
section LVA
variable {d : Nat} {S : ip_S} {R : ip_R} {L : ip_S} {b : Int → Int} {sz : Int} {T P N : Int → Int} {la j h t a w op bd fl : Int}
theorem yL5 (hM : x_RM R) (hC : y_C S b sz T P N la) (d : Nat) : y_ok S R L b sz T P N la (d + 6) 155 5 (x_lv T N la 0).1 ∧ y_ok S R L b sz T P N la (d + 9) 152 5 (x_lv T N la 0).2 ∧ y_ok S R L b sz T P N la (d + 11) 161 5 (x_E T la (x_lv T N la 0).2) := by
  have h1 : ∀ d : Nat, y_ok S R L b sz T P N la (d + 6) 155 5 (x_lv T N la 0).1 := fun d => y155 rfl hM hC
  have h2 : ∀ d : Nat, y_ok S R L b sz T P N la (d + 8) 153 5 (x_sum T la (x_lv T N la 0).1) := fun d => y153 (d := d + 4) hM hC (y154 (d := d + 3) hM hC (h1 d))
  have h3 : ∀ d : Nat, y_ok S R L b sz T P N la (d + 9) 152 5 (x_lv T N la 0).2 := fun d => y152 (d := d + 5) rfl hM hC (h2 d)
  exact ⟨h1 d, h3 d, y161 (d := d + 7) hM hC (y162 (d := d + 6) hM hC (h3 d))⟩
theorem yL4 (hM : x_RM R) (hC : y_C S b sz T P N la) (d : Nat) : y_ok S R L b sz T P N la (d + 12) 160 4 (x_lv T N la 1).1 ∧ y_ok S R L b sz T P N la (d + 15) 151 4 (x_lv T N la 1).2 ∧ y_ok S R L b sz T P N la (d + 17) 166 4 (x_E T la (x_lv T N la 1).2) := by
  have p1 : ∀ d : Nat, y_ok S R L b sz T P N la (d + 11) 155 5 (x_lv T N la 0).1 := fun d => (yL5 hM hC (d + 5)).1
  have p2 : ∀ d : Nat, y_ok S R L b sz T P N la (d + 11) 161 5 (x_E T la (x_lv T N la 0).2) := fun d => (yL5 hM hC d).2.2
  have p3 : ∀ d : Nat, y_ok S R L b sz T P N la (d + 14) 152 5 (x_lv T N la 0).2 := fun d => (yL5 hM hC (d + 5)).2.1
  have h1 : ∀ d : Nat, y_ok S R L b sz T P N la (d + 12) 160 4 (x_lv T N la 1).1 := fun d => y160 (d := d + 6) (by omega) hM hC (p1 d) (p2 d)
  have h2 : ∀ d : Nat, y_ok S R L b sz T P N la (d + 14) 158 4 (x_sum T la (x_lv T N la 1).1) := fun d => y158 (d := d + 10) hM hC (y159 (d := d + 9) hM hC (h1 d))
  have h3 : ∀ d : Nat, y_ok S R L b sz T P N la (d + 15) 151 4 (x_lv T N la 1).2 := fun d => y151 (d := d + 10) (by omega) hM hC (h2 d) (p3 d)
  exact ⟨h1 d, h3 d, y166 (d := d + 13) hM hC (y167 (d := d + 12) hM hC (h3 d))⟩
theorem yL3 (hM : x_RM R) (hC : y_C S b sz T P N la) (d : Nat) : y_ok S R L b sz T P N la (d + 18) 165 3 (x_lv T N la 2).1 ∧ y_ok S R L b sz T P N la (d + 21) 150 3 (x_lv T N la 2).2 ∧ y_ok S R L b sz T P N la (d + 23) 171 3 (x_E T la (x_lv T N la 2).2) := by
  have p1 : ∀ d : Nat, y_ok S R L b sz T P N la (d + 17) 160 4 (x_lv T N la 1).1 := fun d => (yL4 hM hC (d + 5)).1
  have p2 : ∀ d : Nat, y_ok S R L b sz T P N la (d + 17) 166 4 (x_E T la (x_lv T N la 1).2) := fun d => (yL4 hM hC d).2.2
  have p3 : ∀ d : Nat, y_ok S R L b sz T P N la (d + 20) 151 4 (x_lv T N la 1).2 := fun d => (yL4 hM hC (d + 5)).2.1
  have h1 : ∀ d : Nat, y_ok S R L b sz T P N la (d + 18) 165 3 (x_lv T N la 2).1 := fun d => y165 (d := d + 12) (by omega) hM hC (p1 d) (p2 d)
  have h2 : ∀ d : Nat, y_ok S R L b sz T P N la (d + 20) 163 3 (x_sum T la (x_lv T N la 2).1) := fun d => y163 (d := d + 16) hM hC (y164 (d := d + 15) hM hC (h1 d))
  have h3 : ∀ d : Nat, y_ok S R L b sz T P N la (d + 21) 150 3 (x_lv T N la 2).2 := fun d => y150 (d := d + 16) (by omega) hM hC (h2 d) (p3 d)
  exact ⟨h1 d, h3 d, y171 (d := d + 19) hM hC (y172 (d := d + 18) hM hC (h3 d))⟩
theorem yL2 (hM : x_RM R) (hC : y_C S b sz T P N la) (d : Nat) : y_ok S R L b sz T P N la (d + 24) 170 2 (x_lv T N la 3).1 ∧ y_ok S R L b sz T P N la (d + 27) 149 2 (x_lv T N la 3).2 ∧ y_ok S R L b sz T P N la (d + 29) 176 2 (x_E T la (x_lv T N la 3).2) := by
  have p1 : ∀ d : Nat, y_ok S R L b sz T P N la (d + 23) 165 3 (x_lv T N la 2).1 := fun d => (yL3 hM hC (d + 5)).1
  have p2 : ∀ d : Nat, y_ok S R L b sz T P N la (d + 23) 171 3 (x_E T la (x_lv T N la 2).2) := fun d => (yL3 hM hC d).2.2
  have p3 : ∀ d : Nat, y_ok S R L b sz T P N la (d + 26) 150 3 (x_lv T N la 2).2 := fun d => (yL3 hM hC (d + 5)).2.1
  have h1 : ∀ d : Nat, y_ok S R L b sz T P N la (d + 24) 170 2 (x_lv T N la 3).1 := fun d => y170 (d := d + 18) (by omega) hM hC (p1 d) (p2 d)
  have h2 : ∀ d : Nat, y_ok S R L b sz T P N la (d + 26) 168 2 (x_sum T la (x_lv T N la 3).1) := fun d => y168 (d := d + 22) hM hC (y169 (d := d + 21) hM hC (h1 d))
  have h3 : ∀ d : Nat, y_ok S R L b sz T P N la (d + 27) 149 2 (x_lv T N la 3).2 := fun d => y149 (d := d + 22) (by omega) hM hC (h2 d) (p3 d)
  exact ⟨h1 d, h3 d, y176 (d := d + 25) hM hC (y177 (d := d + 24) hM hC (h3 d))⟩
theorem yL1 (hM : x_RM R) (hC : y_C S b sz T P N la) (d : Nat) : y_ok S R L b sz T P N la (d + 30) 175 1 (x_lv T N la 4).1 ∧ y_ok S R L b sz T P N la (d + 33) 148 1 (x_lv T N la 4).2 ∧ y_ok S R L b sz T P N la (d + 35) 181 1 (x_E T la (x_lv T N la 4).2) := by
  have p1 : ∀ d : Nat, y_ok S R L b sz T P N la (d + 29) 170 2 (x_lv T N la 3).1 := fun d => (yL2 hM hC (d + 5)).1
  have p2 : ∀ d : Nat, y_ok S R L b sz T P N la (d + 29) 176 2 (x_E T la (x_lv T N la 3).2) := fun d => (yL2 hM hC d).2.2
  have p3 : ∀ d : Nat, y_ok S R L b sz T P N la (d + 32) 149 2 (x_lv T N la 3).2 := fun d => (yL2 hM hC (d + 5)).2.1
  have h1 : ∀ d : Nat, y_ok S R L b sz T P N la (d + 30) 175 1 (x_lv T N la 4).1 := fun d => y175 (d := d + 24) (by omega) hM hC (p1 d) (p2 d)
  have h2 : ∀ d : Nat, y_ok S R L b sz T P N la (d + 32) 173 1 (x_sum T la (x_lv T N la 4).1) := fun d => y173 (d := d + 28) hM hC (y174 (d := d + 27) hM hC (h1 d))
  have h3 : ∀ d : Nat, y_ok S R L b sz T P N la (d + 33) 148 1 (x_lv T N la 4).2 := fun d => y148 (d := d + 28) (by omega) hM hC (h2 d) (p3 d)
  exact ⟨h1 d, h3 d, y181 (d := d + 31) hM hC (y182 (d := d + 30) hM hC (h3 d))⟩
theorem yL0 (hM : x_RM R) (hC : y_C S b sz T P N la) (d : Nat) : y_ok S R L b sz T P N la (d + 36) 180 0 (x_lv T N la 5).1 ∧ y_ok S R L b sz T P N la (d + 39) 146 0 (x_lv T N la 5).2 ∧ y_ok S R L b sz T P N la (d + 41) 144 0 (x_E T la (x_lv T N la 5).2) := by
  have p1 : ∀ d : Nat, y_ok S R L b sz T P N la (d + 35) 175 1 (x_lv T N la 4).1 := fun d => (yL1 hM hC (d + 5)).1
  have p2 : ∀ d : Nat, y_ok S R L b sz T P N la (d + 35) 181 1 (x_E T la (x_lv T N la 4).2) := fun d => (yL1 hM hC d).2.2
  have p3 : ∀ d : Nat, y_ok S R L b sz T P N la (d + 38) 148 1 (x_lv T N la 4).2 := fun d => (yL1 hM hC (d + 5)).2.1
  have h1 : ∀ d : Nat, y_ok S R L b sz T P N la (d + 36) 180 0 (x_lv T N la 5).1 := fun d => y180 (d := d + 30) (by omega) hM hC (p1 d) (p2 d)
  have h2 : ∀ d : Nat, y_ok S R L b sz T P N la (d + 38) 178 0 (x_sum T la (x_lv T N la 5).1) := fun d => y178 (d := d + 34) hM hC (y179 (d := d + 33) hM hC (h1 d))
  have h3 : ∀ d : Nat, y_ok S R L b sz T P N la (d + 39) 146 0 (x_lv T N la 5).2 := fun d => y146 (d := d + 34) (by omega) hM hC (h2 d) (p3 d)
  exact ⟨h1 d, h3 d, y144 (d := d + 37) hM hC (y145 (d := d + 36) hM hC (h3 d))⟩
theorem yE (hM : x_RM R) (hC : y_C S b sz T P N la) (d : Nat) : y_ok S R L b sz T P N la (d + 41) 144 0 (x_E5 T N la) := (yL0 hM hC d).2.2
theorem y142 {part : Int} (hp : 0 ≤ part ∧ part < 3) (hM : x_RM R) (hC : y_C S b sz T P N la) (hj : 0 ≤ j) (hj2 : j ≤ la) (J : y_J b sz T P N la j h t a w) :
    (j ≤ (x_part T N la part j).2.1 ∧ (x_part T N la part j).2.1 ≤ la) ∧ ∃ v h' t' a' w' bd' fl', y_res S b sz T P N la (x_part T N la part j) v h' t' a' w' bd' fl' ∧
    ∀ Q, ip_wc (d + 42) 142 [.ref 62, vi (k_n (decide (T j = part)))] 79 (y_P S h t a 0 0 fl) R (ip_up L 62 24 w) Q = Q (some (vi v)) 79 (y_P S h' t' a' 0 bd' fl') R (ip_up L 62 24 w') := by
  have hla := hC.2.1.2.1
  have hsz := hC.1.2.2.1
  have hjr := J.2.1
  have kt : k_n true = 1 := rfl
  have kf : k_n false = 0 := rfl
  by_cases q0 : T j = part
  · obtain ⟨n1, n2, h2, t2, a2, w2, J2, k2⟩ := q138 (d := d + 38) (L := L) hM hC hj J (by omega) (by omega)
    obtain ⟨⟨i1, i2, i3⟩, v3, h3, t3, a3, w3, bd3, fl3, ⟨r1, r2⟩, k3⟩ := yE (L := L) hM hC d (j + 1) h2 t2 a2 w2 fl (by omega) (by omega) J2
    unfold x_part
    rw [if_pos q0, n2]
    generalize x_E5 T N la (j + 1) = r at *
    obtain ⟨ft, jn, on⟩ := r
    dsimp only at *
    rw [decide_eq_true q0, kt]
    cases ft
    · obtain ⟨b1, b2⟩ := r2 rfl
      subst b1
      rw [if_neg (by simp)]
      refine ⟨⟨by dsimp only; omega, i2⟩, v3, h3, t3, a3, w3, 1, fl3, ⟨fun z => (by cases z), fun _ => ⟨rfl, b2⟩⟩, fun Q => ?_⟩
      simp (disch := omega) only [c142, s142_0, s142_1, s142_2, s142_3, s142_4, s142_5, s142_6, s142_7, s142_8, s142_9, s142_10, s142_11, s142_12, s142_13, s142_14, s142_15, s142_16, s142_17, s142_18, s142_19, s142_20, s142_21, s142_22, s142_23, s142_24, s142_25, s142_26, s142_27, s142_28, s142_29, ↓reduceIte, Bool.true_eq_false, Bool.false_eq_true, ip_rfS, true_or, or_true, true_and, and_true, Option.toList_some, Option.toList_none, List.cons_append, List.nil_append, ip_fxn, ip_fxi, ip_fxr, ip_fxl, ip_wid, ip_n998, ip_lt900, iO0, iO1, iA2, iA3, iA4, iA5, iA6, iA7, iA8, iO9, iA10, iA11, iA12, iA13, iA14, iA15, iA16, iO17, iA18, iO19, iA20, iA21, iA22, iA23, iO24, iA25, iO26, iA27, iA28, iO29, iA30, iA31, iO32, iA33, iA34, iO35, iA36, iA37, iO38, iA39, iA40, iO41, iA42, iA43, iO44, iA45, iA46, iA47, iA48, iA49, iA50, iA51, iA52, iA53, iO54, iA55, iO56, iA57, iO58, iA59, iO60, iA61, iO62, iA63, iA64, iA65, iA66, iA67, iA68, iA69, iA70, iA71, iA72, iA73, iA74, iA75, iA76, iA77, iA78, iOT, iAT1, iAT2, iOS, iAS, yp_d, k2, k3, q156b, q143b, Int.reduceEq]
    · obtain ⟨b1, J3, vw, vv⟩ := r1 rfl
      subst b1
      have h3j := i3 rfl
      have h3r := J3.2.1
      have e1 := fun Q' => q156 (d := d + 40) (S := S) (R := R) (L := L) (op := 0) (fl := fl3) (Q := Q') J3 (s := 59) (by omega)
      by_cases c1 : T jn = 59
      · obtain ⟨m1, m2, h4, t4, a4, w4, J4, k4⟩ := q138 (d := d + 38) (L := L) hM hC (by omega) J3 (by omega) (by omega)
        rw [if_pos (by simp [c1]), m2]
        refine ⟨⟨by dsimp only; omega, by dsimp only; omega⟩, v3, h4, t4, a4, w4, 0, fl3, ⟨fun _ => ⟨rfl, J4, vw, vv⟩, fun z => (by cases z)⟩, fun Q => ?_⟩
        simp (disch := omega) only [c142, s142_0, s142_1, s142_2, s142_3, s142_4, s142_5, s142_6, s142_7, s142_8, s142_9, s142_10, s142_11, s142_12, s142_13, s142_14, s142_15, s142_16, s142_17, s142_18, s142_19, s142_20, s142_21, s142_22, s142_23, s142_24, s142_25, s142_26, s142_27, s142_28, s142_29, ↓reduceIte, Bool.true_eq_false, Bool.false_eq_true, ip_rfS, true_or, or_true, true_and, and_true, Option.toList_some, Option.toList_none, List.cons_append, List.nil_append, ip_fxn, ip_fxi, ip_fxr, ip_fxl, ip_wid, ip_n998, ip_lt900, iO0, iO1, iA2, iA3, iA4, iA5, iA6, iA7, iA8, iO9, iA10, iA11, iA12, iA13, iA14, iA15, iA16, iO17, iA18, iO19, iA20, iA21, iA22, iA23, iO24, iA25, iO26, iA27, iA28, iO29, iA30, iA31, iO32, iA33, iA34, iO35, iA36, iA37, iO38, iA39, iA40, iO41, iA42, iA43, iO44, iA45, iA46, iA47, iA48, iA49, iA50, iA51, iA52, iA53, iO54, iA55, iO56, iA57, iO58, iA59, iO60, iA61, iO62, iA63, iA64, iA65, iA66, iA67, iA68, iA69, iA70, iA71, iA72, iA73, iA74, iA75, iA76, iA77, iA78, iOT, iAT1, iAT2, iOS, iAS, yp_d, k2, k3, e1, c1, k4, kt, kf, decide_true, Int.reduceEq]
      · have gb := fun Q' => q143 (d := d + 40) (S := S) (R := R) (h := h3) (t := t3) (a := a3) (op := 0) (fl := fl3) (L' := ip_up L 62 24 w3) (Q := Q') (by omega)
        rw [if_neg (by simp [c1])]
        refine ⟨⟨by dsimp only; omega, i2⟩, v3, h3, t3, a3, w3, 1, a3, ⟨fun z => (by cases z), fun _ => ⟨rfl, y_Ja J3⟩⟩, fun Q => ?_⟩
        simp (disch := omega) only [c142, s142_0, s142_1, s142_2, s142_3, s142_4, s142_5, s142_6, s142_7, s142_8, s142_9, s142_10, s142_11, s142_12, s142_13, s142_14, s142_15, s142_16, s142_17, s142_18, s142_19, s142_20, s142_21, s142_22, s142_23, s142_24, s142_25, s142_26, s142_27, s142_28, s142_29, ↓reduceIte, Bool.true_eq_false, Bool.false_eq_true, ip_rfS, true_or, or_true, true_and, and_true, Option.toList_some, Option.toList_none, List.cons_append, List.nil_append, ip_fxn, ip_fxi, ip_fxr, ip_fxl, ip_wid, ip_n998, ip_lt900, iO0, iO1, iA2, iA3, iA4, iA5, iA6, iA7, iA8, iO9, iA10, iA11, iA12, iA13, iA14, iA15, iA16, iO17, iA18, iO19, iA20, iA21, iA22, iA23, iO24, iA25, iO26, iA27, iA28, iO29, iA30, iA31, iO32, iA33, iA34, iO35, iA36, iA37, iO38, iA39, iA40, iO41, iA42, iA43, iO44, iA45, iA46, iA47, iA48, iA49, iA50, iA51, iA52, iA53, iO54, iA55, iO56, iA57, iO58, iA59, iO60, iA61, iO62, iA63, iA64, iA65, iA66, iA67, iA68, iA69, iA70, iA71, iA72, iA73, iA74, iA75, iA76, iA77, iA78, iOT, iAT1, iAT2, iOS, iAS, yp_d, k2, k3, e1, c1, gb, kt, kf, decide_false, Int.reduceEq]
  · have gb := fun Q' => q143 (d := d + 40) (S := S) (R := R) (h := h) (t := t) (a := a) (op := 0) (fl := fl) (L' := ip_up L 62 24 w) (Q := Q') (by omega)
    unfold x_part
    rw [if_neg q0, decide_eq_false q0, kf]
    refine ⟨⟨Int.le_refl _, hj2⟩, 0, h, t, a, w, 1, a, ⟨fun z => (by cases z), fun _ => ⟨rfl, y_Ja J⟩⟩, fun Q => ?_⟩
    simp (disch := omega) only [c142, s142_0, s142_1, s142_2, s142_3, s142_4, s142_5, s142_6, s142_7, s142_8, s142_9, s142_10, s142_11, s142_12, s142_13, s142_14, s142_15, s142_16, s142_17, s142_18, s142_19, s142_20, s142_21, s142_22, s142_23, s142_24, s142_25, s142_26, s142_27, s142_28, s142_29, ↓reduceIte, Bool.true_eq_false, Bool.false_eq_true, ip_rfS, true_or, or_true, true_and, and_true, Option.toList_some, Option.toList_none, List.cons_append, List.nil_append, ip_fxn, ip_fxi, ip_fxr, ip_fxl, ip_wid, ip_n998, ip_lt900, iO0, iO1, iA2, iA3, iA4, iA5, iA6, iA7, iA8, iO9, iA10, iA11, iA12, iA13, iA14, iA15, iA16, iO17, iA18, iO19, iA20, iA21, iA22, iA23, iO24, iA25, iO26, iA27, iA28, iO29, iA30, iA31, iO32, iA33, iA34, iO35, iA36, iA37, iO38, iA39, iA40, iO41, iA42, iA43, iO44, iA45, iA46, iA47, iA48, iA49, iA50, iA51, iA52, iA53, iO54, iA55, iO56, iA57, iO58, iA59, iO60, iA61, iO62, iA63, iA64, iA65, iA66, iA67, iA68, iA69, iA70, iA71, iA72, iA73, iA74, iA75, iA76, iA77, iA78, iOT, iAT1, iAT2, iOS, iAS, yp_d, gb, q156b, q143b, Int.reduceEq]
/-- the three parts, one behind the other -/
def x_q0 (T N : Int → Int) (la : Int) : x_PR := x_part T N la 0 0
def x_q1 (T N : Int → Int) (la : Int) : x_PR := x_part T N la 1 (x_q0 T N la).2.1
def x_q2 (T N : Int → Int) (la : Int) : x_PR := x_part T N la 2 (x_q1 T N la).2.1
def x_acc (T N : Int → Int) (la : Int) : Bool := (x_q0 T N la).1 && ((x_q1 T N la).1 && ((x_q2 T N la).1 && decide (T (x_q2 T N la).2.1 = -1)))
/-- where it ends, or what can't stand -/
def x_at (T N : Int → Int) (la : Int) : Int := if (x_q0 T N la).1 = true then (if (x_q1 T N la).1 = true then (x_q2 T N la).2.1 else (x_q1 T N la).2.1) else (x_q0 T N la).2.1
def x_qk (T N : Int → Int) (la k : Int) : x_PR := if k = 0 then x_q0 T N la else if k = 1 then x_q1 T N la else x_q2 T N la
theorem yW0 : y_W8 0 = [112, 117, 108, 108, 115, 0, 0, 0] := by decide +kernel
theorem yW1 : y_W8 1 = [109, 111, 111, 100, 115, 0, 0, 0] := by decide +kernel
theorem yW2 : y_W8 2 = [101, 110, 111, 117, 103, 104, 0, 0] := by decide +kernel
theorem y_Jend (J : y_J b sz T P N la j h t a w) : (t = 0) = (T j = -1) := by
  obtain ⟨-, -, J⟩ := J
  apply propext
  rcases J with J | J | J | J | J <;> omega
/-- what is read of text tt, as it stands in the reference -/
theorem y137 {tt k : Int} (hM : x_RM R) (ht : 0 ≤ tt ∧ tt < 6) (hk : 0 ≤ k ∧ k < 3) (hsz : S 64 tt = sz) (hs : 0 ≤ sz ∧ sz ≤ 160) (hb : ∀ i, 0 ≤ i → i < sz → S 63 (160 * tt + i) = b i) (hb2 : ∀ i, 0 ≤ i → i < sz → 0 ≤ b i ∧ b i < 256) (hTk : y_Tok b sz T P N la) :
    ∃ v h' t' a' w' bd' fl', (x_acc T N la = true → bd' = 0 ∧ ip_w v = v ∧ y_val (y_nam S) (x_qk T N la k).2.2 v) ∧ (x_acc T N la = false → bd' = 1 ∧ fl' = P (x_at T N la)) ∧
      ∀ Q, ip_wc (d + 43) 137 [.ref 62, vi tt, vi k] 79 S R L Q = Q (some (vi v)) 79 (y_P (ip_up (ip_up S 62 19 (160 * tt)) 62 20 sz) h' t' a' 0 bd' fl') R (ip_up L 62 24 w') := by
  generalize hS1 : ip_up (ip_up S 62 19 (160 * tt)) 62 20 sz = S1
  have e19 : S1 62 19 = 160 * tt := by rw [← hS1]; simp [ip_up]
  have e20 : S1 62 20 = sz := by rw [← hS1]; simp [ip_up]
  have e63 : S1 63 = S 63 := by rw [← hS1]; simp only [ip_upc (show 63 ≠ 62 by omega)]
  have enm : ∀ q, 13 ≤ q → q ≤ 18 → S1 62 q = S 62 q := fun q h1 h2 => by
    rw [← hS1]
    simp only [ip_up, show ¬ q = 19 by omega, show ¬ q = 20 by omega, and_false, if_false]
  have hT : y_T S1 b sz := ⟨by rw [e19]; omega, e20, hs, fun i h1 h2 => by rw [e63, e19]; exact hb i h1 h2, hb2⟩
  have hC : y_C S1 b sz T P N la := ⟨hT, hTk, trivial⟩
  have hla := hTk.2.1
  -- to the first token
  have J0 := y_Jx (w := L 62 24) (j := 0) hT hTk (h0 := 0) ⟨Int.le_refl 0, hs.1⟩ ⟨Int.le_refl 0, by omega⟩ (by rw [Int.sub_zero]; exact hTk.1)
  have k0 := fun t a fl Q => p138 (d := d + 39) (S := S1) (R := R) (L := L) (Q := Q) (h := 0) (t := t) (a := a) (o := 0) (bd := 0) (fl := fl) (w := L 62 24) hM hT (Int.le_refl 0) hs.1
  generalize y_nx b sz 0 (L 62 24) = nx at J0 k0
  obtain ⟨h0, t0, a0, w0⟩ := nx
  dsimp only at J0 k0
  have hL : ip_up L 62 24 (L 62 24) = L := by funext c k; unfold ip_up; split <;> simp_all
  rw [hL] at k0
  have g0 := fun fl Q' => q140 (d := d + 39) (op := 0) (fl := fl) (L' := ip_up L 62 24 w0) (Q := Q') 0 (by omega) (ki := 0) rfl yW0 hM hC (Int.le_refl 0) J0 (by omega) (by omega) (by omega) (by omega) (by omega) (by omega) (by omega) (by omega)
  obtain ⟨⟨i1, i2⟩, v1, h1, t1, a1, w1, bd1, fl1, ⟨r1, r2⟩, k1⟩ := y142 (d := d) (L := L) (fl := S 62 27) (part := 0) (by omega) hM hC (Int.le_refl 0) hla.1 J0
  have key : ip_up (ip_up (ip_up (ip_up (ip_up S 62 19 (160 * tt)) 62 20 sz) 62 21 0) 62 25 0) 62 26 0 = y_P S1 0 (S 62 22) (S 62 23) 0 0 (S 62 27) := by
    rw [← hS1]
    funext c q
    unfold ip_up y_P
    by_cases hc : c = 62
    · subst hc
      simp only [true_and, if_true]
      by_cases z1 : q = 26
      · simp [z1]
      · by_cases z2 : q = 25
        · simp [z2]
        · by_cases z3 : q = 21
          · simp [z3]
          · by_cases z4 : q = 22
            · simp [z4]
            · by_cases z5 : q = 23
              · simp [z5]
              · by_cases z6 : q = 27
                · simp [z6]
                · simp [z1, z2, z3, z4, z5, z6]
    · simp [hc]
  have hny : ∀ q, 0 ≤ q → q < 6 → y_nam S q = y_nam S1 q := fun q z0 z1 => by
    show ip_w (S 62 (13 + q)) = ip_w (S1 62 (13 + q))
    rw [enm (13 + q) (by omega) (by omega)]
  have hnam : ∀ (o : List Int) (v : Int), y_val (y_nam S1) o v → y_val (y_nam S) o v := fun o v hv l => (v_rlc hny o (some l)).trans (hv l)
  have z64 : ∀ c q v, c = 62 → ip_up S c q v 64 = S 64 := fun c q v hc => ip_upc (by omega)
  have hpre : ∀ Q, ip_wc (d + 43) 137 [.ref 62, vi tt, vi k] 79 S R L Q = ip_wc (d + 42) 142 [.ref 62, vi (k_n (decide (T 0 = 0)))] 79 (y_P S1 h0 t0 a0 0 0 (S 62 27)) R (ip_up L 62 24 w0) (fun v n S R L => ip_wp (d + 42) 137 34 [some (.ref 62), some (vi tt), some (vi k), none, none, none] (v.toList ++ []) n S R L Q) := fun Q => by
    simp (disch := omega) only [c137, s137_0, s137_1, s137_2, s137_3, s137_4, s137_5, s137_6, s137_7, s137_8, s137_9, s137_10, s137_11, s137_12, s137_13, s137_14, s137_15, s137_16, s137_17, s137_18, s137_19, s137_20, s137_21, s137_22, s137_23, s137_24, s137_25, s137_26, s137_27, s137_28, s137_29, s137_30, s137_31, s137_32, s137_33, ↓reduceIte, Bool.true_eq_false, Bool.false_eq_true, ip_rfS, true_or, or_true, true_and, and_true, Option.toList_some, Option.toList_none, List.cons_append, List.nil_append, ip_fxn, ip_fxi, ip_fxr, ip_fxl, ip_wid, ip_n998, ip_lt900, iO0, iO1, iA2, iA3, iA4, iA5, iA6, iA7, iA8, iO9, iA10, iA11, iA12, iA13, iA14, iA15, iA16, iO17, iA18, iO19, iA20, iA21, iA22, iA23, iO24, iA25, iO26, iA27, iA28, iO29, iA30, iA31, iO32, iA33, iA34, iO35, iA36, iA37, iO38, iA39, iA40, iO41, iA42, iA43, iO44, iA45, iA46, iA47, iA48, iA49, iA50, iA51, iA52, iA53, iO54, iA55, iO56, iA57, iO58, iA59, iO60, iA61, iO62, iA63, iA64, iA65, iA66, iA67, iA68, iA69, iA70, iA71, iA72, iA73, iA74, iA75, iA76, iA77, iA78, iOT, iAT1, iAT2, iOS, iAS, ↓yfm1 hM, ↓yfm2 hM, ↓yfm5 hM, ↓yfm8 hM, ↓yfm9 hM, ↓yfm10 hM, ↓yfm12 hM, ↓yfm28 hM, ↓yfm32 hM, ↓yfm35 hM, ↓yfm36 hM, ↓yfm37 hM, ↓yfm41 hM, ↓yfm42 hM, ↓yfm43 hM, ↓yfm44 hM, rm1 hM, rm2 hM, rm5 hM, rm8 hM, rm9 hM, rm10 hM, rm12 hM, rm28 hM, rm32 hM, rm35 hM, rm36 hM, rm37 hM, rm41 hM, rm42 hM, rm43 hM, rm44 hM, z64, hsz, key, k0, g0, k_n2]
  unfold x_acc x_at x_qk
  have kt : k_n true = 1 := rfl
  have kf : k_n false = 0 := rfl
  rw [show x_part T N la 0 0 = x_q0 T N la from rfl] at i1 i2 r1 r2
  by_cases a0t : (x_q0 T N la).1 = true
  · obtain ⟨b1, J1, vw1, vv1⟩ := r1 a0t
    subst b1
    rw [a0t, if_pos rfl, Bool.true_and]
    have g1 := fun fl Q' => q140 (d := d + 39) (op := 0) (fl := fl) (L' := ip_up L 62 24 w1) (Q := Q') 1 (by omega) (ki := 1) rfl yW1 hM hC i1 J1 (by omega) (by omega) (by omega) (by omega) (by omega) (by omega) (by omega) (by omega)
    obtain ⟨⟨m1, m2⟩, v2, h2, t2, a2, w2, bd2, fl2, ⟨s1, s2⟩, k2⟩ := y142 (d := d) (L := L) (fl := fl1) (part := 1) (by omega) hM hC i1 i2 J1
    rw [show x_part T N la 1 (x_q0 T N la).2.1 = x_q1 T N la from rfl] at m1 m2 s1 s2
    by_cases a1t : (x_q1 T N la).1 = true
    · obtain ⟨b2, J2, vw2, vv2⟩ := s1 a1t
      subst b2
      rw [a1t, if_pos rfl, Bool.true_and]
      have g2 := fun fl Q' => q140 (d := d + 39) (op := 0) (fl := fl) (L' := ip_up L 62 24 w2) (Q := Q') 2 (by omega) (ki := 2) rfl yW2 hM hC (by omega) J2 (by omega) (by omega) (by omega) (by omega) (by omega) (by omega) (by omega) (by omega)
      obtain ⟨⟨u1, u2⟩, v3, h3, t3, a3, w3, bd3, fl3, ⟨x1, x2⟩, k3⟩ := y142 (d := d) (L := L) (fl := fl2) (part := 2) (by omega) hM hC (by omega) m2 J2
      rw [show x_part T N la 2 (x_q1 T N la).2.1 = x_q2 T N la from rfl] at u1 u2 x1 x2
      by_cases a2t : (x_q2 T N la).1 = true
      · obtain ⟨b3, J3, vw3, vv3⟩ := x1 a2t
        subst b3
        rw [a2t, Bool.true_and]
        have h3r := J3.2.1
        have h3t := y_Jt J3
        have he := y_Jend J3
        by_cases c1 : T (x_q2 T N la).2.1 = -1
        · have et : t3 = 0 := by rw [he]; exact c1
          subst et
          rw [decide_eq_true c1]
          refine ⟨if k = 0 then v1 else if k = 1 then v2 else v3, h3, 0, a3, w3, 0, fl3, fun _ => ⟨rfl, ?_, ?_⟩, fun z => (by cases z), fun Q => ?_⟩
          · split
            · exact vw1
            · split
              · exact vw2
              · exact vw3
          · split
            · exact hnam _ _ vv1
            · split
              · exact hnam _ _ vv2
              · exact hnam _ _ vv3
          · rw [hpre Q, k1]
            obtain z | z | z : k = 0 ∨ k = 1 ∨ k = 2 := by omega
            all_goals subst z
            all_goals simp (disch := omega) only [s137_34, s137_35, s137_36, s137_37, s137_38, s137_39, s137_40, s137_41, s137_42, s137_43, s137_44, s137_45, s137_46, s137_47, s137_48, s137_49, s137_50, s137_51, s137_52, s137_53, s137_54, s137_55, s137_56, s137_57, s137_58, s137_59, s137_60, s137_61, s137_62, s137_63, s137_64, s137_65, s137_66, s137_67, s137_68, s137_69, s137_70, s137_71, s137_72, s137_73, s137_74, s137_75, s137_76, s137_77, s137_78, s137_79, s137_80, s137_81, s137_82, s137_83, s137_84, s137_85, s137_86, s137_87, s137_88, s137_89, ↓reduceIte, Bool.true_eq_false, Bool.false_eq_true, ip_rfS, true_or, or_true, true_and, and_true, Option.toList_some, Option.toList_none, List.cons_append, List.nil_append, ip_fxn, ip_fxi, ip_fxr, ip_fxl, ip_wid, ip_n998, ip_lt900, iO0, iO1, iA2, iA3, iA4, iA5, iA6, iA7, iA8, iO9, iA10, iA11, iA12, iA13, iA14, iA15, iA16, iO17, iA18, iO19, iA20, iA21, iA22, iA23, iO24, iA25, iO26, iA27, iA28, iO29, iA30, iA31, iO32, iA33, iA34, iO35, iA36, iA37, iO38, iA39, iA40, iO41, iA42, iA43, iO44, iA45, iA46, iA47, iA48, iA49, iA50, iA51, iA52, iA53, iO54, iA55, iO56, iA57, iO58, iA59, iO60, iA61, iO62, iA63, iA64, iA65, iA66, iA67, iA68, iA69, iA70, iA71, iA72, iA73, iA74, iA75, iA76, iA77, iA78, iOT, iAT1, iAT2, iOS, iAS, yp_d, yp_t, g1, k2, g2, k3, k_n2, Int.reduceEq, if_true, if_false]
        · have et : ¬ t3 = 0 := by rw [he]; exact c1
          have gb := fun Q' => q143 (d := d + 41) (S := S1) (R := R) (h := h3) (t := t3) (a := a3) (op := 0) (fl := fl3) (L' := ip_up L 62 24 w3) (Q := Q') (by omega)
          rw [decide_eq_false c1]
          refine ⟨if k = 0 then v1 else if k = 1 then v2 else v3, h3, t3, a3, w3, 1, a3, fun z => (by cases z), fun _ => ⟨rfl, y_Ja J3⟩, fun Q => ?_⟩
          rw [hpre Q, k1]
          obtain z | z | z : k = 0 ∨ k = 1 ∨ k = 2 := by omega
          all_goals subst z
          all_goals simp (disch := omega) only [s137_34, s137_35, s137_36, s137_37, s137_38, s137_39, s137_40, s137_41, s137_42, s137_43, s137_44, s137_45, s137_46, s137_47, s137_48, s137_49, s137_50, s137_51, s137_52, s137_53, s137_54, s137_55, s137_56, s137_57, s137_58, s137_59, s137_60, s137_61, s137_62, s137_63, s137_64, s137_65, s137_66, s137_67, s137_68, s137_69, s137_70, s137_71, s137_72, s137_73, s137_74, s137_75, s137_76, s137_77, s137_78, s137_79, s137_80, s137_81, s137_82, s137_83, s137_84, s137_85, s137_86, s137_87, s137_88, s137_89, ↓reduceIte, Bool.true_eq_false, Bool.false_eq_true, ip_rfS, true_or, or_true, true_and, and_true, Option.toList_some, Option.toList_none, List.cons_append, List.nil_append, ip_fxn, ip_fxi, ip_fxr, ip_fxl, ip_wid, ip_n998, ip_lt900, iO0, iO1, iA2, iA3, iA4, iA5, iA6, iA7, iA8, iO9, iA10, iA11, iA12, iA13, iA14, iA15, iA16, iO17, iA18, iO19, iA20, iA21, iA22, iA23, iO24, iA25, iO26, iA27, iA28, iO29, iA30, iA31, iO32, iA33, iA34, iO35, iA36, iA37, iO38, iA39, iA40, iO41, iA42, iA43, iO44, iA45, iA46, iA47, iA48, iA49, iA50, iA51, iA52, iA53, iO54, iA55, iO56, iA57, iO58, iA59, iO60, iA61, iO62, iA63, iA64, iA65, iA66, iA67, iA68, iA69, iA70, iA71, iA72, iA73, iA74, iA75, iA76, iA77, iA78, iOT, iAT1, iAT2, iOS, iAS, yp_d, yp_t, g1, k2, g2, k3, k_n2, et, gb, Int.reduceEq, if_true, if_false]
      · have a2f : (x_q2 T N la).1 = false := by simpa using a2t
        obtain ⟨b3, b4⟩ := x2 a2f
        subst b3
        rw [a2f, Bool.false_and]
        refine ⟨if k = 0 then v1 else if k = 1 then v2 else v3, h3, t3, a3, w3, 1, fl3, fun z => (by cases z), fun _ => ⟨rfl, b4⟩, fun Q => ?_⟩
        rw [hpre Q, k1]
        obtain z | z | z : k = 0 ∨ k = 1 ∨ k = 2 := by omega
        all_goals subst z
        all_goals simp (disch := omega) only [s137_34, s137_35, s137_36, s137_37, s137_38, s137_39, s137_40, s137_41, s137_42, s137_43, s137_44, s137_45, s137_46, s137_47, s137_48, s137_49, s137_50, s137_51, s137_52, s137_53, s137_54, s137_55, s137_56, s137_57, s137_58, s137_59, s137_60, s137_61, s137_62, s137_63, s137_64, s137_65, s137_66, s137_67, s137_68, s137_69, s137_70, s137_71, s137_72, s137_73, s137_74, s137_75, s137_76, s137_77, s137_78, s137_79, s137_80, s137_81, s137_82, s137_83, s137_84, s137_85, s137_86, s137_87, s137_88, s137_89, ↓reduceIte, Bool.true_eq_false, Bool.false_eq_true, ip_rfS, true_or, or_true, true_and, and_true, Option.toList_some, Option.toList_none, List.cons_append, List.nil_append, ip_fxn, ip_fxi, ip_fxr, ip_fxl, ip_wid, ip_n998, ip_lt900, iO0, iO1, iA2, iA3, iA4, iA5, iA6, iA7, iA8, iO9, iA10, iA11, iA12, iA13, iA14, iA15, iA16, iO17, iA18, iO19, iA20, iA21, iA22, iA23, iO24, iA25, iO26, iA27, iA28, iO29, iA30, iA31, iO32, iA33, iA34, iO35, iA36, iA37, iO38, iA39, iA40, iO41, iA42, iA43, iO44, iA45, iA46, iA47, iA48, iA49, iA50, iA51, iA52, iA53, iO54, iA55, iO56, iA57, iO58, iA59, iO60, iA61, iO62, iA63, iA64, iA65, iA66, iA67, iA68, iA69, iA70, iA71, iA72, iA73, iA74, iA75, iA76, iA77, iA78, iOT, iAT1, iAT2, iOS, iAS, yp_d, yp_t, g1, k2, g2, k3, k_n2, Int.reduceEq, if_true, if_false]
    · have a1f : (x_q1 T N la).1 = false := by simpa using a1t
      obtain ⟨b3, b4⟩ := s2 a1f
      subst b3
      rw [a1f, Bool.false_and, if_neg (show ¬ (false = true) by decide)]
      refine ⟨if k = 0 then v1 else if k = 1 then v2 else 0, h2, t2, a2, w2, 1, fl2, fun z => (by cases z), fun _ => ⟨rfl, b4⟩, fun Q => ?_⟩
      rw [hpre Q, k1]
      obtain z | z | z : k = 0 ∨ k = 1 ∨ k = 2 := by omega
      all_goals subst z
      all_goals simp (disch := omega) only [s137_34, s137_35, s137_36, s137_37, s137_38, s137_39, s137_40, s137_41, s137_42, s137_43, s137_44, s137_45, s137_46, s137_47, s137_48, s137_49, s137_50, s137_51, s137_52, s137_53, s137_54, s137_55, s137_56, s137_57, s137_58, s137_59, s137_60, s137_61, s137_62, s137_63, s137_64, s137_65, s137_66, s137_67, s137_68, s137_69, s137_70, s137_71, s137_72, s137_73, s137_74, s137_75, s137_76, s137_77, s137_78, s137_79, s137_80, s137_81, s137_82, s137_83, s137_84, s137_85, s137_86, s137_87, s137_88, s137_89, ↓reduceIte, Bool.true_eq_false, Bool.false_eq_true, ip_rfS, true_or, or_true, true_and, and_true, Option.toList_some, Option.toList_none, List.cons_append, List.nil_append, ip_fxn, ip_fxi, ip_fxr, ip_fxl, ip_wid, ip_n998, ip_lt900, iO0, iO1, iA2, iA3, iA4, iA5, iA6, iA7, iA8, iO9, iA10, iA11, iA12, iA13, iA14, iA15, iA16, iO17, iA18, iO19, iA20, iA21, iA22, iA23, iO24, iA25, iO26, iA27, iA28, iO29, iA30, iA31, iO32, iA33, iA34, iO35, iA36, iA37, iO38, iA39, iA40, iO41, iA42, iA43, iO44, iA45, iA46, iA47, iA48, iA49, iA50, iA51, iA52, iA53, iO54, iA55, iO56, iA57, iO58, iA59, iO60, iA61, iO62, iA63, iA64, iA65, iA66, iA67, iA68, iA69, iA70, iA71, iA72, iA73, iA74, iA75, iA76, iA77, iA78, iOT, iAT1, iAT2, iOS, iAS, yp_d, yp_t, g1, k2, k_n2, Int.reduceEq, if_true, if_false]
  · have a0f : (x_q0 T N la).1 = false := by simpa using a0t
    obtain ⟨b3, b4⟩ := r2 a0f
    subst b3
    rw [a0f, Bool.false_and, if_neg (show ¬ (false = true) by decide)]
    refine ⟨if k = 0 then v1 else 0, h1, t1, a1, w1, 1, fl1, fun z => (by cases z), fun _ => ⟨rfl, b4⟩, fun Q => ?_⟩
    rw [hpre Q, k1]
    obtain z | z | z : k = 0 ∨ k = 1 ∨ k = 2 := by omega
    all_goals subst z
    all_goals simp (disch := omega) only [s137_34, s137_35, s137_36, s137_37, s137_38, s137_39, s137_40, s137_41, s137_42, s137_43, s137_44, s137_45, s137_46, s137_47, s137_48, s137_49, s137_50, s137_51, s137_52, s137_53, s137_54, s137_55, s137_56, s137_57, s137_58, s137_59, s137_60, s137_61, s137_62, s137_63, s137_64, s137_65, s137_66, s137_67, s137_68, s137_69, s137_70, s137_71, s137_72, s137_73, s137_74, s137_75, s137_76, s137_77, s137_78, s137_79, s137_80, s137_81, s137_82, s137_83, s137_84, s137_85, s137_86, s137_87, s137_88, s137_89, ↓reduceIte, Bool.true_eq_false, Bool.false_eq_true, ip_rfS, true_or, or_true, true_and, and_true, Option.toList_some, Option.toList_none, List.cons_append, List.nil_append, ip_fxn, ip_fxi, ip_fxr, ip_fxl, ip_wid, ip_n998, ip_lt900, iO0, iO1, iA2, iA3, iA4, iA5, iA6, iA7, iA8, iO9, iA10, iA11, iA12, iA13, iA14, iA15, iA16, iO17, iA18, iO19, iA20, iA21, iA22, iA23, iO24, iA25, iO26, iA27, iA28, iO29, iA30, iA31, iO32, iA33, iA34, iO35, iA36, iA37, iO38, iA39, iA40, iO41, iA42, iA43, iO44, iA45, iA46, iA47, iA48, iA49, iA50, iA51, iA52, iA53, iO54, iA55, iO56, iA57, iO58, iA59, iO60, iA61, iO62, iA63, iA64, iA65, iA66, iA67, iA68, iA69, iA70, iA71, iA72, iA73, iA74, iA75, iA76, iA77, iA78, iOT, iAT1, iAT2, iOS, iAS, yp_d, yp_t, k_n2, Int.reduceEq, if_true, if_false]
end LVA
