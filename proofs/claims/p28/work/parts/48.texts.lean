/-! the constructor of the TEXTS -/
def m_RT : Nat → ip_R → ip_R
  | 0, R => R
  | t + 1, R => ip_ur (ip_ur (ip_ur (m_RT t R) (26 + 3 * t) 0 (27 + 3 * t)) (26 + 3 * t) 1 (28 + 3 * t)) 18 t (26 + 3 * t)
theorem m_RT17 {R : ip_R} {a : Nat} {k : Int} (ha : a < 26) (h18 : a ≠ 18) : ∀ t, m_RT t R a k = R a k
  | 0 => rfl
  | t + 1 => by
    unfold m_RT ip_ur
    rw [if_neg (by omega), if_neg (by omega), if_neg (by omega)]
    exact m_RT17 ha h18 t
section INK
variable {d n t : Nat} {S : ip_S} {R : ip_R} {L : ip_S} {Q : Option Value → Nat → ip_S → ip_R → ip_S → Prop}
theorem kT0 (h : t < 6) : ((ip_kd (26 + 3 * t)).1 = 10 + 5) = True := eq_true (of_eq_true (iOT h (Nat.le_refl 44))).2
theorem p4a (hR : R 17 0 = some 18) : ∀ (k t : Nat), t + k = 6 →
    ip_wp (d + 1) 4 24 [some (.ref 17), some (vi t)] [] (26 + 3 * t) S (m_RT t R) L Q = ip_wp (d + 1) 4 36 [some (.ref 17), some (vi 6)] [] 44 S (m_RT 6 R) L Q
  | 0, t, h => by
    have e : t = 6 := by omega
    subst e
    rw [s4_24]
    simp (disch := omega) only [s4_0, s4_1, s4_2, s4_3, s4_4, s4_5, s4_6, s4_7, s4_8, s4_9, s4_10, s4_11, s4_12, s4_13, s4_14, s4_15, s4_16, s4_17, s4_18, s4_19, s4_20, s4_21, s4_22, s4_23, s4_25, s4_26, s4_27, s4_28, s4_29, s4_30, s4_31, s4_32, s4_33, s4_34, s4_35, s4_37, s4_39, s4_40, s4_41, s4_42, s4_43, s4_44, s4_45, s4_46, s4_47, s4_48, s4_49, s4_50, s4_51, s4_52, s4_53, s4_54, ↓reduceIte, Bool.true_eq_false, Bool.false_eq_true, ip_rfS, true_or, or_true, true_and, and_true, Option.toList_some, Option.toList_none, List.cons_append, List.nil_append, ip_fxn, ip_fxi, ip_fxr, ip_fxl, ip_wid, ip_n998, ip_lt900, show ((6 : Nat) : Int) = 6 from rfl, Int.lt_irrefl, Nat.reduceMul, Nat.reduceAdd]
  | k + 1, t, h => by
    have ih := p4a hR k (t + 1) (by omega)
    have e1 : 26 + 3 * (t + 1) = 29 + 3 * t := by omega
    rw [e1] at ih
    rw [s4_24, ← ih]
    have hr : m_RT t R 17 0 = some 18 := by rw [m_RT17 (by omega) (by omega)]; exact hR
    have c1 : ip_isA (29 + 3 * t) 18 3 (t : Int) = True := iA18 (by omega) (by omega) (by omega)
    have c2 : ip_isO (29 + 3 * t) (26 + 3 * t) 5 = True := iOT2 (by omega) (by omega)
    have c3 := fun Q' => p7 (d := d) (t := t) (S := S) (R := m_RT t R) (L := L) (Q := Q') (by omega)
    simp (disch := omega) only [s4_0, s4_1, s4_2, s4_3, s4_4, s4_5, s4_6, s4_7, s4_8, s4_9, s4_10, s4_11, s4_12, s4_13, s4_14, s4_15, s4_16, s4_17, s4_18, s4_19, s4_20, s4_21, s4_22, s4_23, s4_25, s4_26, s4_27, s4_28, s4_29, s4_30, s4_31, s4_32, s4_33, s4_34, s4_35, s4_37, s4_39, s4_40, s4_41, s4_42, s4_43, s4_44, s4_45, s4_46, s4_47, s4_48, s4_49, s4_50, s4_51, s4_52, s4_53, s4_54, ↓reduceIte, Bool.true_eq_false, Bool.false_eq_true, ip_rfS, true_or, or_true, true_and, and_true, Option.toList_some, Option.toList_none, List.cons_append, List.nil_append, ip_fxn, ip_fxi, ip_fxr, ip_fxl, ip_wid, ip_n998, ip_lt900, ip_n998, ip_lt900, iO17, hr, show (t : Int) < 6 by omega, kT0 (show t < 6 by omega), show 26 + 3 * t + 1 = 27 + 3 * t by omega, c3, c1, c2, or_true, and_self, m_RT, show ((t + 1 : Nat) : Int) = (t : Int) + 1 from rfl]
/-- so many letters of the first rule on THE TAPE -/
def m_tp (S : ip_S) (i : Int) : ip_S := fun a k => if a = 19 ∧ k = 4 then i else if a = 20 ∧ 0 ≤ k ∧ k < i then (ip_tx 0).getD k.toNat 0 else S a k
theorem m_tpu {S : ip_S} {i : Int} (h : 0 ≤ i) : ip_up (ip_up (m_tp S i) 20 i ((ip_tx 0).getD i.toNat 0)) 19 4 (i + 1) = m_tp S (i + 1) := by
  funext a k
  unfold ip_up m_tp
  by_cases h1 : a = 19 ∧ k = 4
  · rw [if_pos h1, if_pos h1]
  · rw [if_neg h1, if_neg h1, if_neg h1]
    by_cases h2 : a = 20 ∧ k = i
    · rw [if_pos h2, if_pos ⟨h2.1, by omega, by omega⟩, h2.2]
    · rw [if_neg h2]
      by_cases h3 : a = 20 ∧ 0 ≤ k ∧ k < i
      · rw [if_pos h3, if_pos ⟨h3.1, by omega, by omega⟩]
      · rw [if_neg h3, if_neg (by omega)]
theorem m_tp0 {S : ip_S} (h : S 19 4 = 0) : m_tp S 0 = S := by
  funext a k
  unfold m_tp
  by_cases h1 : a = 19 ∧ k = 4
  · rw [if_pos h1, h1.1, h1.2, h]
  · rw [if_neg h1, if_neg (by omega)]
theorem ip_k901 : ((901 : Nat) ≤ 901 ∧ (901 : Nat) < 914) = True := eq_true (by decide)
theorem m_tl : ((ip_tx 0).length : Int) = 62 := by decide +kernel
theorem p4b (hR : R 17 1 = some 19) (hR2 : R 19 0 = some 20) : ∀ (k : Nat) (i : Int), i + k = 62 → 0 ≤ i →
    ip_wp (d + 4) 4 38 [some (.ref 17), some (vi i)] [] 44 (m_tp S i) R L Q = ip_wp (d + 4) 4 51 [some (.ref 17), some (vi 62)] [] 44 (m_tp S 62) R L Q
  | 0, i, h, hi => by
    have h8 := fun Q' => p8 (d := d + 2) (n := 44) (S := m_tp S i) (R := R) (L := L) (Q := Q') (k := 0) (by omega)
    simp only [Nat.add_zero, m_tl] at h8
    have e : i = 62 := by omega
    subst e
    rw [s4_38]
    simp (disch := omega) only [s4_0, s4_1, s4_2, s4_3, s4_4, s4_5, s4_6, s4_7, s4_8, s4_9, s4_10, s4_11, s4_12, s4_13, s4_14, s4_15, s4_16, s4_17, s4_18, s4_19, s4_20, s4_21, s4_22, s4_23, s4_25, s4_26, s4_27, s4_28, s4_29, s4_30, s4_31, s4_32, s4_33, s4_34, s4_35, s4_37, s4_39, s4_40, s4_41, s4_42, s4_43, s4_44, s4_45, s4_46, s4_47, s4_48, s4_49, s4_50, s4_52, s4_53, s4_54, ↓reduceIte, Bool.true_eq_false, Bool.false_eq_true, ip_rfS, true_or, or_true, true_and, and_true, Option.toList_some, Option.toList_none, List.cons_append, List.nil_append, ip_fxn, ip_fxi, ip_fxr, ip_fxl, ip_wid, ip_n998, ip_lt900, h8, ip_k901, Int.lt_irrefl]
  | k + 1, i, h, hi => by
    have h8 := fun Q' => p8 (d := d + 2) (n := 44) (S := m_tp S i) (R := R) (L := L) (Q := Q') (k := 0) (by omega)
    have h10 := fun Q' => p10 (d := d) (n := 44) (S := m_tp S i) (R := R) (L := L) (Q := Q') (k := 0) (i := i) (by omega) hi (by rw [m_tl]; omega)
    have hv := ip_txV 0 (by omega) i.toNat (by omega)
    have h15 := fun Q' => p15 (d := d + 3) (n := 44) (S := m_tp S i) (R := R) (L := L) (Q := Q') (sz := i) (x := (ip_tx 0).getD i.toNat 0) (by omega) rfl hi (by omega) (ip_wid (by omega) (by omega)) hR2
    simp only [Nat.add_zero, m_tl] at h8 h10
    rw [m_tpu hi] at h15
    have ih := p4b hR hR2 k (i + 1) (by omega) (by omega)
    rw [← ih, s4_38]
    simp (disch := omega) only [s4_0, s4_1, s4_2, s4_3, s4_4, s4_5, s4_6, s4_7, s4_8, s4_9, s4_10, s4_11, s4_12, s4_13, s4_14, s4_15, s4_16, s4_17, s4_18, s4_19, s4_20, s4_21, s4_22, s4_23, s4_25, s4_26, s4_27, s4_28, s4_29, s4_30, s4_31, s4_32, s4_33, s4_34, s4_35, s4_37, s4_39, s4_40, s4_41, s4_42, s4_43, s4_44, s4_45, s4_46, s4_47, s4_48, s4_49, s4_50, s4_52, s4_53, s4_54, ↓reduceIte, Bool.true_eq_false, Bool.false_eq_true, ip_rfS, true_or, or_true, true_and, and_true, Option.toList_some, Option.toList_none, List.cons_append, List.nil_append, ip_fxn, ip_fxi, ip_fxr, ip_fxl, ip_wid, ip_n998, ip_lt900, ip_n998, ip_lt900, iO17, iO19, hR, h8, h10, h15, ip_k901, show i < 62 by omega]
end INK
