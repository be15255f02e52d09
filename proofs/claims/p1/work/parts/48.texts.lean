/-! the constructor of the TEXTS -/
def m_RT : Nat → ip_R → ip_R
  | 0, R => R
  | t + 1, R => ip_ur (ip_ur (ip_ur (m_RT t R) (26 + 3 * t) 0 (27 + 3 * t)) (26 + 3 * t) 1 (28 + 3 * t)) 18 t (26 + 3 * t)
theorem m_RT17 {R : ip_R} {a : Nat} {k : Int} (ha : a < 26) (h18 : a ≠ 18) : ∀ t, m_RT t R a k = R a k
  | 0 => rfl
  | t + 1 => by
    unfold m_RT ip_ur
    rw [if_neg (by omega), if_neg (by omega), if_neg (by omega)]
    exact m_RT17 ha h18 t
section INK
variable {d n t : Nat} {S : ip_S} {R : ip_R} {L : ip_S} {Q : Option Value → Nat → ip_S → ip_R → ip_S → Prop}
theorem kT0 (h : t < 6) : ((ip_kd (26 + 3 * t)).1 = 10 + 5) = True := eq_true (of_eq_true (iOT h (Nat.le_refl 44))).2
theorem p4a (hR : R 17 0 = some 18) : ∀ (k t : Nat), t + k = 6 →
    ip_wp (d + 1) 4 24 [some (.ref 17), some (vi t)] [] (26 + 3 * t) S (m_RT t R) L Q = ip_wp (d + 1) 4 36 [some (.ref 17), some (vi 6)] [] 44 S (m_RT 6 R) L Q
  | 0, t, h => by
    have e : t = 6 := by omega
    subst e
    rw [s4_24]
    simp (disch := omega) only [s4_0, s4_1, s4_2, s4_3, s4_4, s4_5, s4_6, s4_7, s4_8, s4_9, s4_10, s4_11, s4_12, s4_13, s4_14, s4_15, s4_16, s4_17, s4_18, s4_19, s4_20, s4_21, s4_22, s4_23, s4_25, s4_26, s4_27, s4_28, s4_29, s4_30, s4_31, s4_32, s4_33, s4_34, s4_35, s4_37, s4_39, s4_40, s4_41, s4_42, s4_43, s4_44, s4_45, s4_46, s4_47, s4_48, s4_49, s4_50, s4_51, s4_52, s4_53, s4_54, ↓reduceIte, Bool.true_eq_false, Bool.false_eq_true, ip_rfS, true_or, or_true, true_and, and_true, Option.toList_some, Option.toList_none, List.cons_append, List.nil_append, ip_fxn, ip_fxi, ip_fxr, ip_fxl, ip_wid, show ((6 : Nat) : Int) = 6 from rfl, Int.lt_irrefl, Nat.reduceMul, Nat.reduceAdd]
  | k + 1, t, h => by
    have ih := p4a hR k (t + 1) (by omega)
    have e1 : 26 + 3 * (t + 1) = 29 + 3 * t := by omega
    rw [e1] at ih
    rw [s4_24, ← ih]
    have hr : m_RT t R 17 0 = some 18 := by rw [m_RT17 (by omega) (by omega)]; exact hR
    have c1 : ip_isA (29 + 3 * t) 18 3 (t : Int) = True := iA18 (by omega) (by omega) (by omega)
    have c2 : ip_isO (29 + 3 * t) (26 + 3 * t) 5 = True := iOT2 (by omega) (by omega)
    have c3 := fun Q' => p7 (d := d) (t := t) (S := S) (R := m_RT t R) (L := L) (Q := Q') (by omega)
    simp (disch := omega) only [s4_0, s4_1, s4_2, s4_3, s4_4, s4_5, s4_6, s4_7, s4_8, s4_9, s4_10, s4_11, s4_12, s4_13, s4_14, s4_15, s4_16, s4_17, s4_18, s4_19, s4_20, s4_21, s4_22, s4_23, s4_25, s4_26, s4_27, s4_28, s4_29, s4_30, s4_31, s4_32, s4_33, s4_34, s4_35, s4_37, s4_39, s4_40, s4_41, s4_42, s4_43, s4_44, s4_45, s4_46, s4_47, s4_48, s4_49, s4_50, s4_51, s4_52, s4_53, s4_54, ↓reduceIte, Bool.true_eq_false, Bool.false_eq_true, ip_rfS, true_or, or_true, true_and, and_true, Option.toList_some, Option.toList_none, List.cons_append, List.nil_append, ip_fxn, ip_fxi, ip_fxr, ip_fxl, ip_wid, ip_n998, ip_lt900, iO17, hr, show (t : Int) < 6 by omega, kT0 (show t < 6 by omega), show 26 + 3 * t + 1 = 27 + 3 * t by omega, c3, c1, c2, or_true, and_self, m_RT, show ((t + 1 : Nat) : Int) = (t : Int) + 1 from rfl]
    trace_state
end INK
