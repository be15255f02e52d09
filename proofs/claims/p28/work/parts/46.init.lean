/-! the constructors -/
theorem kN0 : ((ip_kd 0).1 = 10 + 0) = True := eq_true rfl
theorem kN1 : ((ip_kd 1).1 = 10 + 1) = True := eq_true rfl
theorem kN2 : ((ip_kd 2).1 = 0 ∧ (64 : Int) = ((ip_kd 2).2 : Int)) = True := eq_true ⟨rfl, rfl⟩
theorem kN3 : ((ip_kd 3).1 = 0 ∧ (64 : Int) = ((ip_kd 3).2 : Int)) = True := eq_true ⟨rfl, rfl⟩
theorem kN4 : ((ip_kd 4).1 = 0 ∧ (6 : Int) = ((ip_kd 4).2 : Int)) = True := eq_true ⟨rfl, rfl⟩
theorem kN5 : ((ip_kd 5).1 = 0 ∧ (6 : Int) = ((ip_kd 5).2 : Int)) = True := eq_true ⟨rfl, rfl⟩
theorem kN6 : ((ip_kd 6).1 = 0 ∧ (6 : Int) = ((ip_kd 6).2 : Int)) = True := eq_true ⟨rfl, rfl⟩
theorem kN7 : ((ip_kd 7).1 = 0 ∧ (6 : Int) = ((ip_kd 7).2 : Int)) = True := eq_true ⟨rfl, rfl⟩
theorem kN8 : ((ip_kd 8).1 = 0 ∧ (2 : Int) = ((ip_kd 8).2 : Int)) = True := eq_true ⟨rfl, rfl⟩
theorem kN9 : ((ip_kd 9).1 = 10 + 1) = True := eq_true rfl
theorem kN10 : ((ip_kd 10).1 = 0 ∧ (64 : Int) = ((ip_kd 10).2 : Int)) = True := eq_true ⟨rfl, rfl⟩
theorem kN11 : ((ip_kd 11).1 = 0 ∧ (64 : Int) = ((ip_kd 11).2 : Int)) = True := eq_true ⟨rfl, rfl⟩
theorem kN12 : ((ip_kd 12).1 = 0 ∧ (6 : Int) = ((ip_kd 12).2 : Int)) = True := eq_true ⟨rfl, rfl⟩
theorem kN13 : ((ip_kd 13).1 = 0 ∧ (6 : Int) = ((ip_kd 13).2 : Int)) = True := eq_true ⟨rfl, rfl⟩
theorem kN14 : ((ip_kd 14).1 = 0 ∧ (6 : Int) = ((ip_kd 14).2 : Int)) = True := eq_true ⟨rfl, rfl⟩
theorem kN15 : ((ip_kd 15).1 = 0 ∧ (6 : Int) = ((ip_kd 15).2 : Int)) = True := eq_true ⟨rfl, rfl⟩
theorem kN16 : ((ip_kd 16).1 = 0 ∧ (2 : Int) = ((ip_kd 16).2 : Int)) = True := eq_true ⟨rfl, rfl⟩
theorem kN17 : ((ip_kd 17).1 = 10 + 2) = True := eq_true rfl
theorem kN18 : ((3 = 2 ∨ 3 = 3) ∧ (ip_kd 18).1 = 3 ∧ (6 : Int) = ((ip_kd 18).2 : Int)) = True := eq_true ⟨by decide, rfl, rfl⟩
theorem kN19 : ((ip_kd 19).1 = 10 + 3) = True := eq_true rfl
theorem kN20 : ((ip_kd 20).1 = 0 ∧ (160 : Int) = ((ip_kd 20).2 : Int)) = True := eq_true ⟨rfl, rfl⟩
theorem kN21 : ((ip_kd 21).1 = 0 ∧ (161 : Int) = ((ip_kd 21).2 : Int)) = True := eq_true ⟨rfl, rfl⟩
theorem kN22 : ((ip_kd 22).1 = 0 ∧ (161 : Int) = ((ip_kd 22).2 : Int)) = True := eq_true ⟨rfl, rfl⟩
theorem kN23 : ((ip_kd 23).1 = 0 ∧ (161 : Int) = ((ip_kd 23).2 : Int)) = True := eq_true ⟨rfl, rfl⟩
theorem kN24 : ((ip_kd 24).1 = 10 + 4) = True := eq_true rfl
theorem kN25 : ((ip_kd 25).1 = 0 ∧ (160 : Int) = ((ip_kd 25).2 : Int)) = True := eq_true ⟨rfl, rfl⟩
theorem kN26 : ((ip_kd 26).1 = 10 + 5) = True := eq_true rfl
theorem kN27 : ((ip_kd 27).1 = 0 ∧ (160 : Int) = ((ip_kd 27).2 : Int)) = True := eq_true ⟨rfl, rfl⟩
theorem kN28 : ((ip_kd 28).1 = 0 ∧ (3 : Int) = ((ip_kd 28).2 : Int)) = True := eq_true ⟨rfl, rfl⟩
theorem kN29 : ((ip_kd 29).1 = 10 + 5) = True := eq_true rfl
theorem kN30 : ((ip_kd 30).1 = 0 ∧ (160 : Int) = ((ip_kd 30).2 : Int)) = True := eq_true ⟨rfl, rfl⟩
theorem kN31 : ((ip_kd 31).1 = 0 ∧ (3 : Int) = ((ip_kd 31).2 : Int)) = True := eq_true ⟨rfl, rfl⟩
theorem kN32 : ((ip_kd 32).1 = 10 + 5) = True := eq_true rfl
theorem kN33 : ((ip_kd 33).1 = 0 ∧ (160 : Int) = ((ip_kd 33).2 : Int)) = True := eq_true ⟨rfl, rfl⟩
theorem kN34 : ((ip_kd 34).1 = 0 ∧ (3 : Int) = ((ip_kd 34).2 : Int)) = True := eq_true ⟨rfl, rfl⟩
theorem kN35 : ((ip_kd 35).1 = 10 + 5) = True := eq_true rfl
theorem kN36 : ((ip_kd 36).1 = 0 ∧ (160 : Int) = ((ip_kd 36).2 : Int)) = True := eq_true ⟨rfl, rfl⟩
theorem kN37 : ((ip_kd 37).1 = 0 ∧ (3 : Int) = ((ip_kd 37).2 : Int)) = True := eq_true ⟨rfl, rfl⟩
theorem kN38 : ((ip_kd 38).1 = 10 + 5) = True := eq_true rfl
theorem kN39 : ((ip_kd 39).1 = 0 ∧ (160 : Int) = ((ip_kd 39).2 : Int)) = True := eq_true ⟨rfl, rfl⟩
theorem kN40 : ((ip_kd 40).1 = 0 ∧ (3 : Int) = ((ip_kd 40).2 : Int)) = True := eq_true ⟨rfl, rfl⟩
theorem kN41 : ((ip_kd 41).1 = 10 + 5) = True := eq_true rfl
theorem kN42 : ((ip_kd 42).1 = 0 ∧ (160 : Int) = ((ip_kd 42).2 : Int)) = True := eq_true ⟨rfl, rfl⟩
theorem kN43 : ((ip_kd 43).1 = 0 ∧ (3 : Int) = ((ip_kd 43).2 : Int)) = True := eq_true ⟨rfl, rfl⟩
theorem kN44 : ((ip_kd 44).1 = 10 + 6) = True := eq_true rfl
theorem kN45 : ((ip_kd 45).1 = 0 ∧ (6 : Int) = ((ip_kd 45).2 : Int)) = True := eq_true ⟨rfl, rfl⟩
theorem kN46 : ((ip_kd 46).1 = 0 ∧ (3 : Int) = ((ip_kd 46).2 : Int)) = True := eq_true ⟨rfl, rfl⟩
theorem kN47 : ((ip_kd 47).1 = 0 ∧ (3 : Int) = ((ip_kd 47).2 : Int)) = True := eq_true ⟨rfl, rfl⟩
theorem kN48 : ((ip_kd 48).1 = 0 ∧ (41 : Int) = ((ip_kd 48).2 : Int)) = True := eq_true ⟨rfl, rfl⟩
theorem kN49 : ((2 = 2 ∨ 2 = 3) ∧ (ip_kd 49).1 = 2 ∧ (4 : Int) = ((ip_kd 49).2 : Int)) = True := eq_true ⟨by decide, rfl, rfl⟩
theorem kN50 : ((ip_kd 50).1 = 0 ∧ (6 : Int) = ((ip_kd 50).2 : Int)) = True := eq_true ⟨rfl, rfl⟩
theorem kN51 : ((ip_kd 51).1 = 0 ∧ (36 : Int) = ((ip_kd 51).2 : Int)) = True := eq_true ⟨rfl, rfl⟩
theorem kN52 : ((ip_kd 52).1 = 0 ∧ (64 : Int) = ((ip_kd 52).2 : Int)) = True := eq_true ⟨rfl, rfl⟩
theorem kN53 : ((ip_kd 53).1 = 0 ∧ (64 : Int) = ((ip_kd 53).2 : Int)) = True := eq_true ⟨rfl, rfl⟩
theorem kN54 : ((ip_kd 54).1 = 10 + 7) = True := eq_true rfl
theorem kN55 : ((ip_kd 55).1 = 0 ∧ (40 : Int) = ((ip_kd 55).2 : Int)) = True := eq_true ⟨rfl, rfl⟩
theorem kN56 : ((ip_kd 56).1 = 10 + 7) = True := eq_true rfl
theorem kN57 : ((ip_kd 57).1 = 0 ∧ (40 : Int) = ((ip_kd 57).2 : Int)) = True := eq_true ⟨rfl, rfl⟩
theorem kN58 : ((ip_kd 58).1 = 10 + 7) = True := eq_true rfl
theorem kN59 : ((ip_kd 59).1 = 0 ∧ (40 : Int) = ((ip_kd 59).2 : Int)) = True := eq_true ⟨rfl, rfl⟩
theorem kN60 : ((ip_kd 60).1 = 10 + 7) = True := eq_true rfl
theorem kN61 : ((ip_kd 61).1 = 0 ∧ (40 : Int) = ((ip_kd 61).2 : Int)) = True := eq_true ⟨rfl, rfl⟩
theorem kN62 : ((ip_kd 62).1 = 10 + 8) = True := eq_true rfl
theorem kN63 : ((ip_kd 63).1 = 0 ∧ (960 : Int) = ((ip_kd 63).2 : Int)) = True := eq_true ⟨rfl, rfl⟩
theorem kN64 : ((ip_kd 64).1 = 0 ∧ (6 : Int) = ((ip_kd 64).2 : Int)) = True := eq_true ⟨rfl, rfl⟩
theorem kN65 : ((ip_kd 65).1 = 0 ∧ (160 : Int) = ((ip_kd 65).2 : Int)) = True := eq_true ⟨rfl, rfl⟩
theorem kN66 : ((ip_kd 66).1 = 0 ∧ (64 : Int) = ((ip_kd 66).2 : Int)) = True := eq_true ⟨rfl, rfl⟩
theorem kN67 : ((ip_kd 67).1 = 0 ∧ (6 : Int) = ((ip_kd 67).2 : Int)) = True := eq_true ⟨rfl, rfl⟩
theorem kN68 : ((ip_kd 68).1 = 0 ∧ (18 : Int) = ((ip_kd 68).2 : Int)) = True := eq_true ⟨rfl, rfl⟩
theorem kN69 : ((ip_kd 69).1 = 0 ∧ (64 : Int) = ((ip_kd 69).2 : Int)) = True := eq_true ⟨rfl, rfl⟩
theorem kN70 : ((ip_kd 70).1 = 0 ∧ (41 : Int) = ((ip_kd 70).2 : Int)) = True := eq_true ⟨rfl, rfl⟩
theorem kN71 : ((ip_kd 71).1 = 0 ∧ (36 : Int) = ((ip_kd 71).2 : Int)) = True := eq_true ⟨rfl, rfl⟩
theorem kN72 : ((ip_kd 72).1 = 0 ∧ (6 : Int) = ((ip_kd 72).2 : Int)) = True := eq_true ⟨rfl, rfl⟩
theorem kN73 : ((ip_kd 73).1 = 0 ∧ (64 : Int) = ((ip_kd 73).2 : Int)) = True := eq_true ⟨rfl, rfl⟩
theorem kN74 : ((ip_kd 74).1 = 0 ∧ (18 : Int) = ((ip_kd 74).2 : Int)) = True := eq_true ⟨rfl, rfl⟩
theorem kN75 : ((ip_kd 75).1 = 1 ∧ (4 : Int) = ((ip_kd 75).2 : Int)) = True := eq_true ⟨rfl, rfl⟩
theorem kN76 : ((ip_kd 76).1 = 0 ∧ (4 : Int) = ((ip_kd 76).2 : Int)) = True := eq_true ⟨rfl, rfl⟩
theorem kN77 : ((ip_kd 77).1 = 0 ∧ (4 : Int) = ((ip_kd 77).2 : Int)) = True := eq_true ⟨rfl, rfl⟩
theorem kN78 : ((ip_kd 78).1 = 0 ∧ (160 : Int) = ((ip_kd 78).2 : Int)) = True := eq_true ⟨rfl, rfl⟩
section INI
variable {d : Nat} {S : ip_S} {R : ip_R} {L : ip_S} {Q : Option Value → Nat → ip_S → ip_R → ip_S → Prop}
def m_RW1 (R : ip_R) : ip_R := (ip_ur (ip_ur (ip_ur (ip_ur (ip_ur (ip_ur (ip_ur R 1 0 2) 1 1 3) 1 2 4) 1 3 5) 1 4 6) 1 5 7) 1 6 8)
theorem p1_1 : ip_wc (d + 3) 1 [.ref 1] 2 S R L Q = Q none 9 (ip_ar (ip_up S 8 0 9) 3 (m_fw (S 2) (S 3))) (m_RW1 R) L := by
  have u0 : m_RW1 R 1 0 = some 2 := by simp [m_RW1, ip_ur]
  have u1 : m_RW1 R 1 1 = some 3 := by simp [m_RW1, ip_ur]
  have u6 : m_RW1 R 1 6 = some 8 := by simp [m_RW1, ip_ur]
  have e1 : ip_up S 8 0 9 2 = S 2 := by funext k; simp [ip_up]
  have e2 : ip_up S 8 0 9 3 = S 3 := by funext k; simp [ip_up]
  have hu : (ip_ur (ip_ur (ip_ur (ip_ur (ip_ur (ip_ur (ip_ur R 1 0 2) 1 1 3) 1 2 4) 1 3 5) 1 4 6) 1 5 7) 1 6 8) = m_RW1 R := rfl
  have h2 := fun Q' => p2 (d := d) (n := 9) (S := ip_up S 8 0 9) (R := m_RW1 R) (L := L) (Q := Q') (by omega) u0 u1
  rw [e1, e2] at h2
  simp (disch := omega) only [c1, s1_0, s1_1, s1_2, s1_3, s1_4, s1_5, s1_6, s1_7, s1_8, s1_9, s1_10, s1_11, s1_12, s1_13, s1_14, s1_15, s1_16, s1_17, s1_18, s1_19, s1_20, s1_21, s1_22, s1_23, s1_24, s1_25, s1_26, s1_27, s1_28, s1_29, s1_30, s1_31, s1_32, s1_33, s1_34, s1_35, s1_36, s1_37, ↓reduceIte, Bool.true_eq_false, Bool.false_eq_true, ip_rfS, true_or, or_true, true_and, and_true, Option.toList_some, Option.toList_none, List.cons_append, List.nil_append, ip_fxn, ip_fxi, ip_fxr, ip_fxl, ip_wid, ip_n998, ip_lt900, ip_n998, ip_lt900, iO1, iA8, Nat.reduceAdd, kN2, kN3, kN4, kN5, kN6, kN7, kN8, hu, u6, h2]

def m_RW9 (R : ip_R) : ip_R := (ip_ur (ip_ur (ip_ur (ip_ur (ip_ur (ip_ur (ip_ur R 9 0 10) 9 1 11) 9 2 12) 9 3 13) 9 4 14) 9 5 15) 9 6 16)
theorem p1_9 : ip_wc (d + 3) 1 [.ref 9] 10 S R L Q = Q none 17 (ip_ar (ip_up S 16 0 9) 11 (m_fw (S 10) (S 11))) (m_RW9 R) L := by
  have u0 : m_RW9 R 9 0 = some 10 := by simp [m_RW9, ip_ur]
  have u1 : m_RW9 R 9 1 = some 11 := by simp [m_RW9, ip_ur]
  have u6 : m_RW9 R 9 6 = some 16 := by simp [m_RW9, ip_ur]
  have e1 : ip_up S 16 0 9 10 = S 10 := by funext k; simp [ip_up]
  have e2 : ip_up S 16 0 9 11 = S 11 := by funext k; simp [ip_up]
  have hu : (ip_ur (ip_ur (ip_ur (ip_ur (ip_ur (ip_ur (ip_ur R 9 0 10) 9 1 11) 9 2 12) 9 3 13) 9 4 14) 9 5 15) 9 6 16) = m_RW9 R := rfl
  have h2 := fun Q' => p2i (d := d) (n := 17) (S := ip_up S 16 0 9) (R := m_RW9 R) (L := L) (Q := Q') (by omega) u0 u1
  rw [e1, e2] at h2
  simp (disch := omega) only [c1, s1_0, s1_1, s1_2, s1_3, s1_4, s1_5, s1_6, s1_7, s1_8, s1_9, s1_10, s1_11, s1_12, s1_13, s1_14, s1_15, s1_16, s1_17, s1_18, s1_19, s1_20, s1_21, s1_22, s1_23, s1_24, s1_25, s1_26, s1_27, s1_28, s1_29, s1_30, s1_31, s1_32, s1_33, s1_34, s1_35, s1_36, s1_37, ↓reduceIte, Bool.true_eq_false, Bool.false_eq_true, ip_rfS, true_or, or_true, true_and, and_true, Option.toList_some, Option.toList_none, List.cons_append, List.nil_append, ip_fxn, ip_fxi, ip_fxr, ip_fxl, ip_wid, ip_n998, ip_lt900, ip_n998, ip_lt900, iO9, iA16, Nat.reduceAdd, kN10, kN11, kN12, kN13, kN14, kN15, kN16, hu, u6, h2]

end INI
