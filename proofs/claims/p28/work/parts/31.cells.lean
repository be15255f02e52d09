/-! the cells of the claim by their number: is it an object, a row, a place of it -/
theorem ip_n998 {x : Nat} (h : x < 900) : (¬ x = 998) = True := eq_true (by omega)
theorem ip_isOof {n a ci : Nat} (h : a < n) (hk : (ip_kd a).1 = 10 + ci) : ip_isO n a ci = True := eq_true ⟨h, hk⟩
theorem ip_isAof {n a tag sz : Nat} {z : Int} (hk : ip_kd a = (tag, sz)) (h : a < n) (h0 : 0 ≤ z) (h1 : z < (sz : Int)) : ip_isA n a tag z = True := eq_true ⟨h, by rw [hk], h0, by rw [hk]; exact h1⟩
theorem ip_r0 {P : Prop} : ((ip_w 0 = 0 ∨ ip_w 0 = 1) ∧ P) = P := by rw [eq_true (show ip_w 0 = 0 ∨ ip_w 0 = 1 from Or.inl (by decide +kernel)), true_and]
theorem ip_r1 {P : Prop} : ((ip_w 1 = 0 ∨ ip_w 1 = 1) ∧ P) = P := by rw [eq_true (show ip_w 1 = 0 ∨ ip_w 1 = 1 from Or.inr (by decide +kernel)), true_and]
theorem ip_lt900 {x : Nat} (h : x < 900) : (x < 900) = True := eq_true h
theorem iO0 {n : Nat} (h : 0 < n) : ip_isO n 0 0 = True := ip_isOof h rfl
theorem iO1 {n : Nat} (h : 1 < n) : ip_isO n 1 1 = True := ip_isOof h rfl
theorem iA2 {n : Nat} {z : Int} (h : 2 < n) (h0 : 0 ≤ z) (h1 : z < 64) : ip_isA n 2 0 z = True := ip_isAof rfl h h0 h1
theorem iA3 {n : Nat} {z : Int} (h : 3 < n) (h0 : 0 ≤ z) (h1 : z < 64) : ip_isA n 3 0 z = True := ip_isAof rfl h h0 h1
theorem iA4 {n : Nat} {z : Int} (h : 4 < n) (h0 : 0 ≤ z) (h1 : z < 6) : ip_isA n 4 0 z = True := ip_isAof rfl h h0 h1
theorem iA5 {n : Nat} {z : Int} (h : 5 < n) (h0 : 0 ≤ z) (h1 : z < 6) : ip_isA n 5 0 z = True := ip_isAof rfl h h0 h1
theorem iA6 {n : Nat} {z : Int} (h : 6 < n) (h0 : 0 ≤ z) (h1 : z < 6) : ip_isA n 6 0 z = True := ip_isAof rfl h h0 h1
theorem iA7 {n : Nat} {z : Int} (h : 7 < n) (h0 : 0 ≤ z) (h1 : z < 6) : ip_isA n 7 0 z = True := ip_isAof rfl h h0 h1
theorem iA8 {n : Nat} {z : Int} (h : 8 < n) (h0 : 0 ≤ z) (h1 : z < 2) : ip_isA n 8 0 z = True := ip_isAof rfl h h0 h1
theorem iO9 {n : Nat} (h : 9 < n) : ip_isO n 9 1 = True := ip_isOof h rfl
theorem iA10 {n : Nat} {z : Int} (h : 10 < n) (h0 : 0 ≤ z) (h1 : z < 64) : ip_isA n 10 0 z = True := ip_isAof rfl h h0 h1
theorem iA11 {n : Nat} {z : Int} (h : 11 < n) (h0 : 0 ≤ z) (h1 : z < 64) : ip_isA n 11 0 z = True := ip_isAof rfl h h0 h1
theorem iA12 {n : Nat} {z : Int} (h : 12 < n) (h0 : 0 ≤ z) (h1 : z < 6) : ip_isA n 12 0 z = True := ip_isAof rfl h h0 h1
theorem iA13 {n : Nat} {z : Int} (h : 13 < n) (h0 : 0 ≤ z) (h1 : z < 6) : ip_isA n 13 0 z = True := ip_isAof rfl h h0 h1
theorem iA14 {n : Nat} {z : Int} (h : 14 < n) (h0 : 0 ≤ z) (h1 : z < 6) : ip_isA n 14 0 z = True := ip_isAof rfl h h0 h1
theorem iA15 {n : Nat} {z : Int} (h : 15 < n) (h0 : 0 ≤ z) (h1 : z < 6) : ip_isA n 15 0 z = True := ip_isAof rfl h h0 h1
theorem iA16 {n : Nat} {z : Int} (h : 16 < n) (h0 : 0 ≤ z) (h1 : z < 2) : ip_isA n 16 0 z = True := ip_isAof rfl h h0 h1
theorem iO17 {n : Nat} (h : 17 < n) : ip_isO n 17 2 = True := ip_isOof h rfl
theorem iA18 {n : Nat} {z : Int} (h : 18 < n) (h0 : 0 ≤ z) (h1 : z < 6) : ip_isA n 18 3 z = True := ip_isAof rfl h h0 h1
theorem iO19 {n : Nat} (h : 19 < n) : ip_isO n 19 3 = True := ip_isOof h rfl
theorem iA20 {n : Nat} {z : Int} (h : 20 < n) (h0 : 0 ≤ z) (h1 : z < 160) : ip_isA n 20 0 z = True := ip_isAof rfl h h0 h1
theorem iA21 {n : Nat} {z : Int} (h : 21 < n) (h0 : 0 ≤ z) (h1 : z < 161) : ip_isA n 21 0 z = True := ip_isAof rfl h h0 h1
theorem iA22 {n : Nat} {z : Int} (h : 22 < n) (h0 : 0 ≤ z) (h1 : z < 161) : ip_isA n 22 0 z = True := ip_isAof rfl h h0 h1
theorem iA23 {n : Nat} {z : Int} (h : 23 < n) (h0 : 0 ≤ z) (h1 : z < 161) : ip_isA n 23 0 z = True := ip_isAof rfl h h0 h1
theorem iO24 {n : Nat} (h : 24 < n) : ip_isO n 24 4 = True := ip_isOof h rfl
theorem iA25 {n : Nat} {z : Int} (h : 25 < n) (h0 : 0 ≤ z) (h1 : z < 160) : ip_isA n 25 0 z = True := ip_isAof rfl h h0 h1
theorem iO26 {n : Nat} (h : 26 < n) : ip_isO n 26 5 = True := ip_isOof h rfl
theorem iA27 {n : Nat} {z : Int} (h : 27 < n) (h0 : 0 ≤ z) (h1 : z < 160) : ip_isA n 27 0 z = True := ip_isAof rfl h h0 h1
theorem iA28 {n : Nat} {z : Int} (h : 28 < n) (h0 : 0 ≤ z) (h1 : z < 3) : ip_isA n 28 0 z = True := ip_isAof rfl h h0 h1
theorem iO29 {n : Nat} (h : 29 < n) : ip_isO n 29 5 = True := ip_isOof h rfl
theorem iA30 {n : Nat} {z : Int} (h : 30 < n) (h0 : 0 ≤ z) (h1 : z < 160) : ip_isA n 30 0 z = True := ip_isAof rfl h h0 h1
theorem iA31 {n : Nat} {z : Int} (h : 31 < n) (h0 : 0 ≤ z) (h1 : z < 3) : ip_isA n 31 0 z = True := ip_isAof rfl h h0 h1
theorem iO32 {n : Nat} (h : 32 < n) : ip_isO n 32 5 = True := ip_isOof h rfl
theorem iA33 {n : Nat} {z : Int} (h : 33 < n) (h0 : 0 ≤ z) (h1 : z < 160) : ip_isA n 33 0 z = True := ip_isAof rfl h h0 h1
theorem iA34 {n : Nat} {z : Int} (h : 34 < n) (h0 : 0 ≤ z) (h1 : z < 3) : ip_isA n 34 0 z = True := ip_isAof rfl h h0 h1
theorem iO35 {n : Nat} (h : 35 < n) : ip_isO n 35 5 = True := ip_isOof h rfl
theorem iA36 {n : Nat} {z : Int} (h : 36 < n) (h0 : 0 ≤ z) (h1 : z < 160) : ip_isA n 36 0 z = True := ip_isAof rfl h h0 h1
theorem iA37 {n : Nat} {z : Int} (h : 37 < n) (h0 : 0 ≤ z) (h1 : z < 3) : ip_isA n 37 0 z = True := ip_isAof rfl h h0 h1
theorem iO38 {n : Nat} (h : 38 < n) : ip_isO n 38 5 = True := ip_isOof h rfl
theorem iA39 {n : Nat} {z : Int} (h : 39 < n) (h0 : 0 ≤ z) (h1 : z < 160) : ip_isA n 39 0 z = True := ip_isAof rfl h h0 h1
theorem iA40 {n : Nat} {z : Int} (h : 40 < n) (h0 : 0 ≤ z) (h1 : z < 3) : ip_isA n 40 0 z = True := ip_isAof rfl h h0 h1
theorem iO41 {n : Nat} (h : 41 < n) : ip_isO n 41 5 = True := ip_isOof h rfl
theorem iA42 {n : Nat} {z : Int} (h : 42 < n) (h0 : 0 ≤ z) (h1 : z < 160) : ip_isA n 42 0 z = True := ip_isAof rfl h h0 h1
theorem iA43 {n : Nat} {z : Int} (h : 43 < n) (h0 : 0 ≤ z) (h1 : z < 3) : ip_isA n 43 0 z = True := ip_isAof rfl h h0 h1
theorem iO44 {n : Nat} (h : 44 < n) : ip_isO n 44 6 = True := ip_isOof h rfl
theorem iA45 {n : Nat} {z : Int} (h : 45 < n) (h0 : 0 ≤ z) (h1 : z < 6) : ip_isA n 45 0 z = True := ip_isAof rfl h h0 h1
theorem iA46 {n : Nat} {z : Int} (h : 46 < n) (h0 : 0 ≤ z) (h1 : z < 3) : ip_isA n 46 0 z = True := ip_isAof rfl h h0 h1
theorem iA47 {n : Nat} {z : Int} (h : 47 < n) (h0 : 0 ≤ z) (h1 : z < 3) : ip_isA n 47 0 z = True := ip_isAof rfl h h0 h1
theorem iA48 {n : Nat} {z : Int} (h : 48 < n) (h0 : 0 ≤ z) (h1 : z < 41) : ip_isA n 48 0 z = True := ip_isAof rfl h h0 h1
theorem iA49 {n : Nat} {z : Int} (h : 49 < n) (h0 : 0 ≤ z) (h1 : z < 4) : ip_isA n 49 2 z = True := ip_isAof rfl h h0 h1
theorem iA50 {n : Nat} {z : Int} (h : 50 < n) (h0 : 0 ≤ z) (h1 : z < 6) : ip_isA n 50 0 z = True := ip_isAof rfl h h0 h1
theorem iA51 {n : Nat} {z : Int} (h : 51 < n) (h0 : 0 ≤ z) (h1 : z < 36) : ip_isA n 51 0 z = True := ip_isAof rfl h h0 h1
theorem iA52 {n : Nat} {z : Int} (h : 52 < n) (h0 : 0 ≤ z) (h1 : z < 64) : ip_isA n 52 0 z = True := ip_isAof rfl h h0 h1
theorem iA53 {n : Nat} {z : Int} (h : 53 < n) (h0 : 0 ≤ z) (h1 : z < 64) : ip_isA n 53 0 z = True := ip_isAof rfl h h0 h1
theorem iO54 {n : Nat} (h : 54 < n) : ip_isO n 54 7 = True := ip_isOof h rfl
theorem iA55 {n : Nat} {z : Int} (h : 55 < n) (h0 : 0 ≤ z) (h1 : z < 40) : ip_isA n 55 0 z = True := ip_isAof rfl h h0 h1
theorem iO56 {n : Nat} (h : 56 < n) : ip_isO n 56 7 = True := ip_isOof h rfl
theorem iA57 {n : Nat} {z : Int} (h : 57 < n) (h0 : 0 ≤ z) (h1 : z < 40) : ip_isA n 57 0 z = True := ip_isAof rfl h h0 h1
theorem iO58 {n : Nat} (h : 58 < n) : ip_isO n 58 7 = True := ip_isOof h rfl
theorem iA59 {n : Nat} {z : Int} (h : 59 < n) (h0 : 0 ≤ z) (h1 : z < 40) : ip_isA n 59 0 z = True := ip_isAof rfl h h0 h1
theorem iO60 {n : Nat} (h : 60 < n) : ip_isO n 60 7 = True := ip_isOof h rfl
theorem iA61 {n : Nat} {z : Int} (h : 61 < n) (h0 : 0 ≤ z) (h1 : z < 40) : ip_isA n 61 0 z = True := ip_isAof rfl h h0 h1
theorem iO62 {n : Nat} (h : 62 < n) : ip_isO n 62 8 = True := ip_isOof h rfl
theorem iA63 {n : Nat} {z : Int} (h : 63 < n) (h0 : 0 ≤ z) (h1 : z < 960) : ip_isA n 63 0 z = True := ip_isAof rfl h h0 h1
theorem iA64 {n : Nat} {z : Int} (h : 64 < n) (h0 : 0 ≤ z) (h1 : z < 6) : ip_isA n 64 0 z = True := ip_isAof rfl h h0 h1
theorem iA65 {n : Nat} {z : Int} (h : 65 < n) (h0 : 0 ≤ z) (h1 : z < 160) : ip_isA n 65 0 z = True := ip_isAof rfl h h0 h1
theorem iA66 {n : Nat} {z : Int} (h : 66 < n) (h0 : 0 ≤ z) (h1 : z < 64) : ip_isA n 66 0 z = True := ip_isAof rfl h h0 h1
theorem iA67 {n : Nat} {z : Int} (h : 67 < n) (h0 : 0 ≤ z) (h1 : z < 6) : ip_isA n 67 0 z = True := ip_isAof rfl h h0 h1
theorem iA68 {n : Nat} {z : Int} (h : 68 < n) (h0 : 0 ≤ z) (h1 : z < 18) : ip_isA n 68 0 z = True := ip_isAof rfl h h0 h1
theorem iA69 {n : Nat} {z : Int} (h : 69 < n) (h0 : 0 ≤ z) (h1 : z < 64) : ip_isA n 69 0 z = True := ip_isAof rfl h h0 h1
theorem iA70 {n : Nat} {z : Int} (h : 70 < n) (h0 : 0 ≤ z) (h1 : z < 41) : ip_isA n 70 0 z = True := ip_isAof rfl h h0 h1
theorem iA71 {n : Nat} {z : Int} (h : 71 < n) (h0 : 0 ≤ z) (h1 : z < 36) : ip_isA n 71 0 z = True := ip_isAof rfl h h0 h1
theorem iA72 {n : Nat} {z : Int} (h : 72 < n) (h0 : 0 ≤ z) (h1 : z < 6) : ip_isA n 72 0 z = True := ip_isAof rfl h h0 h1
theorem iA73 {n : Nat} {z : Int} (h : 73 < n) (h0 : 0 ≤ z) (h1 : z < 64) : ip_isA n 73 0 z = True := ip_isAof rfl h h0 h1
theorem iA74 {n : Nat} {z : Int} (h : 74 < n) (h0 : 0 ≤ z) (h1 : z < 18) : ip_isA n 74 0 z = True := ip_isAof rfl h h0 h1
theorem iA75 {n : Nat} {z : Int} (h : 75 < n) (h0 : 0 ≤ z) (h1 : z < 4) : ip_isA n 75 1 z = True := ip_isAof rfl h h0 h1
theorem iA76 {n : Nat} {z : Int} (h : 76 < n) (h0 : 0 ≤ z) (h1 : z < 4) : ip_isA n 76 0 z = True := ip_isAof rfl h h0 h1
theorem iA77 {n : Nat} {z : Int} (h : 77 < n) (h0 : 0 ≤ z) (h1 : z < 4) : ip_isA n 77 0 z = True := ip_isAof rfl h h0 h1
theorem iA78 {n : Nat} {z : Int} (h : 78 < n) (h0 : 0 ≤ z) (h1 : z < 160) : ip_isA n 78 0 z = True := ip_isAof rfl h h0 h1
theorem iOT {n t : Nat} (h : t < 6) (hn : 44 ≤ n) : ip_isO n (26 + 3 * t) 5 = True := by
  refine ip_isOof (by omega) ?_
  match t, h with
  | 0, _ => rfl
  | 1, _ => rfl
  | 2, _ => rfl
  | 3, _ => rfl
  | 4, _ => rfl
  | 5, _ => rfl
  | t + 6, h => omega
theorem iAT1 {n t : Nat} {z : Int} (h : t < 6) (hn : 44 ≤ n) (h0 : 0 ≤ z) (h1 : z < 160) : ip_isA n (27 + 3 * t) 0 z = True := by
  refine ip_isAof (sz := 160) ?_ (by omega) h0 h1
  match t, h with
  | 0, _ => rfl
  | 1, _ => rfl
  | 2, _ => rfl
  | 3, _ => rfl
  | 4, _ => rfl
  | 5, _ => rfl
  | t + 6, h => omega
theorem iAT2 {n t : Nat} {z : Int} (h : t < 6) (hn : 44 ≤ n) (h0 : 0 ≤ z) (h1 : z < 3) : ip_isA n (28 + 3 * t) 0 z = True := by
  refine ip_isAof (sz := 3) ?_ (by omega) h0 h1
  match t, h with
  | 0, _ => rfl
  | 1, _ => rfl
  | 2, _ => rfl
  | 3, _ => rfl
  | 4, _ => rfl
  | 5, _ => rfl
  | t + 6, h => omega
theorem iOS {n s : Nat} (h : s < 4) (hn : 62 ≤ n) : ip_isO n (54 + 2 * s) 7 = True := by
  refine ip_isOof (by omega) ?_
  match s, h with
  | 0, _ => rfl
  | 1, _ => rfl
  | 2, _ => rfl
  | 3, _ => rfl
  | s + 4, h => omega
theorem iAS {n s : Nat} {z : Int} (h : s < 4) (hn : 62 ≤ n) (h0 : 0 ≤ z) (h1 : z < 40) : ip_isA n (55 + 2 * s) 0 z = True := by
  refine ip_isAof (sz := 40) ?_ (by omega) h0 h1
  match s, h with
  | 0, _ => rfl
  | 1, _ => rfl
  | 2, _ => rfl
  | 3, _ => rfl
  | s + 4, h => omega
