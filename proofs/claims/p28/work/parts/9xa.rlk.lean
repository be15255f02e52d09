/-! the calls that only look, on both sides -/
def m_b1 (r : Int → Int) (k : Int) : Int := if r k = 0 then 0 else 1
theorem m_cntb {r : Int → Int} : ∀ (k : Nat) (i a : Int), m_cnt r k i a = m_cnt r k i 0 + a
  | 0, i, a => by rw [m_cnt, m_cnt]; omega
  | k + 1, i, a => by rw [m_cnt, m_cnt, m_cntb k, m_cntb k (i + 1) (0 + _)]; omega
theorem m_cub {r : Int → Int} : ∀ (k : Nat) (i a : Int), m_cu r k i a = m_cu r k i 0 + a
  | 0, i, a => by rw [m_cu, m_cu]; omega
  | k + 1, i, a => by rw [m_cu, m_cu, m_cub k, m_cub k (i + 1) (0 + _)]; omega
def m_row (r : Int → Int) (x : Int) : Int := m_b1 r (8 * x) + m_b1 r (8 * x + 1) + m_b1 r (8 * x + 2) + m_b1 r (8 * x + 3) + m_b1 r (8 * x + 4) + m_b1 r (8 * x + 5) + m_b1 r (8 * x + 6) + m_b1 r (8 * x + 7)
theorem m_cnt8 {r : Int → Int} {k : Nat} {x a : Int} : m_cnt r (k + 8) (8 * x) a = m_cnt r k (8 * (x + 1)) (a + m_row r x) := by
  unfold m_row m_b1
  rw [m_cnt, m_cnt, m_cnt, m_cnt, m_cnt, m_cnt, m_cnt, m_cnt]
  rw [show 8 * x + 1 + 1 = 8 * x + 2 by omega, show 8 * x + 2 + 1 = 8 * x + 3 by omega, show 8 * x + 3 + 1 = 8 * x + 4 by omega, show 8 * x + 4 + 1 = 8 * x + 5 by omega, show 8 * x + 5 + 1 = 8 * x + 6 by omega, show 8 * x + 6 + 1 = 8 * x + 7 by omega, show 8 * x + 7 + 1 = 8 * (x + 1) by omega]
  congr 1
  omega
theorem m_cntE {r : Int → Int} : m_cnt r 64 0 0 = m_row r 0 + m_row r 1 + m_row r 2 + m_row r 3 + m_row r 4 + m_row r 5 + m_row r 6 + m_row r 7 := by
  have e := fun (k : Nat) (x a : Int) => m_cnt8 (r := r) (k := k) (x := x) (a := a)
  have h := e 56 0 0
  rw [show (56 : Nat) + 8 = 64 from rfl, show (8 : Int) * 0 = 0 from rfl, show (0 : Int) + 1 = 1 from rfl] at h
  rw [h, show (56 : Nat) = 48 + 8 from rfl, e, show (1 : Int) + 1 = 2 from rfl, show (48 : Nat) = 40 + 8 from rfl, e, show (2 : Int) + 1 = 3 from rfl, show (40 : Nat) = 32 + 8 from rfl, e, show (3 : Int) + 1 = 4 from rfl, show (32 : Nat) = 24 + 8 from rfl, e, show (4 : Int) + 1 = 5 from rfl, show (24 : Nat) = 16 + 8 from rfl, e, show (5 : Int) + 1 = 6 from rfl, show (16 : Nat) = 8 + 8 from rfl, e, show (6 : Int) + 1 = 7 from rfl, show (8 : Nat) = 0 + 8 from rfl, e, m_cnt]
  omega
def m_up (r : Int → Int) (x k : Int) : Int := if 0 < r k ∧ k / 8 < k % 8 then 1 else 0
def m_rup (r : Int → Int) (x : Int) : Int := m_up r x (8 * x) + m_up r x (8 * x + 1) + m_up r x (8 * x + 2) + m_up r x (8 * x + 3) + m_up r x (8 * x + 4) + m_up r x (8 * x + 5) + m_up r x (8 * x + 6) + m_up r x (8 * x + 7)
theorem m_cu8 {r : Int → Int} {k : Nat} {x a : Int} : m_cu r (k + 8) (8 * x) a = m_cu r k (8 * (x + 1)) (a + m_rup r x) := by
  unfold m_rup m_up
  rw [m_cu, m_cu, m_cu, m_cu, m_cu, m_cu, m_cu, m_cu]
  rw [show 8 * x + 1 + 1 = 8 * x + 2 by omega, show 8 * x + 2 + 1 = 8 * x + 3 by omega, show 8 * x + 3 + 1 = 8 * x + 4 by omega, show 8 * x + 4 + 1 = 8 * x + 5 by omega, show 8 * x + 5 + 1 = 8 * x + 6 by omega, show 8 * x + 6 + 1 = 8 * x + 7 by omega, show 8 * x + 7 + 1 = 8 * (x + 1) by omega]
  congr 1
  omega
theorem m_cuE {r : Int → Int} : m_cu r 64 0 0 = m_rup r 0 + m_rup r 1 + m_rup r 2 + m_rup r 3 + m_rup r 4 + m_rup r 5 + m_rup r 6 + m_rup r 7 := by
  have e := fun (k : Nat) (x a : Int) => m_cu8 (r := r) (k := k) (x := x) (a := a)
  have h := e 56 0 0
  rw [show (56 : Nat) + 8 = 64 from rfl, show (8 : Int) * 0 = 0 from rfl, show (0 : Int) + 1 = 1 from rfl] at h
  rw [h, show (56 : Nat) = 48 + 8 from rfl, e, show (1 : Int) + 1 = 2 from rfl, show (48 : Nat) = 40 + 8 from rfl, e, show (2 : Int) + 1 = 3 from rfl, show (40 : Nat) = 32 + 8 from rfl, e, show (3 : Int) + 1 = 4 from rfl, show (32 : Nat) = 24 + 8 from rfl, e, show (4 : Int) + 1 = 5 from rfl, show (24 : Nat) = 16 + 8 from rfl, e, show (5 : Int) + 1 = 6 from rfl, show (16 : Nat) = 8 + 8 from rfl, e, show (6 : Int) + 1 = 7 from rfl, show (8 : Nat) = 0 + 8 from rfl, e, m_cu]
  omega
theorem m_rup0 {r : Int → Int} (hr : ∀ k, 0 ≤ k → k < 64 → 0 ≤ r k) : m_rup r 0 = m_b1 r 1 + m_b1 r 2 + m_b1 r 3 + m_b1 r 4 + m_b1 r 5 + m_b1 r 6 + m_b1 r 7 := by
  have u : ∀ y, 0 ≤ y → y < 64 → y / 8 < y % 8 → m_up r 0 y = m_b1 r y := fun y h0 h1 h2 => by
    unfold m_up m_b1
    have := hr y h0 h1
    by_cases c : r y = 0
    · rw [if_neg (by omega), if_pos c]
    · rw [if_pos (by omega), if_neg c]
  have z : ∀ y, ¬ y / 8 < y % 8 → m_up r 0 y = 0 := fun y h2 => if_neg (by omega)
  have a0 := z 0 (by omega)
  have a1 := u 1 (by omega) (by omega) (by omega)
  have a2 := u 2 (by omega) (by omega) (by omega)
  have a3 := u 3 (by omega) (by omega) (by omega)
  have a4 := u 4 (by omega) (by omega) (by omega)
  have a5 := u 5 (by omega) (by omega) (by omega)
  have a6 := u 6 (by omega) (by omega) (by omega)
  have a7 := u 7 (by omega) (by omega) (by omega)
  unfold m_rup
  simp only [Int.reduceMul, Int.reduceAdd]
  omega
theorem m_rup1 {r : Int → Int} (hr : ∀ k, 0 ≤ k → k < 64 → 0 ≤ r k) : m_rup r 1 = m_b1 r 10 + m_b1 r 11 + m_b1 r 12 + m_b1 r 13 + m_b1 r 14 + m_b1 r 15 := by
  have u : ∀ y, 0 ≤ y → y < 64 → y / 8 < y % 8 → m_up r 1 y = m_b1 r y := fun y h0 h1 h2 => by
    unfold m_up m_b1
    have := hr y h0 h1
    by_cases c : r y = 0
    · rw [if_neg (by omega), if_pos c]
    · rw [if_pos (by omega), if_neg c]
  have z : ∀ y, ¬ y / 8 < y % 8 → m_up r 1 y = 0 := fun y h2 => if_neg (by omega)
  have a0 := z 8 (by omega)
  have a1 := z 9 (by omega)
  have a2 := u 10 (by omega) (by omega) (by omega)
  have a3 := u 11 (by omega) (by omega) (by omega)
  have a4 := u 12 (by omega) (by omega) (by omega)
  have a5 := u 13 (by omega) (by omega) (by omega)
  have a6 := u 14 (by omega) (by omega) (by omega)
  have a7 := u 15 (by omega) (by omega) (by omega)
  unfold m_rup
  simp only [Int.reduceMul, Int.reduceAdd]
  omega
theorem m_rup2 {r : Int → Int} (hr : ∀ k, 0 ≤ k → k < 64 → 0 ≤ r k) : m_rup r 2 = m_b1 r 19 + m_b1 r 20 + m_b1 r 21 + m_b1 r 22 + m_b1 r 23 := by
  have u : ∀ y, 0 ≤ y → y < 64 → y / 8 < y % 8 → m_up r 2 y = m_b1 r y := fun y h0 h1 h2 => by
    unfold m_up m_b1
    have := hr y h0 h1
    by_cases c : r y = 0
    · rw [if_neg (by omega), if_pos c]
    · rw [if_pos (by omega), if_neg c]
  have z : ∀ y, ¬ y / 8 < y % 8 → m_up r 2 y = 0 := fun y h2 => if_neg (by omega)
  have a0 := z 16 (by omega)
  have a1 := z 17 (by omega)
  have a2 := z 18 (by omega)
  have a3 := u 19 (by omega) (by omega) (by omega)
  have a4 := u 20 (by omega) (by omega) (by omega)
  have a5 := u 21 (by omega) (by omega) (by omega)
  have a6 := u 22 (by omega) (by omega) (by omega)
  have a7 := u 23 (by omega) (by omega) (by omega)
  unfold m_rup
  simp only [Int.reduceMul, Int.reduceAdd]
  omega
theorem m_rup3 {r : Int → Int} (hr : ∀ k, 0 ≤ k → k < 64 → 0 ≤ r k) : m_rup r 3 = m_b1 r 28 + m_b1 r 29 + m_b1 r 30 + m_b1 r 31 := by
  have u : ∀ y, 0 ≤ y → y < 64 → y / 8 < y % 8 → m_up r 3 y = m_b1 r y := fun y h0 h1 h2 => by
    unfold m_up m_b1
    have := hr y h0 h1
    by_cases c : r y = 0
    · rw [if_neg (by omega), if_pos c]
    · rw [if_pos (by omega), if_neg c]
  have z : ∀ y, ¬ y / 8 < y % 8 → m_up r 3 y = 0 := fun y h2 => if_neg (by omega)
  have a0 := z 24 (by omega)
  have a1 := z 25 (by omega)
  have a2 := z 26 (by omega)
  have a3 := z 27 (by omega)
  have a4 := u 28 (by omega) (by omega) (by omega)
  have a5 := u 29 (by omega) (by omega) (by omega)
  have a6 := u 30 (by omega) (by omega) (by omega)
  have a7 := u 31 (by omega) (by omega) (by omega)
  unfold m_rup
  simp only [Int.reduceMul, Int.reduceAdd]
  omega
theorem m_rup4 {r : Int → Int} (hr : ∀ k, 0 ≤ k → k < 64 → 0 ≤ r k) : m_rup r 4 = m_b1 r 37 + m_b1 r 38 + m_b1 r 39 := by
  have u : ∀ y, 0 ≤ y → y < 64 → y / 8 < y % 8 → m_up r 4 y = m_b1 r y := fun y h0 h1 h2 => by
    unfold m_up m_b1
    have := hr y h0 h1
    by_cases c : r y = 0
    · rw [if_neg (by omega), if_pos c]
    · rw [if_pos (by omega), if_neg c]
  have z : ∀ y, ¬ y / 8 < y % 8 → m_up r 4 y = 0 := fun y h2 => if_neg (by omega)
  have a0 := z 32 (by omega)
  have a1 := z 33 (by omega)
  have a2 := z 34 (by omega)
  have a3 := z 35 (by omega)
  have a4 := z 36 (by omega)
  have a5 := u 37 (by omega) (by omega) (by omega)
  have a6 := u 38 (by omega) (by omega) (by omega)
  have a7 := u 39 (by omega) (by omega) (by omega)
  unfold m_rup
  simp only [Int.reduceMul, Int.reduceAdd]
  omega
theorem m_rup5 {r : Int → Int} (hr : ∀ k, 0 ≤ k → k < 64 → 0 ≤ r k) : m_rup r 5 = m_b1 r 46 + m_b1 r 47 := by
  have u : ∀ y, 0 ≤ y → y < 64 → y / 8 < y % 8 → m_up r 5 y = m_b1 r y := fun y h0 h1 h2 => by
    unfold m_up m_b1
    have := hr y h0 h1
    by_cases c : r y = 0
    · rw [if_neg (by omega), if_pos c]
    · rw [if_pos (by omega), if_neg c]
  have z : ∀ y, ¬ y / 8 < y % 8 → m_up r 5 y = 0 := fun y h2 => if_neg (by omega)
  have a0 := z 40 (by omega)
  have a1 := z 41 (by omega)
  have a2 := z 42 (by omega)
  have a3 := z 43 (by omega)
  have a4 := z 44 (by omega)
  have a5 := z 45 (by omega)
  have a6 := u 46 (by omega) (by omega) (by omega)
  have a7 := u 47 (by omega) (by omega) (by omega)
  unfold m_rup
  simp only [Int.reduceMul, Int.reduceAdd]
  omega
theorem m_rup6 {r : Int → Int} (hr : ∀ k, 0 ≤ k → k < 64 → 0 ≤ r k) : m_rup r 6 = m_b1 r 55 := by
  have u : ∀ y, 0 ≤ y → y < 64 → y / 8 < y % 8 → m_up r 6 y = m_b1 r y := fun y h0 h1 h2 => by
    unfold m_up m_b1
    have := hr y h0 h1
    by_cases c : r y = 0
    · rw [if_neg (by omega), if_pos c]
    · rw [if_pos (by omega), if_neg c]
  have z : ∀ y, ¬ y / 8 < y % 8 → m_up r 6 y = 0 := fun y h2 => if_neg (by omega)
  have a0 := z 48 (by omega)
  have a1 := z 49 (by omega)
  have a2 := z 50 (by omega)
  have a3 := z 51 (by omega)
  have a4 := z 52 (by omega)
  have a5 := z 53 (by omega)
  have a6 := z 54 (by omega)
  have a7 := u 55 (by omega) (by omega) (by omega)
  unfold m_rup
  simp only [Int.reduceMul, Int.reduceAdd]
  omega
theorem m_rup7 {r : Int → Int} (hr : ∀ k, 0 ≤ k → k < 64 → 0 ≤ r k) : m_rup r 7 = 0 := by
  have u : ∀ y, 0 ≤ y → y < 64 → y / 8 < y % 8 → m_up r 7 y = m_b1 r y := fun y h0 h1 h2 => by
    unfold m_up m_b1
    have := hr y h0 h1
    by_cases c : r y = 0
    · rw [if_neg (by omega), if_pos c]
    · rw [if_pos (by omega), if_neg c]
  have z : ∀ y, ¬ y / 8 < y % 8 → m_up r 7 y = 0 := fun y h2 => if_neg (by omega)
  have a0 := z 56 (by omega)
  have a1 := z 57 (by omega)
  have a2 := z 58 (by omega)
  have a3 := z 59 (by omega)
  have a4 := z 60 (by omega)
  have a5 := z 61 (by omega)
  have a6 := z 62 (by omega)
  have a7 := z 63 (by omega)
  unfold m_rup
  simp only [Int.reduceMul, Int.reduceAdd]
  omega
theorem m_cntcu {r : Int → Int} (hr : ∀ k, 0 ≤ k → k < 64 → 0 ≤ r k) (hs : x_sy r) (hd : ∀ i, 0 ≤ i → i < 8 → r (i * 8 + i) = 0) : m_cnt r 64 0 0 / 2 = m_cu r 64 0 0 := by
  have d : ∀ i, 0 ≤ i → i < 8 → m_b1 r (i * 8 + i) = 0 := fun i h0 h1 => if_pos (hd i h0 h1)
  have s : ∀ x y, 0 ≤ x → x < 8 → 0 ≤ y → y < 8 → m_b1 r (x * 8 + y) = m_b1 r (y * 8 + x) := fun x y h0 h1 h2 h3 => by
    unfold m_b1
    rw [hs x y h0 h1 h2 h3]
  have d0 : m_b1 r 0 = 0 := d 0 (by omega) (by omega)
  have d1 : m_b1 r 9 = 0 := d 1 (by omega) (by omega)
  have d2 : m_b1 r 18 = 0 := d 2 (by omega) (by omega)
  have d3 : m_b1 r 27 = 0 := d 3 (by omega) (by omega)
  have d4 : m_b1 r 36 = 0 := d 4 (by omega) (by omega)
  have d5 : m_b1 r 45 = 0 := d 5 (by omega) (by omega)
  have d6 : m_b1 r 54 = 0 := d 6 (by omega) (by omega)
  have d7 : m_b1 r 63 = 0 := d 7 (by omega) (by omega)
  have s0_1 : m_b1 r 1 = m_b1 r 8 := s 0 1 (by omega) (by omega) (by omega) (by omega)
  have s0_2 : m_b1 r 2 = m_b1 r 16 := s 0 2 (by omega) (by omega) (by omega) (by omega)
  have s0_3 : m_b1 r 3 = m_b1 r 24 := s 0 3 (by omega) (by omega) (by omega) (by omega)
  have s0_4 : m_b1 r 4 = m_b1 r 32 := s 0 4 (by omega) (by omega) (by omega) (by omega)
  have s0_5 : m_b1 r 5 = m_b1 r 40 := s 0 5 (by omega) (by omega) (by omega) (by omega)
  have s0_6 : m_b1 r 6 = m_b1 r 48 := s 0 6 (by omega) (by omega) (by omega) (by omega)
  have s0_7 : m_b1 r 7 = m_b1 r 56 := s 0 7 (by omega) (by omega) (by omega) (by omega)
  have s1_2 : m_b1 r 10 = m_b1 r 17 := s 1 2 (by omega) (by omega) (by omega) (by omega)
  have s1_3 : m_b1 r 11 = m_b1 r 25 := s 1 3 (by omega) (by omega) (by omega) (by omega)
  have s1_4 : m_b1 r 12 = m_b1 r 33 := s 1 4 (by omega) (by omega) (by omega) (by omega)
  have s1_5 : m_b1 r 13 = m_b1 r 41 := s 1 5 (by omega) (by omega) (by omega) (by omega)
  have s1_6 : m_b1 r 14 = m_b1 r 49 := s 1 6 (by omega) (by omega) (by omega) (by omega)
  have s1_7 : m_b1 r 15 = m_b1 r 57 := s 1 7 (by omega) (by omega) (by omega) (by omega)
  have s2_3 : m_b1 r 19 = m_b1 r 26 := s 2 3 (by omega) (by omega) (by omega) (by omega)
  have s2_4 : m_b1 r 20 = m_b1 r 34 := s 2 4 (by omega) (by omega) (by omega) (by omega)
  have s2_5 : m_b1 r 21 = m_b1 r 42 := s 2 5 (by omega) (by omega) (by omega) (by omega)
  have s2_6 : m_b1 r 22 = m_b1 r 50 := s 2 6 (by omega) (by omega) (by omega) (by omega)
  have s2_7 : m_b1 r 23 = m_b1 r 58 := s 2 7 (by omega) (by omega) (by omega) (by omega)
  have s3_4 : m_b1 r 28 = m_b1 r 35 := s 3 4 (by omega) (by omega) (by omega) (by omega)
  have s3_5 : m_b1 r 29 = m_b1 r 43 := s 3 5 (by omega) (by omega) (by omega) (by omega)
  have s3_6 : m_b1 r 30 = m_b1 r 51 := s 3 6 (by omega) (by omega) (by omega) (by omega)
  have s3_7 : m_b1 r 31 = m_b1 r 59 := s 3 7 (by omega) (by omega) (by omega) (by omega)
  have s4_5 : m_b1 r 37 = m_b1 r 44 := s 4 5 (by omega) (by omega) (by omega) (by omega)
  have s4_6 : m_b1 r 38 = m_b1 r 52 := s 4 6 (by omega) (by omega) (by omega) (by omega)
  have s4_7 : m_b1 r 39 = m_b1 r 60 := s 4 7 (by omega) (by omega) (by omega) (by omega)
  have s5_6 : m_b1 r 46 = m_b1 r 53 := s 5 6 (by omega) (by omega) (by omega) (by omega)
  have s5_7 : m_b1 r 47 = m_b1 r 61 := s 5 7 (by omega) (by omega) (by omega) (by omega)
  have s6_7 : m_b1 r 55 = m_b1 r 62 := s 6 7 (by omega) (by omega) (by omega) (by omega)
  rw [m_cntE, m_cuE, m_rup0 hr, m_rup1 hr, m_rup2 hr, m_rup3 hr, m_rup4 hr, m_rup5 hr, m_rup6 hr, m_rup7 hr]
  unfold m_row
  simp only [Int.reduceMul, Int.reduceAdd]
  omega
theorem m_cntc {r r' : Int → Int} : ∀ (k : Nat) (i a : Int), 0 ≤ i → i + k ≤ 64 → (∀ q, 0 ≤ q → q < 64 → r q = r' q) → m_cnt r k i a = m_cnt r' k i a
  | 0, _, _, _, _, _ => rfl
  | k + 1, i, a, h0, h1, h => by rw [m_cnt, m_cnt, h i h0 (by omega), m_cntc k (i + 1) _ (by omega) (by omega) h]
section RLK
variable {S : ip_S} {R : ip_R} {L : ip_S}
theorem r_far {x y : Int} (hr : x_rel S S) (hX : x_RX R) (hM : x_RM R) (hx : -2147483648 ≤ x ∧ x < 2147483648) (hy : -2147483648 ≤ y ∧ y < 2147483648) : ∃ a, r_two 84 205 [vi x, vi y] S R L (vi a) (vi a) := by
  have hJ := x_relJ hr
  have c5 := hr.2.2.2.2.1.2.2.2.2
  refine ⟨if (0 ≤ x ∧ x < 8) ∧ (0 ≤ y ∧ y < 8) then (if S 3 (x * 8 + y) = 999 then -1 else S 3 (x * 8 + y)) else -2, r_fr hr hX hM ⟨S, x_g_r, fun Q => ?_⟩ (fun S1 g1 h1 => ⟨S1, L, y_zr, fun Q => ?_⟩)⟩
  · rw [p84 (d := 98) (Q := Q) (L := L) hx hy hX hJ.2.1]
    by_cases c : (0 ≤ x ∧ x < 8) ∧ (0 ≤ y ∧ y < 8)
    · rw [if_pos c, if_pos c]
      by_cases c2 : S 3 (x * 8 + y) = 999
      · rw [if_pos c2, if_pos c2]
      · rw [if_neg c2, if_neg c2]
    · rw [if_neg c, if_neg c]
  · have e : ∀ k, 0 ≤ k → k < 64 → S1 69 k = S 3 k := fun k k0 k1 => by rw [x_gl g1 (by omega)]; exact (c5 k k0 k1).2
    rw [p205 (d := 97) (Q := Q) (L := L) hx hy hM (fun k k0 k1 => by rw [e k k0 k1]; exact hJ.2.1 k k0 k1)]
    by_cases c : (0 ≤ x ∧ x < 8) ∧ (0 ≤ y ∧ y < 8)
    · rw [if_pos c, if_pos c, e _ (by omega) (by omega)]
      by_cases c2 : S 3 (x * 8 + y) = 999
      · rw [if_pos c2, if_pos c2]
      · rw [if_neg c2, if_neg c2]
    · rw [if_neg c, if_neg c]
theorem r_taken {o k : Int} (hr : x_rel S S) (hX : x_RX R) (hM : x_RM R) (ho : -2147483648 ≤ o ∧ o < 2147483648) (hk : -2147483648 ≤ k ∧ k < 2147483648) : ∃ a, r_two 122 231 [vi o, vi k] S R L (vi a) (vi a) := by
  obtain ⟨hp, hm0⟩ := x_relp hr
  have hJ := x_relJ hr
  obtain ⟨c1, c2, -⟩ := hr.2.2.2.2.1
  have mi := hr.2.2.2.2.2.2.2.2.1
  refine ⟨if 0 ≤ k ∧ k < 6 then (if 0 ≤ o ∧ o < S 1 7 then (if x_und (S 4 o) k = true then S 5 o else -13) else -11) else -2, r_fr hr hX hM ⟨S, x_g_r, fun Q => ?_⟩ (fun S1 g1 h1 => ⟨S1, L, y_zr, fun Q => ?_⟩)⟩
  · rw [p122 (d := 97) (Q := Q) (L := L) ho hk hX rfl hp.1 hp.2 (fun q q0 q1 => hJ.2.2.1 q q0 q1)]
    by_cases d1 : 0 ≤ k ∧ k < 6
    · rw [if_pos d1, if_pos d1]
      by_cases d2 : 0 ≤ o ∧ o < S 1 7
      · rw [if_pos d2, if_pos d2]
        by_cases d3 : x_und (S 4 o) k = true
        · rw [if_pos d3, if_pos d3]
        · rw [if_neg d3, if_neg d3]
      · rw [if_neg d2, if_neg d2]
    · rw [if_neg d1, if_neg d1]
  · have e67 : S1 67 = S 67 := x_gl g1 (by omega)
    have e68 : S1 68 = S 68 := x_gl g1 (by omega)
    rw [p231 (d := 97) (Q := Q) (L := L) ho hk hM (m := S 1 7) (by rw [x_gl g1 (by omega)]; exact hm0) hp.1 hp.2 (fun q q0 q1 => by rw [e67]; have := mi q q0 q1; omega)]
    by_cases d1 : 0 ≤ k ∧ k < 6
    · rw [if_pos d1, if_pos d1]
      by_cases d2 : 0 ≤ o ∧ o < S 1 7
      · obtain ⟨f1, f2, -⟩ := c2 o d2.1 d2.2
        rw [if_pos d2, if_pos d2, e67, e68, f1, f2]
        by_cases d3 : x_und (S 4 o) k = true
        · rw [if_pos d3, if_pos d3]
        · rw [if_neg d3, if_neg d3]
      · rw [if_neg d2, if_neg d2]
    · rw [if_neg d1, if_neg d1]
theorem r_count {w : Int} (hr : x_rel S S) (hX : x_RX R) (hM : x_RM R) (hw : -2147483648 ≤ w ∧ w < 2147483648) : ∃ a a', r_two 114 227 [vi w] S R L (vi a) (vi a') ∧ (¬ w = 2 → a = a') := by
  obtain ⟨hp, hm0⟩ := x_relp hr
  have hJ := x_relJ hr
  have c4 := hr.2.2.2.2.1
  have c6 := hr.2.2.2.2.2.2.1
  have hro := hr.1.1
  have e66 : ∀ k, 0 ≤ k → k < 64 → S 66 k = S 2 k := fun k k0 k1 => (c4.2.2.2.2 k k0 k1).1
  have hs6 : x_sy (S 66) := (x_relyD hr).2
  have hd6 : ∀ i, 0 ≤ i → i < 8 → S 66 (i * 8 + i) = 0 := fun i i0 i1 => by rw [e66 _ (by omega) (by omega)]; exact hr.1.2.2.2.2.2.2.2.2.2.2 i i0 i1
  have hr6 : ∀ k, 0 ≤ k → k < 64 → 0 ≤ S 66 k ∧ S 66 k ≤ 99 := fun k k0 k1 => by rw [e66 k k0 k1]; exact hro k k0 k1
  refine ⟨if 0 ≤ w ∧ w ≤ 5 then (if w = 0 then S 1 7 else if w = 1 then m_cnt (S 2) 64 0 0 / 2 else if w = 2 then m_sum (S 7) (S 1 7).toNat 0 0 else if w = 3 then S 17 4 else if w = 4 then S 19 4 else S 8 1) else -2,
    if 0 ≤ w ∧ w ≤ 5 then (if w = 0 then S 1 7 else if w = 1 then m_cu (S 66) 64 0 0 else if w = 2 then m_s3 (S 68) (S 1 7).toNat 0 0 else if w = 3 then S 62 3 else if w = 4 then S 62 6 else S 62 4) else -2, r_fr hr hX hM ⟨S, x_g_r, fun Q => ?_⟩ (fun S1 g1 h1 => ⟨S1, L, y_zr, fun Q => ?_⟩), fun hw2 => ?_⟩
  · rw [p114 (d := 98) (Q := Q) (L := L) hX hw hp.1 hp.2 hro]
    by_cases c : 0 ≤ w ∧ w ≤ 5
    · rw [if_pos c, if_pos c]
    · rw [if_neg c, if_neg c]
  · have e62 : S1 62 = S 62 := x_gl g1 (by omega)
    have e6 : S1 66 = S 66 := x_gl g1 (by omega)
    have e8 : S1 68 = S 68 := x_gl g1 (by omega)
    rw [p227 (d := 98) (Q := Q) (L := L) (m := S 1 7) hM (by rw [e62]; exact hm0) hp.1 hp.2 hw (by rw [e6]; exact hr6), e6, e8, e62]
    by_cases c : 0 ≤ w ∧ w ≤ 5
    · rw [if_pos c, if_pos c]
    · rw [if_neg c, if_neg c]
  · have q1 : m_cnt (S 2) 64 0 0 / 2 = m_cu (S 66) 64 0 0 := by
      have hc : m_cnt (S 2) 64 0 0 = m_cnt (S 66) 64 0 0 := m_cntc 64 0 0 (by omega) (by omega) (fun k k0 k1 => (e66 k k0 k1).symm)
      rw [hc]
      exact m_cntcu (fun k k0 k1 => (hr6 k k0 k1).1) hs6 hd6
    rw [q1, c6.2.2.1, c6.2.2.2.2.1, c4.2.2.2.1]
    by_cases c : 0 ≤ w ∧ w ≤ 5
    · rw [if_pos c, if_pos c]
      by_cases d0 : w = 0
      · rw [if_pos d0, if_pos d0]
      · rw [if_neg d0, if_neg d0]
        by_cases d1 : w = 1
        · rw [if_pos d1, if_pos d1]
        · rw [if_neg d1, if_neg d1, if_neg hw2, if_neg hw2]
    · rw [if_neg c, if_neg c]
theorem r_told {o w : Int} (hr : x_rel S S) (hX : x_RX R) (hM : x_RM R) (ho : -2147483648 ≤ o ∧ o < 2147483648) (hw : -2147483648 ≤ w ∧ w < 2147483648) : ∃ a a', r_two 53 131 [vi o, vi w] S R L (vi a) (vi a') ∧ (¬ w = 4 → a = a') := by
  obtain ⟨hp, hm0⟩ := x_relp hr
  have hJ := x_relJ hr
  have c4 := hr.2.2.2.2.1
  by_cases d0 : w = 0
  · subst d0
    refine ⟨S 8 0, S 62 7, r_fr hr hX hM ⟨S, x_g_r, fun Q => p53a (d := 97) (Q := Q) (L := L) hX⟩ (fun S1 g1 h1 => ⟨S1, L, y_zr, fun Q => ?_⟩), fun _ => c4.2.2.1.symm⟩
    rw [p131a (d := 97) (Q := Q) (L := L) hM, x_gl g1 (by omega)]
  · by_cases d1 : 0 ≤ o ∧ o < S 1 7
    · obtain ⟨f1, f2, f3⟩ := c4.2.1 o d1.1 d1.2
      obtain ⟨S', f', k'⟩ := x53 (d := 93) (L := L) (o := o) (w := w) hX hJ rfl hp.1 hp.2 d1 d0 hw
      by_cases d2 : 1 ≤ w ∧ w ≤ 2
      · refine ⟨_, S 68 (3 * o + w - 1), r_fr hr hX hM ⟨S', x_g_f f', k'⟩ (fun S1 g1 h1 => ⟨S1, L, y_zr, fun Q => ?_⟩), fun _ => ?_⟩
        · rw [p131b (d := 97) (Q := Q) (L := L) (m := S 1 7) hM (by rw [x_gl g1 (by omega)]; exact hm0) hp.1 hp.2 d1 d2, x_gl g1 (by omega)]
        · by_cases d3 : w = 1
          · subst d3
            rw [if_pos rfl, show 3 * o + 1 - 1 = 3 * o by omega, f2]
          · obtain rfl : w = 2 := by omega
            rw [if_neg (by omega), if_pos rfl, show 3 * o + 2 - 1 = 3 * o + 1 by omega, f3]
      · by_cases d3 : 3 ≤ w ∧ w ≤ 4
        · refine ⟨_, if w = 3 then S 67 o else S 68 (3 * o + 2), r_fr hr hX hM ⟨S', x_g_f f', k'⟩ (fun S1 g1 h1 => ⟨S1, L, y_zr, fun Q => ?_⟩), fun h4 => ?_⟩
          · rw [p131c (d := 97) (Q := Q) (L := L) (m := S 1 7) hM (by rw [x_gl g1 (by omega)]; exact hm0) hp.1 hp.2 d1 d3, x_gl g1 (by omega), x_gl g1 (by omega)]
          · obtain rfl : w = 3 := by omega
            rw [if_neg (by omega), if_neg (by omega), if_pos rfl, if_pos rfl, f1]
        · by_cases d4 : w = 5
          · subst d4
            refine ⟨_, a_rb (w_X S) o (S 1 7).toNat 0 0, r_fr hr hX hM ⟨S', x_g_f f', k'⟩ (fun S1 g1 h1 => ?_), fun _ => ?_⟩
            · have hR := x_relR h1
              have hm : S1 62 11 = S 1 7 := by rw [x_gl g1 (by omega)]; exact hm0
              rw [x_g1 g1] at hR
              obtain ⟨S2, w2, f2', k2⟩ := y131 (d := 52) (L := L) (w := 5) hM (x_relok h1) hR hm d1
              refine ⟨S2, ip_up L 62 24 w2, y_z9 (y_h_f (y_g_f f2')), fun Q => ?_⟩
              rw [← x_g_W g1 hJ]
              exact k2 Q
            · rw [if_neg (by omega), if_neg (by omega), if_neg (by omega), if_neg (by omega), if_pos rfl]
          · refine ⟨_, -2, r_fr hr hX hM ⟨S', x_g_f f', k'⟩ (fun S1 g1 h1 => ⟨S1, L, y_zr, fun Q => ?_⟩), fun _ => ?_⟩
            · exact p131n (d := 97) (Q := Q) (L := L) (m := S 1 7) hM (by rw [x_gl g1 (by omega)]; exact hm0) hp.1 hp.2 ho hw d0 (Or.inr (by omega))
            · rw [if_neg (by omega), if_neg (by omega), if_neg (by omega), if_neg (by omega), if_neg d4]
    · refine ⟨-2, -2, r_fr hr hX hM ⟨S, x_g_r, fun Q => p53b (d := 97) (Q := Q) (L := L) hX rfl hp.1 hp.2 ho hw d0 d1⟩ (fun S1 g1 h1 => ⟨S1, L, y_zr, fun Q => ?_⟩), fun _ => rfl⟩
      exact p131n (d := 97) (Q := Q) (L := L) (m := S 1 7) hM (by rw [x_gl g1 (by omega)]; exact hm0) hp.1 hp.2 ho hw d0 (Or.inl d1)
end RLK
