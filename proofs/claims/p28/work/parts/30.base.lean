/-! memory: a row as a whole -/
def ip_ar (S : ip_S) (a : Nat) (f : Int → Int) : ip_S := fun b k => if b = a then f k else S b k
def ip_u (f : Int → Int) (i v : Int) : Int → Int := fun k => if k = i then v else f k
theorem ip_ar_self (S : ip_S) (a : Nat) : ip_ar S a (S a) = S := by
  funext b k; unfold ip_ar; split <;> simp_all
theorem ip_ar_at (S : ip_S) (a : Nat) (f : Int → Int) (k : Int) : ip_ar S a f a k = f k := by simp [ip_ar]
theorem ip_ar_ne (S : ip_S) {a b : Nat} (f : Int → Int) (k : Int) (h : b ≠ a) : ip_ar S a f b k = S b k := by simp [ip_ar, h]
theorem ip_up_ar (S : ip_S) (a : Nat) (f : Int → Int) (i v : Int) : ip_up (ip_ar S a f) a i v = ip_ar S a (ip_u f i v) := by
  funext b k; unfold ip_up ip_ar ip_u; by_cases h : b = a <;> simp [h]
theorem ip_up_eq (S : ip_S) (a : Nat) (i v : Int) : ip_up S a i v = ip_ar S a (ip_u (S a) i v) := by
  funext b k; unfold ip_up ip_ar ip_u; by_cases h : b = a <;> simp [h]
theorem ip_ar_ar (S : ip_S) (a : Nat) (f g : Int → Int) : ip_ar (ip_ar S a f) a g = ip_ar S a g := by
  funext b k; unfold ip_ar; by_cases h : b = a <;> simp [h]
theorem ip_u_at (f : Int → Int) (i v : Int) : ip_u f i v i = v := by simp [ip_u]
theorem ip_u_ne (f : Int → Int) {i k : Int} (v : Int) (h : k ≠ i) : ip_u f i v k = f k := by simp [ip_u, h]
theorem ip_div_id {x y : Int} (h1 : 0 ≤ x) (h2 : x < 2147483648) (h3 : 0 < y) (h4 : y < 2147483648) : ip_div x y = x / y := by
  have hx : (Int32.ofInt x).toInt = x := Int32.toInt_ofInt_of_le (by omega) (by omega)
  have hy : (Int32.ofInt y).toInt = y := Int32.toInt_ofInt_of_le (by omega) (by omega)
  unfold ip_div
  rw [Int32.toInt_div_of_ne_right _ _ (by
    intro h
    have h5 := congrArg Int32.toInt h
    rw [hy] at h5
    have h6 : (-1 : Int32).toInt = -1 := by decide +kernel
    omega), hx, hy]
  exact Int.tdiv_eq_ediv_of_nonneg h1
theorem ip_rem_id {x y : Int} (h1 : 0 ≤ x) (h2 : x < 2147483648) (h3 : 0 < y) (h4 : y < 2147483648) : ip_rem x y = x % y := by
  have hd := ip_div_id h1 h2 h3 h4
  unfold ip_rem
  have e : Int32.ofInt x / Int32.ofInt y = Int32.ofInt (x / y) := by
    rw [← Int32.toInt_inj]
    show ip_div x y = _
    rw [hd]
    have h5 : 0 ≤ x / y := Int.ediv_nonneg h1 (by omega)
    have h6 : x / y ≤ x := Int.ediv_le_self _ h1
    exact (Int32.toInt_ofInt_of_le (by omega) (by omega)).symm
  rw [e, ← Int32.ofInt_mul, ← Int32.ofInt_sub]
  have h7 : x - x / y * y = x % y := by
    have := Int.emod_add_mul_ediv x y
    rw [Int.mul_comm] at this
    omega
  rw [h7]
  have h8 : 0 ≤ x % y := Int.emod_nonneg _ (by omega)
  have h9 : x % y < y := Int.emod_lt_of_pos _ h3
  exact Int32.toInt_ofInt_of_le (by omega) (by omega)
