/-! what each instruction does to wp, in whole numbers -/
def ip_div (x y : Int) : Int := (Int32.ofInt x / Int32.ofInt y).toInt
def ip_rem (x y : Int) : Int := (Int32.ofInt x - Int32.ofInt x / Int32.ofInt y * Int32.ofInt y).toInt
def ip_and (x y : Int) : Int := (Int32.ofInt x &&& Int32.ofInt y).toInt
def ip_or (x y : Int) : Int := (Int32.ofInt x ||| Int32.ofInt y).toInt
def ip_xor (x y : Int) : Int := (Int32.ofInt x ^^^ Int32.ofInt y).toInt
def ip_shl (x y : Int) : Int := (Int32.ofInt x <<< (Int32.ofInt y &&& 31)).toInt
def ip_shr (x y : Int) : Int := (Int32.ofInt x >>> (Int32.ofInt y &&& 31)).toInt
def ip_ush (x y : Int) : Int := ((Int32.ofInt x).toUInt32 >>> ((Int32.ofInt y).toUInt32 &&& Int32.toUInt32 31)).toInt32.toInt
def ip_i8 (x : Int) : Int := (Int32.ofInt x).toInt8.toInt32.toInt
def ip_i16 (x : Int) : Int := (Int32.ofInt x).toInt16.toInt32.toInt
def ip_u16 (x : Int) : Int := ((Int32.ofInt x).toUInt32 % 65536).toInt32.toInt
def ip_ldiv (x y : Int) : Int := (Int64.ofInt x / Int64.ofInt y).toInt
def ip_lrem (x y : Int) : Int := (Int64.ofInt x - Int64.ofInt x / Int64.ofInt y * Int64.ofInt y).toInt
def ip_rfk (o : Option Nat) (K : Nat → Prop) : Prop := match o with
  | some b => K b
  | none => False
theorem ip_rfS (b : Nat) (K : Nat → Prop) : ip_rfk (some b) K = K b := rfl
theorem ip_ofw (z : Int) : Int32.ofInt (ip_w z) = Int32.ofInt z := Int32.ofInt_toInt _
theorem ip_wid {z : Int} (h1 : -2147483648 ≤ z) (h2 : z < 2147483648) : ip_w z = z := Int32.toInt_ofInt_of_le (by omega) (by omega)
theorem ip_wrange (z : Int) : -2147483648 ≤ ip_w z ∧ ip_w z < 2147483648 := ⟨Int32.le_toInt _, Int32.toInt_lt _⟩
theorem ip_ww (z : Int) : ip_w (ip_w z) = ip_w z := ip_wid (ip_wrange z).1 (ip_wrange z).2
theorem ip_w64id {z : Int} (h1 : -9223372036854775808 ≤ z) (h2 : z < 9223372036854775808) : ip_w64 z = z := Int64.toInt_ofInt_of_le (by omega) (by omega)
theorem ip_isOb_iff {n a ci : Nat} : (ip_isOb n a ci = true) = ip_isO n a ci := by
  simp [ip_isOb, ip_isO]
theorem ip_isAb_iff {n a t : Nat} {z : Int} : (ip_isAb n a t z = true) = ip_isA n a t z := by
  simp [ip_isAb, ip_isA]
section IPX
variable {d m i : Nat} {ls : ip_L} {r : List Value} {n : Nat} {S : ip_S} {R : ip_R} {L : ip_S} {Q : Option Value → Nat → ip_S → ip_R → ip_S → Prop} {q t a b : Nat}
theorem ip_if {st : List Value} {c : Prop} [Decidable c] {p1 p2 : Nat × ip_L × List Value × ip_H} (h : ip_stp m i ls st (n, S, R, L) = if c then some (.inl p1) else some (.inl p2)) :
    ip_wp d m i ls st n S R L Q = if c then ip_wp d m p1.1 p1.2.1 p1.2.2.1 p1.2.2.2.1 p1.2.2.2.2.1 p1.2.2.2.2.2.1 p1.2.2.2.2.2.2 Q else ip_wp d m p2.1 p2.2.1 p2.2.2.1 p2.2.2.2.1 p2.2.2.2.2.1 p2.2.2.2.2.2.1 p2.2.2.2.2.2.2 Q := by
  by_cases hc : c
  · rw [if_pos hc] at h ⊢
    exact ip_next h
  · rw [if_neg hc] at h ⊢
    exact ip_next h
theorem ip_chk {st : List Value} {c : Prop} [Decidable c] {p1 : Nat × ip_L × List Value × ip_H} (h : ip_stp m i ls st (n, S, R, L) = if c then some (.inl p1) else none) :
    ip_wp d m i ls st n S R L Q = (c ∧ ip_wp d m p1.1 p1.2.1 p1.2.2.1 p1.2.2.2.1 p1.2.2.2.2.1 p1.2.2.2.2.2.1 p1.2.2.2.2.2.2 Q) := by
  by_cases hc : c
  · rw [if_pos hc] at h
    rw [ip_next h]
    simp [hc]
  · rw [if_neg hc] at h
    rw [ip_stop h]
    simp [hc]
theorem ip_nxi {st : List Value} {v : Int32} {z : Int} (e : v = Int32.ofInt z) (h : ip_stp m i ls st (n, S, R, L) = ip_nx (i + 1) ls (.int v :: r) (n, S, R, L)) : ip_wp d m i ls st n S R L Q = ip_wp d m (i + 1) ls (vi z :: r) n S R L Q := by
  subst e; exact ip_next h
theorem ip_nxl {st : List Value} {v : Int64} {z : Int} (e : v = Int64.ofInt z) (h : ip_stp m i ls st (n, S, R, L) = ip_nx (i + 1) ls (.long v :: r) (n, S, R, L)) : ip_wp d m i ls st n S R L Q = ip_wp d m (i + 1) ls (vl z :: r) n S R L Q := by
  subst e; exact ip_next h
theorem w_iload {k : Nat} {x : Int32} (hi : ip_ins m i = some (q, .iload k, t, a, b)) (hk : ls[k]? = some (some (.int x))) : ip_wp d m i ls r n S R L Q = ip_wp d m (i + 1) ls (.int x :: r) n S R L Q := ip_next (by rw [ip_stp_of hi]; simp only [ip_si, hk]; rfl)
theorem w_lload {k : Nat} {x : Int64} (hi : ip_ins m i = some (q, .lload k, t, a, b)) (hk : ls[k]? = some (some (.long x))) : ip_wp d m i ls r n S R L Q = ip_wp d m (i + 1) ls (.long x :: r) n S R L Q := ip_next (by rw [ip_stp_of hi]; simp only [ip_si, hk]; rfl)
theorem w_aload {k x : Nat} (hi : ip_ins m i = some (q, .aload k, t, a, b)) (hk : ls[k]? = some (some (.ref x))) : ip_wp d m i ls r n S R L Q = (¬ x = 998 ∧ ip_wp d m (i + 1) ls (.ref x :: r) n S R L Q) := by
  by_cases hx : x = 998
  · rw [ip_stop (by rw [ip_stp_of hi]; simp only [ip_si, hk]; rw [if_pos hx])]
    simp [hx]
  · rw [ip_next (by rw [ip_stp_of hi]; simp only [ip_si, hk]; rw [if_neg hx]; rfl)]
    simp [hx]
theorem w_istore {k : Nat} {x : Int32} {ls' : ip_L} (hi : ip_ins m i = some (q, .istore k, t, a, b)) (hk : ip_st1 ls k (.int x) = some ls') : ip_wp d m i ls (.int x :: r) n S R L Q = ip_wp d m (i + 1) ls' r n S R L Q := ip_next (by rw [ip_stp_of hi]; simp only [ip_si, hk]; rfl)
theorem w_lstore {k : Nat} {x : Int64} {ls' : ip_L} (hi : ip_ins m i = some (q, .lstore k, t, a, b)) (hk : ip_st2 ls k (.long x) = some ls') : ip_wp d m i ls (.long x :: r) n S R L Q = ip_wp d m (i + 1) ls' r n S R L Q := ip_next (by rw [ip_stp_of hi]; simp only [ip_si, hk]; rfl)
theorem w_astore {k x : Nat} {ls' : ip_L} (hi : ip_ins m i = some (q, .astore k, t, a, b)) (hk : ip_st1 ls k (.ref x) = some ls') : ip_wp d m i ls (.ref x :: r) n S R L Q = (¬ x = 998 ∧ ip_wp d m (i + 1) ls' r n S R L Q) := by
  by_cases hx : x = 998
  · rw [ip_stop (by rw [ip_stp_of hi]; simp only [ip_si, hk]; rw [if_pos hx])]
    simp [hx]
  · rw [ip_next (by rw [ip_stp_of hi]; simp only [ip_si, hk]; rw [if_neg hx]; rfl)]
    simp [hx]
theorem w_iinc {k : Nat} {x c : Int} {ls' : ip_L} (hi : ip_ins m i = some (q, .iinc k c, t, a, b)) (hk : ls[k]? = some (some (vi x))) (hs : ip_st1 ls k (vi (x + c)) = some ls') : ip_wp d m i ls r n S R L Q = ip_wp d m (i + 1) ls' r n S R L Q := ip_next (by
  rw [ip_stp_of hi]; simp only [ip_si, hk]
  have h : ip_st1 ls k (.int (Int32.ofInt x + Int32.ofInt c)) = some ls' := by rw [← Int32.ofInt_add]; exact hs
  rw [h]; rfl)
theorem w_iconst {c : Int} (hi : ip_ins m i = some (q, .iconst c, t, a, b)) : ip_wp d m i ls r n S R L Q = ip_wp d m (i + 1) ls (vi c :: r) n S R L Q := ip_next (by rw [ip_stp_of hi]; rfl)
theorem w_lconst {c : Int} (hi : ip_ins m i = some (q, .sipush c, t, a, b)) : ip_wp d m i ls r n S R L Q = ip_wp d m (i + 1) ls (vl c :: r) n S R L Q := ip_next (by rw [ip_stp_of hi]; rfl)
theorem w_ldc {k : Nat} (hi : ip_ins m i = some (q, .ldc k, t, a, b)) (hk : k < 13) : ip_wp d m i ls r n S R L Q = ip_wp d m (i + 1) ls (.ref (901 + k) :: r) n S R L Q := ip_next (by rw [ip_stp_of hi]; simp only [ip_si]; rw [if_pos hk]; rfl)
theorem w_gets0 (hi : ip_ins m i = some (q, .getstatic 0, t, a, b)) : ip_wp d m i ls r n S R L Q = ip_wp d m (i + 1) ls (vi 1 :: r) n S R L Q := ip_next (by rw [ip_stp_of hi]; rfl)
theorem w_gets1 (hi : ip_ins m i = some (q, .getstatic 1, t, a, b)) : ip_wp d m i ls r n S R L Q = ip_wp d m (i + 1) ls (.ref 998 :: r) n S R L Q := ip_next (by rw [ip_stp_of hi]; rfl)
theorem w_getSv {x : Nat} (hi : ip_ins m i = some (q, .getfield 1280, t, a, b)) : ip_wp d m i ls (.ref x :: r) n S R L Q = ((901 ≤ x ∧ x < 914) ∧ ip_wp d m (i + 1) ls (.ref (x + 50) :: r) n S R L Q) := by
  refine (ip_chk (c := (decide (901 ≤ x) && decide (x < 914)) = true) (p1 := (i + 1, ls, .ref (x + 50) :: r, (n, S, R, L))) (by rw [ip_stp_of hi]; rfl)).trans ?_
  simp
theorem w_getSc {x : Nat} (hi : ip_ins m i = some (q, .getfield 1281, t, a, b)) : ip_wp d m i ls (.ref x :: r) n S R L Q = ((901 ≤ x ∧ x < 914) ∧ ip_wp d m (i + 1) ls (vi 0 :: r) n S R L Q) := by
  refine (ip_chk (c := (decide (901 ≤ x) && decide (x < 914)) = true) (p1 := (i + 1, ls, vi 0 :: r, (n, S, R, L))) (by rw [ip_stp_of hi]; rfl)).trans ?_
  simp
theorem w_geti {g x : Nat} (ci : Nat) (k : Int) (hi : ip_ins m i = some (q, .getfield g, t, a, b)) (hg : (g ≠ 1280 ∧ g ≠ 1281) ∧ (g / 64 = ci ∧ ((g % 64 : Nat) : Int) = k) ∧ (ip_fk g = 0 ∨ ip_fk g = 1)) : ip_wp d m i ls (.ref x :: r) n S R L Q = (ip_isO n x ci ∧ ip_wp d m (i + 1) ls (vi (S x k) :: r) n S R L Q) := by
  obtain ⟨⟨h1, h2⟩, ⟨rfl, rfl⟩, h3⟩ := hg
  rw [← ip_isOb_iff]
  refine ip_chk (p1 := (i + 1, ls, vi (S x (g % 64 : Nat)) :: r, (n, S, R, L))) ?_
  rw [ip_stp_of hi]
  simp only [ip_si]
  rw [if_neg h1, if_neg h2]
  rcases h3 with h3 | h3 <;> rw [h3] <;> rfl
theorem w_getl {g x : Nat} (ci : Nat) (k : Int) (hi : ip_ins m i = some (q, .getfield g, t, a, b)) (hg : (g ≠ 1280 ∧ g ≠ 1281) ∧ (g / 64 = ci ∧ ((g % 64 : Nat) : Int) = k) ∧ ip_fk g = 3) : ip_wp d m i ls (.ref x :: r) n S R L Q = (ip_isO n x ci ∧ ip_wp d m (i + 1) ls (vl (L x k) :: r) n S R L Q) := by
  obtain ⟨⟨h1, h2⟩, ⟨rfl, rfl⟩, h3⟩ := hg
  rw [← ip_isOb_iff]
  refine ip_chk (p1 := (i + 1, ls, vl (L x (g % 64 : Nat)) :: r, (n, S, R, L))) ?_
  rw [ip_stp_of hi]
  simp only [ip_si]
  rw [if_neg h1, if_neg h2, h3]
  rfl
theorem w_getr {g x : Nat} (ci : Nat) (k : Int) (hi : ip_ins m i = some (q, .getfield g, t, a, b)) (hg : (g ≠ 1280 ∧ g ≠ 1281) ∧ (g / 64 = ci ∧ ((g % 64 : Nat) : Int) = k) ∧ ip_fk g = 2) : ip_wp d m i ls (.ref x :: r) n S R L Q = (ip_isO n x ci ∧ ip_rfk (R x k) (fun y => ip_wp d m (i + 1) ls (.ref y :: r) n S R L Q)) := by
  obtain ⟨⟨h1, h2⟩, ⟨rfl, rfl⟩, h3⟩ := hg
  rw [← ip_isOb_iff]
  by_cases hc : ip_isOb n x (g / 64) = true
  · cases hR : R x (g % 64 : Nat) with
    | none =>
      rw [ip_stop (by rw [ip_stp_of hi]; simp only [ip_si]; rw [if_neg h1, if_neg h2, if_pos hc, h3]; show (match R x (g % 64 : Nat) with | some b => ip_nx (i + 1) ls (Value.ref b :: r) (n, S, R, L) | none => none) = none; rw [hR])]
      simp [ip_rfk]
    | some y =>
      rw [ip_next (by rw [ip_stp_of hi]; simp only [ip_si]; rw [if_neg h1, if_neg h2, if_pos hc, h3]; rw [hR]; rfl)]
      simp [ip_rfk, hc]
  · rw [ip_stop (by rw [ip_stp_of hi]; simp only [ip_si]; rw [if_neg h1, if_neg h2, if_neg hc])]
    simp [hc]
theorem w_puti {g x : Nat} {z : Int} (ci : Nat) (k : Int) (hi : ip_ins m i = some (q, .putfield g, t, a, b)) (hg : (g / 64 = ci ∧ ((g % 64 : Nat) : Int) = k) ∧ ip_fk g = 0) : ip_wp d m i ls (vi z :: .ref x :: r) n S R L Q = (ip_isO n x ci ∧ ip_wp d m (i + 1) ls r n (ip_up S x k (ip_w z)) R L Q) := by
  obtain ⟨⟨rfl, rfl⟩, h3⟩ := hg
  rw [← ip_isOb_iff]
  refine ip_chk (p1 := (i + 1, ls, r, (n, ip_up S x (g % 64 : Nat) (ip_w z), R, L))) ?_
  rw [ip_stp_of hi]
  simp only [ip_si]
  rw [h3]
  rfl
theorem ip_b2_iff {z : Int} : (ip_b2 (Int32.ofInt z) = true) = (ip_w z = 0 ∨ ip_w z = 1) := by
  simp only [ip_b2, Bool.or_eq_true, decide_eq_true_eq, ← Int32.toInt_inj, ip_w]
  rfl
theorem w_putz {g x : Nat} {z : Int} (ci : Nat) (k : Int) (hi : ip_ins m i = some (q, .putfield g, t, a, b)) (hg : (g / 64 = ci ∧ ((g % 64 : Nat) : Int) = k) ∧ ip_fk g = 1) : ip_wp d m i ls (vi z :: .ref x :: r) n S R L Q = (ip_isO n x ci ∧ (ip_w z = 0 ∨ ip_w z = 1) ∧ ip_wp d m (i + 1) ls r n (ip_up S x k (ip_w z)) R L Q) := by
  obtain ⟨⟨rfl, rfl⟩, h3⟩ := hg
  rw [← ip_isOb_iff, ← ip_b2_iff]
  by_cases hc : ip_isOb n x (g / 64) = true
  · by_cases hb : ip_b2 (Int32.ofInt z) = true
    · rw [ip_next (i' := i + 1) (ls' := ls) (st' := r) (n' := n) (S' := ip_up S x (g % 64 : Nat) (ip_w z)) (R' := R) (L' := L) (by rw [ip_stp_of hi]; simp only [ip_si]; rw [if_pos hc, h3]; exact if_pos hb)]
      simp only [hc, hb, true_and]
    · rw [ip_stop (by rw [ip_stp_of hi]; simp only [ip_si]; rw [if_pos hc, h3]; exact if_neg hb)]
      simp [hb]
  · rw [ip_stop (by rw [ip_stp_of hi]; simp only [ip_si]; rw [if_neg hc])]
    simp [hc]
theorem w_putl {g x : Nat} {z : Int} (ci : Nat) (k : Int) (hi : ip_ins m i = some (q, .putfield g, t, a, b)) (hg : (g / 64 = ci ∧ ((g % 64 : Nat) : Int) = k) ∧ ip_fk g = 3) : ip_wp d m i ls (vl z :: .ref x :: r) n S R L Q = (ip_isO n x ci ∧ ip_wp d m (i + 1) ls r n S R (ip_up L x k (ip_w64 z)) Q) := by
  obtain ⟨⟨rfl, rfl⟩, h3⟩ := hg
  rw [← ip_isOb_iff]
  refine ip_chk (p1 := (i + 1, ls, r, (n, S, R, ip_up L x (g % 64 : Nat) (ip_w64 z)))) ?_
  rw [ip_stp_of hi]
  simp only [ip_si]
  rw [h3]
  rfl
theorem w_putr {g x y : Nat} (ci : Nat) (k : Int) (hi : ip_ins m i = some (q, .putfield g, t, a, b)) (hg : (g / 64 = ci ∧ ((g % 64 : Nat) : Int) = k) ∧ ip_fk g = 2) : ip_wp d m i ls (.ref y :: .ref x :: r) n S R L Q = (ip_isO n x ci ∧ y < 900 ∧ ip_wp d m (i + 1) ls r n S (ip_ur R x k y) L Q) := by
  obtain ⟨⟨rfl, rfl⟩, h3⟩ := hg
  rw [← ip_isOb_iff]
  by_cases hc : ip_isOb n x (g / 64) = true
  · by_cases hb : y < 900
    · rw [ip_next (i' := i + 1) (ls' := ls) (st' := r) (n' := n) (S' := S) (R' := ip_ur R x (g % 64 : Nat) y) (L' := L) (by rw [ip_stp_of hi]; simp only [ip_si]; rw [if_pos hc, h3]; exact if_pos hb)]
      simp only [hc, hb, true_and]
    · rw [ip_stop (by rw [ip_stp_of hi]; simp only [ip_si]; rw [if_pos hc, h3]; exact if_neg hb)]
      simp [hb]
  · rw [ip_stop (by rw [ip_stp_of hi]; simp only [ip_si]; rw [if_neg hc])]
    simp [hc]
theorem w_iaload {x : Nat} {z : Int} (hi : ip_ins m i = some (q, .iaload, t, a, b)) : ip_wp d m i ls (vi z :: .ref x :: r) n S R L Q = (ip_isA n x 0 (ip_w z) ∧ ip_wp d m (i + 1) ls (vi (S x (ip_w z)) :: r) n S R L Q) := by
  rw [← ip_isAb_iff]
  exact ip_chk (p1 := (i + 1, ls, vi (S x (ip_w z)) :: r, (n, S, R, L))) (by rw [ip_stp_of hi]; rfl)
theorem w_baload {x : Nat} {z : Int} (hi : ip_ins m i = some (q, .baload, t, a, b)) : ip_wp d m i ls (vi z :: .ref x :: r) n S R L Q = (ip_isA n x 1 (ip_w z) ∧ ip_wp d m (i + 1) ls (vi (S x (ip_w z)) :: r) n S R L Q) := by
  rw [← ip_isAb_iff]
  exact ip_chk (p1 := (i + 1, ls, vi (S x (ip_w z)) :: r, (n, S, R, L))) (by rw [ip_stp_of hi]; rfl)
theorem w_caload {x : Nat} {z : Int} (hi : ip_ins m i = some (q, .caload, t, a, b)) : ip_wp d m i ls (vi z :: .ref x :: r) n S R L Q = ((x = 900 ∧ 0 ≤ ip_w z ∧ ip_w z < S 900 (-1)) ∧ ip_wp d m (i + 1) ls (vi (S 900 (ip_w z)) :: r) n S R L Q) := by
  refine (ip_chk (c := (decide (x = 900) && (decide (0 ≤ ip_w z) && decide (ip_w z < S 900 (-1)))) = true) (p1 := (i + 1, ls, vi (S 900 (ip_w z)) :: r, (n, S, R, L))) (by rw [ip_stp_of hi]; rfl)).trans ?_
  simp
theorem w_saload {x : Nat} (hi : ip_ins m i = some (q, .saload, t, a, b)) : ip_wp d m i ls (.ref x :: r) n S R L Q = (x = 900 ∧ ip_wp d m (i + 1) ls (vi (S 900 (-1)) :: r) n S R L Q) :=
  ip_chk (p1 := (i + 1, ls, vi (S 900 (-1)) :: r, (n, S, R, L))) (by rw [ip_stp_of hi]; rfl)
theorem w_laload {x : Nat} (hi : ip_ins m i = some (q, .laload, t, a, b)) : ip_wp d m i ls (.ref x :: r) n S R L Q = ((951 ≤ x ∧ x < 964) ∧ ip_wp d m (i + 1) ls (vi ((ip_tx (x - 951)).length : Int) :: r) n S R L Q) := by
  refine (ip_chk (c := (decide (951 ≤ x) && decide (x < 964)) = true) (p1 := (i + 1, ls, vi ((ip_tx (x - 951)).length : Int) :: r, (n, S, R, L))) (by rw [ip_stp_of hi]; rfl)).trans ?_
  simp
theorem w_faload {x : Nat} {z : Int} (hi : ip_ins m i = some (q, .faload, t, a, b)) : ip_wp d m i ls (vi z :: .ref x :: r) n S R L Q = ((951 ≤ x ∧ x < 964 ∧ 0 ≤ ip_w z ∧ ip_w z < ((ip_tx (x - 951)).length : Int)) ∧ ip_wp d m (i + 1) ls (vi ((ip_tx (x - 951)).getD (ip_w z).toNat 0) :: r) n S R L Q) := by
  refine (ip_chk (c := (decide (951 ≤ x) && (decide (x < 964) && (decide (0 ≤ ip_w z) && decide (ip_w z < ((ip_tx (x - 951)).length : Int))))) = true) (p1 := (i + 1, ls, vi ((ip_tx (x - 951)).getD (ip_w z).toNat 0) :: r, (n, S, R, L))) (by rw [ip_stp_of hi]; rfl)).trans ?_
  simp
theorem w_aaload {x : Nat} {z : Int} (hi : ip_ins m i = some (q, .aaload, t, a, b)) : ip_wp d m i ls (vi z :: .ref x :: r) n S R L Q = ((ip_isA n x 2 (ip_w z) ∨ ip_isA n x 3 (ip_w z)) ∧ ip_rfk (R x (ip_w z)) (fun y => ip_wp d m (i + 1) ls (.ref y :: r) n S R L Q)) := by
  have e : ((ip_isAb n x 2 (ip_w z) || ip_isAb n x 3 (ip_w z)) = true) = (ip_isA n x 2 (ip_w z) ∨ ip_isA n x 3 (ip_w z)) := by rw [Bool.or_eq_true, ip_isAb_iff, ip_isAb_iff]
  rw [← e]
  by_cases hc : (ip_isAb n x 2 (ip_w z) || ip_isAb n x 3 (ip_w z)) = true
  · have hc' : (ip_isAb n x 2 (Int32.ofInt z).toInt || ip_isAb n x 3 (Int32.ofInt z).toInt) = true := hc
    cases hR : R x (ip_w z) with
    | none =>
      have hR' : R x (Int32.ofInt z).toInt = none := hR
      rw [ip_stop (by rw [ip_stp_of hi]; simp only [ip_si]; rw [if_pos hc', hR'])]
      simp [ip_rfk]
    | some y =>
      have hR' : R x (Int32.ofInt z).toInt = some y := hR
      rw [ip_next (by rw [ip_stp_of hi]; simp only [ip_si]; rw [if_pos hc', hR']; rfl)]
      simp only [hc, ip_rfk, true_and]
  · have hc' : ¬ (ip_isAb n x 2 (Int32.ofInt z).toInt || ip_isAb n x 3 (Int32.ofInt z).toInt) = true := hc
    rw [ip_stop (by rw [ip_stp_of hi]; simp only [ip_si]; rw [if_neg hc'])]
    simp [hc]
theorem w_iastore {x : Nat} {z v : Int} (hi : ip_ins m i = some (q, .iastore, t, a, b)) : ip_wp d m i ls (vi v :: vi z :: .ref x :: r) n S R L Q = (ip_isA n x 0 (ip_w z) ∧ ip_wp d m (i + 1) ls r n (ip_up S x (ip_w z) (ip_w v)) R L Q) := by
  rw [← ip_isAb_iff]
  exact ip_chk (p1 := (i + 1, ls, r, (n, ip_up S x (ip_w z) (ip_w v), R, L))) (by rw [ip_stp_of hi]; rfl)
theorem w_bastore {x : Nat} {z v : Int} (hi : ip_ins m i = some (q, .bastore, t, a, b)) : ip_wp d m i ls (vi v :: vi z :: .ref x :: r) n S R L Q = ((79 ≤ n ∧ ip_isA n x 1 (ip_w z) ∧ (ip_w v = 0 ∨ ip_w v = 1)) ∧ ip_wp d m (i + 1) ls r n (ip_up S x (ip_w z) (ip_w v)) R L Q) := by
  have e : ((decide (79 ≤ n) && (ip_isAb n x 1 (ip_w z) && ip_b2 (Int32.ofInt v))) = true) = (79 ≤ n ∧ ip_isA n x 1 (ip_w z) ∧ (ip_w v = 0 ∨ ip_w v = 1)) := by rw [Bool.and_eq_true, Bool.and_eq_true, ip_isAb_iff, ip_b2_iff, decide_eq_true_eq]
  rw [← e]
  exact ip_chk (p1 := (i + 1, ls, r, (n, ip_up S x (ip_w z) (ip_w v), R, L))) (by rw [ip_stp_of hi]; rfl)
theorem w_aastore {x y : Nat} {z : Int} (hi : ip_ins m i = some (q, .aastore, t, a, b)) : ip_wp d m i ls (.ref y :: vi z :: .ref x :: r) n S R L Q = (((ip_isA n x 2 (ip_w z) ∧ ip_isO n y 7) ∨ (ip_isA n x 3 (ip_w z) ∧ ip_isO n y 5)) ∧ ip_wp d m (i + 1) ls r n S (ip_ur R x (ip_w z) y) L Q) := by
  have e : ((ip_isAb n x 2 (ip_w z) && ip_isOb n y 7 || ip_isAb n x 3 (ip_w z) && ip_isOb n y 5) = true) = ((ip_isA n x 2 (ip_w z) ∧ ip_isO n y 7) ∨ (ip_isA n x 3 (ip_w z) ∧ ip_isO n y 5)) := by rw [Bool.or_eq_true, Bool.and_eq_true, Bool.and_eq_true, ip_isAb_iff, ip_isAb_iff, ip_isOb_iff, ip_isOb_iff]
  rw [← e]
  exact ip_chk (p1 := (i + 1, ls, r, (n, S, ip_ur R x (ip_w z) y, L))) (by rw [ip_stp_of hi]; rfl)
theorem w_alen {x : Nat} (hi : ip_ins m i = some (q, .arraylength, t, a, b)) : ip_wp d m i ls (.ref x :: r) n S R L Q = ((x < n ∧ (ip_kd x).1 = 0) ∧ ip_wp d m (i + 1) ls (vi ((ip_kd x).2 : Int) :: r) n S R L Q) := by
  refine (ip_chk (c := (decide (x < n) && decide ((ip_kd x).1 = 0)) = true) (p1 := (i + 1, ls, vi ((ip_kd x).2 : Int) :: r, (n, S, R, L))) (by rw [ip_stp_of hi]; rfl)).trans ?_
  simp
theorem w_newi {z : Int} (hi : ip_ins m i = some (q, .newarray .int, t, a, b)) : ip_wp d m i ls (vi z :: r) n S R L Q = (((ip_kd n).1 = 0 ∧ ip_w z = ((ip_kd n).2 : Int)) ∧ ip_wp d m (i + 1) ls (.ref n :: r) (n + 1) S R L Q) := by
  refine (ip_chk (c := (decide ((ip_kd n).1 = ip_tag .int) && (decide (ip_tag .int < 2) && decide (ip_w z = ((ip_kd n).2 : Int)))) = true) (p1 := (i + 1, ls, .ref n :: r, (n + 1, S, R, L))) (by rw [ip_stp_of hi]; rfl)).trans ?_
  simp only [Bool.and_eq_true, decide_eq_true_eq]
  simp [ip_tag]
theorem w_newz {z : Int} (hi : ip_ins m i = some (q, .newarray .boolean, t, a, b)) : ip_wp d m i ls (vi z :: r) n S R L Q = (((ip_kd n).1 = 1 ∧ ip_w z = ((ip_kd n).2 : Int)) ∧ ip_wp d m (i + 1) ls (.ref n :: r) (n + 1) S R L Q) := by
  refine (ip_chk (c := (decide ((ip_kd n).1 = ip_tag .boolean) && (decide (ip_tag .boolean < 2) && decide (ip_w z = ((ip_kd n).2 : Int)))) = true) (p1 := (i + 1, ls, .ref n :: r, (n + 1, S, R, L))) (by rw [ip_stp_of hi]; rfl)).trans ?_
  simp only [Bool.and_eq_true, decide_eq_true_eq]
  simp [ip_tag]
theorem w_anew {z : Int} {tg : Nat} (hi : ip_ins m i = some (q, .anewarray tg, t, a, b)) : ip_wp d m i ls (vi z :: r) n S R L Q = (((tg = 2 ∨ tg = 3) ∧ (ip_kd n).1 = tg ∧ ip_w z = ((ip_kd n).2 : Int)) ∧ ip_wp d m (i + 1) ls (.ref n :: r) (n + 1) S R L Q) := by
  refine (ip_chk (c := ((decide (tg = 2) || decide (tg = 3)) && (decide ((ip_kd n).1 = tg) && decide (ip_w z = ((ip_kd n).2 : Int)))) = true) (p1 := (i + 1, ls, .ref n :: r, (n + 1, S, R, L))) (by rw [ip_stp_of hi]; rfl)).trans ?_
  simp
theorem w_new {ci : Nat} (hi : ip_ins m i = some (q, .new ci, t, a, b)) (hc : ci < 9) : ip_wp d m i ls r n S R L Q = ((ip_kd n).1 = 10 + ci ∧ ip_wp d m (i + 1) ls (.ref n :: r) (n + 1) S R L Q) := by
  refine (ip_chk (c := (decide (ci < 9) && decide ((ip_kd n).1 = 10 + ci)) = true) (p1 := (i + 1, ls, .ref n :: r, (n + 1, S, R, L))) (by rw [ip_stp_of hi]; rfl)).trans ?_
  simp [hc]
theorem w_dup {v : Value} (hi : ip_ins m i = some (q, .dup, t, a, b)) (hv : v.category = 1) : ip_wp d m i ls (v :: r) n S R L Q = ip_wp d m (i + 1) ls (v :: v :: r) n S R L Q := ip_next (by rw [ip_stp_of hi]; simp only [ip_si]; rw [if_pos hv]; rfl)
theorem w_pop {v : Value} (hi : ip_ins m i = some (q, .pop, t, a, b)) (hv : v.category = 1) : ip_wp d m i ls (v :: r) n S R L Q = ip_wp d m (i + 1) ls r n S R L Q := ip_next (by rw [ip_stp_of hi]; simp only [ip_si]; rw [if_pos hv]; rfl)
theorem w_pop2 {v : Value} (hi : ip_ins m i = some (q, .pop2, t, a, b)) (hv : v.category = 2) : ip_wp d m i ls (v :: r) n S R L Q = ip_wp d m (i + 1) ls r n S R L Q := ip_next (by rw [ip_stp_of hi]; simp only [ip_si]; rw [if_pos hv]; rfl)
theorem w_goto {o : Int} (hi : ip_ins m i = some (q, .goto o, t, a, b)) : ip_wp d m i ls r n S R L Q = ip_wp d m t ls r n S R L Q := ip_next (by rw [ip_stp_of hi]; rfl)
theorem w_ifc {c : ClassFile.Cond} {o x : Int} (hi : ip_ins m i = some (q, .ifCond c o, t, a, b)) : ip_wp d m i ls (vi x :: r) n S R L Q = if ip_cond c (ip_w x) 0 = true then ip_wp d m t ls r n S R L Q else ip_wp d m (i + 1) ls r n S R L Q :=
  ip_if (p1 := (t, ls, r, (n, S, R, L))) (p2 := (i + 1, ls, r, (n, S, R, L))) (by rw [ip_stp_of hi]; rfl)
theorem w_ific {c : ClassFile.Cond} {o x y : Int} (hi : ip_ins m i = some (q, .if_icmp c o, t, a, b)) : ip_wp d m i ls (vi y :: vi x :: r) n S R L Q = if ip_cond c (ip_w x) (ip_w y) = true then ip_wp d m t ls r n S R L Q else ip_wp d m (i + 1) ls r n S R L Q :=
  ip_if (p1 := (t, ls, r, (n, S, R, L))) (p2 := (i + 1, ls, r, (n, S, R, L))) (by rw [ip_stp_of hi]; rfl)
theorem ip_c_eq {x y : Int} {A B : Prop} : (if ip_cond .eq x y = true then A else B) = if x = y then A else B := by simp [ip_cond]
theorem ip_c_ne {x y : Int} {A B : Prop} : (if ip_cond .ne x y = true then A else B) = if x = y then B else A := by by_cases h : x = y <;> simp [ip_cond, h]
theorem ip_c_lt {x y : Int} {A B : Prop} : (if ip_cond .lt x y = true then A else B) = if x < y then A else B := by simp [ip_cond]
theorem ip_c_ge {x y : Int} {A B : Prop} : (if ip_cond .ge x y = true then A else B) = if x < y then B else A := by by_cases h : x < y <;> simp [ip_cond, h]
theorem ip_c_gt {x y : Int} {A B : Prop} : (if ip_cond .gt x y = true then A else B) = if y < x then A else B := by simp [ip_cond]
theorem ip_c_le {x y : Int} {A B : Prop} : (if ip_cond .le x y = true then A else B) = if y < x then B else A := by by_cases h : y < x <;> simp [ip_cond, h]
theorem w_sw {dd : Int} {ps : Array (Int × Int)} {x : Int} (hi : ip_ins m i = some (q, .lookupswitch dd ps, t, a, b)) : ip_wp d m i ls (vi x :: r) n S R L Q = ip_wp d m (ip_sw (ip_w x) dd ps.toList) ls r n S R L Q := ip_next (by rw [ip_stp_of hi]; rfl)
theorem ip_swc {z dd v : Int} {tt : Int} {ps : List (Int × Int)} : ip_wp d m (ip_sw z dd ((v, tt) :: ps)) ls r n S R L Q = if z = v then ip_wp d m tt.toNat ls r n S R L Q else ip_wp d m (ip_sw z dd ps) ls r n S R L Q := by
  rw [ip_sw]
  by_cases h : z = v
  · rw [if_pos h, if_pos h]
  · rw [if_neg h, if_neg h]
theorem w_iadd {x y : Int} (hi : ip_ins m i = some (q, .iadd, t, a, b)) : ip_wp d m i ls (vi y :: vi x :: r) n S R L Q = ip_wp d m (i + 1) ls (vi (x + y) :: r) n S R L Q := ip_nxi ((Int32.ofInt_add x y).symm) (by rw [ip_stp_of hi]; rfl)
theorem w_isub {x y : Int} (hi : ip_ins m i = some (q, .isub, t, a, b)) : ip_wp d m i ls (vi y :: vi x :: r) n S R L Q = ip_wp d m (i + 1) ls (vi (x - y) :: r) n S R L Q := ip_nxi ((Int32.ofInt_sub x y).symm) (by rw [ip_stp_of hi]; rfl)
theorem w_imul {x y : Int} (hi : ip_ins m i = some (q, .imul, t, a, b)) : ip_wp d m i ls (vi y :: vi x :: r) n S R L Q = ip_wp d m (i + 1) ls (vi (x * y) :: r) n S R L Q := ip_nxi ((Int32.ofInt_mul x y).symm) (by rw [ip_stp_of hi]; rfl)
theorem w_ineg {x : Int} (hi : ip_ins m i = some (q, .ineg, t, a, b)) : ip_wp d m i ls (vi x :: r) n S R L Q = ip_wp d m (i + 1) ls (vi (-x) :: r) n S R L Q := ip_nxi ((Int32.ofInt_neg x).symm) (by rw [ip_stp_of hi]; rfl)
theorem ip_of0 {y : Int} : (Int32.ofInt y = 0) = (ip_w y = 0) := by
  rw [← Int32.toInt_inj]; rfl
theorem w_idiv {x y : Int} (hi : ip_ins m i = some (q, .idiv, t, a, b)) : ip_wp d m i ls (vi y :: vi x :: r) n S R L Q = (¬ ip_w y = 0 ∧ ip_wp d m (i + 1) ls (vi (ip_div x y) :: r) n S R L Q) := by
  rw [← ip_of0]
  by_cases h : Int32.ofInt y = 0
  · rw [ip_stop (by rw [ip_stp_of hi]; simp only [ip_si]; rw [if_pos h])]; simp [h]
  · rw [ip_nxi (Int32.ofInt_toInt _).symm (by rw [ip_stp_of hi]; simp only [ip_si]; rw [if_neg h])]; simp only [h, not_false_eq_true, true_and]; rfl
theorem w_irem {x y : Int} (hi : ip_ins m i = some (q, .irem, t, a, b)) : ip_wp d m i ls (vi y :: vi x :: r) n S R L Q = (¬ ip_w y = 0 ∧ ip_wp d m (i + 1) ls (vi (ip_rem x y) :: r) n S R L Q) := by
  rw [← ip_of0]
  by_cases h : Int32.ofInt y = 0
  · rw [ip_stop (by rw [ip_stp_of hi]; simp only [ip_si]; rw [if_pos h])]; simp [h]
  · rw [ip_nxi (Int32.ofInt_toInt _).symm (by rw [ip_stp_of hi]; simp only [ip_si]; rw [if_neg h])]; simp only [h, not_false_eq_true, true_and]; rfl
theorem w_iand {x y : Int} (hi : ip_ins m i = some (q, .iand, t, a, b)) : ip_wp d m i ls (vi y :: vi x :: r) n S R L Q = ip_wp d m (i + 1) ls (vi (ip_and x y) :: r) n S R L Q := ip_nxi ((Int32.ofInt_toInt _).symm) (by rw [ip_stp_of hi]; rfl)
theorem w_ior {x y : Int} (hi : ip_ins m i = some (q, .ior, t, a, b)) : ip_wp d m i ls (vi y :: vi x :: r) n S R L Q = ip_wp d m (i + 1) ls (vi (ip_or x y) :: r) n S R L Q := ip_nxi ((Int32.ofInt_toInt _).symm) (by rw [ip_stp_of hi]; rfl)
theorem w_ixor {x y : Int} (hi : ip_ins m i = some (q, .ixor, t, a, b)) : ip_wp d m i ls (vi y :: vi x :: r) n S R L Q = ip_wp d m (i + 1) ls (vi (ip_xor x y) :: r) n S R L Q := ip_nxi ((Int32.ofInt_toInt _).symm) (by rw [ip_stp_of hi]; rfl)
theorem w_ishl {x y : Int} (hi : ip_ins m i = some (q, .ishl, t, a, b)) : ip_wp d m i ls (vi y :: vi x :: r) n S R L Q = ip_wp d m (i + 1) ls (vi (ip_shl x y) :: r) n S R L Q := ip_nxi ((Int32.ofInt_toInt _).symm) (by rw [ip_stp_of hi]; rfl)
theorem w_ishr {x y : Int} (hi : ip_ins m i = some (q, .ishr, t, a, b)) : ip_wp d m i ls (vi y :: vi x :: r) n S R L Q = ip_wp d m (i + 1) ls (vi (ip_shr x y) :: r) n S R L Q := ip_nxi ((Int32.ofInt_toInt _).symm) (by rw [ip_stp_of hi]; rfl)
theorem w_iushr {x y : Int} (hi : ip_ins m i = some (q, .iushr, t, a, b)) : ip_wp d m i ls (vi y :: vi x :: r) n S R L Q = ip_wp d m (i + 1) ls (vi (ip_ush x y) :: r) n S R L Q := ip_nxi ((Int32.ofInt_toInt _).symm) (by rw [ip_stp_of hi]; rfl)
theorem w_i2b {x : Int} (hi : ip_ins m i = some (q, .i2b, t, a, b)) : ip_wp d m i ls (vi x :: r) n S R L Q = ip_wp d m (i + 1) ls (vi (ip_i8 x) :: r) n S R L Q := ip_nxi ((Int32.ofInt_toInt _).symm) (by rw [ip_stp_of hi]; rfl)
theorem w_i2s {x : Int} (hi : ip_ins m i = some (q, .i2s, t, a, b)) : ip_wp d m i ls (vi x :: r) n S R L Q = ip_wp d m (i + 1) ls (vi (ip_i16 x) :: r) n S R L Q := ip_nxi ((Int32.ofInt_toInt _).symm) (by rw [ip_stp_of hi]; rfl)
theorem w_i2c {x : Int} (hi : ip_ins m i = some (q, .i2c, t, a, b)) : ip_wp d m i ls (vi x :: r) n S R L Q = ip_wp d m (i + 1) ls (vi (ip_u16 x) :: r) n S R L Q := ip_nxi ((Int32.ofInt_toInt _).symm) (by rw [ip_stp_of hi]; rfl)
theorem ip_i2l (x : Int) : (Int32.ofInt x).toInt64 = Int64.ofInt (ip_w x) := by
  rw [← Int64.toInt_inj, Int32.toInt_toInt64, Int64.toInt_ofInt_of_le]
  · rfl
  · have := (ip_wrange x).1; omega
  · have := (ip_wrange x).2; omega
theorem w_i2l {x : Int} (hi : ip_ins m i = some (q, .i2l, t, a, b)) : ip_wp d m i ls (vi x :: r) n S R L Q = ip_wp d m (i + 1) ls (vl (ip_w x) :: r) n S R L Q := ip_nxl (ip_i2l x) (by rw [ip_stp_of hi]; rfl)
theorem w_l2i {x : Int} (hi : ip_ins m i = some (q, .l2i, t, a, b)) : ip_wp d m i ls (vl x :: r) n S R L Q = ip_wp d m (i + 1) ls (vi (ip_w64 x) :: r) n S R L Q := ip_nxi ((Int32.ofInt_int64ToInt _).symm) (by rw [ip_stp_of hi]; rfl)
theorem w_ladd {x y : Int} (hi : ip_ins m i = some (q, .ladd, t, a, b)) : ip_wp d m i ls (vl y :: vl x :: r) n S R L Q = ip_wp d m (i + 1) ls (vl (x + y) :: r) n S R L Q := ip_nxl ((Int64.ofInt_add x y).symm) (by rw [ip_stp_of hi]; rfl)
theorem w_lsub {x y : Int} (hi : ip_ins m i = some (q, .lsub, t, a, b)) : ip_wp d m i ls (vl y :: vl x :: r) n S R L Q = ip_wp d m (i + 1) ls (vl (x - y) :: r) n S R L Q := ip_nxl ((Int64.ofInt_sub x y).symm) (by rw [ip_stp_of hi]; rfl)
theorem w_lmul {x y : Int} (hi : ip_ins m i = some (q, .lmul, t, a, b)) : ip_wp d m i ls (vl y :: vl x :: r) n S R L Q = ip_wp d m (i + 1) ls (vl (x * y) :: r) n S R L Q := ip_nxl ((Int64.ofInt_mul x y).symm) (by rw [ip_stp_of hi]; rfl)
theorem ip_of0l {y : Int} : (Int64.ofInt y = 0) = (ip_w64 y = 0) := by
  rw [← Int64.toInt_inj]; rfl
theorem w_ldiv {x y : Int} (hi : ip_ins m i = some (q, .ldiv, t, a, b)) : ip_wp d m i ls (vl y :: vl x :: r) n S R L Q = (¬ ip_w64 y = 0 ∧ ip_wp d m (i + 1) ls (vl (ip_ldiv x y) :: r) n S R L Q) := by
  rw [← ip_of0l]
  by_cases h : Int64.ofInt y = 0
  · rw [ip_stop (by rw [ip_stp_of hi]; simp only [ip_si]; rw [if_pos h])]; simp [h]
  · rw [ip_nxl (Int64.ofInt_toInt _).symm (by rw [ip_stp_of hi]; simp only [ip_si]; rw [if_neg h])]; simp only [h, not_false_eq_true, true_and]; rfl
theorem w_lrem {x y : Int} (hi : ip_ins m i = some (q, .lrem, t, a, b)) : ip_wp d m i ls (vl y :: vl x :: r) n S R L Q = (¬ ip_w64 y = 0 ∧ ip_wp d m (i + 1) ls (vl (ip_lrem x y) :: r) n S R L Q) := by
  rw [← ip_of0l]
  by_cases h : Int64.ofInt y = 0
  · rw [ip_stop (by rw [ip_stp_of hi]; simp only [ip_si]; rw [if_pos h])]; simp [h]
  · rw [ip_nxl (Int64.ofInt_toInt _).symm (by rw [ip_stp_of hi]; simp only [ip_si]; rw [if_neg h])]; simp only [h, not_false_eq_true, true_and]; rfl
def ip_cmpl (x y : Int) : Int := if y < x then 1 else if x = y then 0 else -1
theorem ip_lcmp (x y : Int) : lg_cmp (Int64.ofInt x) (Int64.ofInt y) = Int32.ofInt (ip_cmpl (ip_w64 x) (ip_w64 y)) := by
  unfold lg_cmp ip_cmpl
  by_cases h1 : ip_w64 y < ip_w64 x
  · have h1' : Int64.ofInt x > Int64.ofInt y := Int64.lt_iff_toInt_lt.mpr h1
    rw [if_pos h1', if_pos h1]; rfl
  · have h1' : ¬ Int64.ofInt x > Int64.ofInt y := fun z => h1 (Int64.lt_iff_toInt_lt.mp z)
    rw [if_neg h1', if_neg h1]
    by_cases h2 : ip_w64 x = ip_w64 y
    · have h2' : Int64.ofInt x = Int64.ofInt y := Int64.toInt_inj.mp h2
      rw [if_pos h2', if_pos h2]; rfl
    · have h2' : ¬ Int64.ofInt x = Int64.ofInt y := fun z => h2 (congrArg Int64.toInt z)
      rw [if_neg h2', if_neg h2]; rfl
theorem w_lcmp {x y : Int} (hi : ip_ins m i = some (q, .lcmp, t, a, b)) : ip_wp d m i ls (vl y :: vl x :: r) n S R L Q = ip_wp d m (i + 1) ls (vi (ip_cmpl (ip_w64 x) (ip_w64 y)) :: r) n S R L Q := ip_nxi (ip_lcmp x y) (by rw [ip_stp_of hi]; rfl)
theorem w_max {x y : Int} (hi : ip_ins m i = some (q, .invokevirtual 0, t, a, b)) (hr : ip_cat r ≤ 8) : ip_wp d m i ls (vi y :: vi x :: r) n S R L Q = ip_wp d m (i + 1) ls (vi (if ip_w x < ip_w y then y else x) :: r) n S R L Q := ip_next (by
  rw [ip_stp_of hi]
  simp only [ip_si]
  rw [if_pos hr]
  simp only [Int32.lt_iff_toInt_lt]
  have e : (if (Int32.ofInt x).toInt < (Int32.ofInt y).toInt then Int32.ofInt y else Int32.ofInt x) = Int32.ofInt (if ip_w x < ip_w y then y else x) := by
    by_cases h : ip_w x < ip_w y
    · rw [if_pos h]; exact if_pos h
    · rw [if_neg h]; exact if_neg h
  rw [e]; rfl)
theorem w_min {x y : Int} (hi : ip_ins m i = some (q, .invokevirtual 1, t, a, b)) (hr : ip_cat r ≤ 8) : ip_wp d m i ls (vi y :: vi x :: r) n S R L Q = ip_wp d m (i + 1) ls (vi (if ip_w y < ip_w x then y else x) :: r) n S R L Q := ip_next (by
  rw [ip_stp_of hi]
  simp only [ip_si]
  rw [if_pos hr]
  simp only [Int32.lt_iff_toInt_lt]
  have e : (if (Int32.ofInt y).toInt < (Int32.ofInt x).toInt then Int32.ofInt y else Int32.ofInt x) = Int32.ofInt (if ip_w y < ip_w x then y else x) := by
    by_cases h : ip_w y < ip_w x
    · rw [if_pos h]; exact if_pos h
    · rw [if_neg h]; exact if_neg h
  rw [e]; rfl)
theorem w_copy {x y : Nat} {nn sp dp : Int} (hi : ip_ins m i = some (q, .invokevirtual 4, t, a, b)) (hr : ip_cat r ≤ 8) : ip_wp d m i ls (vi nn :: vi dp :: .ref x :: vi sp :: .ref y :: r) n S R L Q = ((79 ≤ n ∧ 0 ≤ ip_w nn ∧ ip_isA n x 0 0 ∧ ip_isA n y 0 0 ∧ 0 ≤ ip_w sp ∧ ip_w sp + ip_w nn ≤ ((ip_kd y).2 : Int) ∧ 0 ≤ ip_w dp ∧ ip_w dp + ip_w nn ≤ ((ip_kd x).2 : Int)) ∧ ip_wp d m (i + 1) ls r n (ip_cp S y (ip_w sp) x (ip_w dp) (ip_w nn)) R L Q) := by
  refine (ip_chk (p1 := (i + 1, ls, r, (n, ip_cp S y (ip_w sp) x (ip_w dp) (ip_w nn), R, L))) (by rw [ip_stp_of hi]; rfl)).trans ?_
  simp only [Bool.and_eq_true, decide_eq_true_eq, ip_isAb_iff, hr, true_and]
  rfl
theorem w_oinit {x : Nat} (hi : ip_ins m i = some (q, .invokevirtual 5, t, a, b)) (hr : ip_cat r ≤ 8) : ip_wp d m i ls (.ref x :: r) n S R L Q = (x < 900 ∧ ip_wp d m (i + 1) ls r n S R L Q) := by
  refine (ip_chk (c := (decide (x < 900) && decide (ip_cat r ≤ 8)) = true) (p1 := (i + 1, ls, r, (n, S, R, L))) (by rw [ip_stp_of hi]; rfl)).trans ?_
  simp [hr]
/-- a call: as are the arguments, the receiver first -/
theorem w_call {k : Nat} {st : List Value} (as : List Value) (r : List Value) (c : Prop) (hi : ip_ins m i = some (q, .invokestatic k, t, a, b)) (hk : k < 233) (h1 : (st.take (ip_na k)).reverse = as) (h2 : st.drop (ip_na k) = r) (h3 : as.length = ip_na k) (h4 : (ip_rcv k n as = true) = c) (h5 : ip_cat r ≤ 8) :
    ip_wp d m i ls st n S R L Q = (c ∧ ip_wc d k as n S R L (fun v n S R L => ip_wp d m (i + 1) ls (v.toList ++ r) n S R L Q)) := by
  subst h1; subst h2; subst h4
  by_cases hc : ip_rcv k n (st.take (ip_na k)).reverse = true
  · rw [ip_call (k := k) (i' := i + 1) (as := (st.take (ip_na k)).reverse) (ls' := ls) (st' := st.drop (ip_na k)) (by
      rw [ip_stp_of hi]
      simp only [ip_si]
      rw [if_pos (by simp only [Bool.and_eq_true, decide_eq_true_eq]; exact ⟨hk, h3, hc, h5⟩)])]
    simp only [hc, true_and]
  · rw [ip_stop (by
      rw [ip_stp_of hi]
      simp only [ip_si]
      rw [if_neg (by simp only [Bool.and_eq_true, decide_eq_true_eq]; exact fun z => hc z.2.2.1)])]
    simp only [hc, false_and]
    simp
theorem ip_rcv0 {k : Nat} {as : List Value} (h : ip_rc k = 0) : (ip_rcv k n as = true) = True := by
  unfold ip_rcv; rw [h]; simp
theorem ip_rcv5 {k x : Nat} {as : List Value} (h : ip_rc k = 5) : (ip_rcv k n (.ref x :: as) = true) = (x < 900) := by
  rw [ip_rcv, h]; simp
theorem ip_rcv30 {k x : Nat} {as : List Value} (h : ip_rc k = 30) : (ip_rcv k n (.ref x :: as) = true) = (901 ≤ x ∧ x < 914) := by
  rw [ip_rcv, h]; simp
theorem ip_rcvO {k x : Nat} {as : List Value} (ci : Nat) (h : ip_rc k = 10 + ci) (hc : ci < 9) : (ip_rcv k n (.ref x :: as) = true) = ip_isO n x ci := by
  rw [← ip_isOb_iff, ip_rcv, h]
  have e : 10 + ci - 10 = ci := by omega
  split
  · omega
  · omega
  · omega
  · simp only [e]
theorem w_callN {k na : Nat} {st : List Value} (as : List Value) (r : List Value) (c : Prop) (hna : ip_na k = na) (hi : ip_ins m i = some (q, .invokestatic k, t, a, b)) (hk : k < 233) (h1 : (st.take na).reverse = as) (h2 : st.drop na = r) (h3 : as.length = na) (h4 : (ip_rcv k n as = true) = c) (h5 : ip_cat r ≤ 8) :
    ip_wp d m i ls st n S R L Q = (c ∧ ip_wc d k as n S R L (fun v n S R L => ip_wp d m (i + 1) ls (v.toList ++ r) n S R L Q)) := by
  subst hna
  exact w_call as r c hi hk h1 h2 h3 h4 h5
theorem w_callS {k na : Nat} {st : List Value} (as : List Value) (r : List Value) (hna : ip_na k = na) (hi : ip_ins m i = some (q, .invokestatic k, t, a, b)) (hk : k < 233) (h1 : (st.take na).reverse = as) (h2 : st.drop na = r) (h3 : as.length = na) (h4 : ip_rc k = 0) (h5 : ip_cat r ≤ 8) :
    ip_wp d m i ls st n S R L Q = ip_wc d k as n S R L (fun v n S R L => ip_wp d m (i + 1) ls (v.toList ++ r) n S R L Q) :=
  (w_callN as r True hna hi hk h1 h2 h3 (ip_rcv0 h4) h5).trans (true_and _)
theorem ip_wcE {as : List Value} {ml : Nat} {ls : ip_L} (hml : ip_ml m = ml) (hl : (ip_sl as).length ≤ ml) (he : ip_sl as ++ List.replicate (ml - (ip_sl as).length) none = ls) : ip_wc (d + 1) m as n S R L Q = ip_wp d m 0 ls [] n S R L Q := by
  subst hml; subst he
  exact ip_wcS hl
theorem ip_fxn : ip_fx none = none := rfl
theorem ip_fxi (x : Int32) : ip_fx (some (.int x)) = some (.int x) := rfl
theorem ip_fxr (x : Nat) : ip_fx (some (.ref x)) = some (.ref x) := rfl
theorem ip_fxl (x : Int64) : ip_fx (some (.long x)) = none := rfl
theorem w_ireti {x : Int} (hi : ip_ins m i = some (q, .ireturn, t, a, b)) (hk : ip_rk m = 0) : ip_wp d m i ls [vi x] n S R L Q = Q (some (vi x)) n S R L := ip_retn (by rw [ip_stp_of hi]; simp only [ip_si, hk]; rfl)
theorem w_iretz {x : Int} (hi : ip_ins m i = some (q, .ireturn, t, a, b)) (hk : ip_rk m = 1) : ip_wp d m i ls [vi x] n S R L Q = ((ip_w x = 0 ∨ ip_w x = 1) ∧ Q (some (vi x)) n S R L) := by
  rw [← ip_b2_iff]
  by_cases h : ip_b2 (Int32.ofInt x) = true
  · rw [ip_retn (r := some (vi x)) (by rw [ip_stp_of hi]; simp only [ip_si, hk]; exact if_pos h)]
    simp only [h, true_and]
  · rw [ip_stop (by rw [ip_stp_of hi]; simp only [ip_si, hk]; exact if_neg h)]
    simp only [h, false_and]
    simp
theorem w_iretb {x : Int} (hi : ip_ins m i = some (q, .ireturn, t, a, b)) (hk : ip_rk m = 2) : ip_wp d m i ls [vi x] n S R L Q = ((-128 ≤ ip_w x ∧ ip_w x < 128) ∧ Q (some (vi x)) n S R L) := by
  by_cases h : ip_rok 2 (Int32.ofInt x) = true
  · rw [ip_retn (r := some (vi x)) (by rw [ip_stp_of hi]; simp only [ip_si, hk]; exact if_pos h)]
    simp only [ip_rok, Bool.and_eq_true, decide_eq_true_eq] at h
    have h2 : -128 ≤ ip_w x ∧ ip_w x < 128 := h
    simp only [h2, and_self, true_and]
  · rw [ip_stop (by rw [ip_stp_of hi]; simp only [ip_si, hk]; exact if_neg h)]
    simp only [ip_rok, Bool.and_eq_true, decide_eq_true_eq] at h
    have h2 : ¬ (-128 ≤ ip_w x ∧ ip_w x < 128) := h
    simp only [h2, false_and]
theorem w_iretc {x : Int} (hi : ip_ins m i = some (q, .ireturn, t, a, b)) (hk : ip_rk m = 3) : ip_wp d m i ls [vi x] n S R L Q = ((0 ≤ ip_w x ∧ ip_w x < 65536) ∧ Q (some (vi x)) n S R L) := by
  by_cases h : ip_rok 3 (Int32.ofInt x) = true
  · rw [ip_retn (r := some (vi x)) (by rw [ip_stp_of hi]; simp only [ip_si, hk]; exact if_pos h)]
    simp only [ip_rok, Bool.and_eq_true, decide_eq_true_eq] at h
    have h2 : 0 ≤ ip_w x ∧ ip_w x < 65536 := h
    simp only [h2, and_self, true_and]
  · rw [ip_stop (by rw [ip_stp_of hi]; simp only [ip_si, hk]; exact if_neg h)]
    simp only [ip_rok, Bool.and_eq_true, decide_eq_true_eq] at h
    have h2 : ¬ (0 ≤ ip_w x ∧ ip_w x < 65536) := h
    simp only [h2, false_and]
theorem w_lret {x : Int} (hi : ip_ins m i = some (q, .lreturn, t, a, b)) (hk : ip_rk m = 4) : ip_wp d m i ls [vl x] n S R L Q = Q (some (vl x)) n S R L := ip_retn (by rw [ip_stp_of hi]; simp only [ip_si, hk]; rfl)
theorem w_aret {x : Nat} (hi : ip_ins m i = some (q, .areturn, t, a, b)) (hk : ip_rk m = 5) : ip_wp d m i ls [.ref x] n S R L Q = (¬ x = 998 ∧ Q (some (.ref x)) n S R L) := by
  by_cases h : x = 998
  · rw [ip_stop (by rw [ip_stp_of hi]; simp only [ip_si, hk]; rw [if_neg (by simp [h])])]
    simp [h]
  · rw [ip_retn (r := some (.ref x)) (by rw [ip_stp_of hi]; simp only [ip_si, hk]; rw [if_pos (by simp [h])])]
    simp [h]
theorem w_ret (hi : ip_ins m i = some (q, .return_, t, a, b)) (hk : ip_rk m = 9) : ip_wp d m i ls [] n S R L Q = Q none n S R L := ip_retn (by rw [ip_stp_of hi]; simp only [ip_si, hk]; rfl)
end IPX
