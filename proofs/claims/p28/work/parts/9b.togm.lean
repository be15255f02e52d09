/-! together in the reference -/
theorem t_fx1 : ∀ l : Nat, l < 64 → ∀ i : Nat, i < 6 → ip_and l (ip_xor (ip_shl 1 i) (-1)) = (t_rm l i : Nat) := by decide +kernel
theorem t_fx2 : ∀ l : Nat, l < 64 → ∀ i : Nat, i < 6 → (t_bit l i = true ↔ ¬ ip_and l (ip_shl 1 i) = 0) := by decide +kernel
theorem t_fm : ∀ l : Nat, l < 64 → ∀ i : Nat, i < 6 → ip_and (ip_shr l i) 1 = if t_bit l i = true then 1 else 0 := by decide +kernel
theorem t_fpc : ∀ l : Nat, l < 64 → k_bc l = (t_pc l : Nat) := by decide +kernel
theorem t_frem : ∀ p : Nat, p < 7 → ip_rem p 2 = ((p % 2 : Nat) : Int) ∧ ip_div p 2 = ((p / 2 : Nat) : Int) := by decide +kernel
def t_lf (l : Nat) : Nat → Nat → Nat
  | 0, i => i
  | k + 1, i => if t_bit l i = true then i else t_lf l k (i + 1)
theorem t_lfo : ∀ l : Nat, l < 64 → 0 < l → t_lf l 6 0 = t_lo l := by decide +kernel
theorem t_bp : ∀ p : Nat, p < 7 → ∀ l : Nat, l < 64 → l < 2 ^ p → ∀ i : Nat, i < 6 → t_bit l i = true → i < p := by decide +kernel
theorem t_pc1 : ∀ l : Nat, l < 64 → t_pc l < 2 → t_rm l (t_lo l) = 0 ∨ l = 0 := by decide +kernel
theorem t_al1 {V : Nat → Nat → Int} {l : Nat} (h6 : l < 64) (h : t_pc l < 2) : t_al V l = (0, 0) := by
  by_cases e : l = 0
  · rw [e, t_al0]
  · have e2 : t_rm l (t_lo l) = 0 := by rcases t_pc1 l h6 h with z | z; exact z; exact absurd z e
    have hp : t_pc l = 1 := by
      have := t_pcb l h6 (t_lo l) (t_lob l h6 (by omega)).2 (t_lob l h6 (by omega)).1
      omega
    have hs : ∀ k o c, t_s V (t_al V) (t_lo l) 0 k o c = c := by
      intro k
      induction k with
      | zero => intro o c; rfl
      | succ k ih => intro o c; rw [t_s, if_neg (by simp [t_bit]), ih]
    rw [t_als (by omega) h6, t_st, if_pos (by omega), e2, hs, t_al0]
    rfl
section TGM
variable {d : Nat} {S : ip_S} {R : ip_R} {L : ip_S}
theorem p212l {l : Nat} {n : Nat} (h6 : l < 64) {Q} : ∀ (k i : Nat), i + k = 6 → ip_wp d 212 2 [some (.ref 62), some (vi (l : Int)), some (vi (i : Int))] [] n S R L Q = Q (some (vi ((t_lf l k i : Nat) : Int))) n S R L
  | 0, i, h => by
    rw [s212_2, t_lf]
    simp (disch := omega) only [s212_0, s212_1, s212_3, s212_4, s212_5, s212_6, s212_7, s212_8, s212_9, s212_10, s212_11, s212_12, s212_13, s212_14, ↓reduceIte, Bool.true_eq_false, Bool.false_eq_true, ip_rfS, true_or, or_true, true_and, and_true, Option.toList_some, Option.toList_none, List.cons_append, List.nil_append, ip_fxn, ip_fxi, ip_fxr, ip_fxl, ip_wid, ip_n998, ip_lt900, show ¬ (i : Int) < 6 by omega]
  | k + 1, i, h => by
    have fm := t_fm l h6 i (by omega)
    rw [s212_2, t_lf]
    by_cases c : t_bit l i = true
    · rw [if_pos c] at fm
      rw [if_pos c]
      simp (disch := omega) only [s212_0, s212_1, s212_3, s212_4, s212_5, s212_6, s212_7, s212_8, s212_9, s212_10, s212_11, s212_12, s212_13, s212_14, ↓reduceIte, Bool.true_eq_false, Bool.false_eq_true, ip_rfS, true_or, or_true, true_and, and_true, Option.toList_some, Option.toList_none, List.cons_append, List.nil_append, ip_fxn, ip_fxi, ip_fxr, ip_fxl, ip_wid, ip_n998, ip_lt900, show (i : Int) < 6 by omega, fm, Int.reduceEq]
    · rw [if_neg c] at fm
      have ih := p212l (n := n) (Q := Q) h6 k (i + 1) (by omega)
      rw [if_neg c, ← ih]
      simp (disch := omega) only [s212_0, s212_1, s212_3, s212_4, s212_5, s212_6, s212_7, s212_8, s212_9, s212_10, s212_11, s212_12, s212_13, s212_14, ↓reduceIte, Bool.true_eq_false, Bool.false_eq_true, ip_rfS, true_or, or_true, true_and, and_true, Option.toList_some, Option.toList_none, List.cons_append, List.nil_append, ip_fxn, ip_fxi, ip_fxr, ip_fxl, ip_wid, ip_n998, ip_lt900, show (i : Int) < 6 by omega, fm, Int.reduceEq, Int.natCast_add, Int.cast_ofNat_Int]
theorem p212 {l : Nat} {n : Nat} (h6 : l < 64) (h0 : 0 < l) {Q} : ip_wc (d + 1) 212 [.ref 62, vi (l : Int)] n S R L Q = Q (some (vi ((t_lo l : Nat) : Int))) n S R L := by
  have h := p212l (d := d) (S := S) (R := R) (L := L) (n := n) h6 (Q := Q) 6 0 (by omega)
  rw [t_lfo l h6 h0] at h
  simp (disch := omega) only [c212, s212_0, s212_1, ↓reduceIte, Bool.true_eq_false, Bool.false_eq_true, ip_rfS, true_or, or_true, true_and, and_true, Option.toList_some, Option.toList_none, List.cons_append, List.nil_append, ip_fxn, ip_fxi, ip_fxr, ip_fxl, ip_wid, ip_n998, ip_lt900, ← h, Int.cast_ofNat_Int]
  try rfl
def m_st (S : ip_S) (st : Int × Int) : ip_S := ip_up (ip_up S 62 33 st.1) 62 34 st.2
theorem m_st71 {st : Int × Int} : m_st S st 71 = S 71 := by
  unfold m_st
  rw [ip_upc (by omega), ip_upc (by omega)]
theorem m_stl {st : Int × Int} {w m : Int} : m_lk (m_st S st) w m = m_st S (t_lk st w m) := by
  have e1 : m_st S st 62 33 = st.1 := by unfold m_st; rw [ip_upk (by omega), ip_ups]
  have e2 : m_st S st 62 34 = st.2 := by unfold m_st; rw [ip_ups]
  unfold m_lk t_lk
  rw [e1, e2]
  split
  · funext b k
    unfold m_st ip_up
    dsimp only
    repeat' split
    all_goals first | rfl | omega
  · rfl
def t_sr (st : Int × Int) : Prop := (-1 ≤ st.1 ∧ st.1 ≤ 1000000) ∧ (0 ≤ st.2 ∧ st.2 ≤ 11880)
theorem p211s {st : Int × Int} {w m : Int} (h : t_sr st) (hw : 0 ≤ w ∧ w ≤ 1000000) (hm : 0 ≤ m ∧ m ≤ 11880) {Q} : ip_wc (d + 1) 211 [.ref 62, vi w, vi m] 79 (m_st S st) R L Q = Q none 79 (m_st S (t_lk st w m)) R L := by
  have e1 : m_st S st 62 33 = st.1 := by unfold m_st; rw [ip_upk (by omega), ip_ups]
  have e2 : m_st S st 62 34 = st.2 := by unfold m_st; rw [ip_ups]
  have h1 := h.1
  have h2 := h.2
  rw [p211 (by rw [e1]; exact ip_wid (by omega) (by omega)) (by rw [e2]; exact ip_wid (by omega) (by omega)) (ip_wid (by omega) (by omega)) (ip_wid (by omega) (by omega)), m_stl]
theorem t_srl {st : Int × Int} {w m : Int} (h : t_sr st) (hw : 0 ≤ w ∧ w ≤ 1000000) (hm : 0 ≤ m ∧ m ≤ 11880) : t_sr (t_lk st w m) := by
  unfold t_lk
  split
  · exact ⟨⟨by dsimp only; omega, hw.2⟩, hm⟩
  · exact h
end TGM
