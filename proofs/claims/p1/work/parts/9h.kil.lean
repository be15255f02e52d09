/-! together in the class: one way kept if it is less -/
def x_lw (S : ip_S) (l : Nat) (c : Int × Int) : ip_S := ip_up (ip_up S 52 l c.1) 53 l c.2
theorem x_lwu {S : ip_S} {l : Nat} {c : Int × Int} {m w : Int} : ip_up (ip_up (x_lw S l c) 52 l m) 53 l w = x_lw S l (m, w) := by
  funext b k
  unfold x_lw ip_up
  dsimp only
  repeat' split
  all_goals first | rfl | omega
theorem x_lw52 {S : ip_S} {l : Nat} {c : Int × Int} : x_lw S l c 52 l = c.1 := by unfold x_lw; rw [ip_upc (by omega), ip_ups]
theorem x_lw53 {S : ip_S} {l : Nat} {c : Int × Int} : x_lw S l c 53 l = c.2 := by unfold x_lw; rw [ip_ups]
theorem x_lw52n {S : ip_S} {l r : Nat} {c : Int × Int} (h : ¬ r = l) : x_lw S l c 52 r = S 52 r := by unfold x_lw; rw [ip_upc (by omega), ip_upk (by omega)]
theorem x_lw53n {S : ip_S} {l r : Nat} {c : Int × Int} (h : ¬ r = l) : x_lw S l c 53 r = S 53 r := by unfold x_lw; rw [ip_upk (by omega), ip_upc (by omega)]
section KIL
variable {d : Nat} {S : ip_S} {R : ip_R} {L : ip_S}
theorem p93l {l r : Nat} {dg mi al : Int} {Q} : ∀ (k : Nat) (z : Int), k ≤ 3 → 0 ≤ z → ip_wp d 93 27 [some (.ref 0), some (vi (l : Int)), some (vi (r : Int)), some (vi dg), some (vi mi), some (vi al), some (vi z), some (vi (k : Int))] [] 79 S R L Q = ip_wp d 93 35 [some (.ref 0), some (vi (l : Int)), some (vi (r : Int)), some (vi dg), some (vi mi), some (vi al), some (vi (z * 100 ^ k)), some (vi 0)] [] 79 S R L Q
  | 0, z, hk, hz => by
    rw [s93_27, Int.pow_zero, Int.mul_one]
    simp (disch := omega) only [s93_28, ↓reduceIte, Bool.true_eq_false, Bool.false_eq_true, ip_rfS, true_or, or_true, true_and, and_true, Option.toList_some, Option.toList_none, List.cons_append, List.nil_append, ip_fxn, ip_fxi, ip_fxr, ip_fxl, ip_wid, ip_n998, ip_lt900, Int.cast_ofNat_Int, Int.lt_irrefl, if_false]
  | k + 1, z, hk, hz => by
    have ih := p93l (l := l) (r := r) (dg := dg) (mi := mi) (al := al) (Q := Q) k (z * 100) (by omega) (by omega)
    rw [s93_27, Int.pow_succ, Int.mul_comm (100 ^ k) 100, ← Int.mul_assoc, ← ih]
    simp (disch := omega) only [s93_28, s93_29, s93_30, s93_31, s93_32, s93_33, s93_34, ↓reduceIte, Bool.true_eq_false, Bool.false_eq_true, ip_rfS, true_or, or_true, true_and, and_true, Option.toList_some, Option.toList_none, List.cons_append, List.nil_append, ip_fxn, ip_fxi, ip_fxr, ip_fxl, ip_wid, ip_n998, ip_lt900, show 0 < ((k + 1 : Nat) : Int) by omega, if_true, show ((k + 1 : Nat) : Int) + -1 = (k : Int) by omega]
end KIL
