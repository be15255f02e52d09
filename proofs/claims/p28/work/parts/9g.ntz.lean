/-! the lowest of the bits, as the platform counts it -/
def t_nv (l : Nat) : Int := ip_and (ip_xor l (-1)) ((l : Int) - 1)
theorem t_nvv : ∀ l : Nat, l < 64 → 0 < l → t_nv l = ((2 ^ t_lo l - 1 : Nat) : Int) ∧ (t_lo l = 0 ∨ t_lo l = 1 ∨ t_lo l = 2 ∨ t_lo l = 3 ∨ t_lo l = 4 ∨ t_lo l = 5) := by decide +kernel
section NTZ
variable {d : Nat} {S : ip_S} {R : ip_R} {L : ip_S}
theorem p92 {l : Nat} {n : Nat} (h6 : l < 64) (h0 : 0 < l) {Q} : ip_wc (d + 1) 92 [vi (l : Int)] n S R L Q = Q (some (vi ((t_lo l : Nat) : Int))) n S R L := by
  obtain ⟨h1, h2⟩ := t_nvv l h6 h0
  unfold t_nv at h1
  have a1 : ip_and 0 32 = 0 := by decide
  have a2 : ip_ush 1 1 = 0 := by decide
  have a3 : ip_ush 3 1 = 1 := by decide
  have a4 : ip_ush 7 2 = 1 := by decide
  have a5 : ip_ush 15 2 = 3 := by decide
  have a6 : ip_ush 31 4 = 1 := by decide
  rcases h2 with z | z | z | z | z | z
  all_goals rw [z] at h1 ⊢
  all_goals simp (disch := omega) only [Int.reducePow, Nat.reducePow, Nat.reduceSub, Int.cast_ofNat_Int] at h1
  all_goals simp (disch := omega) only [c92, s92_0, s92_1, s92_2, s92_3, s92_4, s92_5, s92_6, s92_7, s92_8, s92_9, s92_10, s92_11, s92_12, s92_13, s92_14, s92_15, s92_16, s92_17, s92_18, s92_19, s92_20, s92_21, s92_22, s92_23, s92_24, s92_25, s92_26, s92_27, s92_28, s92_29, s92_30, s92_31, s92_32, s92_33, s92_34, s92_35, s92_36, s92_37, s92_38, s92_39, s92_40, s92_41, s92_42, s92_43, s92_44, s92_45, s92_46, s92_47, s92_48, s92_49, s92_50, s92_51, s92_52, s92_53, ↓reduceIte, Bool.true_eq_false, Bool.false_eq_true, ip_rfS, true_or, or_true, true_and, and_true, Option.toList_some, Option.toList_none, List.cons_append, List.nil_append, ip_fxn, ip_fxi, ip_fxr, ip_fxl, ip_wid, ip_n998, ip_lt900, h1, a1, a2, a3, a4, a5, a6, Int.reduceLT, Int.reduceLE, Int.reduceAdd, Int.cast_ofNat_Int]
  all_goals try rfl
end NTZ
