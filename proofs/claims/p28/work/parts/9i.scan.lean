/-! together in the class: the scan begins anywhere -/
theorem t_su {V : Nat → Nat → Int} {F : Nat → Int × Int} {one others : Nat} {u : Int} : ∀ (k o : Nat), (t_s V F one others k o (-1, u) = (-1, u) ∧ t_s V F one others k o (-1, 0) = (-1, 0)) ∨ t_s V F one others k o (-1, u) = t_s V F one others k o (-1, 0)
  | 0, o => Or.inl ⟨rfl, rfl⟩
  | k + 1, o => by
    unfold t_s
    by_cases b : t_bit others o = true
    · rw [if_pos b, if_pos b]
      have e : ∀ v m w, t_kp (-1, v) m w = (m, w) := fun v m w => if_neg (fun z => z.1 rfl)
      rw [e, e]
      exact Or.inr rfl
    · rw [if_neg b, if_neg b]
      exact t_su k (o + 1)
/-- beyond the people there is nothing to scan -/
theorem t_sn {V : Nat → Nat → Int} {F : Nat → Int × Int} {one others p : Nat} (hp : p < 7) (h6 : others < 64) (h : others < 2 ^ p) : ∀ (k o : Nat) (c : Int × Int), o + k ≤ 6 → p ≤ o → t_s V F one others k o c = c
  | 0, _, _, _, _ => rfl
  | k + 1, o, c, h1, h2 => by
    have b : ¬ t_bit others o = true := fun z => by
      have := t_bp p hp others h6 h o (by omega) z
      omega
    rw [t_s, if_neg b]
    exact t_sn hp h6 h k (o + 1) c (by omega) (by omega)
