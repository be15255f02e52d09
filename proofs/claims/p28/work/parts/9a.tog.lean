/-! together: the least of all ways to make twos, as numbers -/
def t_bit (l i : Nat) : Bool := l / 2 ^ i % 2 == 1
def t_rm (l i : Nat) : Nat := if t_bit l i then l - 2 ^ i else l
def t_lo (l : Nat) : Nat := if t_bit l 0 then 0 else if t_bit l 1 then 1 else if t_bit l 2 then 2 else if t_bit l 3 then 3 else if t_bit l 4 then 4 else 5
def t_pc (l : Nat) : Nat := l % 2 + l / 2 % 2 + l / 4 % 2 + l / 8 % 2 + l / 16 % 2 + l / 32 % 2
def t_kp (c : Int × Int) (m w : Int) : Int × Int := if ¬ c.1 = -1 ∧ c.1 ≤ m then c else (m, w)
def t_dg (one o : Nat) : Int := ((one : Int) + 1) * 10 + (o : Int) + 1
def t_s (V : Nat → Nat → Int) (F : Nat → Int × Int) (one others : Nat) : Nat → Nat → Int × Int → Int × Int
  | 0, _, c => c
  | k + 1, o, c => t_s V F one others k (o + 1) (if t_bit others o = true then t_kp c (V one o + (F (t_rm others o)).1) (t_dg one o * 100 ^ (t_pc (t_rm others o) / 2) + (F (t_rm others o)).2) else c)
def t_st (V : Nat → Nat → Int) (F : Nat → Int × Int) (l : Nat) : Int × Int :=
  if t_pc l % 2 = 1 then t_kp (t_s V F (t_lo l) (t_rm l (t_lo l)) (5 - t_lo l) (t_lo l + 1) (-1, 0)) (F (t_rm l (t_lo l))).1 (F (t_rm l (t_lo l))).2
  else t_s V F (t_lo l) (t_rm l (t_lo l)) (5 - t_lo l) (t_lo l + 1) (-1, 0)
def t_f (V : Nat → Nat → Int) : Nat → Nat → Int × Int
  | 0, _ => (0, 0)
  | n + 1, l => if l = 0 then (0, 0) else t_st V (t_f V n) l
def t_al (V : Nat → Nat → Int) (l : Nat) : Int × Int := t_f V 64 l
theorem t_bl {l i : Nat} (h : t_bit l i = true) : t_rm l i < l := by
  unfold t_rm
  rw [if_pos h]
  have h0 : 0 < 2 ^ i := Nat.pow_pos (by omega)
  by_cases e : l = 0
  · subst e
    simp [t_bit] at h
  · omega
theorem t_sc {V : Nat → Nat → Int} {F F' : Nat → Int × Int} {one others : Nat} (h : ∀ r, r < others → F r = F' r) : ∀ (k o : Nat) (c : Int × Int), t_s V F one others k o c = t_s V F' one others k o c
  | 0, _, _ => rfl
  | k + 1, o, c => by
    unfold t_s
    by_cases b : t_bit others o = true
    · rw [if_pos b, if_pos b, h _ (t_bl b), t_sc h k]
    · rw [if_neg b, if_neg b, t_sc h k]
theorem t_lob : ∀ l : Nat, l < 64 → 0 < l → t_bit l (t_lo l) = true ∧ t_lo l < 6 := by decide +kernel
theorem t_stc {V : Nat → Nat → Int} {F F' : Nat → Int × Int} {l : Nat} (hl : 0 < l) (h6 : l < 64) (h : ∀ r, r < l → F r = F' r) : t_st V F l = t_st V F' l := by
  have b := t_bl (t_lob l h6 hl).1
  unfold t_st
  rw [t_sc (F := F) (F' := F') (fun r hr => h r (by omega)), h _ b]
theorem t_fc {V : Nat → Nat → Int} : ∀ (n n' l : Nat), l ≤ n → l ≤ n' → l < 64 → t_f V n l = t_f V n' l
  | 0, 0, _, _, _, _ => rfl
  | 0, n' + 1, l, h, _, _ => by
    have : l = 0 := by omega
    subst this
    simp [t_f]
  | n + 1, 0, l, _, h, _ => by
    have : l = 0 := by omega
    subst this
    simp [t_f]
  | n + 1, n' + 1, l, h, h', h6 => by
    unfold t_f
    by_cases e : l = 0
    · rw [if_pos e, if_pos e]
    · rw [if_neg e, if_neg e]
      exact t_stc (by omega) h6 (fun r hr => t_fc n n' r (by omega) (by omega) (by omega))
theorem t_al0 {V : Nat → Nat → Int} : t_al V 0 = (0, 0) := by simp [t_al, t_f]
theorem t_als {V : Nat → Nat → Int} {l : Nat} (h0 : 0 < l) (h6 : l < 64) : t_al V l = t_st V (t_al V) l := by
  have e : t_al V l = t_st V (t_f V 63) l := by
    show t_f V (63 + 1) l = _
    rw [t_f, if_neg (by omega)]
  rw [e]
  exact t_stc h0 h6 (fun r hr => t_fc 63 64 r (by omega) (by omega) (by omega))
theorem t_pcb : ∀ l : Nat, l < 64 → ∀ i : Nat, i < 6 → t_bit l i = true → t_pc (t_rm l i) + 1 = t_pc l := by decide +kernel
theorem t_pc6 : ∀ l : Nat, l < 64 → t_pc l ≤ 6 := by decide +kernel
theorem t_ev : ∀ l : Nat, l < 64 → 0 < l → t_pc l % 2 = 0 → ∃ o, o < 6 ∧ t_lo l < o ∧ t_bit (t_rm l (t_lo l)) o = true := by decide +kernel
theorem t_pw : ∀ k : Nat, k ≤ 3 → (0 : Int) < 100 ^ k ∧ (100 : Int) ^ k ≤ 1000000 := by decide
/-- bounds of one candidate -/
def t_bd (B : Int) (P : Nat) (c : Int × Int) : Prop := (0 ≤ c.1 ∧ c.1 ≤ B) ∧ (0 ≤ c.2 ∧ c.2 < 100 ^ P)
theorem t_kpb {B : Int} {P : Nat} {c : Int × Int} {m w : Int} (h : c = (-1, 0) ∨ t_bd B P c) (h2 : t_bd B P (m, w)) : t_bd B P (t_kp c m w) := by
  unfold t_kp
  split
  · rename_i z
    rcases h with h | h
    · subst h
      exact absurd rfl z.1
    · exact h
  · exact h2
theorem t_sb {V : Nat → Nat → Int} {F : Nat → Int × Int} {one others : Nat} {B : Int} {P : Nat} (h : ∀ o, o < 6 → t_bit others o = true → t_bd B P (V one o + (F (t_rm others o)).1, t_dg one o * 100 ^ (t_pc (t_rm others o) / 2) + (F (t_rm others o)).2)) : ∀ (k o : Nat) (c : Int × Int), o + k ≤ 6 → (c = (-1, 0) ∨ t_bd B P c) →
    (t_s V F one others k o c = (-1, 0) ∧ c = (-1, 0) ∧ ∀ q, o ≤ q → q < o + k → ¬ t_bit others q = true) ∨ t_bd B P (t_s V F one others k o c)
  | 0, o, c, ho, hc => by
    rcases hc with hc | hc
    · exact Or.inl ⟨hc, hc, fun q h1 h2 => absurd h2 (by omega)⟩
    · exact Or.inr hc
  | k + 1, o, c, ho, hc => by
    unfold t_s
    by_cases b : t_bit others o = true
    · rw [if_pos b]
      have hb := t_kpb hc (h o (by omega) b)
      rcases t_sb h k (o + 1) _ (by omega) (Or.inr hb) with z | z
      · exact Or.inr (by rw [z.1, ← z.2.1]; exact hb)
      · exact Or.inr z
    · rw [if_neg b]
      rcases t_sb h k (o + 1) c (by omega) hc with z | z
      · exact Or.inl ⟨z.1, z.2.1, fun q h1 h2 => by
          by_cases e : q = o
          · rw [e]; exact b
          · exact z.2.2 q (by omega) (by omega)⟩
      · exact Or.inr z
theorem t_alb {V : Nat → Nat → Int} (hV : ∀ i j, 0 ≤ V i j ∧ V i j ≤ 3960) (n : Nat) : ∀ l : Nat, l < n → l < 64 → t_bd (3960 * ((t_pc l / 2 : Nat) : Int)) (t_pc l / 2) (t_al V l) := by
  induction n with
  | zero => intro l h; omega
  | succ n ih =>
    intro l hl h6
    by_cases e : l = 0
    · subst e
      rw [t_al0]
      unfold t_bd
      decide
    · obtain ⟨hb, hlo⟩ := t_lob l h6 (by omega)
      have hr := t_bl hb
      have hp := t_pcb l h6 (t_lo l) hlo hb
      have hp6 := t_pc6 l h6
      have key : ∀ o, o < 6 → t_bit (t_rm l (t_lo l)) o = true → t_bd (3960 * ((t_pc l / 2 : Nat) : Int)) (t_pc l / 2) (V (t_lo l) o + (t_al V (t_rm (t_rm l (t_lo l)) o)).1, t_dg (t_lo l) o * 100 ^ (t_pc (t_rm (t_rm l (t_lo l)) o) / 2) + (t_al V (t_rm (t_rm l (t_lo l)) o)).2) := by
        intro o ho b
        have hr2 := t_bl b
        have hp2 := t_pcb _ (by omega) o ho b
        have i2 := ih (t_rm (t_rm l (t_lo l)) o) (by omega) (by omega)
        have v := hV (t_lo l) o
        have pw := t_pw (t_pc (t_rm (t_rm l (t_lo l)) o) / 2) (by omega)
        have ep : t_pc l / 2 = t_pc (t_rm (t_rm l (t_lo l)) o) / 2 + 1 := by omega
        have dg : 0 ≤ t_dg (t_lo l) o ∧ t_dg (t_lo l) o ≤ 66 := by unfold t_dg; omega
        unfold t_bd
        rw [ep, show (100 : Int) ^ (t_pc (t_rm (t_rm l (t_lo l)) o) / 2 + 1) = 100 ^ (t_pc (t_rm (t_rm l (t_lo l)) o) / 2) * 100 from Int.pow_succ 100 _] 
        obtain ⟨⟨i3, i4⟩, i5, i6⟩ := i2
        generalize (100 : Int) ^ (t_pc (t_rm (t_rm l (t_lo l)) o) / 2) = pp at *
        have m1 : 0 ≤ t_dg (t_lo l) o * pp := Int.mul_nonneg dg.1 (by omega)
        have m2 : t_dg (t_lo l) o * pp ≤ 66 * pp := Int.mul_le_mul_of_nonneg_right dg.2 (by omega)
        exact ⟨⟨by dsimp only; omega, by dsimp only; omega⟩, by dsimp only; omega, by dsimp only; omega⟩
      rw [t_als (by omega) h6]
      have sb := t_sb (V := V) (F := t_al V) (one := t_lo l) (others := t_rm l (t_lo l)) key (5 - t_lo l) (t_lo l + 1) (-1, 0) (by omega) (Or.inl rfl)
      have io := ih (t_rm l (t_lo l)) (by omega) (by omega)
      unfold t_st
      by_cases c : t_pc l % 2 = 1
      · rw [if_pos c]
        have ep : t_pc (t_rm l (t_lo l)) / 2 = t_pc l / 2 := by omega
        rw [ep] at io
        exact t_kpb (by rcases sb with z | z; exact Or.inl z.1; exact Or.inr z) io
      · rw [if_neg c]
        rcases sb with z | z
        · obtain ⟨o, o1, o2, o3⟩ := t_ev l h6 (by omega) (by omega)
          exact absurd o3 (z.2.2 o (by omega) (by omega))
        · exact z
def t_lk (st : Int × Int) (w m : Int) : Int × Int := if st.1 = -1 ∨ m < st.2 then (w, m) else st
def t_ap (st : Int × Int) (P : Nat) (way miles : Int) (c : Int × Int) : Int × Int := if c.1 = -1 then st else t_lk st (way * 100 ^ P + c.2) (miles + c.1)
theorem t_apk {st : Int × Int} {P : Nat} {way miles : Int} {c : Int × Int} {m w : Int} (hw : 0 ≤ way) (hc : c = (-1, 0) ∨ 0 ≤ c.1 ∧ 0 ≤ c.2) (hm : 0 ≤ m) : t_ap st P way miles (t_kp c m w) = t_lk (t_ap st P way miles c) (way * 100 ^ P + w) (miles + m) := by
  have hp : (0 : Int) ≤ way * 100 ^ P := Int.mul_nonneg hw (Int.pow_nonneg (by omega))
  obtain ⟨a, b⟩ := c
  obtain ⟨s1, s2⟩ := st
  unfold t_ap
  generalize way * 100 ^ P = u at *
  rcases hc with hc | hc
  · obtain ⟨rfl, rfl⟩ : a = -1 ∧ b = 0 := by simpa using hc
    simp [t_kp, show ¬ m = -1 by omega]
  · dsimp only at hc
    by_cases h1 : a ≤ m
    · have hk : t_kp (a, b) m w = (a, b) := if_pos ⟨by dsimp only; omega, h1⟩
      rw [hk]
      dsimp only
      rw [if_neg (by omega)]
      unfold t_lk
      dsimp only
      by_cases h2 : s1 = -1 ∨ miles + a < s2
      · rw [if_pos h2]
        dsimp only
        rw [if_neg (by omega)]
      · rw [if_neg h2]
        dsimp only
        rw [if_neg (by omega)]
    · have hk : t_kp (a, b) m w = (m, w) := if_neg (by dsimp only; omega)
      rw [hk]
      dsimp only
      rw [if_neg (by omega), if_neg (by omega)]
      unfold t_lk
      dsimp only
      by_cases h2 : s1 = -1 ∨ miles + a < s2
      · rw [if_pos h2]
        dsimp only
        rw [if_pos (by omega), if_pos (by omega)]
      · rw [if_neg h2]
