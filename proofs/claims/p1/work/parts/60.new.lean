/-! a new object: what it answers first -/
def m_Z : Int → Int := fun _ => 0
def m_D0 : Int → Int := m_fw m_Z m_Z
def m_frX (S : ip_S) (R : ip_R) : Prop := x_RX R ∧ S 1 7 = 0 ∧ S 9 7 = 0 ∧ S 0 2 = 0 ∧ S 8 0 = 9 ∧ S 8 1 = 0 ∧ S 2 = m_Z ∧ S 3 = m_D0 ∧ S 17 4 = 1 ∧ S 19 4 = 0 ∧ S 20 = m_b0 ∧ x_W (S 21) ∧ x_W (S 23) ∧ (∀ q : Nat, q < 4 → S (54 + 2 * q) 1 = -1 ∧ S (54 + 2 * q) 2 = 0)
def m_frM (S : ip_S) (R : ip_R) : Prop := x_RM R ∧ S 62 7 = 9 ∧ S 62 38 = -1 ∧ S 62 3 = 1 ∧ S 62 4 = 0 ∧ S 62 6 = 0 ∧ S 62 11 = 0 ∧ S 66 = m_Z ∧ S 69 = m_D0 ∧ S 68 = m_Z ∧ S 75 = m_Z ∧ S 76 = m_Z ∧ S 77 = m_Z
def x_ok1 (S : ip_S) (R : ip_R) (L : ip_S) (k : Nat) (as : List Value) (v : Value) : Prop := ∃ S1 R1, (∀ b : Nat, 62 ≤ b → S1 b = S b) ∧ x_RM R1 ∧ ∀ Q, ip_wc 100 k (.ref 0 :: as) 79 S R L Q = Q (some v) 79 S1 R1 L
def m_ok1 (S : ip_S) (R : ip_R) (L : ip_S) (k : Nat) (as : List Value) (v : Value) : Prop := ∃ S2, S2 900 = S 900 ∧ ∀ Q, ip_wc 100 k (.ref 62 :: as) 79 S R L Q = Q (some v) 79 S2 R L
theorem m_frMof {S S1 : ip_S} {R R1 : ip_R} (F : m_frM S R) (h : ∀ b : Nat, 62 ≤ b → S1 b = S b) (hR : x_RM R1) : m_frM S1 R1 := by
  obtain ⟨-, f1, f2, f3, f4, f5, f6, f7, f8, f9, f10, f11, f12⟩ := F
  refine ⟨hR, ?_, ?_, ?_, ?_, ?_, ?_, ?_, ?_, ?_, ?_, ?_, ?_⟩
  all_goals (rw [h _ (by omega)]; assumption)
def m_pair (S : ip_S) (R : ip_R) (L : ip_S) (kX kM : Nat) (as : List Value) : Prop := ∃ v S1 R1 S2, (∀ Q, ip_wc 100 kX (.ref 0 :: as) 79 S R L Q = Q (some v) 79 S1 R1 L) ∧ S1 900 = S 900 ∧ (∀ Q, ip_wc 100 kM (.ref 62 :: as) 79 S1 R1 L Q = Q (some v) 79 S2 R1 L) ∧ S2 900 = S 900
theorem m_mk {S : ip_S} {R : ip_R} {L : ip_S} {kX kM : Nat} {as : List Value} {v : Value} (hx : x_ok1 S R L kX as v) (F : m_frM S R) (hm : ∀ S' R', m_frM S' R' → m_ok1 S' R' L kM as v) : ∃ S1 R1 S2, (∀ Q, ip_wc 100 kX (.ref 0 :: as) 79 S R L Q = Q (some v) 79 S1 R1 L) ∧ S1 900 = S 900 ∧ (∀ Q, ip_wc 100 kM (.ref 62 :: as) 79 S1 R1 L Q = Q (some v) 79 S2 R1 L) ∧ S2 900 = S 900 := by
  obtain ⟨S1, R1, a, b, c⟩ := hx
  obtain ⟨S2, e, f⟩ := hm S1 R1 (m_frMof F a b)
  exact ⟨S1, R1, S2, c, a 900 (by omega), f, e.trans (a 900 (by omega))⟩
theorem m_upf {S : ip_S} {c : Nat} {i v : Int} (hc : c < 62) : ∀ b : Nat, 62 ≤ b → ip_up S c i v b = S b := fun b hb => by funext k; exact if_neg (by omega)
theorem m_arf {S : ip_S} {c : Nat} {f : Int → Int} (hc : c < 62) : ∀ b : Nat, 62 ≤ b → ip_ar S c f b = S b := fun b hb => by funext k; exact if_neg (by omega)
section NEW
variable {S : ip_S} {R : ip_R} {L : ip_S}
theorem qx44 {w o v : Int} (hw : -2147483648 ≤ w ∧ w < 2147483648) (ho : -2147483648 ≤ o ∧ o < 2147483648) (hv : -2147483648 ≤ v ∧ v < 2147483648) (F : m_frX S R) (hM : x_RM R) : x_ok1 S R L 44 [vi w, vi o, vi v] (vi (if w = 0 ∧ 0 ≤ v ∧ v < 24 then 9 else -2)) := by
  obtain ⟨hX, f17, f97, f02, f80, f81, f2, f3, f174, f194, f20, f21, f23, fs⟩ := F
  by_cases c : w = 0 ∧ 0 ≤ v ∧ v < 24
  · rw [if_pos c]
    refine ⟨ip_up S 8 0 v, R, m_upf (by omega), hM, fun Q => ?_⟩
    have h := p44 (d := 97) (Q := Q) (L := L) hX f17 (by omega) (by omega) hw ho hv
    rw [if_pos c.1, if_pos c.2, f80] at h
    exact h
  · rw [if_neg c]
    refine ⟨S, R, fun _ _ => rfl, hM, fun Q => ?_⟩
    have h := p44 (d := 97) (Q := Q) (L := L) hX f17 (by omega) (by omega) hw ho hv
    by_cases c1 : w = 0
    · rw [if_pos c1, if_neg (by omega)] at h
      exact h
    · rw [if_neg c1, if_neg (by omega), if_neg (by omega)] at h
      exact h
theorem qm127 {w o v : Int} (hw : -2147483648 ≤ w ∧ w < 2147483648) (ho : -2147483648 ≤ o ∧ o < 2147483648) (hv : -2147483648 ≤ v ∧ v < 2147483648) (F : m_frM S R) : m_ok1 S R L 127 [vi w, vi o, vi v] (vi (if w = 0 ∧ 0 ≤ v ∧ v < 24 then 9 else -2)) := by
  obtain ⟨hM, g7, g38, g3, g4, g6, g11, g66, g69, g68, g75, g76, g77⟩ := F
  by_cases c : w = 0 ∧ 0 ≤ v ∧ v < 24
  · rw [if_pos c]
    refine ⟨ip_up S 62 7 v, by funext k; exact if_neg (by omega), fun Q => ?_⟩
    have h := p127 (d := 96) (Q := Q) (L := L) hM g11 (by omega) (by omega) hw ho hv
    rw [if_pos c.1, if_pos c.2, g7] at h
    exact h
  · rw [if_neg c]
    refine ⟨S, rfl, fun Q => ?_⟩
    have h := p127 (d := 96) (Q := Q) (L := L) hM g11 (by omega) (by omega) hw ho hv
    by_cases c1 : w = 0
    · rw [if_pos c1, if_neg (by omega)] at h
      exact h
    · rw [if_neg c1, if_neg (by omega), if_neg (by omega)] at h
      exact h
theorem qx48 {x y v : Int} (hx : -2147483648 ≤ x ∧ x < 2147483648) (hy : -2147483648 ≤ y ∧ y < 2147483648) (hv : -2147483648 ≤ v ∧ v < 2147483648) (F : m_frX S R) (hM : x_RM R) : x_ok1 S R L 48 [vi x, vi y, vi v] (vi (if (0 ≤ x ∧ x < 8) ∧ (0 ≤ y ∧ y < 8) ∧ ¬ x = y ∧ (0 ≤ v ∧ v < 100) then 0 else -2)) := by
  obtain ⟨hX, f17, f97, f02, f80, f81, f2, f3, f174, f194, f20, f21, f23, fs⟩ := F
  by_cases c : (0 ≤ x ∧ x < 8) ∧ (0 ≤ y ∧ y < 8) ∧ ¬ x = y ∧ (0 ≤ v ∧ v < 100)
  · rw [if_pos c]
    refine ⟨m_lay S x y v, R, fun b hb => by unfold m_lay; rw [m_arf (by omega) b hb, m_upf (by omega) b hb, m_upf (by omega) b hb], hM, fun Q => ?_⟩
    have h := p48 (d := 95) (Q := Q) (S := S) (L := L) hx hy hv hX
    rw [if_pos c] at h
    rw [f2] at h
    exact h
  · rw [if_neg c]
    refine ⟨S, R, fun _ _ => rfl, hM, fun Q => ?_⟩
    have h := p48 (d := 95) (Q := Q) (S := S) (L := L) hx hy hv hX
    rw [if_neg c] at h
    exact h
theorem qm186 {x y v : Int} (hx : -2147483648 ≤ x ∧ x < 2147483648) (hy : -2147483648 ≤ y ∧ y < 2147483648) (hv : -2147483648 ≤ v ∧ v < 2147483648) (F : m_frM S R) : m_ok1 S R L 186 [vi x, vi y, vi v] (vi (if (0 ≤ x ∧ x < 8) ∧ (0 ≤ y ∧ y < 8) ∧ ¬ x = y ∧ (0 ≤ v ∧ v < 100) then 0 else -2)) := by
  obtain ⟨hM, g7, g38, g3, g4, g6, g11, g66, g69, g68, g75, g76, g77⟩ := F
  by_cases c : (0 ≤ x ∧ x < 8) ∧ (0 ≤ y ∧ y < 8) ∧ ¬ x = y ∧ (0 ≤ v ∧ v < 100)
  · rw [if_pos c]
    refine ⟨m_lay2 S x y v, by funext k; simp [m_lay2, ip_ar, ip_up], fun Q => ?_⟩
    have h := p186 (d := 96) (Q := Q) (S := S) (L := L) hx hy hv hM
    rw [if_pos c] at h
    rw [g66] at h
    exact h
  · rw [if_neg c]
    refine ⟨S, rfl, fun Q => ?_⟩
    have h := p186 (d := 96) (Q := Q) (S := S) (L := L) hx hy hv hM
    rw [if_neg c] at h
    exact h
theorem qx51 {k u g : Int} (hk : -2147483648 ≤ k ∧ k < 2147483648) (hu : -2147483648 ≤ u ∧ u < 2147483648) (hg : -2147483648 ≤ g ∧ g < 2147483648) (F : m_frX S R) (hM : x_RM R) : x_ok1 S R L 51 [vi k, vi u, vi g] (vi (if (0 ≤ k ∧ k < 6) ∧ (0 ≤ u ∧ u < 10) ∧ (0 ≤ g ∧ g < 8) then 0 else -2)) := by
  obtain ⟨hX, f17, f97, f02, f80, f81, f2, f3, f174, f194, f20, f21, f23, fs⟩ := F
  by_cases c : (0 ≤ k ∧ k < 6) ∧ (0 ≤ u ∧ u < 10) ∧ (0 ≤ g ∧ g < 8)
  · rw [if_pos c]
    refine ⟨m_wel S 0 k u g, R, fun b hb => by unfold m_wel; rw [m_upf (by omega) b hb, m_upf (by omega) b hb, m_upf (by omega) b hb, m_upf (by omega) b hb, m_upf (by omega) b hb], hM, fun Q => ?_⟩
    have h := p51 (d := 98) (Q := Q) (S := S) (L := L) hk hu hg hX f17 (by omega) (by omega)
    rw [if_pos c] at h
    rw [if_pos (by omega)] at h
    exact h
  · rw [if_neg c]
    refine ⟨S, R, fun _ _ => rfl, hM, fun Q => ?_⟩
    have h := p51 (d := 98) (Q := Q) (S := S) (L := L) hk hu hg hX f17 (by omega) (by omega)
    rw [if_neg c] at h
    exact h
theorem qm189 {k u g : Int} (hk : -2147483648 ≤ k ∧ k < 2147483648) (hu : -2147483648 ≤ u ∧ u < 2147483648) (hg : -2147483648 ≤ g ∧ g < 2147483648) (F : m_frM S R) : m_ok1 S R L 189 [vi k, vi u, vi g] (vi (if (0 ≤ k ∧ k < 6) ∧ (0 ≤ u ∧ u < 10) ∧ (0 ≤ g ∧ g < 8) then 0 else -2)) := by
  obtain ⟨hM, g7, g38, g3, g4, g6, g11, g66, g69, g68, g75, g76, g77⟩ := F
  by_cases c : (0 ≤ k ∧ k < 6) ∧ (0 ≤ u ∧ u < 10) ∧ (0 ≤ g ∧ g < 8)
  · rw [if_pos c]
    refine ⟨m_wel2 S 0 k u g, by funext q; simp [m_wel2, ip_up], fun Q => ?_⟩
    have h := p189 (d := 97) (Q := Q) (S := S) (L := L) hk hu hg hM g11 (by omega) (by omega)
    rw [if_pos c] at h
    rw [if_pos (by omega)] at h
    exact h
  · rw [if_neg c]
    refine ⟨S, rfl, fun Q => ?_⟩
    have h := p189 (d := 97) (Q := Q) (S := S) (L := L) hk hu hg hM g11 (by omega) (by omega)
    rw [if_neg c] at h
    exact h
theorem qx53 {o w : Int} (ho : -2147483648 ≤ o ∧ o < 2147483648) (hw : -2147483648 ≤ w ∧ w < 2147483648) (F : m_frX S R) (hM : x_RM R) : x_ok1 S R L 53 [vi o, vi w] (vi (if w = 0 then 9 else -2)) := by
  obtain ⟨hX, f17, f97, f02, f80, f81, f2, f3, f174, f194, f20, f21, f23, fs⟩ := F
  refine ⟨S, R, fun _ _ => rfl, hM, fun Q => ?_⟩
  by_cases c : w = 0
  · rw [if_pos c]
    subst c
    have h := p53a (d := 97) (o := o) (S := S) (Q := Q) (L := L) hX
    rw [f80] at h
    exact h
  · rw [if_neg c]
    exact p53b (d := 97) hX f17 (by omega) (by omega) ho hw c (by omega)
theorem qm131 {o w : Int} (ho : -2147483648 ≤ o ∧ o < 2147483648) (hw : -2147483648 ≤ w ∧ w < 2147483648) (F : m_frM S R) : m_ok1 S R L 131 [vi o, vi w] (vi (if w = 0 then 9 else -2)) := by
  obtain ⟨hM, g7, g38, g3, g4, g6, g11, g66, g69, g68, g75, g76, g77⟩ := F
  refine ⟨S, rfl, fun Q => ?_⟩
  by_cases c : w = 0
  · rw [if_pos c]
    subst c
    have h := p131a (d := 97) (o := o) (S := S) (Q := Q) (L := L) hM
    rw [g7] at h
    exact h
  · rw [if_neg c]
    exact p131n (d := 97) hM g11 (by omega) (by omega) ho hw c (Or.inl (by omega))
theorem qx67 {f b a s w : Int} (hf : -2147483648 ≤ f ∧ f < 2147483648) (hb : -2147483648 ≤ b ∧ b < 2147483648) (ha : -2147483648 ≤ a ∧ a < 2147483648) (hs : -2147483648 ≤ s ∧ s < 2147483648) (hw : -2147483648 ≤ w ∧ w < 2147483648) (F : m_frX S R) (hM : x_RM R) : x_ok1 S R L 67 [vi f, vi b, vi a, vi s, vi w] (vi (-2)) := by
  obtain ⟨hX, f17, f97, f02, f80, f81, f2, f3, f174, f194, f20, f21, f23, fs⟩ := F
  exact ⟨S, R, fun _ _ => rfl, hM, fun Q => (p67 (d := 96) hf hb ha hs hw hX f17 (by omega) (by omega)).trans (if_neg (by omega))⟩
theorem qm193 {f b a s w : Int} (hf : -2147483648 ≤ f ∧ f < 2147483648) (hb : -2147483648 ≤ b ∧ b < 2147483648) (ha : -2147483648 ≤ a ∧ a < 2147483648) (hs : -2147483648 ≤ s ∧ s < 2147483648) (hw : -2147483648 ≤ w ∧ w < 2147483648) (F : m_frM S R) : m_ok1 S R L 193 [vi f, vi b, vi a, vi s, vi w] (vi (-2)) := by
  obtain ⟨hM, g7, g38, g3, g4, g6, g11, g66, g69, g68, g75, g76, g77⟩ := F
  exact ⟨S, rfl, fun Q => (p193 (d := 96) hf hb ha hs hw hM g11 (by omega) (by omega)).trans (if_neg (by omega))⟩
theorem qx71 {v : Int} (hv : -2147483648 ≤ v ∧ v < 2147483648) (F : m_frX S R) (hM : x_RM R) : x_ok1 S R L 71 [vi v] (vi (if 0 ≤ v ∧ v < 256 then 1 else -2)) := by
  obtain ⟨hX, f17, f97, f02, f80, f81, f2, f3, f174, f194, f20, f21, f23, fs⟩ := F
  by_cases c : 0 ≤ v ∧ v < 256
  · rw [if_pos c]
    refine ⟨ip_up (ip_up S 20 0 v) 19 4 1, R, fun b hb => by rw [m_upf (by omega) b hb, m_upf (by omega) b hb], hM, fun Q => ?_⟩
    have h := p71 (d := 98) (Q := Q) (S := S) (L := L) hv hX f194 (by omega) (by omega)
    rw [if_pos c] at h
    rw [if_pos (by omega)] at h
    exact h
  · rw [if_neg c]
    refine ⟨S, R, fun _ _ => rfl, hM, fun Q => ?_⟩
    have h := p71 (d := 98) (Q := Q) (S := S) (L := L) hv hX f194 (by omega) (by omega)
    rw [if_neg c] at h
    exact h
theorem qm190 {v : Int} (hv : -2147483648 ≤ v ∧ v < 2147483648) (F : m_frM S R) : m_ok1 S R L 190 [vi v] (vi (if 0 ≤ v ∧ v < 256 then 1 else -2)) := by
  obtain ⟨hM, g7, g38, g3, g4, g6, g11, g66, g69, g68, g75, g76, g77⟩ := F
  by_cases c : 0 ≤ v ∧ v < 256
  · rw [if_pos c]
    refine ⟨ip_up (ip_up S 65 0 v) 62 6 1, by funext k; simp [ip_up], fun Q => ?_⟩
    have h := p190 (d := 98) (Q := Q) (S := S) (L := L) hv hM g6 (by omega) (by omega)
    rw [if_pos c] at h
    rw [if_pos (by omega)] at h
    exact h
  · rw [if_neg c]
    refine ⟨S, rfl, fun Q => ?_⟩
    have h := p190 (d := 98) (Q := Q) (S := S) (L := L) hv hM g6 (by omega) (by omega)
    rw [if_neg c] at h
    exact h
theorem x_fl0 {t : Nat} : x_fl S 0 t = 0 := by
  have e : x_spt S 0 = (0, ip_u (S 21) 0 (-1), ip_u (S 22) 0 0, S 23) := rfl
  have e1 : x_got S 0 t = (false, 0, x_sz 0 [], x_wr (S (27 + 3 * t)) 0 [], S (28 + 3 * t)) := by
    unfold x_got x_read x_rd x_part
    rw [e]
    simp only [ip_u, if_true, show ¬ (-1 : Int) = 0 by omega, if_false, Bool.false_eq_true]
  unfold x_fl x_flt
  rw [e1, e]
  simp [ip_u]
theorem x_S2f {sz : Int} {t b : Nat} (ht : t < 6) (hb : 62 ≤ b) : x_S2 S sz t b = S b := by
  funext k
  unfold x_S2 k_RS x_S1 k_TS
  rw [if_neg (by omega), if_neg (by omega), if_neg (by omega), if_neg (by omega), if_neg (by omega), if_neg (by omega), if_neg (by omega), if_neg (by omega), if_neg (by omega)]
theorem qx72 (F : m_frX S R) (hM : x_RM R) : x_ok1 S R L 72 [] (vi (-100)) := by
  obtain ⟨hX, f17, f97, f02, f80, f81, f2, f3, f174, f194, f20, f21, f23, fs⟩ := F
  refine ⟨ip_up (x_S2 S 0 1) 19 4 0, ip_ur R 24 1 (26 + 3 * 1), fun b hb => by rw [m_upf (by omega) b hb, x_S2f (by omega) hb], x_RMu hM, fun Q => ?_⟩
  have h := p72 (d := 48) (t := 1) (sz := 0) (Q := Q) (L := L) hX (by omega) f174 f194 (by omega) (by omega) (by rw [f20]; exact m_b0r) f21 f23 (by rw [x_fl0]; exact ip_wid (by omega) (by omega))
  rw [x_fl0, if_neg (by omega)] at h
  exact h
theorem qm191 (F : m_frM S R) : m_ok1 S R L 191 [] (vi (-100)) := by
  obtain ⟨hM, g7, g38, g3, g4, g6, g11, g66, g69, g68, g75, g76, g77⟩ := F
  refine ⟨_, ?_, fun Q => p191e (d := 95) hM g3 g6⟩
  funext k
  simp [m_e4, m_e3, m_e1, ip_up]
theorem qx73 {t : Int} (ht : -2147483648 ≤ t ∧ t < 2147483648) (F : m_frX S R) (hM : x_RM R) : x_ok1 S R L 73 [vi t] (vi (if 0 ≤ t ∧ t < 1 then 0 else -2)) := by
  obtain ⟨hX, f17, f97, f02, f80, f81, f2, f3, f174, f194, f20, f21, f23, fs⟩ := F
  by_cases c : 0 ≤ t ∧ t < 1
  · rw [if_pos c]
    refine ⟨ip_up S 8 1 t, R, m_upf (by omega), hM, fun Q => ?_⟩
    have h := p73 (d := 98) (Q := Q) (S := S) (L := L) ht hX f174 (by omega) (by omega)
    rw [if_pos c] at h
    rw [f81] at h
    exact h
  · rw [if_neg c]
    refine ⟨S, R, fun _ _ => rfl, hM, fun Q => ?_⟩
    have h := p73 (d := 98) (Q := Q) (S := S) (L := L) ht hX f174 (by omega) (by omega)
    rw [if_neg c] at h
    exact h
theorem qm192 {t : Int} (ht : -2147483648 ≤ t ∧ t < 2147483648) (F : m_frM S R) : m_ok1 S R L 192 [vi t] (vi (if 0 ≤ t ∧ t < 1 then 0 else -2)) := by
  obtain ⟨hM, g7, g38, g3, g4, g6, g11, g66, g69, g68, g75, g76, g77⟩ := F
  by_cases c : 0 ≤ t ∧ t < 1
  · rw [if_pos c]
    refine ⟨ip_up S 62 4 t, by funext k; simp [ip_up], fun Q => ?_⟩
    have h := p192 (d := 98) (Q := Q) (S := S) (L := L) ht hM g3 (by omega) (by omega)
    rw [if_pos c] at h
    rw [g4] at h
    exact h
  · rw [if_neg c]
    refine ⟨S, rfl, fun Q => ?_⟩
    have h := p192 (d := 98) (Q := Q) (S := S) (L := L) ht hM g3 (by omega) (by omega)
    rw [if_neg c] at h
    exact h
theorem qx74 {f b a w : Int} (hf : -2147483648 ≤ f ∧ f < 2147483648) (hb : -2147483648 ≤ b ∧ b < 2147483648) (ha : -2147483648 ≤ a ∧ a < 2147483648) (hw : -2147483648 ≤ w ∧ w < 2147483648) (F : m_frX S R) (hM : x_RM R) : x_ok1 S R L 74 [vi f, vi b, vi a, vi w] (vi (-2)) := by
  obtain ⟨hX, f17, f97, f02, f80, f81, f2, f3, f174, f194, f20, f21, f23, fs⟩ := F
  exact ⟨S, R, fun _ _ => rfl, hM, fun Q => p74b (d := 96) hX f17 (by omega) (by omega) hf hb ha hw (by omega)⟩
theorem qm197 {f b a w : Int} (hf : -2147483648 ≤ f ∧ f < 2147483648) (hb : -2147483648 ≤ b ∧ b < 2147483648) (ha : -2147483648 ≤ a ∧ a < 2147483648) (hw : -2147483648 ≤ w ∧ w < 2147483648) (F : m_frM S R) : m_ok1 S R L 197 [vi f, vi b, vi a, vi w] (vi (-2)) := by
  obtain ⟨hM, g7, g38, g3, g4, g6, g11, g66, g69, g68, g75, g76, g77⟩ := F
  exact ⟨S, rfl, fun Q => p197b (d := 96) hM g11 (by omega) (by omega) hf hb ha hw (by omega)⟩
theorem qx81 {f b a : Int} (hf : -2147483648 ≤ f ∧ f < 2147483648) (hb : -2147483648 ≤ b ∧ b < 2147483648) (ha : -2147483648 ≤ a ∧ a < 2147483648) (F : m_frX S R) (hM : x_RM R) : x_ok1 S R L 81 [vi f, vi b, vi a] (vi (-2)) := by
  obtain ⟨hX, f17, f97, f02, f80, f81, f2, f3, f174, f194, f20, f21, f23, fs⟩ := F
  exact ⟨S, R, fun _ _ => rfl, hM, fun Q => (p81 (d := 96) hf hb ha hX f17 (by omega) (by omega)).trans (if_neg (by omega))⟩
theorem qm203 {f b a : Int} (hf : -2147483648 ≤ f ∧ f < 2147483648) (hb : -2147483648 ≤ b ∧ b < 2147483648) (ha : -2147483648 ≤ a ∧ a < 2147483648) (F : m_frM S R) : m_ok1 S R L 203 [vi f, vi b, vi a] (vi (-2)) := by
  obtain ⟨hM, g7, g38, g3, g4, g6, g11, g66, g69, g68, g75, g76, g77⟩ := F
  exact ⟨S, rfl, fun Q => (p203 (d := 96) hf hb ha hM g11 (by omega) (by omega)).trans (if_neg (by omega))⟩
theorem m_D0r : ∀ k : Int, 0 ≤ k → k < 64 → 0 ≤ m_D0 k ∧ m_D0 k ≤ 999 := by
  intro k h0 h1
  have h : ∀ q : Nat, q < 64 → 0 ≤ m_D0 q ∧ m_D0 q ≤ 999 := by decide +kernel
  have := h k.toNat (by omega)
  rwa [Int.toNat_of_nonneg h0] at this
theorem qx84 {x y : Int} (hx : -2147483648 ≤ x ∧ x < 2147483648) (hy : -2147483648 ≤ y ∧ y < 2147483648) (F : m_frX S R) (hM : x_RM R) : x_ok1 S R L 84 [vi x, vi y] (vi (if (0 ≤ x ∧ x < 8) ∧ (0 ≤ y ∧ y < 8) then (if m_D0 (x * 8 + y) = 999 then -1 else m_D0 (x * 8 + y)) else -2)) := by
  obtain ⟨hX, f17, f97, f02, f80, f81, f2, f3, f174, f194, f20, f21, f23, fs⟩ := F
  by_cases c : (0 ≤ x ∧ x < 8) ∧ (0 ≤ y ∧ y < 8)
  · rw [if_pos c]
    refine ⟨S, R, fun _ _ => rfl, hM, fun Q => ?_⟩
    have h := p84 (d := 98) (Q := Q) (S := S) (L := L) hx hy hX (by rw [f3]; exact m_D0r)
    rw [if_pos c] at h
    rw [f3] at h
    split <;> (rename_i c2; simp only [c2, if_true, if_false] at h)
    all_goals exact h
  · rw [if_neg c]
    refine ⟨S, R, fun _ _ => rfl, hM, fun Q => ?_⟩
    have h := p84 (d := 98) (Q := Q) (S := S) (L := L) hx hy hX (by rw [f3]; exact m_D0r)
    rw [if_neg c] at h
    exact h
theorem qm205 {x y : Int} (hx : -2147483648 ≤ x ∧ x < 2147483648) (hy : -2147483648 ≤ y ∧ y < 2147483648) (F : m_frM S R) : m_ok1 S R L 205 [vi x, vi y] (vi (if (0 ≤ x ∧ x < 8) ∧ (0 ≤ y ∧ y < 8) then (if m_D0 (x * 8 + y) = 999 then -1 else m_D0 (x * 8 + y)) else -2)) := by
  obtain ⟨hM, g7, g38, g3, g4, g6, g11, g66, g69, g68, g75, g76, g77⟩ := F
  by_cases c : (0 ≤ x ∧ x < 8) ∧ (0 ≤ y ∧ y < 8)
  · rw [if_pos c]
    refine ⟨S, rfl, fun Q => ?_⟩
    have h := p205 (d := 97) (Q := Q) (S := S) (L := L) hx hy hM (by rw [g69]; exact m_D0r)
    rw [if_pos c] at h
    rw [g69] at h
    split <;> (rename_i c2; simp only [c2, if_true, if_false] at h)
    all_goals exact h
  · rw [if_neg c]
    refine ⟨S, rfl, fun Q => ?_⟩
    have h := p205 (d := 97) (Q := Q) (S := S) (L := L) hx hy hM (by rw [g69]; exact m_D0r)
    rw [if_neg c] at h
    exact h
theorem qx85 {f a w : Int} (hf : -2147483648 ≤ f ∧ f < 2147483648) (ha : -2147483648 ≤ a ∧ a < 2147483648) (hw : -2147483648 ≤ w ∧ w < 2147483648) (F : m_frX S R) (hM : x_RM R) : x_ok1 S R L 85 [vi f, vi a, vi w] (vi (-2)) := by
  obtain ⟨hX, f17, f97, f02, f80, f81, f2, f3, f174, f194, f20, f21, f23, fs⟩ := F
  exact ⟨S, R, fun _ _ => rfl, hM, fun Q => (p85 (d := 97) hf ha hw hX f17 (by omega) (by omega)).trans (if_neg (by omega))⟩
theorem qm206 {f a w : Int} (hf : -2147483648 ≤ f ∧ f < 2147483648) (ha : -2147483648 ≤ a ∧ a < 2147483648) (hw : -2147483648 ≤ w ∧ w < 2147483648) (F : m_frM S R) : m_ok1 S R L 206 [vi f, vi a, vi w] (vi (-2)) := by
  obtain ⟨hM, g7, g38, g3, g4, g6, g11, g66, g69, g68, g75, g76, g77⟩ := F
  exact ⟨S, rfl, fun Q => (p206 (d := 97) hf ha hw hM g11 (by omega) (by omega)).trans (if_neg (by omega))⟩
theorem qx88 {f b : Int} (hf : -2147483648 ≤ f ∧ f < 2147483648) (hb : -2147483648 ≤ b ∧ b < 2147483648) (F : m_frX S R) (hM : x_RM R) : x_ok1 S R L 88 [vi f, vi b] (vi (-2)) := by
  obtain ⟨hX, f17, f97, f02, f80, f81, f2, f3, f174, f194, f20, f21, f23, fs⟩ := F
  exact ⟨S, R, fun _ _ => rfl, hM, fun Q => (p88 (d := 96) hf hb hX f17 (by omega) (by omega)).trans (if_neg (by omega))⟩
theorem qm208 {f b : Int} (hf : -2147483648 ≤ f ∧ f < 2147483648) (hb : -2147483648 ≤ b ∧ b < 2147483648) (F : m_frM S R) : m_ok1 S R L 208 [vi f, vi b] (vi (-2)) := by
  obtain ⟨hM, g7, g38, g3, g4, g6, g11, g66, g69, g68, g75, g76, g77⟩ := F
  exact ⟨S, rfl, fun Q => (p208 (d := 96) hf hb hM g11 (by omega) (by omega)).trans (if_neg (by omega))⟩
theorem qx89 {a w : Int} (ha : -2147483648 ≤ a ∧ a < 2147483648) (hw : -2147483648 ≤ w ∧ w < 2147483648) (F : m_frX S R) (hM : x_RM R) : x_ok1 S R L 89 [vi a, vi w] (vi (if (0 ≤ a ∧ a < 8) ∧ (0 ≤ w ∧ w < 2) then 0 else -2)) := by
  obtain ⟨hX, f17, f97, f02, f80, f81, f2, f3, f174, f194, f20, f21, f23, fs⟩ := F
  refine ⟨S, R, fun _ _ => rfl, hM, fun Q => ?_⟩
  have h := p89 (d := 98) (Q := Q) (L := L) ha hw hX f17 (by omega) (by omega)
  by_cases c : (0 ≤ a ∧ a < 8) ∧ (0 ≤ w ∧ w < 2)
  · rw [if_pos c] at h ⊢
    refine h.trans ?_
    simp (disch := omega) only [s89_0, s89_1, s89_2, s89_3, s89_4, s89_5, s89_6, s89_7, s89_8, s89_9, s89_10, s89_11, s89_12, s89_13, s89_14, s89_15, s89_16, s89_17, s89_18, s89_19, s89_20, s89_21, s89_22, s89_23, s89_24, s89_25, s89_26, s89_27, s89_28, s89_29, s89_30, s89_31, s89_32, s89_33, s89_34, s89_35, s89_36, s89_37, s89_38, s89_39, s89_40, s89_41, s89_42, s89_43, s89_44, s89_45, s89_46, s89_47, s89_48, s89_49, s89_50, s89_51, s89_52, s89_53, s89_54, s89_55, s89_56, s89_57, s89_58, s89_59, ↓reduceIte, Bool.true_eq_false, Bool.false_eq_true, ip_rfS, true_or, or_true, true_and, and_true, Option.toList_some, Option.toList_none, List.cons_append, List.nil_append, ip_fxn, ip_fxi, ip_fxr, ip_fxl, ip_wid, ip_n998, ip_lt900, iO0, iO1, iA2, iA3, iA4, iA5, iA6, iA7, iA8, iO9, iA10, iA11, iA12, iA13, iA14, iA15, iA16, iO17, iA18, iO19, iA20, iA21, iA22, iA23, iO24, iA25, iO26, iA27, iA28, iO29, iA30, iA31, iO32, iA33, iA34, iO35, iA36, iA37, iO38, iA39, iA40, iO41, iA42, iA43, iO44, iA45, iA46, iA47, iA48, iA49, iA50, iA51, iA52, iA53, iO54, iA55, iO56, iA57, iO58, iA59, iO60, iA61, iO62, iA63, iA64, iA65, iA66, iA67, iA68, iA69, iA70, iA71, iA72, iA73, iA74, iA75, iA76, iA77, iA78, iOT, iAT1, iAT2, iOS, iAS, rx0_0 hX, rx0_1 hX, rx0_3 hX, rx0_4 hX, rx0_5 hX, rx0_6 hX, rx0_7 hX, rx0_8 hX, rx0_9 hX, rx1_0 hX, rx1_1 hX, rx1_2 hX, rx1_3 hX, rx1_4 hX, rx1_5 hX, rx1_6 hX, rx9_0 hX, rx9_1 hX, rx9_2 hX, rx9_3 hX, rx9_4 hX, rx9_5 hX, rx9_6 hX, rx17_0 hX, rx17_1 hX, rx17_2 hX, rx17_3 hX, rx24_0 hX, rx19_0 hX, rx19_1 hX, rx19_2 hX, rx19_3 hX, rx18_0 hX, rx26_0 hX, rx26_1 hX, rx18_1 hX, rx29_0 hX, rx29_1 hX, rx18_2 hX, rx32_0 hX, rx32_1 hX, rx18_3 hX, rx35_0 hX, rx35_1 hX, rx18_4 hX, rx38_0 hX, rx38_1 hX, rx18_5 hX, rx41_0 hX, rx41_1 hX, rx44_0 hX, rx44_1 hX, rx44_2 hX, rx44_3 hX, rx44_4 hX, rx44_5 hX, rx49_0 hX, rx54_0 hX, rx49_1 hX, rx56_0 hX, rx49_2 hX, rx58_0 hX, rx49_3 hX, rx60_0 hX, f17, Int.reduceLT]
  · rw [if_neg c] at h ⊢
    exact h
theorem qm209 {a w : Int} (ha : -2147483648 ≤ a ∧ a < 2147483648) (hw : -2147483648 ≤ w ∧ w < 2147483648) (F : m_frM S R) : m_ok1 S R L 209 [vi a, vi w] (vi (if (0 ≤ a ∧ a < 8) ∧ (0 ≤ w ∧ w < 2) then 0 else -2)) := by
  obtain ⟨hM, g7, g38, g3, g4, g6, g11, g66, g69, g68, g75, g76, g77⟩ := F
  have h := fun Q => p209 (d := 97) (Q := Q) (S := S) (L := L) ha hw hM g11 (by omega) (by omega)
  by_cases c : (0 ≤ a ∧ a < 8) ∧ (0 ≤ w ∧ w < 2)
  · simp only [if_pos c] at h ⊢
    refine ⟨_, ?_, fun Q => (h Q).trans (p209z (d := 97) g11 c.2)⟩
    funext k
    simp [ip_up]
  · simp only [if_neg c] at h ⊢
    exact ⟨S, rfl, h⟩
theorem qx94 {f b a w : Int} (hf : -2147483648 ≤ f ∧ f < 2147483648) (hb : -2147483648 ≤ b ∧ b < 2147483648) (ha : -2147483648 ≤ a ∧ a < 2147483648) (hw : -2147483648 ≤ w ∧ w < 2147483648) (F : m_frX S R) (hM : x_RM R) : x_ok1 S R L 94 [vi f, vi b, vi a, vi w] (vi (-2)) := by
  obtain ⟨hX, f17, f97, f02, f80, f81, f2, f3, f174, f194, f20, f21, f23, fs⟩ := F
  exact ⟨S, R, fun _ _ => rfl, hM, fun Q => (p94 (d := 96) hf hb ha hw hX f17 (by omega) (by omega)).trans (if_neg (by omega))⟩
theorem qm213 {f b a w : Int} (hf : -2147483648 ≤ f ∧ f < 2147483648) (hb : -2147483648 ≤ b ∧ b < 2147483648) (ha : -2147483648 ≤ a ∧ a < 2147483648) (hw : -2147483648 ≤ w ∧ w < 2147483648) (F : m_frM S R) : m_ok1 S R L 213 [vi f, vi b, vi a, vi w] (vi (-2)) := by
  obtain ⟨hM, g7, g38, g3, g4, g6, g11, g66, g69, g68, g75, g76, g77⟩ := F
  exact ⟨S, rfl, fun Q => (p213 (d := 96) hf hb ha hw hM g11 (by omega) (by omega)).trans (if_neg (by omega))⟩
theorem qx96 {s t a w : Int} (hs : -2147483648 ≤ s ∧ s < 2147483648) (ht : -2147483648 ≤ t ∧ t < 2147483648) (ha : -2147483648 ≤ a ∧ a < 2147483648) (hw : -2147483648 ≤ w ∧ w < 2147483648) (F : m_frX S R) (hM : x_RM R) : x_ok1 S R L 96 [vi s, vi t, vi a, vi w] (vi (-2)) := by
  obtain ⟨hX, f17, f97, f02, f80, f81, f2, f3, f174, f194, f20, f21, f23, fs⟩ := F
  exact ⟨S, R, fun _ _ => rfl, hM, fun Q => (p96 (d := 95) hs ht ha hw hX f17 (by omega) (by omega)).trans (if_neg (by omega))⟩
theorem qm214 {s t a w : Int} (hs : -2147483648 ≤ s ∧ s < 2147483648) (ht : -2147483648 ≤ t ∧ t < 2147483648) (ha : -2147483648 ≤ a ∧ a < 2147483648) (hw : -2147483648 ≤ w ∧ w < 2147483648) (F : m_frM S R) : m_ok1 S R L 214 [vi s, vi t, vi a, vi w] (vi (-2)) := by
  obtain ⟨hM, g7, g38, g3, g4, g6, g11, g66, g69, g68, g75, g76, g77⟩ := F
  exact ⟨S, rfl, fun Q => (p214 (d := 95) hs ht ha hw hM g11 (by omega) (by omega)).trans (if_neg (by omega))⟩
theorem qx102 {s t a n : Int} (hs : -2147483648 ≤ s ∧ s < 2147483648) (ht : -2147483648 ≤ t ∧ t < 2147483648) (ha : -2147483648 ≤ a ∧ a < 2147483648) (hn : -2147483648 ≤ n ∧ n < 2147483648) (F : m_frX S R) (hM : x_RM R) : x_ok1 S R L 102 [vi s, vi t, vi a, vi n] (vi (-2)) := by
  obtain ⟨hX, f17, f97, f02, f80, f81, f2, f3, f174, f194, f20, f21, f23, fs⟩ := F
  exact ⟨S, R, fun _ _ => rfl, hM, fun Q => (p102 (d := 95) hs ht ha hn hX f17 (by omega) (by omega)).trans (if_neg (by omega))⟩
theorem qm219 {s t a n : Int} (hs : -2147483648 ≤ s ∧ s < 2147483648) (ht : -2147483648 ≤ t ∧ t < 2147483648) (ha : -2147483648 ≤ a ∧ a < 2147483648) (hn : -2147483648 ≤ n ∧ n < 2147483648) (F : m_frM S R) : m_ok1 S R L 219 [vi s, vi t, vi a, vi n] (vi (-2)) := by
  obtain ⟨hM, g7, g38, g3, g4, g6, g11, g66, g69, g68, g75, g76, g77⟩ := F
  exact ⟨S, rfl, fun Q => (p219 (d := 95) hs ht ha hn hM g11 (by omega) (by omega)).trans (if_neg (by omega))⟩
theorem qx105 {z t a : Int} (hz : -2147483648 ≤ z ∧ z < 2147483648) (ht : -2147483648 ≤ t ∧ t < 2147483648) (ha : -2147483648 ≤ a ∧ a < 2147483648) (F : m_frX S R) (hM : x_RM R) : x_ok1 S R L 105 [vi z, vi t, vi a] (vi (-2)) := by
  obtain ⟨hX, f17, f97, f02, f80, f81, f2, f3, f174, f194, f20, f21, f23, fs⟩ := F
  exact ⟨S, R, fun _ _ => rfl, hM, fun Q => (p105 (d := 95) hz ht ha hX f17 (by omega) (by omega)).trans (if_neg (by omega))⟩
theorem qm221 {z t a : Int} (hz : -2147483648 ≤ z ∧ z < 2147483648) (ht : -2147483648 ≤ t ∧ t < 2147483648) (ha : -2147483648 ≤ a ∧ a < 2147483648) (F : m_frM S R) : m_ok1 S R L 221 [vi z, vi t, vi a] (vi (-2)) := by
  obtain ⟨hM, g7, g38, g3, g4, g6, g11, g66, g69, g68, g75, g76, g77⟩ := F
  exact ⟨S, rfl, fun Q => (p221 (d := 95) hz ht ha hM g11 (by omega) (by omega)).trans (if_neg (by omega))⟩
theorem qx109 {z m t w : Int} (hz : -2147483648 ≤ z ∧ z < 2147483648) (hm : -2147483648 ≤ m ∧ m < 2147483648) (ht : -2147483648 ≤ t ∧ t < 2147483648) (hw : -2147483648 ≤ w ∧ w < 2147483648) (F : m_frX S R) (hM : x_RM R) : x_ok1 S R L 109 [vi z, vi m, vi t, vi w] (vl (-4611686018427387904)) := by
  obtain ⟨hX, f17, f97, f02, f80, f81, f2, f3, f174, f194, f20, f21, f23, fs⟩ := F
  exact ⟨S, R, fun _ _ => rfl, hM, fun Q => (p109 (d := 95) hz hm ht hw hX f17 (by omega) (by omega)).trans (if_neg (by omega))⟩
theorem qm224 {z q t w : Int} (hz : -2147483648 ≤ z ∧ z < 2147483648) (hq : -2147483648 ≤ q ∧ q < 2147483648) (ht : -2147483648 ≤ t ∧ t < 2147483648) (hw : -2147483648 ≤ w ∧ w < 2147483648) (F : m_frM S R) : m_ok1 S R L 224 [vi z, vi q, vi t, vi w] (vl (-4611686018427387904)) := by
  obtain ⟨hM, g7, g38, g3, g4, g6, g11, g66, g69, g68, g75, g76, g77⟩ := F
  exact ⟨S, rfl, fun Q => (p224 (d := 95) hz hq ht hw hM g11 (by omega) (by omega)).trans (if_neg (by omega))⟩
theorem qx111 (F : m_frX S R) (hM : x_RM R) : x_ok1 S R L 111 [] (vi 0) := by
  obtain ⟨hX, f17, f97, f02, f80, f81, f2, f3, f174, f194, f20, f21, f23, fs⟩ := F
  refine ⟨m_img S, R, fun b hb => ?_, hM, fun Q => ?_⟩
  · unfold m_img
    rw [m_upf (by omega) b hb, m_upf (by omega) b hb]
    funext k
    exact m_cpw7 (by omega)
  · have h := p111 (d := 98) (Q := Q) (L := L) (S := S) hX (by omega) (by omega)
    rw [f17] at h
    exact h
theorem qm225 (F : m_frM S R) : m_ok1 S R L 225 [] (vi 0) := by
  obtain ⟨hM, g7, g38, g3, g4, g6, g11, g66, g69, g68, g75, g76, g77⟩ := F
  refine ⟨m_img2 S, ?_, fun Q => ?_⟩
  · funext k
    simp [m_img2, m_cpA, ip_up, ip_ar]
  · have h := p225 (d := 99) (Q := Q) (L := L) (S := S) hM (by rw [g66]; exact fun _ _ _ => (ip_wid (by omega) (by omega) : ip_w 0 = 0)) (by rw [g68]; exact fun _ _ _ => (ip_wid (by omega) (by omega) : ip_w 0 = 0)) (by rw [g11]; exact ip_wid (by omega) (by omega)) (by rw [g7]; exact ip_wid (by omega) (by omega)) (by rw [g4]; exact ip_wid (by omega) (by omega))
    rw [g11] at h
    exact h
theorem qx113 (F : m_frX S R) (hM : x_RM R) : x_ok1 S R L 113 [] (vi (-3)) := by
  obtain ⟨hX, f17, f97, f02, f80, f81, f2, f3, f174, f194, f20, f21, f23, fs⟩ := F
  refine ⟨S, R, fun _ _ => rfl, hM, fun Q => ?_⟩
  have h := p113 (d := 98) (Q := Q) (L := L) (S := S) hX (by omega) (by omega) (by omega) (by omega)
  rw [if_pos f02] at h
  exact h
theorem qm226 (F : m_frM S R) : m_ok1 S R L 226 [] (vi (-3)) := by
  obtain ⟨hM, g7, g38, g3, g4, g6, g11, g66, g69, g68, g75, g76, g77⟩ := F
  refine ⟨S, rfl, fun Q => ?_⟩
  simp (disch := omega) only [c226, s226_0, s226_1, s226_2, s226_3, s226_4, s226_5, s226_6, s226_7, s226_9, s226_10, s226_11, s226_12, s226_13, s226_14, s226_15, s226_16, s226_17, s226_18, s226_19, s226_20, s226_22, s226_24, s226_25, s226_26, s226_27, s226_28, s226_29, s226_30, s226_31, s226_32, s226_33, s226_34, s226_35, s226_37, s226_38, s226_39, s226_40, s226_41, s226_42, s226_43, s226_44, s226_45, s226_46, s226_47, s226_48, s226_49, s226_50, s226_51, s226_52, ↓reduceIte, Bool.true_eq_false, Bool.false_eq_true, ip_rfS, true_or, or_true, true_and, and_true, Option.toList_some, Option.toList_none, List.cons_append, List.nil_append, ip_fxn, ip_fxi, ip_fxr, ip_fxl, ip_wid, ip_n998, ip_lt900, iO0, iO1, iA2, iA3, iA4, iA5, iA6, iA7, iA8, iO9, iA10, iA11, iA12, iA13, iA14, iA15, iA16, iO17, iA18, iO19, iA20, iA21, iA22, iA23, iO24, iA25, iO26, iA27, iA28, iO29, iA30, iA31, iO32, iA33, iA34, iO35, iA36, iA37, iO38, iA39, iA40, iO41, iA42, iA43, iO44, iA45, iA46, iA47, iA48, iA49, iA50, iA51, iA52, iA53, iO54, iA55, iO56, iA57, iO58, iA59, iO60, iA61, iO62, iA63, iA64, iA65, iA66, iA67, iA68, iA69, iA70, iA71, iA72, iA73, iA74, iA75, iA76, iA77, iA78, iOT, iAT1, iAT2, iOS, iAS, rm1 hM, rm2 hM, rm5 hM, rm8 hM, rm9 hM, rm10 hM, rm12 hM, rm28 hM, rm32 hM, rm35 hM, rm36 hM, rm37 hM, rm41 hM, rm42 hM, rm43 hM, rm44 hM, g38]
theorem qx114 {w : Int} (hw : -2147483648 ≤ w ∧ w < 2147483648) (F : m_frX S R) (hM : x_RM R) : x_ok1 S R L 114 [vi w] (vi (if 0 ≤ w ∧ w ≤ 5 then (if w = 3 then 1 else 0) else -2)) := by
  obtain ⟨hX, f17, f97, f02, f80, f81, f2, f3, f174, f194, f20, f21, f23, fs⟩ := F
  refine ⟨S, R, fun _ _ => rfl, hM, fun Q => ?_⟩
  have h := p114 (d := 98) (Q := Q) (L := L) (S := S) hX hw (by omega) (by omega) (by rw [f2]; exact fun _ _ _ => ⟨Int.le_refl 0, (show (0 : Int) ≤ 99 by omega)⟩)
  have z1 : m_cnt m_Z 64 0 0 / 2 = 0 := by decide +kernel
  rw [f17, f2, z1, f174, f194, f81, show m_sum (S 7) (0 : Int).toNat 0 0 = 0 from rfl] at h
  by_cases c : 0 ≤ w ∧ w ≤ 5
  · rw [if_pos c] at h ⊢
    obtain q | q | q | q | q | q : w = 0 ∨ w = 1 ∨ w = 2 ∨ w = 3 ∨ w = 4 ∨ w = 5 := by omega
    all_goals subst q
    all_goals simp only [Int.reduceEq, if_true, if_false] at h ⊢
    all_goals exact h
  · rw [if_neg c] at h ⊢
    exact h
theorem qm227 {w : Int} (hw : -2147483648 ≤ w ∧ w < 2147483648) (F : m_frM S R) : m_ok1 S R L 227 [vi w] (vi (if 0 ≤ w ∧ w ≤ 5 then (if w = 3 then 1 else 0) else -2)) := by
  obtain ⟨hM, g7, g38, g3, g4, g6, g11, g66, g69, g68, g75, g76, g77⟩ := F
  refine ⟨S, rfl, fun Q => ?_⟩
  have h := p227 (d := 98) (Q := Q) (L := L) (S := S) hM g11 (by omega) (by omega) hw (by rw [g66]; exact fun _ _ _ => ⟨Int.le_refl 0, (show (0 : Int) ≤ 99 by omega)⟩)
  have z1 : m_cu m_Z 64 0 0 = 0 := by decide +kernel
  rw [g66, z1, g3, g4, g6, show m_s3 (S 68) (0 : Int).toNat 0 0 = 0 from rfl] at h
  by_cases c : 0 ≤ w ∧ w ≤ 5
  · rw [if_pos c] at h ⊢
    obtain q | q | q | q | q | q : w = 0 ∨ w = 1 ∨ w = 2 ∨ w = 3 ∨ w = 4 ∨ w = 5 := by omega
    all_goals subst q
    all_goals simp only [Int.reduceEq, if_true, if_false] at h ⊢
    all_goals exact h
  · rw [if_neg c] at h ⊢
    exact h
theorem qx117 {s v n : Int} (hs : -2147483648 ≤ s ∧ s < 2147483648) (hv : -2147483648 ≤ v ∧ v < 2147483648) (hn : -2147483648 ≤ n ∧ n < 2147483648) (F : m_frX S R) (hM : x_RM R) : x_ok1 S R L 117 [vi s, vi v, vi n] (vi (if (0 ≤ s ∧ s < 4) ∧ -1 ≤ v ∧ v < 3 then (if v = -1 then 1 else if n ≤ 40 then (if 0 ≤ n then 1 else -14) else -2) else -2)) := by
  obtain ⟨hX, f17, f97, f02, f80, f81, f2, f3, f174, f194, f20, f21, f23, fs⟩ := F
  have h := fun Q => p117 (d := 98) (Q := Q) (S := S) (R := R) (L := L) hs hv hn hX
  have fb : ∀ v w, ∀ b : Nat, (0 ≤ s ∧ s < 4) → 62 ≤ b → m_bec S s.toNat v w b = S b := fun v w b c hb => by
    unfold m_bec
    rw [m_arf (by omega) b hb, m_upf (by omega) b hb, m_upf (by omega) b hb]
  by_cases c : (0 ≤ s ∧ s < 4) ∧ -1 ≤ v ∧ v < 3
  · simp only [if_pos c] at h ⊢
    by_cases c1 : v = -1
    · simp only [if_pos c1] at h ⊢
      exact ⟨_, R, fun b hb => fb _ _ b c.1 hb, hM, h⟩
    · simp only [if_neg c1] at h ⊢
      by_cases c2 : n ≤ 40
      · simp only [if_pos c2] at h ⊢
        by_cases c3 : 0 ≤ n
        · simp only [if_pos c3] at h ⊢
          exact ⟨_, R, fun b hb => fb _ _ b c.1 hb, hM, h⟩
        · simp only [if_neg c3] at h ⊢
          exact ⟨S, R, fun _ _ => rfl, hM, h⟩
      · simp only [if_neg c2] at h ⊢
        exact ⟨S, R, fun _ _ => rfl, hM, h⟩
  · simp only [if_neg c] at h ⊢
    exact ⟨S, R, fun _ _ => rfl, hM, h⟩
theorem qm220 {s v n : Int} (hs : -2147483648 ≤ s ∧ s < 2147483648) (hv : -2147483648 ≤ v ∧ v < 2147483648) (hn : -2147483648 ≤ n ∧ n < 2147483648) (F : m_frM S R) : m_ok1 S R L 220 [vi s, vi v, vi n] (vi (if (0 ≤ s ∧ s < 4) ∧ -1 ≤ v ∧ v < 3 then (if v = -1 then 1 else if n ≤ 40 then (if 0 ≤ n then 1 else -14) else -2) else -2)) := by
  obtain ⟨hM, g7, g38, g3, g4, g6, g11, g66, g69, g68, g75, g76, g77⟩ := F
  have h := fun Q => p220 (d := 97) (Q := Q) (S := S) (R := R) (L := L) hs hv hn hM
  have fb : ∀ v w, m_hdr S s v w 900 = S 900 := fun v w => by funext k; simp [m_hdr, ip_up]
  have fc : ∀ v w, m_bec2 S s v w 900 = S 900 := fun v w => by funext k; simp [m_bec2, m_hdr, ip_up, ip_ar]
  by_cases c : (0 ≤ s ∧ s < 4) ∧ -1 ≤ v ∧ v < 3
  · simp only [if_pos c] at h ⊢
    by_cases c1 : v = -1
    · simp only [if_pos c1] at h ⊢
      exact ⟨_, fb _ _, h⟩
    · simp only [if_neg c1] at h ⊢
      by_cases c2 : n ≤ 40
      · simp only [if_pos c2] at h ⊢
        by_cases c3 : 0 ≤ n
        · simp only [if_pos c3] at h ⊢
          exact ⟨_, fc _ _, h⟩
        · simp only [if_neg c3] at h ⊢
          exact ⟨S, rfl, h⟩
      · simp only [if_neg c2] at h ⊢
        exact ⟨S, rfl, h⟩
  · simp only [if_neg c] at h ⊢
    exact ⟨S, rfl, h⟩
theorem qx118 {s i v : Int} (hs : -2147483648 ≤ s ∧ s < 2147483648) (hi : -2147483648 ≤ i ∧ i < 2147483648) (hv : -2147483648 ≤ v ∧ v < 2147483648) (F : m_frX S R) (hM : x_RM R) : x_ok1 S R L 118 [vi s, vi i, vi v] (vi (if 0 ≤ s ∧ s < 4 then -11 else -2)) := by
  obtain ⟨hX, f17, f97, f02, f80, f81, f2, f3, f174, f194, f20, f21, f23, fs⟩ := F
  refine ⟨S, R, fun _ _ => rfl, hM, fun Q => ?_⟩
  have h := p118 (d := 98) (Q := Q) (L := L) (S := S) hs hi hv hX (fun q hq => by have := fs q hq; omega)
  by_cases c : 0 ≤ s ∧ s < 4
  · rw [if_pos c] at h ⊢
    rw [if_pos (fs s.toNat (by omega)).1] at h
    exact h
  · rw [if_neg c] at h ⊢
    exact h
theorem qm228 {s i v : Int} (hs : -2147483648 ≤ s ∧ s < 2147483648) (hi : -2147483648 ≤ i ∧ i < 2147483648) (hv : -2147483648 ≤ v ∧ v < 2147483648) (F : m_frM S R) : m_ok1 S R L 228 [vi s, vi i, vi v] (vi (if 0 ≤ s ∧ s < 4 then -11 else -2)) := by
  obtain ⟨hM, g7, g38, g3, g4, g6, g11, g66, g69, g68, g75, g76, g77⟩ := F
  refine ⟨S, rfl, fun Q => ?_⟩
  have h := p228 (d := 97) (Q := Q) (L := L) (S := S) hs hi hv hM (by rw [g75, g76, g77]; exact fun q _ _ => ⟨⟨Int.le_refl 0, (show (0 : Int) ≤ 1 by omega)⟩, ⟨(show (-1 : Int) ≤ 0 by omega), (show (0 : Int) ≤ 2 by omega)⟩, (ip_wid (by omega) (by omega) : ip_w 0 = 0), fun h => absurd (show (0 : Int) = 1 from h) (by omega)⟩)
  by_cases c : 0 ≤ s ∧ s < 4
  · rw [if_pos c] at h ⊢
    rw [if_pos (by rw [g75]; rfl)] at h
    exact h
  · rw [if_neg c] at h ⊢
    exact h
theorem qx119 {s i t j n : Int} (hs : -2147483648 ≤ s ∧ s < 2147483648) (hi : -2147483648 ≤ i ∧ i < 2147483648) (ht : -2147483648 ≤ t ∧ t < 2147483648) (hj : -2147483648 ≤ j ∧ j < 2147483648) (hn : -2147483648 ≤ n ∧ n < 2147483648) (F : m_frX S R) (hM : x_RM R) : x_ok1 S R L 119 [vi s, vi i, vi t, vi j, vi n] (vi (if (0 ≤ s ∧ s < 4) ∧ (0 ≤ t ∧ t < 4) then -11 else -2)) := by
  obtain ⟨hX, f17, f97, f02, f80, f81, f2, f3, f174, f194, f20, f21, f23, fs⟩ := F
  refine ⟨S, R, fun _ _ => rfl, hM, fun Q => ?_⟩
  have h := p119 (d := 98) (Q := Q) (L := L) (S := S) hs hi ht hj hn hX (fun q hq => by have := fs q hq; omega)
  by_cases c : (0 ≤ s ∧ s < 4) ∧ (0 ≤ t ∧ t < 4)
  · rw [if_pos c] at h ⊢
    rw [if_pos (Or.inl (fs s.toNat (by omega)).1)] at h
    exact h
  · rw [if_neg c] at h ⊢
    exact h
theorem qm229 {s i t j n : Int} (hs : -2147483648 ≤ s ∧ s < 2147483648) (hi : -2147483648 ≤ i ∧ i < 2147483648) (ht : -2147483648 ≤ t ∧ t < 2147483648) (hj : -2147483648 ≤ j ∧ j < 2147483648) (hn : -2147483648 ≤ n ∧ n < 2147483648) (F : m_frM S R) : m_ok1 S R L 229 [vi s, vi i, vi t, vi j, vi n] (vi (if (0 ≤ s ∧ s < 4) ∧ (0 ≤ t ∧ t < 4) then -11 else -2)) := by
  obtain ⟨hM, g7, g38, g3, g4, g6, g11, g66, g69, g68, g75, g76, g77⟩ := F
  refine ⟨S, rfl, fun Q => ?_⟩
  have h := p229 (d := 97) (Q := Q) (L := L) (S := S) hs hi ht hj hn hM (by rw [g75, g76, g77]; exact fun q _ _ => ⟨⟨Int.le_refl 0, (show (0 : Int) ≤ 1 by omega)⟩, ⟨(show (-1 : Int) ≤ 0 by omega), (show (0 : Int) ≤ 2 by omega)⟩, (ip_wid (by omega) (by omega) : ip_w 0 = 0), fun h => absurd (show (0 : Int) = 1 from h) (by omega)⟩)
  by_cases c : (0 ≤ s ∧ s < 4) ∧ (0 ≤ t ∧ t < 4)
  · rw [if_pos c] at h ⊢
    rw [if_pos (Or.inl (by rw [g75]; rfl))] at h
    exact h
  · rw [if_neg c] at h ⊢
    exact h
theorem qx121 {s v a n : Int} (hs : -2147483648 ≤ s ∧ s < 2147483648) (hv : -2147483648 ≤ v ∧ v < 2147483648) (ha : -2147483648 ≤ a ∧ a < 2147483648) (hn : -2147483648 ≤ n ∧ n < 2147483648) (F : m_frX S R) (hM : x_RM R) : x_ok1 S R L 121 [vi s, vi v, vi a, vi n] (vi (if (0 ≤ s ∧ s < 4) ∧ (0 ≤ v ∧ v < 3) ∧ (0 ≤ n ∧ n < 7) then -11 else -2)) := by
  obtain ⟨hX, f17, f97, f02, f80, f81, f2, f3, f174, f194, f20, f21, f23, fs⟩ := F
  refine ⟨S, R, fun _ _ => rfl, hM, fun Q => ?_⟩
  have h := p121 (d := 97) (Q := Q) (L := L) (S := S) hs hv ha hn hX (fun q hq => by have := fs q hq; omega)
  by_cases c : (0 ≤ s ∧ s < 4) ∧ (0 ≤ v ∧ v < 3) ∧ (0 ≤ n ∧ n < 7)
  · rw [if_pos c] at h ⊢
    rw [if_pos (fs s.toNat (by omega)).1] at h
    exact h
  · rw [if_neg c] at h ⊢
    exact h
theorem qm230 {s v a n : Int} (hs : -2147483648 ≤ s ∧ s < 2147483648) (hv : -2147483648 ≤ v ∧ v < 2147483648) (ha : -2147483648 ≤ a ∧ a < 2147483648) (hn : -2147483648 ≤ n ∧ n < 2147483648) (F : m_frM S R) : m_ok1 S R L 230 [vi s, vi v, vi a, vi n] (vi (if (0 ≤ s ∧ s < 4) ∧ (0 ≤ v ∧ v < 3) ∧ (0 ≤ n ∧ n < 7) then -11 else -2)) := by
  obtain ⟨hM, g7, g38, g3, g4, g6, g11, g66, g69, g68, g75, g76, g77⟩ := F
  refine ⟨S, rfl, fun Q => ?_⟩
  have h := p230 (d := 97) (Q := Q) (L := L) (S := S) hs hv ha hn hM (by rw [g75, g76, g77]; exact fun q _ _ => ⟨⟨Int.le_refl 0, (show (0 : Int) ≤ 1 by omega)⟩, ⟨(show (-1 : Int) ≤ 0 by omega), (show (0 : Int) ≤ 2 by omega)⟩, (ip_wid (by omega) (by omega) : ip_w 0 = 0), fun h => absurd (show (0 : Int) = 1 from h) (by omega)⟩)
  by_cases c : (0 ≤ s ∧ s < 4) ∧ (0 ≤ v ∧ v < 3) ∧ (0 ≤ n ∧ n < 7)
  · rw [if_pos c] at h ⊢
    rw [if_pos (by rw [g75]; rfl)] at h
    exact h
  · rw [if_neg c] at h ⊢
    exact h
theorem p122n {o k : Int} (ho : -2147483648 ≤ o ∧ o < 2147483648) (hk : -2147483648 ≤ k ∧ k < 2147483648) (F : m_frX S R) {Q} : ip_wc (100) 122 [.ref 0, vi o, vi k] 79 S R L Q = if 0 ≤ k ∧ k < 6 then Q (some (vi (-11))) 79 S R L else Q (some (vi (-2))) 79 S R L := by
  obtain ⟨hX, f17, f97, f02, f80, f81, f2, f3, f174, f194, f20, f21, f23, fs⟩ := F
  have e9 : m_isIn o 0 = false := decide_eq_false (by omega)
  have g9 := fun (v : Int) (h1 : -2147483648 ≤ v) (h2 : v < 2147483648) Q' => p47r (d := 97) (R := R) (L := L) (Q := Q') f17 (by omega) (by omega) h1 h2
  by_cases c : 0 ≤ k ∧ k < 6
  · have e : m_isIn k 6 = true := decide_eq_true c
    rw [if_pos c]
    simp (disch := omega) only [c122, s122_0, s122_1, s122_2, s122_3, s122_4, s122_5, s122_6, s122_7, s122_8, s122_9, s122_10, s122_11, s122_12, s122_13, s122_14, s122_15, s122_16, s122_17, s122_18, s122_19, s122_20, s122_21, s122_22, s122_23, s122_24, s122_25, s122_26, s122_27, s122_28, ↓reduceIte, Bool.true_eq_false, Bool.false_eq_true, ip_rfS, true_or, or_true, true_and, and_true, Option.toList_some, Option.toList_none, List.cons_append, List.nil_append, ip_fxn, ip_fxi, ip_fxr, ip_fxl, ip_wid, ip_n998, ip_lt900, iO0, iO1, iA2, iA3, iA4, iA5, iA6, iA7, iA8, iO9, iA10, iA11, iA12, iA13, iA14, iA15, iA16, iO17, iA18, iO19, iA20, iA21, iA22, iA23, iO24, iA25, iO26, iA27, iA28, iO29, iA30, iA31, iO32, iA33, iA34, iO35, iA36, iA37, iO38, iA39, iA40, iO41, iA42, iA43, iO44, iA45, iA46, iA47, iA48, iA49, iA50, iA51, iA52, iA53, iO54, iA55, iO56, iA57, iO58, iA59, iO60, iA61, iO62, iA63, iA64, iA65, iA66, iA67, iA68, iA69, iA70, iA71, iA72, iA73, iA74, iA75, iA76, iA77, iA78, iOT, iAT1, iAT2, iOS, iAS, rx0_0 hX, rx0_1 hX, rx0_3 hX, rx0_4 hX, rx0_5 hX, rx0_6 hX, rx0_7 hX, rx0_8 hX, rx0_9 hX, rx1_0 hX, rx1_1 hX, rx1_2 hX, rx1_3 hX, rx1_4 hX, rx1_5 hX, rx1_6 hX, rx9_0 hX, rx9_1 hX, rx9_2 hX, rx9_3 hX, rx9_4 hX, rx9_5 hX, rx9_6 hX, rx17_0 hX, rx17_1 hX, rx17_2 hX, rx17_3 hX, rx24_0 hX, rx19_0 hX, rx19_1 hX, rx19_2 hX, rx19_3 hX, rx18_0 hX, rx26_0 hX, rx26_1 hX, rx18_1 hX, rx29_0 hX, rx29_1 hX, rx18_2 hX, rx32_0 hX, rx32_1 hX, rx18_3 hX, rx35_0 hX, rx35_1 hX, rx18_4 hX, rx38_0 hX, rx38_1 hX, rx18_5 hX, rx41_0 hX, rx41_1 hX, rx44_0 hX, rx44_1 hX, rx44_2 hX, rx44_3 hX, rx44_4 hX, rx44_5 hX, rx49_0 hX, rx54_0 hX, rx49_1 hX, rx56_0 hX, rx49_2 hX, rx58_0 hX, rx49_3 hX, rx60_0 hX, p45r, k_n1, k_n0, k_n2, e, g9 o ho.1 ho.2, e9]
  · have e : m_isIn k 6 = false := decide_eq_false c
    rw [if_neg c]
    simp (disch := omega) only [c122, s122_0, s122_1, s122_2, s122_3, s122_4, s122_5, s122_6, s122_7, s122_8, s122_9, s122_10, s122_11, s122_12, s122_13, s122_14, s122_15, s122_16, s122_17, s122_18, s122_19, s122_20, s122_21, s122_22, s122_23, s122_24, s122_25, s122_26, s122_27, s122_28, ↓reduceIte, Bool.true_eq_false, Bool.false_eq_true, ip_rfS, true_or, or_true, true_and, and_true, Option.toList_some, Option.toList_none, List.cons_append, List.nil_append, ip_fxn, ip_fxi, ip_fxr, ip_fxl, ip_wid, ip_n998, ip_lt900, iO0, iO1, iA2, iA3, iA4, iA5, iA6, iA7, iA8, iO9, iA10, iA11, iA12, iA13, iA14, iA15, iA16, iO17, iA18, iO19, iA20, iA21, iA22, iA23, iO24, iA25, iO26, iA27, iA28, iO29, iA30, iA31, iO32, iA33, iA34, iO35, iA36, iA37, iO38, iA39, iA40, iO41, iA42, iA43, iO44, iA45, iA46, iA47, iA48, iA49, iA50, iA51, iA52, iA53, iO54, iA55, iO56, iA57, iO58, iA59, iO60, iA61, iO62, iA63, iA64, iA65, iA66, iA67, iA68, iA69, iA70, iA71, iA72, iA73, iA74, iA75, iA76, iA77, iA78, iOT, iAT1, iAT2, iOS, iAS, rx0_0 hX, rx0_1 hX, rx0_3 hX, rx0_4 hX, rx0_5 hX, rx0_6 hX, rx0_7 hX, rx0_8 hX, rx0_9 hX, rx1_0 hX, rx1_1 hX, rx1_2 hX, rx1_3 hX, rx1_4 hX, rx1_5 hX, rx1_6 hX, rx9_0 hX, rx9_1 hX, rx9_2 hX, rx9_3 hX, rx9_4 hX, rx9_5 hX, rx9_6 hX, rx17_0 hX, rx17_1 hX, rx17_2 hX, rx17_3 hX, rx24_0 hX, rx19_0 hX, rx19_1 hX, rx19_2 hX, rx19_3 hX, rx18_0 hX, rx26_0 hX, rx26_1 hX, rx18_1 hX, rx29_0 hX, rx29_1 hX, rx18_2 hX, rx32_0 hX, rx32_1 hX, rx18_3 hX, rx35_0 hX, rx35_1 hX, rx18_4 hX, rx38_0 hX, rx38_1 hX, rx18_5 hX, rx41_0 hX, rx41_1 hX, rx44_0 hX, rx44_1 hX, rx44_2 hX, rx44_3 hX, rx44_4 hX, rx44_5 hX, rx49_0 hX, rx54_0 hX, rx49_1 hX, rx56_0 hX, rx49_2 hX, rx58_0 hX, rx49_3 hX, rx60_0 hX, p45r, k_n1, k_n0, k_n2, e]
theorem p231n {o k : Int} (ho : -2147483648 ≤ o ∧ o < 2147483648) (hk : -2147483648 ≤ k ∧ k < 2147483648) (F : m_frM S R) {Q} : ip_wc (100) 231 [.ref 62, vi o, vi k] 79 S R L Q = if 0 ≤ k ∧ k < 6 then Q (some (vi (-11))) 79 S R L else Q (some (vi (-2))) 79 S R L := by
  obtain ⟨hM, g7, g38, g3, g4, g6, g11, g66, g69, g68, g75, g76, g77⟩ := F
  have e9 : m_isIn o 0 = false := decide_eq_false (by omega)
  have g9 := fun (v : Int) (h1 : -2147483648 ≤ v) (h2 : v < 2147483648) Q' => p129r (d := 97) (R := R) (L := L) (Q := Q') g11 (by omega) (by omega) h1 h2
  by_cases c : 0 ≤ k ∧ k < 6
  · have e : m_in k 0 5 = true := decide_eq_true (by omega)
    rw [if_pos c]
    simp (disch := omega) only [c231, s231_0, s231_1, s231_2, s231_3, s231_4, s231_5, s231_6, s231_7, s231_8, s231_9, s231_10, s231_11, s231_12, s231_13, s231_14, s231_15, s231_16, s231_17, s231_18, s231_20, s231_21, s231_22, s231_23, s231_24, s231_25, s231_26, s231_27, s231_28, s231_29, s231_30, s231_31, s231_32, s231_33, s231_34, s231_35, s231_36, s231_37, s231_38, s231_39, s231_40, ↓reduceIte, Bool.true_eq_false, Bool.false_eq_true, ip_rfS, true_or, or_true, true_and, and_true, Option.toList_some, Option.toList_none, List.cons_append, List.nil_append, ip_fxn, ip_fxi, ip_fxr, ip_fxl, ip_wid, ip_n998, ip_lt900, iO0, iO1, iA2, iA3, iA4, iA5, iA6, iA7, iA8, iO9, iA10, iA11, iA12, iA13, iA14, iA15, iA16, iO17, iA18, iO19, iA20, iA21, iA22, iA23, iO24, iA25, iO26, iA27, iA28, iO29, iA30, iA31, iO32, iA33, iA34, iO35, iA36, iA37, iO38, iA39, iA40, iO41, iA42, iA43, iO44, iA45, iA46, iA47, iA48, iA49, iA50, iA51, iA52, iA53, iO54, iA55, iO56, iA57, iO58, iA59, iO60, iA61, iO62, iA63, iA64, iA65, iA66, iA67, iA68, iA69, iA70, iA71, iA72, iA73, iA74, iA75, iA76, iA77, iA78, iOT, iAT1, iAT2, iOS, iAS, rm1 hM, rm2 hM, rm5 hM, rm8 hM, rm9 hM, rm10 hM, rm12 hM, rm28 hM, rm32 hM, rm35 hM, rm36 hM, rm37 hM, rm41 hM, rm42 hM, rm43 hM, rm44 hM, p128r, k_n1, k_n0, k_n2, e, g9 o ho.1 ho.2, e9]
  · have e : m_in k 0 5 = false := decide_eq_false (by omega)
    rw [if_neg c]
    simp (disch := omega) only [c231, s231_0, s231_1, s231_2, s231_3, s231_4, s231_5, s231_6, s231_7, s231_8, s231_9, s231_10, s231_11, s231_12, s231_13, s231_14, s231_15, s231_16, s231_17, s231_18, s231_20, s231_21, s231_22, s231_23, s231_24, s231_25, s231_26, s231_27, s231_28, s231_29, s231_30, s231_31, s231_32, s231_33, s231_34, s231_35, s231_36, s231_37, s231_38, s231_39, s231_40, ↓reduceIte, Bool.true_eq_false, Bool.false_eq_true, ip_rfS, true_or, or_true, true_and, and_true, Option.toList_some, Option.toList_none, List.cons_append, List.nil_append, ip_fxn, ip_fxi, ip_fxr, ip_fxl, ip_wid, ip_n998, ip_lt900, iO0, iO1, iA2, iA3, iA4, iA5, iA6, iA7, iA8, iO9, iA10, iA11, iA12, iA13, iA14, iA15, iA16, iO17, iA18, iO19, iA20, iA21, iA22, iA23, iO24, iA25, iO26, iA27, iA28, iO29, iA30, iA31, iO32, iA33, iA34, iO35, iA36, iA37, iO38, iA39, iA40, iO41, iA42, iA43, iO44, iA45, iA46, iA47, iA48, iA49, iA50, iA51, iA52, iA53, iO54, iA55, iO56, iA57, iO58, iA59, iO60, iA61, iO62, iA63, iA64, iA65, iA66, iA67, iA68, iA69, iA70, iA71, iA72, iA73, iA74, iA75, iA76, iA77, iA78, iOT, iAT1, iAT2, iOS, iAS, rm1 hM, rm2 hM, rm5 hM, rm8 hM, rm9 hM, rm10 hM, rm12 hM, rm28 hM, rm32 hM, rm35 hM, rm36 hM, rm37 hM, rm41 hM, rm42 hM, rm43 hM, rm44 hM, p128r, k_n1, k_n0, k_n2, e]
theorem qx122 {o k : Int} (ho : -2147483648 ≤ o ∧ o < 2147483648) (hk : -2147483648 ≤ k ∧ k < 2147483648) (F : m_frX S R) (hM : x_RM R) : x_ok1 S R L 122 [vi o, vi k] (vi (if 0 ≤ k ∧ k < 6 then -11 else -2)) := by
  obtain ⟨hX, f17, f97, f02, f80, f81, f2, f3, f174, f194, f20, f21, f23, fs⟩ := F
  refine ⟨S, R, fun _ _ => rfl, hM, fun Q => ?_⟩
  have h := p122n (Q := Q) (L := L) ho hk ⟨hX, f17, f97, f02, f80, f81, f2, f3, f174, f194, f20, f21, f23, fs⟩
  by_cases c : 0 ≤ k ∧ k < 6
  · rw [if_pos c] at h ⊢
    exact h
  · rw [if_neg c] at h ⊢
    exact h
theorem qm231 {o k : Int} (ho : -2147483648 ≤ o ∧ o < 2147483648) (hk : -2147483648 ≤ k ∧ k < 2147483648) (F : m_frM S R) : m_ok1 S R L 231 [vi o, vi k] (vi (if 0 ≤ k ∧ k < 6 then -11 else -2)) := by
  obtain ⟨hM, g7, g38, g3, g4, g6, g11, g66, g69, g68, g75, g76, g77⟩ := F
  refine ⟨S, rfl, fun Q => ?_⟩
  have h := p231n (Q := Q) (L := L) ho hk ⟨hM, g7, g38, g3, g4, g6, g11, g66, g69, g68, g75, g76, g77⟩
  by_cases c : 0 ≤ k ∧ k < 6
  · rw [if_pos c] at h ⊢
    exact h
  · rw [if_neg c] at h ⊢
    exact h
end NEW
