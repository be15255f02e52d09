/-! least miles: where there is a way, a ROAD begins it -/
def f_mn (f : Int → Int) (y k : Int) : Int := if f (k / 8 * 8 + y) + f (y * 8 + k % 8) < f k then f (k / 8 * 8 + y) + f (y * 8 + k % 8) else f k
theorem f_l1 {r : Int → Int} : ∀ (n : Nat) (i : Int) (g : Int → Int), i + n = 64 → 0 ≤ i → (∀ k, 0 ≤ k → k < i → g k = m_ini r k) → ∀ k, 0 ≤ k → k < 64 → m_l1 r n i g k = m_ini r k
  | 0, i, g, h, hi, hg, k, h0, h1 => hg k h0 (by omega)
  | n + 1, i, g, h, hi, hg, k, h0, h1 => by
    rw [m_l1]
    refine f_l1 n (i + 1) _ (by omega) (by omega) (fun q a1 a2 => ?_) k h0 h1
    by_cases e : q = i
    · subst e; exact ip_u_at _ _ _
    · rw [ip_u_ne _ _ e]; exact hg q a1 (by omega)
theorem f_l2 {f : Int → Int} {y : Int} (hy : 0 ≤ y ∧ y < 8) (hf : ∀ k, 0 ≤ k → k < 64 → 0 ≤ f k ∧ f k ≤ 999) (h0 : f (y * 8 + y) = 0) : ∀ (n : Nat) (i : Int) (g : Int → Int), i + n = 64 → 0 ≤ i → (∀ k, 0 ≤ k → k < i → g k = f_mn f y k) → (∀ k, i ≤ k → k < 64 → g k = f k) → ∀ k, 0 ≤ k → k < 64 → m_l2 y n i g k = f_mn f y k
  | 0, i, g, h, hi, hg, hg2, k, h1, h2 => hg k h1 (by omega)
  | n + 1, i, g, h, hi, hg, hg2, k, h1, h2 => by
    rw [m_l2]
    have ea : g (i / 8 * 8 + y) = f (i / 8 * 8 + y) := by
      by_cases c : i / 8 * 8 + y < i
      · rw [hg _ (by omega) c]
        unfold f_mn
        rw [show (i / 8 * 8 + y) / 8 * 8 + y = i / 8 * 8 + y by omega, show (i / 8 * 8 + y) % 8 = y by omega, h0, if_neg (by omega)]
      · exact hg2 _ (by omega) (by omega)
    have eb : g (y * 8 + i % 8) = f (y * 8 + i % 8) := by
      by_cases c : y * 8 + i % 8 < i
      · rw [hg _ (by omega) c]
        unfold f_mn
        rw [show (y * 8 + i % 8) / 8 * 8 + y = y * 8 + y by omega, show (y * 8 + i % 8) % 8 = i % 8 by omega, h0, if_neg (by omega)]
      · exact hg2 _ (by omega) (by omega)
    have ei : g i = f i := hg2 i (Int.le_refl _) (by omega)
    have ra := hf (i / 8 * 8 + y) (by omega) (by omega)
    have rb := hf (y * 8 + i % 8) (by omega) (by omega)
    have ri := hf i hi (by omega)
    have er : m_rel g y i = f_mn f y i := by
      unfold m_rel f_mn
      rw [ea, eb, ei, ip_wid (z := f (i / 8 * 8 + y) + f (y * 8 + i % 8)) (by omega) (by omega), ip_wid (z := f i) (by omega) (by omega)]
      split <;> exact ip_wid (by omega) (by omega)
    rw [er]
    refine f_l2 hy hf h0 n (i + 1) _ (by omega) (by omega) (fun q a1 a2 => ?_) (fun q a1 a2 => ?_) k h1 h2
    · by_cases e : q = i
      · subst e; exact ip_u_at _ _ _
      · rw [ip_u_ne _ _ e]; exact hg q a1 (by omega)
    · rw [ip_u_ne _ _ (by omega)]; exact hg2 q (by omega) a2
def f_iv (r f : Int → Int) : Prop := (∀ k, 0 ≤ k → k < 64 → 0 ≤ f k ∧ f k ≤ 999) ∧ (∀ i, 0 ≤ i → i < 8 → f (i * 8 + i) = 0) ∧ (∀ i j, 0 ≤ i → i < 8 → 0 ≤ j → j < 8 → i ≠ j → f (i * 8 + j) < 999 → ∃ t, (0 ≤ t ∧ t < 8) ∧ 0 < r (i * 8 + t) ∧ r (i * 8 + t) + f (t * 8 + j) ≤ f (i * 8 + j))
theorem f_ivc {r f f' : Int → Int} (h : ∀ k, 0 ≤ k → k < 64 → f' k = f k) (hi : f_iv r f) : f_iv r f' := by
  obtain ⟨a, b, c⟩ := hi
  refine ⟨fun k h0 h1 => by rw [h k h0 h1]; exact a k h0 h1, fun i h0 h1 => by rw [h _ (by omega) (by omega)]; exact b i h0 h1, fun i j h0 h1 h2 h3 hne hl => ?_⟩
  rw [h _ (by omega) (by omega)] at hl
  obtain ⟨t, t1, t2, t3⟩ := c i j h0 h1 h2 h3 hne hl
  exact ⟨t, t1, t2, by rw [h _ (by omega) (by omega), h _ (by omega) (by omega)]; exact t3⟩
theorem f_ivm {r f : Int → Int} {y : Int} (hy : 0 ≤ y ∧ y < 8) (h : f_iv r f) : f_iv r (f_mn f y) := by
  obtain ⟨a, b, c⟩ := h
  have ey : ∀ i j, 0 ≤ i → i < 8 → 0 ≤ j → j < 8 → f_mn f y (i * 8 + j) = if f (i * 8 + y) + f (y * 8 + j) < f (i * 8 + j) then f (i * 8 + y) + f (y * 8 + j) else f (i * 8 + j) := fun i j h0 h1 h2 h3 => by
    unfold f_mn
    rw [show (i * 8 + j) / 8 * 8 + y = i * 8 + y by omega, show (i * 8 + j) % 8 = j by omega]
  have hle : ∀ i j, 0 ≤ i → i < 8 → 0 ≤ j → j < 8 → f_mn f y (i * 8 + j) ≤ f (i * 8 + j) ∧ f_mn f y (i * 8 + j) ≤ f (i * 8 + y) + f (y * 8 + j) := fun i j h0 h1 h2 h3 => by
    rw [ey i j h0 h1 h2 h3]
    split <;> omega
  refine ⟨fun k h0 h1 => ?_, fun i h0 h1 => ?_, fun i j h0 h1 h2 h3 hne hl => ?_⟩
  · have r1 := a k h0 h1
    have r2 := a (k / 8 * 8 + y) (by omega) (by omega)
    have r3 := a (y * 8 + k % 8) (by omega) (by omega)
    unfold f_mn
    split <;> omega
  · have r2 := a (i * 8 + y) (by omega) (by omega)
    have r3 := a (y * 8 + i) (by omega) (by omega)
    rw [ey i i h0 h1 h0 h1, b i h0 h1, if_neg (by omega)]
  · rw [ey i j h0 h1 h2 h3] at hl ⊢
    have r2 := a (i * 8 + y) (by omega) (by omega)
    have r3 := a (y * 8 + j) (by omega) (by omega)
    have r4 := a (i * 8 + j) (by omega) (by omega)
    by_cases c1 : f (i * 8 + y) + f (y * 8 + j) < f (i * 8 + j)
    · rw [if_pos c1] at hl ⊢
      have hiy : i ≠ y := fun e => by
        rw [e, b y hy.1 hy.2] at c1
        omega
      obtain ⟨t, t1, t2, t3⟩ := c i y h0 h1 hy.1 hy.2 hiy (by omega)
      have := (hle t j t1.1 t1.2 h2 h3).2
      exact ⟨t, t1, t2, by omega⟩
    · rw [if_neg c1] at hl ⊢
      obtain ⟨t, t1, t2, t3⟩ := c i j h0 h1 h2 h3 hne hl
      have := (hle t j t1.1 t1.2 h2 h3).1
      exact ⟨t, t1, t2, by omega⟩
theorem f_l3 {r : Int → Int} : ∀ (n : Nat) (y : Int) (f : Int → Int), y + n = 8 → 0 ≤ y → f_iv r f → f_iv r (m_l3 n y f)
  | 0, _, _, _, _, h => h
  | n + 1, y, f, h, hy, hf => by
    rw [m_l3]
    refine f_l3 n (y + 1) _ (by omega) (by omega) ?_
    refine f_ivc (f := f_mn f y) (fun k h0 h1 => ?_) (f_ivm ⟨hy, by omega⟩ hf)
    exact f_l2 ⟨hy, by omega⟩ hf.1 (hf.2.1 y hy (by omega)) 64 0 f (by omega) (by omega) (fun q a1 a2 => by omega) (fun _ _ _ => rfl) k h0 h1
theorem f_fw0 {r : Int → Int} (hr : ∀ k, 0 ≤ k → k < 64 → 0 ≤ r k ∧ r k ≤ 99) : f_iv r (m_ini r) := by
  have e : ∀ k, 0 ≤ k → k < 64 → m_ini r k = if k / 8 = k % 8 then 0 else if r k = 0 then 999 else r k := fun k h0 h1 => by
    have := hr k h0 h1
    unfold m_ini
    rw [ip_wid (z := r k) (by omega) (by omega)]
  refine ⟨fun k h0 h1 => ?_, fun i h0 h1 => ?_, fun i j h0 h1 h2 h3 hne hl => ?_⟩
  · have := hr k h0 h1
    rw [e k h0 h1]
    repeat' split
    all_goals omega
  · rw [e _ (by omega) (by omega), if_pos (by omega)]
  · rw [e _ (by omega) (by omega), if_neg (by omega)] at hl ⊢
    have := hr (i * 8 + j) (by omega) (by omega)
    by_cases c : r (i * 8 + j) = 0
    · rw [if_pos c] at hl; omega
    · rw [if_neg c]
      refine ⟨j, ⟨h2, h3⟩, by omega, ?_⟩
      rw [e _ (by omega) (by omega), if_pos (by omega)]
      omega
theorem f_fw {r f : Int → Int} (hr : ∀ k, 0 ≤ k → k < 64 → 0 ≤ r k ∧ r k ≤ 99) : f_iv r (m_fw r f) := by
  unfold m_fw
  refine f_l3 8 0 _ (by omega) (by omega) ?_
  refine f_ivc (f := m_ini r) (fun k h0 h1 => f_l1 64 0 f (by omega) (by omega) (fun q a1 a2 => by omega) k h0 h1) (f_fw0 hr)
/-- the least miles do not rest on what stood there -/
theorem f_fwc {r r' f f' : Int → Int} (hr : ∀ k, 0 ≤ k → k < 64 → 0 ≤ r k ∧ r k ≤ 99) (h : ∀ k, 0 ≤ k → k < 64 → r k = r' k) : ∀ k, 0 ≤ k → k < 64 → m_fw r f k = m_fw r' f' k := by
  have hini : ∀ k, 0 ≤ k → k < 64 → m_ini r k = m_ini r' k := fun k h0 h1 => by unfold m_ini; rw [h k h0 h1]
  have h3 : ∀ (n : Nat) (y : Int) (f f' : Int → Int), y + n = 8 → 0 ≤ y → f_iv r f → (∀ k, 0 ≤ k → k < 64 → f k = f' k) → ∀ k, 0 ≤ k → k < 64 → m_l3 n y f k = m_l3 n y f' k := by
    intro n
    induction n with
    | zero => intro y f f' _ _ _ hf k h0 h1; exact hf k h0 h1
    | succ n ih =>
      intro y f f' hn hy hiv hf k h0 h1
      rw [m_l3, m_l3]
      have hiv' : f_iv r f' := f_ivc (fun q a1 a2 => (hf q a1 a2).symm) hiv
      have g1 : ∀ k, 0 ≤ k → k < 64 → m_l2 y 64 0 f k = f_mn f y k := fun k h0 h1 => f_l2 ⟨hy, by omega⟩ hiv.1 (hiv.2.1 y hy (by omega)) 64 0 f (by omega) (by omega) (fun q a1 a2 => by omega) (fun _ _ _ => rfl) k h0 h1
      have g2 : ∀ k, 0 ≤ k → k < 64 → m_l2 y 64 0 f' k = f_mn f' y k := fun k h0 h1 => f_l2 ⟨hy, by omega⟩ hiv'.1 (hiv'.2.1 y hy (by omega)) 64 0 f' (by omega) (by omega) (fun q a1 a2 => by omega) (fun _ _ _ => rfl) k h0 h1
      have g3 : ∀ k, 0 ≤ k → k < 64 → f_mn f y k = f_mn f' y k := fun k h0 h1 => by
        unfold f_mn
        rw [hf k h0 h1, hf _ (by omega) (by omega), hf _ (by omega) (by omega)]
      exact ih (y + 1) _ _ (by omega) (by omega) (f_ivc g1 (f_ivm ⟨hy, by omega⟩ hiv)) (fun q a1 a2 => by rw [g1 q a1 a2, g2 q a1 a2, g3 q a1 a2]) k h0 h1
  intro k h0 h1
  unfold m_fw
  have a1 : ∀ k, 0 ≤ k → k < 64 → m_l1 r 64 0 f k = m_ini r k := fun k h0 h1 => f_l1 64 0 f (by omega) (by omega) (fun q a1 a2 => by omega) k h0 h1
  have a2 : ∀ k, 0 ≤ k → k < 64 → m_l1 r' 64 0 f' k = m_ini r' k := fun k h0 h1 => f_l1 64 0 f' (by omega) (by omega) (fun q a1 a2 => by omega) k h0 h1
  refine h3 8 0 _ _ (by omega) (by omega) ?_ (fun q b1 b2 => by rw [a1 q b1 b2, a2 q b1 b2, hini q b1 b2]) k h0 h1
  refine f_ivc a1 ?_
  have := f_fw0 (r := r) hr
  exact this
