/-! the TOKENS of the class are those of the reference -/
def y_E (b : Int → Int) (sz p : Int) : Int := k_end b sz (k_le (b p)) (k_di (b p)) (sz - p).toNat (p + 1)
def y_tk (b : Int → Int) (sz : Int) (T P N : Int → Int) (j : Int) : Prop := 0 ≤ P j ∧ P j < sz ∧ T j = k_tok b (P j) (y_E b sz (P j)) ∧ N j = (if T j = 20 then ip_w (k_num b (y_E b sz (P j) - P j).toNat (P j) 0) else 0)
def y_Tok (b : Int → Int) (sz : Int) (T P N : Int → Int) (la : Int) : Prop := P 0 = y_sk b sz.toNat 0 ∧ (0 ≤ la ∧ la ≤ sz) ∧ (∀ j, 0 ≤ j → j < la → y_tk b sz T P N j ∧ P (j + 1) = y_sk b (sz - y_E b sz (P j)).toNat (y_E b sz (P j))) ∧ T la = -1 ∧ P la = sz
section TOK
variable {b : Int → Int} {sz : Int}
theorem y_Er {p : Int} (h : p < sz) : p < y_E b sz p ∧ y_E b sz p ≤ sz := by
  have := k_end_r (b := b) (sz := sz) (w := k_le (b p)) (u := k_di (b p)) (sz - p).toNat (p + 1) (by omega)
  unfold y_E
  omega
theorem k_spl_t : ∀ (f : Nat) (i nx l : Int) (t p q : Int → Int) (r : Int × (Int → Int) × (Int → Int) × (Int → Int)), sz - i = f → 0 ≤ i → 0 ≤ nx → nx ≤ sz → 0 ≤ l → r = k_spl b sz f i nx l t p q →
    (l ≤ r.1 ∧ r.1 ≤ l + f) ∧ (∀ j, j < l → r.2.1 j = t j ∧ r.2.2.1 j = p j ∧ r.2.2.2 j = q j) ∧ r.2.2.1 l = y_sk b (sz - (if i < nx then nx else i)).toNat (if i < nx then nx else i) ∧
    (∀ j, l ≤ j → j < r.1 → y_tk b sz r.2.1 r.2.2.1 r.2.2.2 j ∧ r.2.2.1 (j + 1) = y_sk b (sz - y_E b sz (r.2.2.1 j)).toNat (y_E b sz (r.2.2.1 j))) ∧ r.2.1 r.1 = -1 ∧ r.2.2.1 r.1 = sz
  | 0, i, nx, l, t, p, q, r, h, hi, hn, hn2, hl, hr => by
    subst hr
    unfold k_spl
    refine ⟨⟨Int.le_refl _, by dsimp only; omega⟩, fun j hj => ⟨ip_u_ne _ _ (by omega), ip_u_ne _ _ (by omega), rfl⟩, ?_, fun j h1 h2 => ?_, ip_u_at _ _ _, ip_u_at _ _ _⟩
    · show ip_u p l sz l = _
      rw [ip_u_at, if_neg (by omega), show (sz - i).toNat = 0 by omega]
      unfold y_sk
      omega
    · dsimp only at h2; omega
  | f + 1, i, nx, l, t, p, q, r, h, hi, hn, hn2, hl, hr => by
    rw [k_spl] at hr
    by_cases c : nx ≤ i ∧ k_bl (b i) = false
    · rw [if_pos c] at hr
      have hE : k_end b sz (k_le (b i)) (k_di (b i)) (sz - i).toNat (i + 1) = y_E b sz i := rfl
      rw [hE] at hr
      have hEr := y_Er (b := b) (sz := sz) (p := i) (by omega)
      obtain ⟨a1, a2, a3, a4, a5, a6⟩ := k_spl_t f (i + 1) (y_E b sz i) (l + 1) _ _ _ r (by omega) (by omega) (by omega) (by omega) (by omega) hr
      obtain ⟨b1, b2, b3⟩ := a2 l (by omega)
      rw [ip_u_at] at b1 b2 b3
      have hmax : (if i + 1 < y_E b sz i then y_E b sz i else i + 1) = y_E b sz i := by split <;> omega
      rw [hmax] at a3
      refine ⟨⟨by omega, by omega⟩, fun j hj => ?_, ?_, fun j h1 h2 => ?_, a5, a6⟩
      · obtain ⟨c1, c2, c3⟩ := a2 j (by omega)
        rw [c1, c2, c3, ip_u_ne _ _ (by omega), ip_u_ne _ _ (by omega), ip_u_ne _ _ (by omega)]
        exact ⟨rfl, rfl, rfl⟩
      · rw [b2, if_neg (by omega)]
        obtain ⟨g, hg⟩ : ∃ g, (sz - i).toNat = g + 1 := ⟨(sz - i).toNat - 1, by omega⟩
        rw [hg, y_sk, if_neg (by rw [c.2]; decide)]
      · by_cases e : j = l
        · subst e
          rw [b2]
          refine ⟨⟨by rw [b2]; exact hi, by rw [b2]; omega, by rw [b2]; exact b1, ?_⟩, a3⟩
          rw [b3, b2, b1]
        · exact a4 j (by omega) h2
    · rw [if_neg c] at hr
      obtain ⟨a1, a2, a3, a4, a5, a6⟩ := k_spl_t f (i + 1) nx l t p q r (by omega) (by omega) hn hn2 hl hr
      refine ⟨⟨by omega, by omega⟩, a2, ?_, a4, a5, a6⟩
      rw [a3]
      by_cases c1 : i < nx
      · rw [if_pos c1]
        by_cases c2 : i + 1 < nx
        · rw [if_pos c2]
        · rw [if_neg c2, show nx = i + 1 by omega]
      · have c3 : k_bl (b i) = true := by
          cases hb : k_bl (b i)
          · exact absurd ⟨by omega, hb⟩ c
          · rfl
        rw [if_neg c1, if_neg (by omega)]
        obtain ⟨g, hg⟩ : ∃ g, (sz - i).toNat = g + 1 := ⟨(sz - i).toNat - 1, by omega⟩
        rw [hg, y_sk, if_pos c3, show (sz - (i + 1)).toNat = g by omega]
theorem y_TokS (h0 : 0 ≤ sz) {t p q : Int → Int} : y_Tok b sz (k_split b sz t p q).2.1 (k_split b sz t p q).2.2.1 (k_split b sz t p q).2.2.2 (k_split b sz t p q).1 := by
  obtain ⟨a1, a2, a3, a4, a5, a6⟩ := k_spl_t (b := b) (sz := sz) sz.toNat 0 0 0 t p q _ (by omega) (by omega) (by omega) h0 (by omega) rfl
  rw [if_neg (by omega), Int.sub_zero] at a3
  exact ⟨a3, ⟨a1.1, by have := a1.2; unfold k_split; omega⟩, a4, a5, a6⟩
/-! words -/
def y_il (b : Int → Int) (sz a h i c : Int) : Bool := if a + i < h then decide (y_b b sz (a + i) = c) else decide (c = 0)
def y_ls (b : Int → Int) (sz a h : Int) : Int → List Int → Bool
  | _, [] => true
  | i, c :: r => y_il b sz a h i c && y_ls b sz a h (i + 1) r
theorem y_lsz {a h : Int} : ∀ (m : Nat) (i : Int), h ≤ a + i → y_ls b sz a h i (List.replicate m 0) = true
  | 0, _, _ => rfl
  | m + 1, i, hi => by
    rw [List.replicate_succ, y_ls, y_il, if_neg (by omega), y_lsz m (i + 1) (by omega)]
    rfl
theorem y_lsk {p e : Int} {t : List Int} {m : Nat} (he : e ≤ sz) (hl : ∀ i, p ≤ i → i < e → b i ≠ 0) : ∀ (r : List Int) (i : Nat), (∀ x ∈ r, x ≠ 0) → p + i ≤ e → (∀ q, q < r.length → t.getD (i + q) 0 = r.getD q 0) →
    y_ls b sz p e i (r ++ List.replicate (m + 1) 0) = (decide ((r.length : Int) = e - p - i) && k_sp b t p (e - p - i).toNat (p + i))
  | [], i, hr, hi, ht => by
    by_cases c : p + i = e
    · rw [List.nil_append, y_lsz _ _ (by omega), show (e - p - i).toNat = 0 by omega, decide_eq_true (by simp; omega)]
      rfl
    · rw [List.nil_append, List.replicate_succ, y_ls, y_il, if_pos (by omega), y_b, if_pos (by omega), decide_eq_false (hl _ (by omega) (by omega)), decide_eq_false (by simp; omega)]
      rfl
  | x :: r, i, hr, hi, ht => by
    have h0 := ht 0 (by simp)
    rw [Nat.add_zero, List.getD_cons_zero] at h0
    by_cases c : p + i = e
    · rw [List.cons_append, y_ls, y_il, if_neg (by omega), decide_eq_false (hr x List.mem_cons_self), decide_eq_false (by simp only [List.length_cons]; omega)]
      rfl
    · have ih := y_lsk (p := p) (e := e) (t := t) (m := m) he hl r (i + 1) (fun y hy => hr y (List.mem_cons_of_mem _ hy)) (by omega) (fun q hq => by
        have := ht (q + 1) (by simp only [List.length_cons]; omega)
        rw [List.getD_cons_succ] at this
        rw [← this, show i + 1 + q = i + (q + 1) by omega])
      obtain ⟨g, hg⟩ : ∃ g, (e - p - i).toNat = g + 1 := ⟨(e - p - i).toNat - 1, by omega⟩
      rw [List.cons_append, y_ls, y_il, if_pos (by omega), y_b, if_pos (by omega), show (i : Int) + 1 = ((i + 1 : Nat) : Int) from rfl, ih, hg, k_sp, show (p + (i : Int) - p).toNat = i by omega, h0, show (e - p - ((i + 1 : Nat) : Int)).toNat = g by omega, show p + ((i + 1 : Nat) : Int) = p + i + 1 by omega]
      have e1 : decide (((x :: r).length : Int) = e - p - i) = decide ((r.length : Int) = e - p - ((i + 1 : Nat) : Int)) := by
        simp only [List.length_cons]
        by_cases z : (r.length : Int) = e - p - ((i + 1 : Nat) : Int)
        · rw [decide_eq_true z, decide_eq_true (by omega)]
        · rw [decide_eq_false z, decide_eq_false (by omega)]
      rw [e1]
      cases decide (b (p + i) = x) <;> cases decide ((r.length : Int) = e - p - ((i + 1 : Nat) : Int)) <;> simp
theorem k_spv {t : List Int} {p : Int} : ∀ (f : Nat) (i : Int), k_sp b t p f i = true → ∀ q, i ≤ q → q < i + f → b q = t.getD (q - p).toNat 0
  | 0, i, _, q, h1, h2 => by omega
  | f + 1, i, h, q, h1, h2 => by
    rw [k_sp, Bool.and_eq_true] at h
    by_cases c : q = i
    · subst c; exact of_decide_eq_true h.1
    · exact k_spv f (i + 1) h.2 q (by omega) (by omega)
theorem k_un : ∀ k, k < 12 → ∀ k', k' < 12 → k ≠ k' → (ip_tx (k + 1)).length ≠ (ip_tx (k' + 1)).length ∨ ∃ i, i < (ip_tx (k + 1)).length ∧ (ip_tx (k + 1)).getD i 0 ≠ (ip_tx (k' + 1)).getD i 0 := by decide +kernel
theorem k_spu {p e : Int} {k k' : Nat} (hk : k < 12) (hk' : k' < 12) (h : k_spd b p e (k + 1) = true) (h' : k_spd b p e (k' + 1) = true) : k = k' := by
  unfold k_spd at h h'
  rw [Bool.and_eq_true] at h h'
  have l1 := of_decide_eq_true h.1
  have l2 := of_decide_eq_true h'.1
  by_cases c : k = k'
  · exact c
  · exfalso
    rcases k_un k hk k' hk' c with z | ⟨i, z1, z2⟩
    · omega
    · have u1 := k_spv _ _ h.2 (p + i) (by omega) (by omega)
      have u2 := k_spv _ _ h'.2 (p + i) (by omega) (by omega)
      rw [show (p + (i : Int) - p).toNat = i by omega] at u1 u2
      exact z2 (u1.symm.trans u2)
theorem k_wordn {p e : Int} : ∀ (f w : Nat), k_word b p e f w = -2 ∨ (w : Int) ≤ k_word b p e f w
  | 0, w => Or.inl rfl
  | f + 1, w => by
    rw [k_word]
    split
    · exact Or.inr (Int.le_refl _)
    · rcases k_wordn f (w + 1) with h | h
      · exact Or.inl h
      · exact Or.inr (by omega)
theorem k_wordk {p e : Int} : ∀ (f w : Nat), w + f = 12 → ∀ k, w ≤ k → k < 12 → decide (k_word b p e f w = (k : Int)) = k_spd b p e (k + 1)
  | 0, w, h, k, h1, h2 => by omega
  | f + 1, w, h, k, h1, h2 => by
    rw [k_word]
    by_cases c : k_spd b p e (w + 1) = true
    · rw [if_pos c]
      by_cases c2 : w = k
      · subst c2; rw [c, decide_eq_true rfl]
      · rw [decide_eq_false (by omega)]
        cases hq : k_spd b p e (k + 1)
        · rfl
        · exact absurd (k_spu (by omega) h2 c hq) c2
    · rw [if_neg c]
      by_cases c2 : w = k
      · subst c2
        have hr := k_word_r (b := b) (p := p) (e := e) f (w + 1)
        have hn : ¬ k_word b p e f (w + 1) = (w : Int) := fun z => by
          have := k_wordn (b := b) (p := p) (e := e) f (w + 1)
          omega
        rw [decide_eq_false hn]
        cases hq : k_spd b p e (w + 1)
        · rfl
        · exact absurd hq c
      · exact k_wordk f (w + 1) (by omega) k (by omega) h2
/-- the letters of a word, eight of them -/
def y_W8 (k : Nat) : List Int := (ip_tx (k + 1)) ++ List.replicate (8 - (ip_tx (k + 1)).length) 0
theorem y_W8n : ∀ k, k < 12 → ((∀ x ∈ ip_tx (k + 1), x ≠ 0) ∧ (ip_tx (k + 1)).length ≤ 7) := by decide +kernel
theorem y_lsW {p e : Int} (he : e ≤ sz) (hp : p ≤ e) (hl : ∀ i, p ≤ i → i < e → b i ≠ 0) {k : Nat} (hk : k < 12) : (decide (e ≤ p + 8) && y_ls b sz p e 0 (y_W8 k)) = decide (k_word b p e 12 0 = (k : Int)) := by
  have h1 := y_W8n k hk
  have h2 := y_lsk (b := b) (sz := sz) (p := p) (e := e) (t := ip_tx (k + 1)) (m := 7 - (ip_tx (k + 1)).length) he hl (ip_tx (k + 1)) 0 h1.1 (by omega) (fun q _ => by rw [Nat.zero_add])
  rw [show 7 - (ip_tx (k + 1)).length + 1 = 8 - (ip_tx (k + 1)).length by omega] at h2
  have e0 : ((0 : Nat) : Int) = 0 := rfl
  rw [e0, Int.sub_zero, Int.add_zero] at h2
  rw [k_wordk 12 0 rfl k (by omega) hk]
  unfold y_W8
  rw [h2]
  unfold k_spd
  by_cases c : e ≤ p + 8
  · rw [decide_eq_true c, Bool.true_and]
  · rw [decide_eq_false c, Bool.false_and, decide_eq_false (by omega)]
    rfl
end TOK
