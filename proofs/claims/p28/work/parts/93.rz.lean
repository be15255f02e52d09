/-! a RIDE, told from nothing that stood before; the calls of it -/
def w_rz (W : w_T) (f b a : Int) : w_R := w_ride W f b a (fun _ => 0)
theorem w_rdc {W : w_T} {f b : Int} : ∀ (k : Nat) (a s mi bf : Int) (pl pl' : Int → Int), (∀ i, 0 ≤ i → i ≤ s → pl i = pl' i) →
    (w_rd W f b k a s mi bf pl).1 = (w_rd W f b k a s mi bf pl').1 ∧ (w_rd W f b k a s mi bf pl).2.1 = (w_rd W f b k a s mi bf pl').2.1 ∧ (w_rd W f b k a s mi bf pl).2.2.1 = (w_rd W f b k a s mi bf pl').2.2.1 ∧ (w_rd W f b k a s mi bf pl).2.2.2.1 = (w_rd W f b k a s mi bf pl').2.2.2.1 ∧
    ∀ i, 0 ≤ i → i ≤ (w_rd W f b k a s mi bf pl').2.1 → (w_rd W f b k a s mi bf pl).2.2.2.2 i = (w_rd W f b k a s mi bf pl').2.2.2.2 i
  | 0, a, s, mi, bf, pl, pl', h => ⟨rfl, rfl, rfl, rfl, h⟩
  | k + 1, a, s, mi, bf, pl, pl', h => by
    unfold w_rd
    by_cases c : w_ov W f b a s = true
    · rw [if_pos c, if_pos c]
      exact ⟨rfl, rfl, rfl, rfl, h⟩
    · rw [if_neg c, if_neg c]
      refine w_rdc k _ _ _ _ _ _ (fun i h0 h1 => ?_)
      unfold ip_u
      split
      · rfl
      · exact h i h0 (by omega)
theorem w_rzc {W : w_T} {f b a : Int} {pl : Int → Int} : (w_ride W f b a pl).1 = (w_rz W f b a).1 ∧ (w_ride W f b a pl).2.1 = (w_rz W f b a).2.1 ∧ (w_ride W f b a pl).2.2.1 = (w_rz W f b a).2.2.1 ∧ (w_ride W f b a pl).2.2.2.1 = (w_rz W f b a).2.2.2.1 ∧ ∀ i, 0 ≤ i → i ≤ (w_rz W f b a).2.1 → (w_ride W f b a pl).2.2.2.2 i = (w_rz W f b a).2.2.2.2 i :=
  w_rdc 40 a 0 0 0 _ _ (fun i h0 h1 => by
    have : i = 0 := by omega
    subst this
    rw [ip_u_at, ip_u_at])
theorem w_rzr {W : w_T} {f b a : Int} (hr : ∀ k, 0 ≤ k → k < 64 → 0 ≤ w_ro W k ∧ w_ro W k ≤ 99) (ha : 0 ≤ a ∧ a < 8) : (0 ≤ (w_rz W f b a).1 ∧ (w_rz W f b a).1 < 8) ∧ (0 ≤ (w_rz W f b a).2.1 ∧ (w_rz W f b a).2.1 ≤ 40) ∧ (0 ≤ (w_rz W f b a).2.2.1 ∧ (w_rz W f b a).2.2.1 ≤ 3960) ∧ (0 ≤ (w_rz W f b a).2.2.2.1 ∧ (w_rz W f b a).2.2.2.1 ≤ 40) ∧ (∀ i, 0 ≤ i → i ≤ (w_rz W f b a).2.1 → 0 ≤ (w_rz W f b a).2.2.2.2 i ∧ (w_rz W f b a).2.2.2.2 i < 8) ∧ (w_rz W f b a).2.2.2.2 (w_rz W f b a).2.1 = (w_rz W f b a).1 := by
  have h := w_rdr (W := W) (f := f) (b := b) hr 40 a 0 0 0 (ip_u (fun _ => 0) 0 a) _ (by omega) (by omega) ha (by omega) (by omega) (fun i h0 h1 => by
    have : i = 0 := by omega
    subst this
    rw [ip_u_at]
    exact ha) rfl
  have e := w_rda (W := W) (f := f) (b := b) 40 a 0 0 0 (ip_u (fun _ => 0) 0 a) (ip_u_at _ _ _)
  obtain ⟨h1, h2, h3, h4, h5⟩ := h
  exact ⟨h1, h2, ⟨h3.1, by have := h3.2; show (w_rd W f b 40 a 0 0 0 (ip_u (fun _ => 0) 0 a)).2.2.1 ≤ 3960; omega⟩, ⟨h4.1, by have := h4.2; show (w_rd W f b 40 a 0 0 0 (ip_u (fun _ => 0) 0 a)).2.2.2.1 ≤ 40; omega⟩, h5, e⟩
def x_ez (S : ip_S) (q : w_R) : Prop := S 44 8 = q.1 ∧ S 44 9 = q.2.1 ∧ S 44 10 = q.2.2.1 ∧ S 44 11 = q.2.2.2.1 ∧ ∀ i, 0 ≤ i → i ≤ q.2.1 → S 48 i = q.2.2.2.2 i
def y_ez (S : ip_S) (q : w_R) : Prop := S 62 29 = q.2.1 ∧ S 62 30 = q.2.2.1 ∧ S 62 31 = q.2.2.2.1 ∧ ∀ i, 0 ≤ i → i ≤ q.2.1 → S 70 i = q.2.2.2.2 i
theorem w_psc {pl pl' : Int → Int} : ∀ (k : Nat) (i z : Int), (∀ q, i ≤ q → q < i + k → pl q = pl' q) → w_ps pl k i z = w_ps pl' k i z
  | 0, _, _, _ => rfl
  | k + 1, i, z, h => by
    unfold w_ps
    rw [h i (Int.le_refl _) (by omega), w_psc k (i + 1) _ (fun q h0 h1 => h q (by omega) (by omega))]
theorem ip_or8 : ∀ x : Nat, x < 256 → ∀ t : Nat, t < 8 → 0 ≤ ip_or x (ip_shl 1 t) ∧ ip_or x (ip_shl 1 t) < 256 := by decide +kernel
theorem w_psr {pl : Int → Int} : ∀ (k : Nat) (i z : Int), (∀ q, i ≤ q → q < i + k → 0 ≤ pl q ∧ pl q < 8) → 0 ≤ z ∧ z < 256 → 0 ≤ w_ps pl k i z ∧ w_ps pl k i z < 256
  | 0, _, _, _, h => h
  | k + 1, i, z, h, hz => by
    unfold w_ps
    have hi := h i (Int.le_refl _) (by omega)
    have h8 := ip_or8 z.toNat (by omega) (pl i).toNat (by omega)
    rw [Int.toNat_of_nonneg hz.1, Int.toNat_of_nonneg hi.1] at h8
    exact w_psr k (i + 1) _ (fun q h0 h1 => h q (by omega) (by omega)) h8
/-- how many bits -/
def k_bc (v : Int) : Int :=
  let a := v - ip_and (ip_ush v 1) 1431655765
  let b := ip_and a 858993459 + ip_and (ip_ush a 2) 858993459
  let c := ip_and (b + ip_ush b 4) 252645135
  let e := c + ip_ush c 8
  let g := e + ip_ush e 16
  ip_and g 63
def y_bo : Nat → Int → Int → Int
  | 0, _, n => n
  | k + 1, v, n => if v = 0 then n else y_bo k (ip_and v (v - 1)) (n + 1)
theorem k_bcy : ∀ v : Nat, v < 256 → k_bc v = y_bo 9 v 0 ∧ (0 ≤ k_bc v ∧ k_bc v ≤ 8) := by decide +kernel
theorem y_bos : ∀ v : Nat, v < 256 → 0 ≤ ip_and v ((v : Int) - 1) ∧ ip_and v ((v : Int) - 1) ≤ v := by decide +kernel
def y_it : Nat → Int → Int
  | 0, v => v
  | k + 1, v => y_it k (ip_and v (v - 1))
theorem y_itz : ∀ v : Nat, v < 256 → y_it 8 v = 0 := by decide +kernel
section RZX
variable {d : Nat} {S : ip_S} {R : ip_R} {L : ip_S}
theorem x75 {f b a : Int} (hX : x_RX R) (hJ : x_J S) (hf : 0 ≤ f ∧ f < 6) (hb : 0 ≤ b ∧ b < 6) (ha : 0 ≤ a ∧ a < 8) :
    ∃ S', x_fr S S' ∧ x_ez S' (w_rz (w_X S) f b a) ∧ ∀ Q, ip_wc (d + 5) 75 [.ref 44, vi f, vi b, vi a] 79 S R L Q = Q (some (vi (w_rz (w_X S) f b a).2.2.1)) 79 S' R L := by
  obtain ⟨S', h1, h2, h3⟩ := p75 (d := d) (L := L) hX hJ hf hb ha
  obtain ⟨c1, c2, c3, c4, c5⟩ := w_rzc (W := w_X S) (f := f) (b := b) (a := a) (pl := S 48)
  refine ⟨S', h1, ⟨h2.1.trans c1, h2.2.1.trans c2, h2.2.2.1.trans c3, h2.2.2.2.1.trans c4, fun i h0 h1 => by rw [h2.2.2.2.2]; exact c5 i h0 h1⟩, fun Q => by rw [h3 Q, c3]⟩
theorem y198z {W : w_T} {m f b a : Int} (hM : x_RM R) (hW : w_ok W) (hR : y_R W m S) (hG : w_gd W) (hf : 0 ≤ f ∧ f < m) (hb : 0 ≤ b ∧ b < m) (ha : 0 ≤ a ∧ a < 8) :
    ∃ S' w', y_g S S' ∧ y_ez S' (w_rz W f b a) ∧ ∀ Q, ip_wc (d + 48) 198 [.ref 62, vi f, vi b, vi a] 79 S R L Q = Q none 79 S' R (ip_up L 62 24 w') := by
  obtain ⟨S', w', h1, h2, h3⟩ := y198 (d := d) (L := L) hM hW hR hG hf hb ha
  obtain ⟨c1, c2, c3, c4, c5⟩ := w_rzc (W := W) (f := f) (b := b) (a := a) (pl := S 70)
  exact ⟨S', w', h1, ⟨h2.1.trans c2, h2.2.1.trans c3, h2.2.2.1.trans c4, fun i h0 h1 => by rw [h2.2.2.2]; exact c5 i h0 h1⟩, h3⟩
theorem p79 {n : Nat} {v : Int} (hv : 0 ≤ v ∧ v < 256) {Q} : ip_wc (d + 1) 79 [vi v] n S R L Q = Q (some (vi (k_bc v))) n S R L := by
  have e : ∀ z, vi (ip_w z) = vi z := fun z => ip_viw
  unfold k_bc
  simp only [c79, s79_0, s79_1, s79_2, s79_3, s79_4, s79_5, s79_6, s79_7, s79_8, s79_9, s79_10, s79_11, s79_12, s79_13, s79_14, s79_15, s79_16, s79_17, s79_18, s79_19, s79_20, s79_21, s79_22, s79_23, s79_24, s79_25, s79_26, s79_27, s79_28, s79_29, s79_30, s79_31, s79_32, s79_33, s79_34, s79_35, s79_36, s79_37, s79_38, s79_39, s79_40, s79_41, ↓reduceIte, Bool.true_eq_false, Bool.false_eq_true, ip_rfS, true_or, or_true, true_and, and_true, Option.toList_some, Option.toList_none, List.cons_append, List.nil_append, ip_fxn, ip_fxi, ip_fxr, ip_fxl, ip_wid, ip_n998, ip_lt900]
theorem p202l {n : Nat} {l0 : Int} {Q} : ∀ (k : Nat) (v z : Int), y_it k v = 0 → 0 ≤ v → v < 256 → ip_wp d 202 4 [some (vi l0), some (vi z), some (vi v)] [] n S R L Q = Q (some (vi (y_bo (k + 1) v z))) n S R L
  | 0, v, z, hv, h0, h2 => by
    have e : v = 0 := hv
    subst e
    rw [s202_4]
    simp (disch := omega) only [s202_0, s202_1, s202_2, s202_3, s202_5, s202_6, s202_7, s202_8, s202_9, s202_10, s202_11, s202_12, s202_13, s202_14, s202_15, ↓reduceIte, Bool.true_eq_false, Bool.false_eq_true, ip_rfS, true_or, or_true, true_and, and_true, Option.toList_some, Option.toList_none, List.cons_append, List.nil_append, ip_fxn, ip_fxi, ip_fxr, ip_fxl, ip_wid, ip_n998, ip_lt900, y_bo, if_true]
  | k + 1, v, z, hv, h0, h2 => by
    by_cases c : v = 0
    · subst c
      rw [s202_4]
      simp (disch := omega) only [s202_0, s202_1, s202_2, s202_3, s202_5, s202_6, s202_7, s202_8, s202_9, s202_10, s202_11, s202_12, s202_13, s202_14, s202_15, ↓reduceIte, Bool.true_eq_false, Bool.false_eq_true, ip_rfS, true_or, or_true, true_and, and_true, Option.toList_some, Option.toList_none, List.cons_append, List.nil_append, ip_fxn, ip_fxi, ip_fxr, ip_fxl, ip_wid, ip_n998, ip_lt900, y_bo, if_true]
    · have hs := y_bos v.toNat (by omega)
      rw [Int.toNat_of_nonneg h0] at hs
      have ih := p202l (n := n) (l0 := l0) (Q := Q) k (ip_and v (v - 1)) (z + 1) hv hs.1 (by omega)
      rw [s202_4, y_bo, if_neg c, ← ih]
      simp (disch := omega) only [s202_0, s202_1, s202_2, s202_3, s202_5, s202_6, s202_7, s202_8, s202_9, s202_10, s202_11, s202_12, s202_13, s202_14, s202_15, ↓reduceIte, Bool.true_eq_false, Bool.false_eq_true, ip_rfS, true_or, or_true, true_and, and_true, Option.toList_some, Option.toList_none, List.cons_append, List.nil_append, ip_fxn, ip_fxi, ip_fxr, ip_fxl, ip_wid, ip_n998, ip_lt900, c]
theorem p202 {n : Nat} {v : Int} (hv : 0 ≤ v ∧ v < 256) {Q} : ip_wc (d + 1) 202 [vi v] n S R L Q = Q (some (vi (k_bc v))) n S R L := by
  have h1 := y_itz v.toNat (by omega)
  have h2 := k_bcy v.toNat (by omega)
  rw [Int.toNat_of_nonneg hv.1] at h1 h2
  have h := p202l (d := d) (n := n) (S := S) (R := R) (L := L) (l0 := v) (Q := Q) 8 v 0 h1 hv.1 hv.2
  rw [← h2.1] at h
  simp (disch := omega) only [c202, s202_0, s202_1, s202_2, s202_3, ↓reduceIte, Bool.true_eq_false, Bool.false_eq_true, ip_rfS, true_or, or_true, true_and, and_true, Option.toList_some, Option.toList_none, List.cons_append, List.nil_append, ip_fxn, ip_fxi, ip_fxr, ip_fxl, ip_wid, ip_n998, ip_lt900, h]
end RZX
