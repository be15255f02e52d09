/-! a text taken: what the class writes, and the relation -/
theorem x_gd0 {o : List Int} {i : Nat} (h : ∀ v ∈ o, ip_w v = v) : ip_w (o.getD i 0) = o.getD i 0 := by
  show ip_w ((o[i]?).getD 0) = (o[i]?).getD 0
  cases e : o[i]? with
  | none => exact ip_w0
  | some v => exact h v (List.mem_of_getElem? e)
def x_wd (la : Int) (f : Int → x_PR) : Prop := ∀ j, 0 ≤ j → j ≤ la → ∀ v ∈ (f j).2.2, ip_w v = v
section WDT
variable {T N : Int → Int} {la : Int}
theorem x_wdl {op : Int → Bool} {code : Int → Int} {sub : Int → x_PR} (hT : T la = -1) (ho : op (-1) = false) (hl : x_ln la sub) (hs : x_wd la sub) (hc : ∀ k, ip_w (code k) = code k) : ∀ (f : Nat) (ft : Bool) (j : Int), 0 ≤ j → j ≤ la → ∀ v ∈ (x_loop T la op code sub f ft j).2.2, ip_w v = v
  | 0, ft, j, h0, h1, v, hv => by
    unfold x_loop at hv
    exact absurd hv (List.not_mem_nil)
  | f + 1, ft, j, h0, h1, v, hv => by
    unfold x_loop at hv
    by_cases c : (ft && op (T j)) = true
    · rw [if_pos c] at hv
      have hn : ¬ T j = -1 := fun e => by rw [e, ho, Bool.and_false] at c; cases c
      obtain ⟨a1, a2⟩ := x_advl hT hn h1
      rw [a2] at hv
      obtain ⟨⟨b1, b2⟩, b3⟩ := hl (j + 1) (by omega) (by omega)
      simp only [List.mem_append, List.mem_cons] at hv
      rcases hv with hv | hv | hv
      · exact hs (j + 1) (by omega) (by omega) v hv
      · rw [hv]
        exact hc _
      · exact x_wdl hT ho hl hs hc f _ _ (by omega) b2 v hv
    · rw [if_neg c] at hv
      exact absurd hv (List.not_mem_nil)
theorem x_wdr {op : Int → Bool} {code : Int → Int} {sub : Int → x_PR} (hT : T la = -1) (ho : op (-1) = false) (hl : x_ln la sub) (hs : x_wd la sub) (hc : ∀ k, ip_w (code k) = code k) : x_wd la (x_rep T la op code sub) := by
  intro j h0 h1 v hv
  obtain ⟨⟨b1, b2⟩, b3⟩ := hl j h0 h1
  unfold x_rep at hv
  simp only [List.mem_append] at hv
  rcases hv with hv | hv
  · exact hs j h0 h1 v hv
  · exact x_wdl hT ho hl hs hc 160 _ _ (by omega) b2 v hv
theorem x_wdE {nt : Int → x_PR} (hT : T la = -1) (hl : x_ln la nt) (hs : x_wd la nt) : x_wd la (x_E T la nt) := x_wdr hT rfl (x_lnr hT rfl hl) (x_wdr hT rfl hl hs (fun _ => ip_wid (by omega) (by omega))) (fun _ => ip_wid (by omega) (by omega))
theorem x_wdS {one : Int → x_PR} (hT : T la = -1) (hl : x_ln la one) (hs : x_wd la one) : x_wd la (x_sum T la one) := x_wdr hT rfl (x_lnr hT rfl hl) (x_wdr hT rfl hl hs (fun _ => ip_wid (by omega) (by omega))) (fun k => by unfold x_pmc; split <;> exact ip_wid (by omega) (by omega))
theorem x_wdc {one : Int → x_PR} (hT : T la = -1) (hl : x_ln la one) (hs : x_wd la one) : x_wd la (x_cmp T la one) := by
  intro j h0 h1 v hv
  obtain ⟨⟨b1, b2⟩, b3⟩ := x_lnS hT hl j h0 h1
  unfold x_cmp at hv
  by_cases c : ((x_sum T la one j).1 && decide (T (x_sum T la one j).2.1 = 60 ∨ T (x_sum T la one j).2.1 = 61)) = true
  · rw [if_pos c] at hv
    rw [Bool.and_eq_true] at c
    have c2 := of_decide_eq_true c.2
    obtain ⟨a1, a2⟩ := x_advl hT (j := (x_sum T la one j).2.1) (by omega) b2
    rw [a2] at hv
    simp only [List.mem_append, List.mem_singleton] at hv
    rcases hv with hv | hv | hv
    · exact x_wdS hT hl hs j h0 h1 v hv
    · exact x_wdS hT hl hs _ (by omega) (by omega) v hv
    · rw [hv]
      split <;> exact ip_wid (by omega) (by omega)
  · rw [if_neg c] at hv
    exact x_wdS hT hl hs j h0 h1 v hv
theorem x_wdno : x_wd la x_no := fun j _ _ v hv => absurd hv (List.not_mem_nil)
theorem x_wdo {els : Int → x_PR} (hN : ∀ j, 0 ≤ j → j ≤ la → ip_w (N j) = N j) (hs : x_wd la els) : x_wd la (x_one T N la els) := by
  intro j h0 h1 v hv
  unfold x_one at hv
  by_cases c : T j = 20
  · rw [if_pos c] at hv
    simp only [List.mem_singleton] at hv
    rw [hv]
    exact hN j h0 h1
  · rw [if_neg c] at hv
    by_cases c2 : 6 ≤ T j ∧ T j < 12
    · rw [if_pos c2] at hv
      simp only [List.mem_singleton] at hv
      rw [hv]
      exact ip_wid (by omega) (by omega)
    · rw [if_neg c2] at hv
      exact hs j h0 h1 v hv
theorem x_wdp {one ee : Int → x_PR} (hT : T la = -1) (hs : x_wd la one) (he : x_wd la ee) : x_wd la (x_opn T la one ee) := by
  intro j h0 h1 v hv
  unfold x_opn at hv
  by_cases c : T j = 45
  · obtain ⟨a1, a2⟩ := x_advl hT (j := j) (by omega) h1
    rw [if_pos c, a2] at hv
    simp only [List.mem_append, List.mem_singleton] at hv
    rcases hv with hv | hv
    · exact hs (j + 1) (by omega) (by omega) v hv
    · rw [hv]
      exact ip_wid (by omega) (by omega)
  · rw [if_neg c] at hv
    by_cases c2 : T j = 40
    · obtain ⟨a1, a2⟩ := x_advl hT (j := j) (by omega) h1
      rw [if_pos c2, a2] at hv
      by_cases c3 : ((ee (j + 1)).1 && decide (T (ee (j + 1)).2.1 = 41)) = true
      · rw [if_pos c3] at hv
        exact he (j + 1) (by omega) (by omega) v hv
      · rw [if_neg c3] at hv
        exact he (j + 1) (by omega) (by omega) v hv
    · rw [if_neg c2] at hv
      exact absurd hv (List.not_mem_nil)
theorem x_wdn {one prev : Int → x_PR} (hT : T la = -1) (hl : x_ln la one) (hs : x_wd la one) (hp : ∀ j, T j = 5 → 0 ≤ j → j ≤ la → ∀ v ∈ (prev j).2.2, ip_w v = v) : x_wd la (x_not T one la prev) := by
  intro j h0 h1 v hv
  unfold x_not at hv
  by_cases c : T j = 5
  · rw [if_pos c] at hv
    exact hp j c h0 h1 v hv
  · rw [if_neg c] at hv
    exact x_wdc hT hl hs j h0 h1 v hv
theorem x_wdv (hT : T la = -1) (hN : ∀ j, 0 ≤ j → j ≤ la → ip_w (N j) = N j) : ∀ l : Nat, x_wd la (x_lv T N la l).1 ∧ x_wd la (x_lv T N la l).2
  | 0 => by
    have h1 : x_wd la (x_one T N la x_no) := x_wdo hN x_wdno
    exact ⟨h1, x_wdn hT (x_lno hT x_lnno) h1 (fun j _ h0 h2 => x_wdno j h0 h2)⟩
  | l + 1 => by
    obtain ⟨a, b⟩ := x_wdv hT hN l
    obtain ⟨la1, lb1⟩ := x_lnv (N := N) hT l
    have h1 : x_wd la (x_one T N la (x_opn T la (x_lv T N la l).1 (x_E T la (x_lv T N la l).2))) := x_wdo hN (x_wdp hT a (x_wdE hT lb1 b))
    refine ⟨h1, x_wdn hT (x_lnv (N := N) hT (l + 1)).1 h1 (fun j c h0 h2 v hv => ?_)⟩
    obtain ⟨a1, a2⟩ := x_advl hT (j := j) (by omega) h2
    unfold x_nopn at hv
    rw [a2] at hv
    simp only [List.mem_append, List.mem_singleton] at hv
    rcases hv with hv | hv
    · exact b (j + 1) (by omega) (by omega) v hv
    · rw [hv]
      exact ip_wid (by omega) (by omega)
theorem x_wdt (hT : T la = -1) (hN : ∀ j, 0 ≤ j → j ≤ la → ip_w (N j) = N j) {part : Int} (hp : 0 ≤ part) : x_wd la (x_part T N la part) := by
  intro j h0 h1 v hv
  unfold x_part at hv
  by_cases c : T j = part
  · obtain ⟨a1, a2⟩ := x_advl hT (j := j) (by omega) h1
    rw [if_pos c, a2] at hv
    have he : ∀ v ∈ (x_E5 T N la (j + 1)).2.2, ip_w v = v := x_wdE hT (x_lnv (N := N) hT 5).2 (x_wdv hT hN 5).2 (j + 1) (by omega) (by omega)
    by_cases c3 : ((x_E5 T N la (j + 1)).1 && decide (T (x_E5 T N la (j + 1)).2.1 = 59)) = true
    · rw [if_pos c3] at hv
      exact he v hv
    · rw [if_neg c3] at hv
      exact he v hv
  · rw [if_neg c] at hv
    exact absurd hv (List.not_mem_nil)
theorem x_wrw {c : Int → Int} {sz : Int} {o : List Int} (hc : ∀ k, 0 ≤ k → k < 160 → ip_w (c k) = c k) (ho : ∀ v ∈ o, ip_w v = v) : ∀ k, 0 ≤ k → k < 160 → ip_w (x_wr c sz o k) = x_wr c sz o k := fun k h0 h1 => by
  unfold x_wr
  split
  · exact x_gd0 ho
  · exact hc k h0 h1
theorem x_rdw (hT : T la = -1) (hN : ∀ j, 0 ≤ j → j ≤ la → ip_w (N j) = N j) : ∀ (f : Nat) (part now sz : Int) (c e : Int → Int) (q : x_RD), part + f = 3 → 0 ≤ part → 0 ≤ now → now ≤ la → 0 ≤ sz → sz ≤ 160 → (∀ k, 0 ≤ k → k < 160 → ip_w (c k) = c k) → (∀ k, 0 ≤ k → k < 3 → 0 ≤ e k ∧ e k ≤ 160) → q = x_rd T N la f part now sz c e →
    (0 ≤ q.2.1 ∧ q.2.1 ≤ la) ∧ (∀ k, 0 ≤ k → k < 160 → ip_w (q.2.2.2.1 k) = q.2.2.2.1 k) ∧ (∀ k, 0 ≤ k → k < 3 → 0 ≤ q.2.2.2.2 k ∧ q.2.2.2.2 k ≤ 160)
  | 0, part, now, sz, c, e, q, h, hp, h0, h1, h2, h3, hc, he, hq => by
    subst hq
    exact ⟨⟨h0, h1⟩, hc, he⟩
  | f + 1, part, now, sz, c, e, q, h, hp, h0, h1, h2, h3, hc, he, hq => by
    obtain ⟨⟨b1, b2⟩, b3⟩ := x_lnt (N := N) hT hp now h0 h1
    have hw := x_wrw (sz := sz) hc (x_wdt hT hN hp now h0 h1)
    have hsr := x_szr (o := (x_part T N la part now).2.2) h2 h3
    rw [x_rd] at hq
    by_cases c1 : (x_part T N la part now).1 = true
    · rw [if_pos c1] at hq
      refine x_rdw hT hN f (part + 1) _ _ _ _ q (by omega) (by omega) (by omega) b2 hsr.1 hsr.2 hw (fun k k0 k1 => ?_) hq
      unfold x_ue
      rw [if_pos c1]
      unfold ip_u
      split
      · exact hsr
      · exact he k k0 k1
    · rw [if_neg c1] at hq
      subst hq
      exact ⟨⟨by dsimp only; omega, b2⟩, hw, he⟩
theorem x_atr (hT : T la = -1) (h0 : 0 ≤ la) : 0 ≤ x_at T N la ∧ x_at T N la ≤ la := by
  obtain ⟨⟨b1, b2⟩, b3⟩ := x_lnt (N := N) hT (part := 0) (by omega) 0 (by omega) h0
  rw [show x_part T N la 0 0 = x_q0 T N la from rfl] at b1 b2
  obtain ⟨⟨c1, c2⟩, c3⟩ := x_lnt (N := N) hT (part := 1) (by omega) (x_q0 T N la).2.1 (by omega) b2
  rw [show x_part T N la 1 (x_q0 T N la).2.1 = x_q1 T N la from rfl] at c1 c2
  obtain ⟨⟨d1, d2⟩, d3⟩ := x_lnt (N := N) hT (part := 2) (by omega) (x_q1 T N la).2.1 (by omega) c2
  rw [show x_part T N la 2 (x_q1 T N la).2.1 = x_q2 T N la from rfl] at d1 d2
  unfold x_at
  split
  · split <;> omega
  · omega
end WDT
theorem y_Tokr {b : Int → Int} {sz : Int} {T P N : Int → Int} {la : Int} (h : y_Tok b sz T P N la) : ∀ j, 0 ≤ j → j ≤ la → 0 ≤ P j ∧ P j ≤ sz := fun j h0 h1 => by
  obtain ⟨-, a2, a3, -, a5⟩ := h
  by_cases c : j = la
  · rw [c, a5]
    omega
  · obtain ⟨⟨e1, e2, -⟩, -⟩ := a3 j h0 (by omega)
    omega
section TXB
variable {d : Nat} {S : ip_S} {R : ip_R} {L : ip_S}
theorem y191b {tc z : Int} {bb : Int → Int} {T P N : Int → Int} {la : Int} (hM : x_RM R) (ht : 0 ≤ tc ∧ tc < 6) (h3 : S 62 3 = tc) (h6 : S 62 6 = z) (hz : 0 ≤ z ∧ z ≤ 160) (hb : ∀ i, 0 ≤ i → i < z → 0 ≤ S 65 i ∧ S 65 i < 256) (hbe : ∀ i, 0 ≤ i → i < z → S 65 i = bb i) (hTk : y_Tok bb z T P N la) (hP : -160 ≤ P (x_at T N la) ∧ P (x_at T N la) ≤ 160) :
    ∃ S' w', y_fr (m_tk S tc z) S' ∧ ∀ Q, ip_wc (d + 44) 191 [.ref 62] 79 S R L Q = if x_acc T N la = true then Q (some (vi tc)) 79 (ip_up S' 62 3 (tc + 1)) R (ip_up L 62 24 w') else Q (some (vi (-100 - P (x_at T N la)))) 79 S' R (ip_up L 62 24 w') := by
  have hl := fun Q => p191l (d := d + 43) (L := L) (Q := Q) hM ht h3 h6 hz.2 hb z.toNat 0 (by omega) (by omega)
  rw [m_tcp0, ip_ar_self] at hl
  have hS1 : ip_up (ip_up (ip_ar S 63 (m_tcp (S 63) (S 65) (160 * tc) z)) 64 tc z) 62 6 0 = m_tk S tc z := rfl
  have e64 : m_tk S tc z 64 tc = z := by simp [m_tk, ip_up]
  have e63 : m_tk S tc z 63 = m_tcp (S 63) (S 65) (160 * tc) z := by funext k; simp [m_tk, ip_up, ip_ar]
  have e3 : m_tk S tc z 62 3 = tc := by rw [← h3]; simp [m_tk, ip_up, ip_ar]
  obtain ⟨v, h', t', a', w', bd', fl', r1, r2, k137⟩ := y137 (d := d) (L := L) (S := m_tk S tc z) (tt := tc) (k := 0) (b := bb) (sz := z) hM ht (by omega) e64 hz (fun i h0 h1 => by
    rw [e63]
    unfold m_tcp
    rw [if_pos (by omega), show 160 * tc + i - 160 * tc = i by omega]
    exact hbe i h0 h1) (fun i h0 h1 => by rw [← hbe i h0 h1]; exact hb i h0 h1) hTk
  have f : y_fr (m_tk S tc z) (y_P (ip_up (ip_up (m_tk S tc z) 62 19 (160 * tc)) 62 20 z) h' t' a' 0 bd' fl') := y_fr_P (y_fr_up (y_fr_up y_fr_r ⟨by omega, by omega⟩) ⟨by omega, by omega⟩)
  generalize hS2 : y_P (ip_up (ip_up (m_tk S tc z) 62 19 (160 * tc)) 62 20 z) h' t' a' 0 bd' fl' = S2 at *
  have u26 : S2 62 26 = bd' := by rw [← hS2]; rfl
  have u27 : S2 62 27 = fl' := by rw [← hS2]; rfl
  have u3 : S2 62 3 = tc := by rw [f.2 3 (by unfold y_sc; omega)]; exact e3
  have z3 : ip_ar S 63 (m_tcp (S 63) (S 65) (160 * tc) z) 62 = S 62 := m_ar_ne (by omega)
  have z4 : ∀ i v, ip_up (ip_ar S 63 (m_tcp (S 63) (S 65) (160 * tc) z)) 64 i v 62 = S 62 := fun i v => by rw [ip_upc (by omega), z3]
  refine ⟨S2, w', f, fun Q => ?_⟩
  cases ha : x_acc T N la
  · obtain ⟨b1, b2⟩ := r2 ha
    rw [if_neg (by decide)]
    rw [b1] at u26
    rw [b2] at u27
    simp (disch := omega) only [c191, s191_0, s191_1, s191_2, s191_3, s191_4, s191_5, s191_6, s191_7, ↓reduceIte, Bool.true_eq_false, Bool.false_eq_true, ip_rfS, true_or, or_true, true_and, and_true, Option.toList_some, Option.toList_none, List.cons_append, List.nil_append, ip_fxn, ip_fxi, ip_fxr, ip_fxl, ip_wid, ip_n998, ip_lt900, iO0, iO1, iA2, iA3, iA4, iA5, iA6, iA7, iA8, iO9, iA10, iA11, iA12, iA13, iA14, iA15, iA16, iO17, iA18, iO19, iA20, iA21, iA22, iA23, iO24, iA25, iO26, iA27, iA28, iO29, iA30, iA31, iO32, iA33, iA34, iO35, iA36, iA37, iO38, iA39, iA40, iO41, iA42, iA43, iO44, iA45, iA46, iA47, iA48, iA49, iA50, iA51, iA52, iA53, iO54, iA55, iO56, iA57, iO58, iA59, iO60, iA61, iO62, iA63, iA64, iA65, iA66, iA67, iA68, iA69, iA70, iA71, iA72, iA73, iA74, iA75, iA76, iA77, iA78, iOT, iAT1, iAT2, iOS, iAS, ↓yfm1 hM, ↓yfm2 hM, ↓yfm5 hM, ↓yfm8 hM, ↓yfm9 hM, ↓yfm10 hM, ↓yfm12 hM, ↓yfm28 hM, ↓yfm32 hM, ↓yfm35 hM, ↓yfm36 hM, ↓yfm37 hM, ↓yfm41 hM, ↓yfm42 hM, ↓yfm43 hM, ↓yfm44 hM, rm1 hM, rm2 hM, rm5 hM, rm8 hM, rm9 hM, rm10 hM, rm12 hM, rm28 hM, rm32 hM, rm35 hM, rm36 hM, rm37 hM, rm41 hM, rm42 hM, rm43 hM, rm44 hM, h3, show ¬ tc = 6 by omega, Int.reduceEq, hl]
    simp (disch := omega) only [s191_27, s191_28, s191_29, s191_30, s191_31, s191_32, s191_33, s191_34, s191_35, s191_36, s191_37, s191_38, s191_39, s191_40, s191_41, s191_42, s191_43, s191_44, s191_45, s191_46, s191_47, s191_48, s191_49, s191_50, s191_51, s191_52, s191_53, s191_54, s191_55, s191_56, s191_57, s191_58, s191_59, s191_60, s191_61, ↓reduceIte, Bool.true_eq_false, Bool.false_eq_true, ip_rfS, true_or, or_true, true_and, and_true, Option.toList_some, Option.toList_none, List.cons_append, List.nil_append, ip_fxn, ip_fxi, ip_fxr, ip_fxl, ip_wid, ip_n998, ip_lt900, iO0, iO1, iA2, iA3, iA4, iA5, iA6, iA7, iA8, iO9, iA10, iA11, iA12, iA13, iA14, iA15, iA16, iO17, iA18, iO19, iA20, iA21, iA22, iA23, iO24, iA25, iO26, iA27, iA28, iO29, iA30, iA31, iO32, iA33, iA34, iO35, iA36, iA37, iO38, iA39, iA40, iO41, iA42, iA43, iO44, iA45, iA46, iA47, iA48, iA49, iA50, iA51, iA52, iA53, iO54, iA55, iO56, iA57, iO58, iA59, iO60, iA61, iO62, iA63, iA64, iA65, iA66, iA67, iA68, iA69, iA70, iA71, iA72, iA73, iA74, iA75, iA76, iA77, iA78, iOT, iAT1, iAT2, iOS, iAS, ↓yfm1 hM, ↓yfm2 hM, ↓yfm5 hM, ↓yfm8 hM, ↓yfm9 hM, ↓yfm10 hM, ↓yfm12 hM, ↓yfm28 hM, ↓yfm32 hM, ↓yfm35 hM, ↓yfm36 hM, ↓yfm37 hM, ↓yfm41 hM, ↓yfm42 hM, ↓yfm43 hM, ↓yfm44 hM, rm1 hM, rm2 hM, rm5 hM, rm8 hM, rm9 hM, rm10 hM, rm12 hM, rm28 hM, rm32 hM, rm35 hM, rm36 hM, rm37 hM, rm41 hM, rm42 hM, rm43 hM, rm44 hM, z3, z4, h3, h6, hS1, e3, k137, u26, u27, Int.reduceEq]
  · obtain ⟨b1, -, -⟩ := r1 ha
    rw [if_pos rfl]
    rw [b1] at u26
    simp (disch := omega) only [c191, s191_0, s191_1, s191_2, s191_3, s191_4, s191_5, s191_6, s191_7, ↓reduceIte, Bool.true_eq_false, Bool.false_eq_true, ip_rfS, true_or, or_true, true_and, and_true, Option.toList_some, Option.toList_none, List.cons_append, List.nil_append, ip_fxn, ip_fxi, ip_fxr, ip_fxl, ip_wid, ip_n998, ip_lt900, iO0, iO1, iA2, iA3, iA4, iA5, iA6, iA7, iA8, iO9, iA10, iA11, iA12, iA13, iA14, iA15, iA16, iO17, iA18, iO19, iA20, iA21, iA22, iA23, iO24, iA25, iO26, iA27, iA28, iO29, iA30, iA31, iO32, iA33, iA34, iO35, iA36, iA37, iO38, iA39, iA40, iO41, iA42, iA43, iO44, iA45, iA46, iA47, iA48, iA49, iA50, iA51, iA52, iA53, iO54, iA55, iO56, iA57, iO58, iA59, iO60, iA61, iO62, iA63, iA64, iA65, iA66, iA67, iA68, iA69, iA70, iA71, iA72, iA73, iA74, iA75, iA76, iA77, iA78, iOT, iAT1, iAT2, iOS, iAS, ↓yfm1 hM, ↓yfm2 hM, ↓yfm5 hM, ↓yfm8 hM, ↓yfm9 hM, ↓yfm10 hM, ↓yfm12 hM, ↓yfm28 hM, ↓yfm32 hM, ↓yfm35 hM, ↓yfm36 hM, ↓yfm37 hM, ↓yfm41 hM, ↓yfm42 hM, ↓yfm43 hM, ↓yfm44 hM, rm1 hM, rm2 hM, rm5 hM, rm8 hM, rm9 hM, rm10 hM, rm12 hM, rm28 hM, rm32 hM, rm35 hM, rm36 hM, rm37 hM, rm41 hM, rm42 hM, rm43 hM, rm44 hM, h3, show ¬ tc = 6 by omega, Int.reduceEq, hl]
    simp (disch := omega) only [s191_27, s191_28, s191_29, s191_30, s191_31, s191_32, s191_33, s191_34, s191_35, s191_36, s191_37, s191_38, s191_39, s191_40, s191_41, s191_42, s191_43, s191_44, s191_45, s191_46, s191_47, s191_48, s191_49, s191_50, s191_51, s191_52, s191_53, s191_54, s191_55, s191_56, s191_57, s191_58, s191_59, s191_60, s191_61, ↓reduceIte, Bool.true_eq_false, Bool.false_eq_true, ip_rfS, true_or, or_true, true_and, and_true, Option.toList_some, Option.toList_none, List.cons_append, List.nil_append, ip_fxn, ip_fxi, ip_fxr, ip_fxl, ip_wid, ip_n998, ip_lt900, iO0, iO1, iA2, iA3, iA4, iA5, iA6, iA7, iA8, iO9, iA10, iA11, iA12, iA13, iA14, iA15, iA16, iO17, iA18, iO19, iA20, iA21, iA22, iA23, iO24, iA25, iO26, iA27, iA28, iO29, iA30, iA31, iO32, iA33, iA34, iO35, iA36, iA37, iO38, iA39, iA40, iO41, iA42, iA43, iO44, iA45, iA46, iA47, iA48, iA49, iA50, iA51, iA52, iA53, iO54, iA55, iO56, iA57, iO58, iA59, iO60, iA61, iO62, iA63, iA64, iA65, iA66, iA67, iA68, iA69, iA70, iA71, iA72, iA73, iA74, iA75, iA76, iA77, iA78, iOT, iAT1, iAT2, iOS, iAS, ↓yfm1 hM, ↓yfm2 hM, ↓yfm5 hM, ↓yfm8 hM, ↓yfm9 hM, ↓yfm10 hM, ↓yfm12 hM, ↓yfm28 hM, ↓yfm32 hM, ↓yfm35 hM, ↓yfm36 hM, ↓yfm37 hM, ↓yfm41 hM, ↓yfm42 hM, ↓yfm43 hM, ↓yfm44 hM, rm1 hM, rm2 hM, rm5 hM, rm8 hM, rm9 hM, rm10 hM, rm12 hM, rm28 hM, rm32 hM, rm35 hM, rm36 hM, rm37 hM, rm41 hM, rm42 hM, rm43 hM, rm44 hM, z3, z4, h3, h6, hS1, e3, k137, u26, u3, ip_up_at, Int.add_sub_cancel, Int.reduceEq]
end TXB
