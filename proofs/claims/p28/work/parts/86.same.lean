/-! what a TEXT says is one on both sides -/
def x_V (o : List Int) (F : Int → Int) : Int := match v_rl F o (some []) with
  | some (v :: _) => v
  | _ => 0
theorem x_Vof {F : Int → Int} {o : List Int} {v : Int} (h : y_val F o v) : v = x_V o F := by
  unfold x_V
  rw [h []]
theorem v_rln {F : Int → Int} : ∀ o : List Int, v_rl F o none = none
  | [] => rfl
  | _ :: r => v_rln r
def x_cs (c : Int → Int) : Nat → Int → List Int
  | 0, _ => []
  | n + 1, i => c i :: x_cs c n (i + 1)
def x_hd (o : Option (List Int)) : Int := match o with
  | some (v :: _) => v
  | _ => 0
theorem v_evl {c F : Int → Int} : ∀ (n : Nat) (i : Int) (l : List Int), l.length + n ≤ 160 → v_ev c F n i l = x_hd (v_rl F (x_cs c n i) (some l))
  | 0, i, l, h => by cases l <;> rfl
  | n + 1, i, l, h => by
    rw [v_evS, x_cs, v_rl, Option.bind_some]
    unfold v_s1
    by_cases c1 : -7 < c i
    · rw [if_pos c1, if_pos c1, if_neg (by omega)]
      exact v_evl n (i + 1) _ (by simp only [List.length_cons]; omega)
    · rw [if_neg c1, if_neg c1]
      by_cases c2 : c i ≤ -21
      · rw [if_pos c2, if_pos c2]
        match l, h with
        | [], h => rw [v_rln]; rfl
        | [a], h => rw [v_rln]; rfl
        | b :: a :: r, h =>
          simp only [List.length_cons] at h
          exact v_evl n (i + 1) _ (by simp only [List.length_cons]; omega)
      · rw [if_neg c2, if_neg c2]
        match l, h with
        | [], h => rw [v_rln]; rfl
        | a :: r, h =>
          simp only [List.length_cons] at h
          exact v_evl n (i + 1) _ (by simp only [List.length_cons]; omega)
/-! no more codes than TOKENS -/
def x_ln (la : Int) (f : Int → x_PR) : Prop := ∀ j, 0 ≤ j → j ≤ la → (j ≤ (f j).2.1 ∧ (f j).2.1 ≤ la) ∧ ((f j).2.2.length : Int) ≤ (f j).2.1 - j
section LEN
variable {T N : Int → Int} {la : Int}
theorem x_advl {j : Int} (hT : T la = -1) (h : ¬ T j = -1) (hj : j ≤ la) : j < la ∧ x_adv la j = j + 1 := by
  have : j ≠ la := fun e => h (by rw [e]; exact hT)
  exact ⟨by omega, by unfold x_adv; rw [if_pos (by omega)]⟩
theorem x_lnl {op : Int → Bool} {code : Int → Int} {sub : Int → x_PR} (hT : T la = -1) (ho : op (-1) = false) (hs : x_ln la sub) : ∀ (f : Nat) (ft : Bool) (j : Int), 0 ≤ j → j ≤ la → (j ≤ (x_loop T la op code sub f ft j).2.1 ∧ (x_loop T la op code sub f ft j).2.1 ≤ la) ∧ ((x_loop T la op code sub f ft j).2.2.length : Int) ≤ (x_loop T la op code sub f ft j).2.1 - j
  | 0, ft, j, h0, h1 => by unfold x_loop; exact ⟨⟨Int.le_refl _, h1⟩, by simp⟩
  | f + 1, ft, j, h0, h1 => by
    unfold x_loop
    by_cases c : (ft && op (T j)) = true
    · rw [if_pos c]
      have hn : ¬ T j = -1 := fun e => by rw [e, ho, Bool.and_false] at c; cases c
      obtain ⟨a1, a2⟩ := x_advl hT hn h1
      rw [a2]
      obtain ⟨⟨b1, b2⟩, b3⟩ := hs (j + 1) (by omega) (by omega)
      obtain ⟨⟨c1, c2⟩, c3⟩ := x_lnl (code := code) hT ho hs f (sub (j + 1)).1 (sub (j + 1)).2.1 (by omega) b2
      refine ⟨⟨by dsimp only; omega, c2⟩, ?_⟩
      simp only [List.length_append, List.length_cons]
      omega
    · rw [if_neg c]
      exact ⟨⟨Int.le_refl _, h1⟩, by simp⟩
theorem x_lnr {op : Int → Bool} {code : Int → Int} {sub : Int → x_PR} (hT : T la = -1) (ho : op (-1) = false) (hs : x_ln la sub) : x_ln la (x_rep T la op code sub) := by
  intro j h0 h1
  obtain ⟨⟨b1, b2⟩, b3⟩ := hs j h0 h1
  obtain ⟨⟨c1, c2⟩, c3⟩ := x_lnl (code := code) hT ho hs 160 (sub j).1 (sub j).2.1 (by omega) b2
  unfold x_rep
  refine ⟨⟨by dsimp only; omega, c2⟩, ?_⟩
  simp only [List.length_append]
  omega
theorem x_lnE {nt : Int → x_PR} (hT : T la = -1) (hs : x_ln la nt) : x_ln la (x_E T la nt) := x_lnr hT rfl (x_lnr hT rfl hs)
theorem x_lnS {one : Int → x_PR} (hT : T la = -1) (hs : x_ln la one) : x_ln la (x_sum T la one) := x_lnr hT rfl (x_lnr hT rfl hs)
theorem x_lnc {one : Int → x_PR} (hT : T la = -1) (hs : x_ln la one) : x_ln la (x_cmp T la one) := by
  intro j h0 h1
  obtain ⟨⟨b1, b2⟩, b3⟩ := x_lnS hT hs j h0 h1
  unfold x_cmp
  by_cases c : ((x_sum T la one j).1 && decide (T (x_sum T la one j).2.1 = 60 ∨ T (x_sum T la one j).2.1 = 61)) = true
  · rw [if_pos c]
    rw [Bool.and_eq_true] at c
    have c2 := of_decide_eq_true c.2
    obtain ⟨a1, a2⟩ := x_advl hT (j := (x_sum T la one j).2.1) (by omega) b2
    rw [a2]
    obtain ⟨⟨d1, d2⟩, d3⟩ := x_lnS hT hs ((x_sum T la one j).2.1 + 1) (by omega) (by omega)
    refine ⟨⟨by dsimp only; omega, d2⟩, ?_⟩
    simp only [List.length_append, List.length_singleton]
    omega
  · rw [if_neg c]
    exact ⟨⟨b1, b2⟩, b3⟩
theorem x_lnno : x_ln la x_no := fun j _ h1 => ⟨⟨Int.le_refl _, h1⟩, by simp [x_no]⟩
theorem x_lno {els : Int → x_PR} (hT : T la = -1) (hs : x_ln la els) : x_ln la (x_one T N la els) := by
  intro j h0 h1
  unfold x_one
  by_cases c : T j = 20
  · obtain ⟨a1, a2⟩ := x_advl hT (j := j) (by omega) h1
    rw [if_pos c, a2]
    exact ⟨⟨by dsimp only; omega, by dsimp only; omega⟩, by simp; omega⟩
  · rw [if_neg c]
    by_cases c2 : 6 ≤ T j ∧ T j < 12
    · obtain ⟨a1, a2⟩ := x_advl hT (j := j) (by omega) h1
      rw [if_pos c2, a2]
      exact ⟨⟨by dsimp only; omega, by dsimp only; omega⟩, by simp; omega⟩
    · rw [if_neg c2]
      exact hs j h0 h1
theorem x_lnp {one ee : Int → x_PR} (hT : T la = -1) (hs : x_ln la one) (he : x_ln la ee) : x_ln la (x_opn T la one ee) := by
  intro j h0 h1
  unfold x_opn
  by_cases c : T j = 45
  · obtain ⟨a1, a2⟩ := x_advl hT (j := j) (by omega) h1
    rw [if_pos c, a2]
    obtain ⟨⟨d1, d2⟩, d3⟩ := hs (j + 1) (by omega) (by omega)
    refine ⟨⟨by dsimp only; omega, d2⟩, ?_⟩
    simp only [List.length_append, List.length_singleton]
    omega
  · rw [if_neg c]
    by_cases c2 : T j = 40
    · obtain ⟨a1, a2⟩ := x_advl hT (j := j) (by omega) h1
      rw [if_pos c2, a2]
      obtain ⟨⟨d1, d2⟩, d3⟩ := he (j + 1) (by omega) (by omega)
      by_cases c3 : ((ee (j + 1)).1 && decide (T (ee (j + 1)).2.1 = 41)) = true
      · rw [if_pos c3]
        rw [Bool.and_eq_true] at c3
        have c4 := of_decide_eq_true c3.2
        obtain ⟨g1, g2⟩ := x_advl hT (j := (ee (j + 1)).2.1) (by omega) d2
        rw [g2]
        exact ⟨⟨by dsimp only; omega, by dsimp only; omega⟩, by dsimp only; omega⟩
      · rw [if_neg c3]
        exact ⟨⟨by dsimp only; omega, d2⟩, by dsimp only; omega⟩
    · rw [if_neg c2]
      exact ⟨⟨Int.le_refl _, h1⟩, by simp⟩
theorem x_lnn {one prev : Int → x_PR} (hT : T la = -1) (hs : x_ln la one) (hp : ∀ j, T j = 5 → 0 ≤ j → j ≤ la → (j ≤ (prev j).2.1 ∧ (prev j).2.1 ≤ la) ∧ ((prev j).2.2.length : Int) ≤ (prev j).2.1 - j) : x_ln la (x_not T one la prev) := by
  intro j h0 h1
  unfold x_not
  by_cases c : T j = 5
  · rw [if_pos c]; exact hp j c h0 h1
  · rw [if_neg c]; exact x_lnc hT hs j h0 h1
theorem x_lnv (hT : T la = -1) : ∀ l : Nat, x_ln la (x_lv T N la l).1 ∧ x_ln la (x_lv T N la l).2
  | 0 => by
    have h1 : x_ln la (x_one T N la x_no) := x_lno hT x_lnno
    exact ⟨h1, x_lnn hT h1 (fun j _ h0 h2 => x_lnno j h0 h2)⟩
  | l + 1 => by
    obtain ⟨a, b⟩ := x_lnv hT l
    have h1 : x_ln la (x_one T N la (x_opn T la (x_lv T N la l).1 (x_E T la (x_lv T N la l).2))) := x_lno hT (x_lnp hT a (x_lnE hT b))
    refine ⟨h1, x_lnn hT h1 (fun j c h0 h2 => ?_)⟩
    obtain ⟨a1, a2⟩ := x_advl hT (j := j) (by omega) h2
    unfold x_nopn
    rw [a2]
    obtain ⟨⟨d1, d2⟩, d3⟩ := b (j + 1) (by omega) (by omega)
    refine ⟨⟨by dsimp only; omega, d2⟩, ?_⟩
    simp only [List.length_append, List.length_singleton]
    omega
theorem x_lnt (hT : T la = -1) {part : Int} (hp : 0 ≤ part) : x_ln la (x_part T N la part) := by
  intro j h0 h1
  unfold x_part
  by_cases c : T j = part
  · obtain ⟨a1, a2⟩ := x_advl hT (j := j) (by omega) h1
    rw [if_pos c, a2]
    obtain ⟨⟨d1, d2⟩, d3⟩ := x_lnE hT (x_lnv (N := N) hT 5).2 (j + 1) (by omega) (by omega)
    rw [show x_E T la (x_lv T N la 5).2 = x_E5 T N la from rfl] at d1 d2 d3
    by_cases c3 : ((x_E5 T N la (j + 1)).1 && decide (T (x_E5 T N la (j + 1)).2.1 = 59)) = true
    · rw [if_pos c3]
      rw [Bool.and_eq_true] at c3
      have c4 := of_decide_eq_true c3.2
      obtain ⟨g1, g2⟩ := x_advl hT (j := (x_E5 T N la (j + 1)).2.1) (by omega) d2
      rw [g2]
      exact ⟨⟨by dsimp only; omega, by dsimp only; omega⟩, by dsimp only; omega⟩
    · rw [if_neg c3]
      exact ⟨⟨by dsimp only; omega, d2⟩, by dsimp only; omega⟩
  · rw [if_neg c]
    exact ⟨⟨Int.le_refl _, h1⟩, by simp⟩
theorem x_csw {c : Int → Int} {sz : Int} {o : List Int} (h : sz + o.length ≤ 160) : ∀ (n : Nat) (i : Nat), i + n = o.length → x_cs (x_wr c sz o) n (sz + i) = o.drop i
  | 0, i, hi => by rw [List.drop_eq_nil_of_le (by omega)]; rfl
  | n + 1, i, hi => by
    rw [x_cs, show sz + (i : Int) + 1 = sz + ((i + 1 : Nat) : Int) by omega, x_csw h n (i + 1) (by omega)]
    unfold x_wr
    rw [if_pos (by omega), show (sz + (i : Int) - sz).toNat = i by omega]
    rw [List.drop_eq_getElem_cons (by omega : i < o.length)]
    congr 1
    rw [List.getD_eq_getElem?_getD, List.getElem?_eq_getElem (by omega)]
    rfl
theorem x_csx {c c' : Int → Int} : ∀ (n : Nat) (i : Int), (∀ q, i ≤ q → q < i + n → c q = c' q) → x_cs c n i = x_cs c' n i
  | 0, _, _ => rfl
  | n + 1, i, h => by
    rw [x_cs, x_cs, h i (Int.le_refl _) (by omega), x_csx n (i + 1) (fun q h1 h2 => h q (by omega) (by omega))]
/-- a TEXT that is read to its end: its codes say what its parts say -/
theorem x_rdv (hT : T la = -1) (h0 : 0 ≤ la ∧ la ≤ 160) (ha : x_acc T N la = true) {c e : Int → Int} {q : x_RD} (hq : q = x_read T N la c e) :
    q.1 = true ∧ q.2.1 = (x_q2 T N la).2.1 ∧ ∀ (k : Int) (F : Int → Int), 0 ≤ k → k < 3 → v_val q.2.2.2.1 q.2.2.2.2 F k = x_V (x_qk T N la k).2.2 F := by
  unfold x_acc at ha
  simp only [Bool.and_eq_true] at ha
  obtain ⟨a0, a1, a2, a3⟩ := ha
  obtain ⟨⟨b1, b2⟩, b3⟩ := x_lnt (N := N) hT (part := 0) (by omega) 0 (by omega) h0.1
  rw [show x_part T N la 0 0 = x_q0 T N la from rfl] at b1 b2 b3
  obtain ⟨⟨c1, c2⟩, c3⟩ := x_lnt (N := N) hT (part := 1) (by omega) (x_q0 T N la).2.1 (by omega) b2
  rw [show x_part T N la 1 (x_q0 T N la).2.1 = x_q1 T N la from rfl] at c1 c2 c3
  obtain ⟨⟨d1, d2⟩, d3⟩ := x_lnt (N := N) hT (part := 2) (by omega) (x_q1 T N la).2.1 (by omega) c2
  rw [show x_part T N la 2 (x_q1 T N la).2.1 = x_q2 T N la from rfl] at d1 d2 d3
  have hq2 : q = (true, (x_q2 T N la).2.1, x_sz (x_sz (x_sz 0 (x_q0 T N la).2.2) (x_q1 T N la).2.2) (x_q2 T N la).2.2,
      x_wr (x_wr (x_wr c 0 (x_q0 T N la).2.2) (x_sz 0 (x_q0 T N la).2.2) (x_q1 T N la).2.2) (x_sz (x_sz 0 (x_q0 T N la).2.2) (x_q1 T N la).2.2) (x_q2 T N la).2.2,
      x_ue (x_ue (x_ue e 0 0 (x_q0 T N la)) 1 (x_sz 0 (x_q0 T N la).2.2) (x_q1 T N la)) 2 (x_sz (x_sz 0 (x_q0 T N la).2.2) (x_q1 T N la).2.2) (x_q2 T N la)) := by
    rw [hq]
    unfold x_read
    rw [x_rd, show x_part T N la 0 0 = x_q0 T N la from rfl, if_pos a0, x_rd, show (0 : Int) + 1 = 1 from rfl, show x_part T N la 1 (x_q0 T N la).2.1 = x_q1 T N la from rfl, if_pos a1, x_rd, show (1 : Int) + 1 = 2 from rfl, show x_part T N la 2 (x_q1 T N la).2.1 = x_q2 T N la from rfl, if_pos a2, x_rd]
  have z0 : x_sz 0 (x_q0 T N la).2.2 = (x_q0 T N la).2.2.length := by unfold x_sz; rw [if_pos (by omega)]; omega
  have z1 : x_sz (x_q0 T N la).2.2.length (x_q1 T N la).2.2 = (x_q0 T N la).2.2.length + (x_q1 T N la).2.2.length := by unfold x_sz; rw [if_pos (by omega)]
  have z2 : x_sz ((x_q0 T N la).2.2.length + (x_q1 T N la).2.2.length : Int) (x_q2 T N la).2.2 = (x_q0 T N la).2.2.length + (x_q1 T N la).2.2.length + (x_q2 T N la).2.2.length := by unfold x_sz; rw [if_pos (by omega)]
  rw [z0, z1, z2] at hq2
  refine ⟨by rw [hq2], by rw [hq2], fun k F hk0 hk3 => ?_⟩
  rw [hq2]
  dsimp only
  have u0 : x_ue e 0 0 (x_q0 T N la) = ip_u e 0 (x_q0 T N la).2.2.length := by unfold x_ue; rw [if_pos a0, z0]
  rw [u0]
  have u1 : ∀ e', x_ue e' 1 ((x_q0 T N la).2.2.length : Int) (x_q1 T N la) = ip_u e' 1 ((x_q0 T N la).2.2.length + (x_q1 T N la).2.2.length) := fun e' => by unfold x_ue; rw [if_pos a1, z1]
  rw [u1]
  have u2 : ∀ e', x_ue e' 2 ((x_q0 T N la).2.2.length + (x_q1 T N la).2.2.length : Int) (x_q2 T N la) = ip_u e' 2 ((x_q0 T N la).2.2.length + (x_q1 T N la).2.2.length + (x_q2 T N la).2.2.length) := fun e' => by unfold x_ue; rw [if_pos a2, z2]
  rw [u2]
  generalize (x_q0 T N la).2.1 = j0 at *
  generalize (x_q1 T N la).2.1 = j1 at *
  generalize (x_q2 T N la).2.1 = j2 at *
  generalize ho0 : (x_q0 T N la).2.2 = o0 at *
  generalize ho1 : (x_q1 T N la).2.2 = o1 at *
  generalize ho2 : (x_q2 T N la).2.2 = o2 at *
  unfold v_val v_st
  obtain z | z | z : k = 0 ∨ k = 1 ∨ k = 2 := by omega
  · subst z
    have hk : (x_qk T N la 0).2.2 = o0 := by unfold x_qk; rw [if_pos rfl, ho0]
    rw [if_pos rfl, hk]
    simp only [ip_u, Int.reduceEq, if_true, if_false, Int.sub_zero, Int.toNat_natCast]
    rw [v_evl _ _ _ (by simp only [List.length_nil]; omega)]
    have e1 : x_cs (x_wr (x_wr (x_wr c 0 o0) (o0.length : Int) o1) ((o0.length : Int) + o1.length) o2) o0.length 0 = o0 := by
      have h1 := x_csw (c := c) (sz := 0) (o := o0) (by omega) o0.length 0 (by omega)
      rw [List.drop_zero, show (0 : Int) + ((0 : Nat) : Int) = 0 from rfl] at h1
      refine Eq.trans (x_csx _ _ (fun q h1 h2 => ?_)) h1
      unfold x_wr
      rw [if_neg (by omega), if_neg (by omega)]
    rw [e1]
    rfl
  · subst z
    have hk : (x_qk T N la 1).2.2 = o1 := by unfold x_qk; rw [if_neg (by omega), if_pos rfl, ho1]
    rw [if_neg (by omega), hk]
    simp only [ip_u, Int.reduceEq, Int.reduceSub, if_true, if_false]
    rw [show ((o0.length : Int) + o1.length - o0.length).toNat = o1.length by omega, v_evl _ _ _ (by simp only [List.length_nil]; omega)]
    have e1 : x_cs (x_wr (x_wr (x_wr c 0 o0) (o0.length : Int) o1) ((o0.length : Int) + o1.length) o2) o1.length o0.length = o1 := by
      have h1 := x_csw (c := x_wr c 0 o0) (sz := o0.length) (o := o1) (by omega) o1.length 0 (by omega)
      rw [List.drop_zero, show ((o0.length : Nat) : Int) + ((0 : Nat) : Int) = o0.length by omega] at h1
      refine Eq.trans (x_csx _ _ (fun q h1 h2 => ?_)) h1
      show x_wr _ _ o2 q = _
      unfold x_wr
      rw [if_neg (by omega)]
    rw [e1]
    rfl
  · subst z
    have hk : (x_qk T N la 2).2.2 = o2 := by unfold x_qk; rw [if_neg (by omega), if_neg (by omega), ho2]
    rw [if_neg (by omega), hk]
    simp only [ip_u, Int.reduceEq, Int.reduceSub, if_true, if_false]
    rw [show ((o0.length : Int) + o1.length + o2.length - (o0.length + o1.length)).toNat = o2.length by omega, v_evl _ _ _ (by simp only [List.length_nil]; omega)]
    have e1 : x_cs (x_wr (x_wr (x_wr c 0 o0) (o0.length : Int) o1) ((o0.length : Int) + o1.length) o2) o2.length ((o0.length : Int) + o1.length) = o2 := by
      have h1 := x_csw (c := x_wr (x_wr c 0 o0) o0.length o1) (sz := (o0.length : Int) + o1.length) (o := o2) (by omega) o2.length 0 (by omega)
      rw [List.drop_zero, show (o0.length : Int) + o1.length + ((0 : Nat) : Int) = o0.length + o1.length by omega] at h1
      exact h1
    rw [e1]
    rfl
/-- a FAULT is one on both sides -/
theorem x_rdf {P : Int → Int} {c e : Int → Int} {q : x_RD} (hq : q = x_read T N la c e) : q.2.1 = x_at T N la ∧ ((q.1 = true ∧ T q.2.1 = -1) ↔ x_acc T N la = true) := by
  unfold x_read at hq
  rw [x_rd, show x_part T N la 0 0 = x_q0 T N la from rfl, show (0 : Int) + 1 = 1 from rfl] at hq
  unfold x_at x_acc
  by_cases a0 : (x_q0 T N la).1 = true
  · rw [if_pos a0, x_rd, show x_part T N la 1 (x_q0 T N la).2.1 = x_q1 T N la from rfl, show (1 : Int) + 1 = 2 from rfl] at hq
    rw [if_pos a0, a0]
    by_cases a1 : (x_q1 T N la).1 = true
    · rw [if_pos a1, x_rd, show x_part T N la 2 (x_q1 T N la).2.1 = x_q2 T N la from rfl] at hq
      rw [if_pos a1, a1]
      by_cases a2 : (x_q2 T N la).1 = true
      · rw [if_pos a2, x_rd] at hq
        rw [a2, hq]
        exact ⟨rfl, by simp⟩
      · rw [if_neg a2] at hq
        have a2' : (x_q2 T N la).1 = false := by simpa using a2
        rw [a2', hq]
        exact ⟨rfl, by simp⟩
    · rw [if_neg a1] at hq
      have a1' : (x_q1 T N la).1 = false := by simpa using a1
      rw [if_neg a1, a1', hq]
      exact ⟨rfl, by simp⟩
  · rw [if_neg a0] at hq
    have a0' : (x_q0 T N la).1 = false := by simpa using a0
    rw [if_neg a0, a0', hq]
    exact ⟨rfl, by simp⟩
end LEN
