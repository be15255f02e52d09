/-! two on a tandem: what they are told, and what follows -/
abbrev w_T : Type := (Int → Int) × (Int → Int) × (Int → Int) × Int × (Int → Int) × (Int → Int) × (Int → (Int → Int) → Int)
def w_kd (W : w_T) : Int → Int := W.1
def w_nu (W : w_T) : Int → Int := W.2.1
def w_go (W : w_T) : Int → Int := W.2.2.1
def w_hr (W : w_T) : Int := W.2.2.2.1
def w_ro (W : w_T) : Int → Int := W.2.2.2.2.1
def w_D (W : w_T) : Int → Int := W.2.2.2.2.2.1
def w_V (W : w_T) : Int → (Int → Int) → Int := W.2.2.2.2.2.2
def w_F (W : w_T) (one oth : Int) (b : Bool) (a s : Int) : Int → Int := fun k => if k = 0 then w_D W (a * 8 + w_go W one) else if k = 1 then w_nu W one else if k = 2 then s else if k = 3 then w_hr W else if k = 4 then k_n b else w_nu W oth
def w_v (W : w_T) (k one oth : Int) (b : Bool) (a s : Int) : Int := w_V W k (w_F W one oth b a s)
def w_pull (W : w_T) (one oth : Int) (b : Bool) (a s : Int) : Int := w_kp (w_kd W one) (w_bd (w_v W 0 one oth b a s)) (w_nu W one) (w_hr W) b
def w_mood (W : w_T) (one oth : Int) (b : Bool) (a s : Int) : Int := w_km (w_kd W one) (w_bd (w_v W 1 one oth b a s)) (w_nu W one)
def w_en (W : w_T) (one oth : Int) (b : Bool) (a s : Int) : Bool := w_ke (w_kd W one) (w_v W 2 one oth b a s) (w_nu W one) s
def w_str (W : w_T) (f b a s : Int) : Int := if w_pull W f b false a s + w_mood W f b false a s < w_pull W b f true a s + w_mood W b f true a s then b else f
def w_ov (W : w_T) (f b a s : Int) : Bool := decide (a = w_go W (w_str W f b a s) ∨ w_D W (a * 8 + w_go W (w_str W f b a s)) = 999 ∨ (w_en W f b false a s = true ∧ w_en W b f true a s = true))
/-- the world of the class -/
def w_X (S : ip_S) : w_T := (S 4, S 5, S 6, S 8 0, S 2, S 3, fun p F => v_val (S (27 + 3 * (S 8 1).toNat)) (S (28 + 3 * (S 8 1).toNat)) F p)
def x_J (S : ip_S) : Prop := (∀ k, 0 ≤ k → k < 64 → 0 ≤ S 2 k ∧ S 2 k ≤ 99) ∧ (∀ k, 0 ≤ k → k < 64 → 0 ≤ S 3 k ∧ S 3 k ≤ 999) ∧ (∀ q, 0 ≤ q → q < 6 → 0 ≤ S 4 q ∧ S 4 q < 6) ∧ (∀ q, 0 ≤ q → q < 6 → 0 ≤ S 5 q ∧ S 5 q < 10) ∧ (∀ q, 0 ≤ q → q < 6 → 0 ≤ S 6 q ∧ S 6 q < 8) ∧ (0 ≤ S 8 0 ∧ S 8 0 < 24) ∧ (0 ≤ S 8 1 ∧ S 8 1 < 6) ∧ (∀ t : Nat, t < 6 → (∀ k, 0 ≤ k → k < 160 → ip_w (S (27 + 3 * t) k) = S (27 + 3 * t) k) ∧ (∀ k, 0 ≤ k → k < 3 → 0 ≤ S (28 + 3 * t) k ∧ S (28 + 3 * t) k ≤ 160))
/-- nothing but the tandem's own cells is otherwise -/
def x_fr (S S' : ip_S) : Prop := ∀ b : Nat, b ≠ 25 → b ≠ 44 → b ≠ 45 → b ≠ 46 → b ≠ 47 → b ≠ 48 → S' b = S b
theorem ip_upc {S : ip_S} {a b : Nat} {i v : Int} (h : b ≠ a) : ip_up S a i v b = S b := by funext k; exact if_neg (by omega)
theorem x_fr_t {S S1 S2 : ip_S} (h1 : x_fr S S1) (h2 : x_fr S1 S2) : x_fr S S2 := fun b a1 a2 a3 a4 a5 a6 => (h2 b a1 a2 a3 a4 a5 a6).trans (h1 b a1 a2 a3 a4 a5 a6)
theorem x_fr_r {S : ip_S} : x_fr S S := fun _ _ _ _ _ _ _ => rfl
theorem x_fr_up {S S1 : ip_S} {a : Nat} {i v : Int} (h : x_fr S S1) (ha : a = 25 ∨ a = 44 ∨ a = 45 ∨ a = 46 ∨ a = 47 ∨ a = 48) : x_fr S (ip_up S1 a i v) := fun b a1 a2 a3 a4 a5 a6 => (ip_upc (by omega)).trans (h b a1 a2 a3 a4 a5 a6)
theorem x_fr_ar {S S1 : ip_S} {a : Nat} {f : Int → Int} (h : x_fr S S1) (ha : a = 25 ∨ a = 44 ∨ a = 45 ∨ a = 46 ∨ a = 47 ∨ a = 48) : x_fr S (ip_ar S1 a f) := fun b a1 a2 a3 a4 a5 a6 => (m_ar_ne (by omega)).trans (h b a1 a2 a3 a4 a5 a6)
theorem x_fr_W {S S1 : ip_S} (h : x_fr S S1) (hJ : x_J S) : w_X S1 = w_X S := by
  have h8 := h 8 (by omega) (by omega) (by omega) (by omega) (by omega) (by omega)
  have hr := hJ.2.2.2.2.2.2.1
  unfold w_X
  rw [h 2 (by omega) (by omega) (by omega) (by omega) (by omega) (by omega), h 3 (by omega) (by omega) (by omega) (by omega) (by omega) (by omega), h 4 (by omega) (by omega) (by omega) (by omega) (by omega) (by omega), h 5 (by omega) (by omega) (by omega) (by omega) (by omega) (by omega), h 6 (by omega) (by omega) (by omega) (by omega) (by omega) (by omega), h8, h (27 + 3 * (S 8 1).toNat) (by omega) (by omega) (by omega) (by omega) (by omega) (by omega), h (28 + 3 * (S 8 1).toNat) (by omega) (by omega) (by omega) (by omega) (by omega) (by omega)]
theorem x_fr_J {S S1 : ip_S} (h : x_fr S S1) (hJ : x_J S) : x_J S1 := by
  have g : ∀ b : Nat, b < 25 ∨ (26 ≤ b ∧ b < 44) → S1 b = S b := fun b hb => h b (by omega) (by omega) (by omega) (by omega) (by omega) (by omega)
  unfold x_J
  rw [g 2 (by omega), g 3 (by omega), g 4 (by omega), g 5 (by omega), g 6 (by omega), g 8 (by omega)]
  refine ⟨hJ.1, hJ.2.1, hJ.2.2.1, hJ.2.2.2.1, hJ.2.2.2.2.1, hJ.2.2.2.2.2.1, hJ.2.2.2.2.2.2.1, fun t ht => ?_⟩
  rw [g _ (by omega), g _ (by omega)]
  exact hJ.2.2.2.2.2.2.2 t ht
/-- what is told rests on the first six facts -/
theorem v_evc {c F F' : Int → Int} (h : ∀ k, 0 ≤ k → k < 6 → F k = F' k) : ∀ (k : Nat) (i : Int) (l : List Int), v_ev c F k i l = v_ev c F' k i l
  | 0, _, _ => rfl
  | k + 1, i, l => by
    unfold v_ev
    by_cases c1 : -7 < c i
    · rw [if_pos c1, if_pos c1]
      by_cases c2 : 0 ≤ c i
      · rw [if_pos c2, if_pos c2, v_evc h k]
      · rw [if_neg c2, if_neg c2, h _ (by omega) (by omega), v_evc h k]
    · rw [if_neg c1, if_neg c1]
      split
      · split
        · exact v_evc h k _ _
        · rfl
      · split
        · exact v_evc h k _ _
        · rfl
theorem v_valc {c e F F' : Int → Int} {p : Int} (h : ∀ k, 0 ≤ k → k < 6 → F k = F' k) : v_val c e F p = v_val c e F' p := v_evc h _ _ _
theorem v_evw {c F : Int → Int} (hF : ∀ k, 0 ≤ k → k < 6 → ip_w (F k) = F k) : ∀ (k : Nat) (i : Int) (l : List Int), 0 ≤ i → i + k ≤ 160 → (∀ k, 0 ≤ k → k < 160 → ip_w (c k) = c k) → (∀ x ∈ l, ip_w x = x) → ip_w (v_ev c F k i l) = v_ev c F k i l
  | 0, i, l, hi, hk, hc, hl => by
    unfold v_ev
    cases l with
    | nil => exact ip_w0
    | cons a r => exact hl a List.mem_cons_self
  | k + 1, i, l, hi, hk, hc, hl => by
    have hci := hc i hi (by omega)
    unfold v_ev
    split
    · split
      · exact ip_w0
      · refine v_evw hF k (i + 1) _ (by omega) (by omega) hc (fun x hx => ?_)
        rcases List.mem_cons.mp hx with h | h
        · subst h
          split
          · exact hci
          · exact hF _ (by omega) (by omega)
        · exact hl x h
    · split
      · split
        · rename_i b a r
          refine v_evw hF k (i + 1) _ (by omega) (by omega) hc (fun x hx => ?_)
          rcases List.mem_cons.mp hx with h | h
          · subst h; exact v_jnw
          · exact hl x (List.mem_cons_of_mem _ (List.mem_cons_of_mem _ h))
        · exact ip_w0
      · split
        · rename_i a r
          refine v_evw hF k (i + 1) _ (by omega) (by omega) hc (fun x hx => ?_)
          rcases List.mem_cons.mp hx with h | h
          · subst h; exact v_tnw
          · exact hl x (List.mem_cons_of_mem _ h)
        · exact ip_w0
theorem v_valw {c e F : Int → Int} {p : Int} (hp : 0 ≤ p ∧ p < 3) (he : ∀ k, 0 ≤ k → k < 3 → 0 ≤ e k ∧ e k ≤ 160) (hc : ∀ k, 0 ≤ k → k < 160 → ip_w (c k) = c k) (hF : ∀ k, 0 ≤ k → k < 6 → ip_w (F k) = F k) : ip_w (v_val c e F p) = v_val c e F p := by
  have h1 := he p hp.1 hp.2
  unfold v_val v_st
  by_cases c0 : p = 0
  · rw [if_pos c0]
    exact v_evw hF _ _ _ (by omega) (by omega) hc (fun x h => absurd h List.not_mem_nil)
  · rw [if_neg c0]
    have h2 := he (p - 1) (by omega) (by omega)
    by_cases c1 : e (p - 1) ≤ e p
    · exact v_evw hF _ _ _ (by omega) (by omega) hc (fun x h => absurd h List.not_mem_nil)
    · rw [show (e p - e (p - 1)).toNat = 0 by omega]
      exact ip_w0
section TDM
variable {d : Nat} {S : ip_S} {R : ip_R} {L : ip_S}
theorem rx18i (hX : x_RX R) {z : Int} (h0 : 0 ≤ z) (h1 : z < 6) : R 18 z = some (26 + 3 * z.toNat) := by
  have := (rx_T hX (t := z.toNat) (by omega)).1
  rwa [Int.toNat_of_nonneg h0] at this
theorem p57_0 {f b a s : Int} (hX : x_RX R) (hJ : x_J S) (hf : S 44 6 = f) (hb : S 44 7 = b) (ha : S 44 8 = a) (hs : S 44 9 = s) (hf2 : 0 ≤ f ∧ f < 6) (hb2 : 0 ≤ b ∧ b < 6) (ha2 : 0 ≤ a ∧ a < 8) (hs2 : 0 ≤ s ∧ s ≤ 40) :
    ∃ S', x_fr S S' ∧ (∀ k, 0 ≤ k → k < 3 → S' 46 k = w_v (w_X S) k f b false a s) ∧ S' 47 = S 47 ∧ S' 44 = S 44 ∧ S' 48 = S 48 ∧ ∀ Q, ip_wc (d + 3) 57 [.ref 44, .ref 46, vi 0] 79 S R L Q = Q none 79 S' R L := by
  obtain ⟨j2, j3, j4, j5, j6, j80, j81, jt⟩ := id hJ
  have t1 := jt (S 8 1).toNat (by omega)
  have g1 := j5 f hf2.1 hf2.2
  have g2 := j5 b hb2.1 hb2.2
  have g3 := j6 f hf2.1 hf2.2
  have g4 := j3 (a * 8 + S 6 f) (by omega) (by omega)
  generalize hV : (fun k F => v_val (S (27 + 3 * (S 8 1).toNat)) (S (28 + 3 * (S 8 1).toNat)) F k : Int → (Int → Int) → Int) = V
  generalize hS1 : ip_up (ip_up (ip_up (ip_up (ip_up (ip_up S 45 0 (S 3 (a * 8 + S 6 f))) 45 1 (S 5 f)) 45 2 s) 45 3 (S 8 0)) 45 4 0) 45 5 (S 5 b) = S1
  have e1 : ∀ c : Nat, c ≠ 45 → S1 c = S c := fun c hc => by
    rw [← hS1]
    simp only [ip_upc hc]
  have e45 : ∀ k, 0 ≤ k → k < 6 → S1 45 k = w_F (w_X S) f b false a s k := fun k h0 h1 => by
    rw [← hS1]
    obtain q | q | q | q | q | q : k = 0 ∨ k = 1 ∨ k = 2 ∨ k = 3 ∨ k = 4 ∨ k = 5 := by omega
    all_goals (subst q; simp [ip_up, w_F, w_D, w_go, w_nu, w_hr, w_X, k_n])
  have hF : ∀ k, 0 ≤ k → k < 6 → ip_w (S1 45 k) = S1 45 k := fun k h0 h1 => by
    rw [← hS1]
    obtain q | q | q | q | q | q : k = 0 ∨ k = 1 ∨ k = 2 ∨ k = 3 ∨ k = 4 ∨ k = 5 := by omega
    all_goals (subst q; simp [ip_up]; exact ip_wid (by omega) (by omega))
  have hT := rx_T hX (t := (S 8 1).toNat) (by omega)
  have key : ∀ (S2 : ip_S) (p : Int), (∀ c : Nat, c ≠ 25 → c ≠ 46 → S2 c = S1 c) → 0 ≤ p → p < 3 → ∃ s', ∀ Q, ip_wc (d + 2) 58 [.ref (26 + 3 * (S 8 1).toNat), vi p, .ref 45, .ref 25] 79 S2 R L Q = Q (some (vi (V p (S1 45)))) 79 (ip_ar S2 25 s') R L := by
    intro S2 p h2 hp0 hp3
    have c27 : S2 (27 + 3 * (S 8 1).toNat) = S (27 + 3 * (S 8 1).toNat) := by rw [h2 _ (by omega) (by omega), e1 _ (by omega)]
    have c28 : S2 (28 + 3 * (S 8 1).toNat) = S (28 + 3 * (S 8 1).toNat) := by rw [h2 _ (by omega) (by omega), e1 _ (by omega)]
    have c45 : S2 45 = S1 45 := h2 45 (by omega) (by omega)
    obtain ⟨s', h⟩ := p58 (d := d) (n := 79) (S := S2) (R := R) (L := L) (t := (S 8 1).toNat) (p := p) (by omega) (by omega) hT.2.1 hT.2.2 ⟨hp0, hp3⟩ (by rw [c28]; exact t1.2) (by rw [c27]; exact t1.1) (by rw [c45]; exact hF)
    rw [c27, c28, c45] at h
    refine ⟨s', fun Q => ?_⟩
    rw [h Q, ← hV]
  have hVw : ∀ p, 0 ≤ p → p < 3 → ip_w (V p (S1 45)) = V p (S1 45) := fun p h0 h1 => by
    rw [← hV]
    exact v_valw ⟨h0, h1⟩ t1.2 t1.1 hF
  obtain ⟨s0, k0⟩ := key S1 0 (fun _ _ _ => rfl) (by omega) (by omega)
  generalize hA : ip_up (ip_ar S1 25 s0) 46 0 (V 0 (S1 45)) = SA at *
  have a1 : ∀ c : Nat, c ≠ 25 → c ≠ 46 → SA c = S1 c := fun c h1 h2 => by rw [← hA, ip_upc h2, m_ar_ne h1]
  obtain ⟨s1, k1⟩ := key SA 1 a1 (by omega) (by omega)
  generalize hB : ip_up (ip_ar SA 25 s1) 46 1 (V 1 (S1 45)) = SB at *
  have a2 : ∀ c : Nat, c ≠ 25 → c ≠ 46 → SB c = S1 c := fun c h1 h2 => by rw [← hB, ip_upc h2, m_ar_ne h1, a1 c h1 h2]
  obtain ⟨s2, k2⟩ := key SB 2 a2 (by omega) (by omega)
  generalize hC : ip_up (ip_ar SB 25 s2) 46 2 (V 2 (S1 45)) = SC at *
  have a3 : ∀ c : Nat, c ≠ 25 → c ≠ 46 → SC c = S1 c := fun c h1 h2 => by rw [← hC, ip_upc h2, m_ar_ne h1, a2 c h1 h2]
  have hw : ∀ k, V k (S1 45) = w_v (w_X S) k f b false a s := fun k => by
    rw [← hV]
    exact v_valc e45
  refine ⟨SC, fun c q1 q2 q3 q4 q5 q6 => by rw [a3 c q1 (by omega), e1 c q3], fun k h0 h1 => ?_, by rw [a3 _ (by omega) (by omega), e1 _ (by omega)], by rw [a3 _ (by omega) (by omega), e1 _ (by omega)], by rw [a3 _ (by omega) (by omega), e1 _ (by omega)], fun Q => ?_⟩
  · rw [← hw]
    obtain q | q | q : k = 0 ∨ k = 1 ∨ k = 2 := by omega
    all_goals (subst q; rw [← hC])
    · simp only [ip_up, ip_ar, show ¬ (0 : Int) = 2 by omega, show ¬ (46 : Nat) = 25 by omega, and_false, if_false]
      rw [← hB]
      simp only [ip_up, ip_ar, show ¬ (0 : Int) = 1 by omega, show ¬ (46 : Nat) = 25 by omega, and_false, if_false]
      rw [← hA]
      simp [ip_up]
    · simp only [ip_up, ip_ar, show ¬ (1 : Int) = 2 by omega, show ¬ (46 : Nat) = 25 by omega, and_false, if_false]
      rw [← hB]
      simp [ip_up]
    · simp [ip_up]
  · have c1 : ∀ c : Nat, ∀ i v, c ≠ 45 → ip_up S 45 i v c = S c := fun c i v h => ip_upc h
    have r18 := rx18i hX j81.1 j81.2
    have p3' := fun S' Q' => p3 (d := d + 1) (n := 79) (S := S') (R := R) (L := L) (Q := Q') (x := a) (y := S 6 f) (by omega) (rx1_1 hX) (by omega) (by omega) (by omega) (by omega)
    have e81 : S1 8 = S 8 := e1 8 (by omega)
    rw [c57, s57_0]
    simp (disch := omega) only [s57_0, s57_1, s57_2, s57_3, s57_4, s57_5, s57_6, s57_7, s57_8, s57_9, s57_10, s57_11, s57_12, s57_13, s57_14, s57_15, s57_16, s57_17, s57_18, s57_19, s57_20, s57_21, s57_22, s57_23, s57_24, s57_25, s57_26, s57_27, s57_28, s57_29, s57_30, s57_31, s57_32, s57_33, s57_34, s57_35, s57_36, s57_37, s57_38, s57_39, s57_40, s57_41, s57_42, s57_43, s57_44, s57_45, s57_46, s57_47, s57_48, s57_49, s57_50, s57_51, s57_52, s57_53, s57_54, s57_55, s57_56, s57_57, s57_58, s57_59, s57_60, s57_61, s57_62, s57_63, s57_64, s57_65, s57_66, s57_67, s57_68, s57_69, s57_70, s57_71, s57_72, s57_73, s57_74, s57_75, s57_76, s57_77, s57_78, s57_79, s57_80, s57_81, s57_82, s57_83, s57_85, s57_86, s57_87, s57_88, s57_89, s57_90, s57_91, s57_92, s57_93, s57_94, s57_95, s57_96, s57_97, s57_98, s57_99, s57_100, ↓reduceIte, Bool.true_eq_false, Bool.false_eq_true, ip_rfS, true_or, or_true, true_and, and_true, Option.toList_some, Option.toList_none, List.cons_append, List.nil_append, ip_fxn, ip_fxi, ip_fxr, ip_fxl, ip_wid, ip_n998, ip_lt900, iO0, iO1, iA2, iA3, iA4, iA5, iA6, iA7, iA8, iO9, iA10, iA11, iA12, iA13, iA14, iA15, iA16, iO17, iA18, iO19, iA20, iA21, iA22, iA23, iO24, iA25, iO26, iA27, iA28, iO29, iA30, iA31, iO32, iA33, iA34, iO35, iA36, iA37, iO38, iA39, iA40, iO41, iA42, iA43, iO44, iA45, iA46, iA47, iA48, iA49, iA50, iA51, iA52, iA53, iO54, iA55, iO56, iA57, iO58, iA59, iO60, iA61, iO62, iA63, iA64, iA65, iA66, iA67, iA68, iA69, iA70, iA71, iA72, iA73, iA74, iA75, iA76, iA77, iA78, iOT, iAT1, iAT2, iOS, iAS, ↓yfx0_0 hX, ↓yfx0_1 hX, ↓yfx0_3 hX, ↓yfx0_4 hX, ↓yfx0_5 hX, ↓yfx0_6 hX, ↓yfx0_7 hX, ↓yfx0_8 hX, ↓yfx0_9 hX, ↓yfx1_0 hX, ↓yfx1_1 hX, ↓yfx1_2 hX, ↓yfx1_3 hX, ↓yfx1_4 hX, ↓yfx1_5 hX, ↓yfx1_6 hX, ↓yfx9_0 hX, ↓yfx9_1 hX, ↓yfx9_2 hX, ↓yfx9_3 hX, ↓yfx9_4 hX, ↓yfx9_5 hX, ↓yfx9_6 hX, ↓yfx17_0 hX, ↓yfx17_1 hX, ↓yfx17_2 hX, ↓yfx17_3 hX, ↓yfx24_0 hX, ↓yfx19_0 hX, ↓yfx19_1 hX, ↓yfx19_2 hX, ↓yfx19_3 hX, ↓yfx18_0 hX, ↓yfx26_0 hX, ↓yfx26_1 hX, ↓yfx18_1 hX, ↓yfx29_0 hX, ↓yfx29_1 hX, ↓yfx18_2 hX, ↓yfx32_0 hX, ↓yfx32_1 hX, ↓yfx18_3 hX, ↓yfx35_0 hX, ↓yfx35_1 hX, ↓yfx18_4 hX, ↓yfx38_0 hX, ↓yfx38_1 hX, ↓yfx18_5 hX, ↓yfx41_0 hX, ↓yfx41_1 hX, ↓yfx44_0 hX, ↓yfx44_1 hX, ↓yfx44_2 hX, ↓yfx44_3 hX, ↓yfx44_4 hX, ↓yfx44_5 hX, ↓yfx49_0 hX, ↓yfx54_0 hX, ↓yfx49_1 hX, ↓yfx56_0 hX, ↓yfx49_2 hX, ↓yfx58_0 hX, ↓yfx49_3 hX, ↓yfx60_0 hX, rx0_0 hX, rx0_1 hX, rx0_3 hX, rx0_4 hX, rx0_5 hX, rx0_6 hX, rx0_7 hX, rx0_8 hX, rx0_9 hX, rx1_0 hX, rx1_1 hX, rx1_2 hX, rx1_3 hX, rx1_4 hX, rx1_5 hX, rx1_6 hX, rx9_0 hX, rx9_1 hX, rx9_2 hX, rx9_3 hX, rx9_4 hX, rx9_5 hX, rx9_6 hX, rx17_0 hX, rx17_1 hX, rx17_2 hX, rx17_3 hX, rx24_0 hX, rx19_0 hX, rx19_1 hX, rx19_2 hX, rx19_3 hX, rx18_0 hX, rx26_0 hX, rx26_1 hX, rx18_1 hX, rx29_0 hX, rx29_1 hX, rx18_2 hX, rx32_0 hX, rx32_1 hX, rx18_3 hX, rx35_0 hX, rx35_1 hX, rx18_4 hX, rx38_0 hX, rx38_1 hX, rx18_5 hX, rx41_0 hX, rx41_1 hX, rx44_0 hX, rx44_1 hX, rx44_2 hX, rx44_3 hX, rx44_4 hX, rx44_5 hX, rx49_0 hX, rx54_0 hX, rx49_1 hX, rx56_0 hX, rx49_2 hX, rx58_0 hX, rx49_3 hX, rx60_0 hX, hf, hb, ha, hs, p3', ip_upc, r18, hS1, e81, Int.reduceEq]
    simp (disch := omega) only [s57_0, s57_1, s57_2, s57_3, s57_4, s57_5, s57_6, s57_7, s57_8, s57_9, s57_10, s57_11, s57_12, s57_13, s57_14, s57_15, s57_16, s57_17, s57_18, s57_19, s57_20, s57_21, s57_22, s57_23, s57_24, s57_25, s57_26, s57_27, s57_28, s57_29, s57_30, s57_31, s57_32, s57_33, s57_34, s57_35, s57_36, s57_37, s57_38, s57_39, s57_40, s57_41, s57_42, s57_43, s57_44, s57_45, s57_46, s57_47, s57_48, s57_49, s57_50, s57_51, s57_52, s57_53, s57_54, s57_55, s57_56, s57_57, s57_58, s57_59, s57_60, s57_61, s57_62, s57_63, s57_64, s57_65, s57_66, s57_67, s57_68, s57_69, s57_70, s57_71, s57_72, s57_73, s57_74, s57_75, s57_76, s57_77, s57_78, s57_79, s57_80, s57_81, s57_82, s57_83, s57_84, s57_85, s57_86, s57_87, s57_88, s57_89, s57_90, s57_91, s57_92, s57_93, s57_94, s57_95, s57_96, s57_97, s57_98, s57_99, s57_100, ↓reduceIte, Bool.true_eq_false, Bool.false_eq_true, ip_rfS, true_or, or_true, true_and, and_true, Option.toList_some, Option.toList_none, List.cons_append, List.nil_append, ip_fxn, ip_fxi, ip_fxr, ip_fxl, ip_wid, ip_n998, ip_lt900, iO0, iO1, iA2, iA3, iA4, iA5, iA6, iA7, iA8, iO9, iA10, iA11, iA12, iA13, iA14, iA15, iA16, iO17, iA18, iO19, iA20, iA21, iA22, iA23, iO24, iA25, iO26, iA27, iA28, iO29, iA30, iA31, iO32, iA33, iA34, iO35, iA36, iA37, iO38, iA39, iA40, iO41, iA42, iA43, iO44, iA45, iA46, iA47, iA48, iA49, iA50, iA51, iA52, iA53, iO54, iA55, iO56, iA57, iO58, iA59, iO60, iA61, iO62, iA63, iA64, iA65, iA66, iA67, iA68, iA69, iA70, iA71, iA72, iA73, iA74, iA75, iA76, iA77, iA78, iOT, iAT1, iAT2, iOS, iAS, ↓yfx0_0 hX, ↓yfx0_1 hX, ↓yfx0_3 hX, ↓yfx0_4 hX, ↓yfx0_5 hX, ↓yfx0_6 hX, ↓yfx0_7 hX, ↓yfx0_8 hX, ↓yfx0_9 hX, ↓yfx1_0 hX, ↓yfx1_1 hX, ↓yfx1_2 hX, ↓yfx1_3 hX, ↓yfx1_4 hX, ↓yfx1_5 hX, ↓yfx1_6 hX, ↓yfx9_0 hX, ↓yfx9_1 hX, ↓yfx9_2 hX, ↓yfx9_3 hX, ↓yfx9_4 hX, ↓yfx9_5 hX, ↓yfx9_6 hX, ↓yfx17_0 hX, ↓yfx17_1 hX, ↓yfx17_2 hX, ↓yfx17_3 hX, ↓yfx24_0 hX, ↓yfx19_0 hX, ↓yfx19_1 hX, ↓yfx19_2 hX, ↓yfx19_3 hX, ↓yfx18_0 hX, ↓yfx26_0 hX, ↓yfx26_1 hX, ↓yfx18_1 hX, ↓yfx29_0 hX, ↓yfx29_1 hX, ↓yfx18_2 hX, ↓yfx32_0 hX, ↓yfx32_1 hX, ↓yfx18_3 hX, ↓yfx35_0 hX, ↓yfx35_1 hX, ↓yfx18_4 hX, ↓yfx38_0 hX, ↓yfx38_1 hX, ↓yfx18_5 hX, ↓yfx41_0 hX, ↓yfx41_1 hX, ↓yfx44_0 hX, ↓yfx44_1 hX, ↓yfx44_2 hX, ↓yfx44_3 hX, ↓yfx44_4 hX, ↓yfx44_5 hX, ↓yfx49_0 hX, ↓yfx54_0 hX, ↓yfx49_1 hX, ↓yfx56_0 hX, ↓yfx49_2 hX, ↓yfx58_0 hX, ↓yfx49_3 hX, ↓yfx60_0 hX, rx0_0 hX, rx0_1 hX, rx0_3 hX, rx0_4 hX, rx0_5 hX, rx0_6 hX, rx0_7 hX, rx0_8 hX, rx0_9 hX, rx1_0 hX, rx1_1 hX, rx1_2 hX, rx1_3 hX, rx1_4 hX, rx1_5 hX, rx1_6 hX, rx9_0 hX, rx9_1 hX, rx9_2 hX, rx9_3 hX, rx9_4 hX, rx9_5 hX, rx9_6 hX, rx17_0 hX, rx17_1 hX, rx17_2 hX, rx17_3 hX, rx24_0 hX, rx19_0 hX, rx19_1 hX, rx19_2 hX, rx19_3 hX, rx18_0 hX, rx26_0 hX, rx26_1 hX, rx18_1 hX, rx29_0 hX, rx29_1 hX, rx18_2 hX, rx32_0 hX, rx32_1 hX, rx18_3 hX, rx35_0 hX, rx35_1 hX, rx18_4 hX, rx38_0 hX, rx38_1 hX, rx18_5 hX, rx41_0 hX, rx41_1 hX, rx44_0 hX, rx44_1 hX, rx44_2 hX, rx44_3 hX, rx44_4 hX, rx44_5 hX, rx49_0 hX, rx54_0 hX, rx49_1 hX, rx56_0 hX, rx49_2 hX, rx58_0 hX, rx49_3 hX, rx60_0 hX, k0, k1, k2, hVw 0 (by omega) (by omega), hVw 1 (by omega) (by omega), hVw 2 (by omega) (by omega), hA, hB, hC, Int.reduceLT, Int.reduceAdd]
theorem p57_1 {f b a s : Int} (hX : x_RX R) (hJ : x_J S) (hf : S 44 6 = f) (hb : S 44 7 = b) (ha : S 44 8 = a) (hs : S 44 9 = s) (hf2 : 0 ≤ f ∧ f < 6) (hb2 : 0 ≤ b ∧ b < 6) (ha2 : 0 ≤ a ∧ a < 8) (hs2 : 0 ≤ s ∧ s ≤ 40) :
    ∃ S', x_fr S S' ∧ (∀ k, 0 ≤ k → k < 3 → S' 47 k = w_v (w_X S) k b f true a s) ∧ S' 46 = S 46 ∧ S' 44 = S 44 ∧ S' 48 = S 48 ∧ ∀ Q, ip_wc (d + 3) 57 [.ref 44, .ref 47, vi 1] 79 S R L Q = Q none 79 S' R L := by
  obtain ⟨j2, j3, j4, j5, j6, j80, j81, jt⟩ := id hJ
  have t1 := jt (S 8 1).toNat (by omega)
  have g1 := j5 b hb2.1 hb2.2
  have g2 := j5 f hf2.1 hf2.2
  have g3 := j6 b hb2.1 hb2.2
  have g4 := j3 (a * 8 + S 6 b) (by omega) (by omega)
  generalize hV : (fun k F => v_val (S (27 + 3 * (S 8 1).toNat)) (S (28 + 3 * (S 8 1).toNat)) F k : Int → (Int → Int) → Int) = V
  generalize hS1 : ip_up (ip_up (ip_up (ip_up (ip_up (ip_up S 45 0 (S 3 (a * 8 + S 6 b))) 45 1 (S 5 b)) 45 2 s) 45 3 (S 8 0)) 45 4 1) 45 5 (S 5 f) = S1
  have e1 : ∀ c : Nat, c ≠ 45 → S1 c = S c := fun c hc => by
    rw [← hS1]
    simp only [ip_upc hc]
  have e45 : ∀ k, 0 ≤ k → k < 6 → S1 45 k = w_F (w_X S) b f true a s k := fun k h0 h1 => by
    rw [← hS1]
    obtain q | q | q | q | q | q : k = 0 ∨ k = 1 ∨ k = 2 ∨ k = 3 ∨ k = 4 ∨ k = 5 := by omega
    all_goals (subst q; simp [ip_up, w_F, w_D, w_go, w_nu, w_hr, w_X, k_n])
  have hF : ∀ k, 0 ≤ k → k < 6 → ip_w (S1 45 k) = S1 45 k := fun k h0 h1 => by
    rw [← hS1]
    obtain q | q | q | q | q | q : k = 0 ∨ k = 1 ∨ k = 2 ∨ k = 3 ∨ k = 4 ∨ k = 5 := by omega
    all_goals (subst q; simp [ip_up]; exact ip_wid (by omega) (by omega))
  have hT := rx_T hX (t := (S 8 1).toNat) (by omega)
  have key : ∀ (S2 : ip_S) (p : Int), (∀ c : Nat, c ≠ 25 → c ≠ 47 → S2 c = S1 c) → 0 ≤ p → p < 3 → ∃ s', ∀ Q, ip_wc (d + 2) 58 [.ref (26 + 3 * (S 8 1).toNat), vi p, .ref 45, .ref 25] 79 S2 R L Q = Q (some (vi (V p (S1 45)))) 79 (ip_ar S2 25 s') R L := by
    intro S2 p h2 hp0 hp3
    have c27 : S2 (27 + 3 * (S 8 1).toNat) = S (27 + 3 * (S 8 1).toNat) := by rw [h2 _ (by omega) (by omega), e1 _ (by omega)]
    have c28 : S2 (28 + 3 * (S 8 1).toNat) = S (28 + 3 * (S 8 1).toNat) := by rw [h2 _ (by omega) (by omega), e1 _ (by omega)]
    have c45 : S2 45 = S1 45 := h2 45 (by omega) (by omega)
    obtain ⟨s', h⟩ := p58 (d := d) (n := 79) (S := S2) (R := R) (L := L) (t := (S 8 1).toNat) (p := p) (by omega) (by omega) hT.2.1 hT.2.2 ⟨hp0, hp3⟩ (by rw [c28]; exact t1.2) (by rw [c27]; exact t1.1) (by rw [c45]; exact hF)
    rw [c27, c28, c45] at h
    refine ⟨s', fun Q => ?_⟩
    rw [h Q, ← hV]
  have hVw : ∀ p, 0 ≤ p → p < 3 → ip_w (V p (S1 45)) = V p (S1 45) := fun p h0 h1 => by
    rw [← hV]
    exact v_valw ⟨h0, h1⟩ t1.2 t1.1 hF
  obtain ⟨s0, k0⟩ := key S1 0 (fun _ _ _ => rfl) (by omega) (by omega)
  generalize hA : ip_up (ip_ar S1 25 s0) 47 0 (V 0 (S1 45)) = SA at *
  have a1 : ∀ c : Nat, c ≠ 25 → c ≠ 47 → SA c = S1 c := fun c h1 h2 => by rw [← hA, ip_upc h2, m_ar_ne h1]
  obtain ⟨s1, k1⟩ := key SA 1 a1 (by omega) (by omega)
  generalize hB : ip_up (ip_ar SA 25 s1) 47 1 (V 1 (S1 45)) = SB at *
  have a2 : ∀ c : Nat, c ≠ 25 → c ≠ 47 → SB c = S1 c := fun c h1 h2 => by rw [← hB, ip_upc h2, m_ar_ne h1, a1 c h1 h2]
  obtain ⟨s2, k2⟩ := key SB 2 a2 (by omega) (by omega)
  generalize hC : ip_up (ip_ar SB 25 s2) 47 2 (V 2 (S1 45)) = SC at *
  have a3 : ∀ c : Nat, c ≠ 25 → c ≠ 47 → SC c = S1 c := fun c h1 h2 => by rw [← hC, ip_upc h2, m_ar_ne h1, a2 c h1 h2]
  have hw : ∀ k, V k (S1 45) = w_v (w_X S) k b f true a s := fun k => by
    rw [← hV]
    exact v_valc e45
  refine ⟨SC, fun c q1 q2 q3 q4 q5 q6 => by rw [a3 c q1 (by omega), e1 c q3], fun k h0 h1 => ?_, by rw [a3 _ (by omega) (by omega), e1 _ (by omega)], by rw [a3 _ (by omega) (by omega), e1 _ (by omega)], by rw [a3 _ (by omega) (by omega), e1 _ (by omega)], fun Q => ?_⟩
  · rw [← hw]
    obtain q | q | q : k = 0 ∨ k = 1 ∨ k = 2 := by omega
    all_goals (subst q; rw [← hC])
    · simp only [ip_up, ip_ar, show ¬ (0 : Int) = 2 by omega, show ¬ (47 : Nat) = 25 by omega, and_false, if_false]
      rw [← hB]
      simp only [ip_up, ip_ar, show ¬ (0 : Int) = 1 by omega, show ¬ (47 : Nat) = 25 by omega, and_false, if_false]
      rw [← hA]
      simp [ip_up]
    · simp only [ip_up, ip_ar, show ¬ (1 : Int) = 2 by omega, show ¬ (47 : Nat) = 25 by omega, and_false, if_false]
      rw [← hB]
      simp [ip_up]
    · simp [ip_up]
  · have c1 : ∀ c : Nat, ∀ i v, c ≠ 45 → ip_up S 45 i v c = S c := fun c i v h => ip_upc h
    have r18 := rx18i hX j81.1 j81.2
    have p3' := fun S' Q' => p3 (d := d + 1) (n := 79) (S := S') (R := R) (L := L) (Q := Q') (x := a) (y := S 6 b) (by omega) (rx1_1 hX) (by omega) (by omega) (by omega) (by omega)
    have e81 : S1 8 = S 8 := e1 8 (by omega)
    rw [c57, s57_0]
    simp (disch := omega) only [s57_0, s57_1, s57_2, s57_3, s57_4, s57_5, s57_6, s57_7, s57_8, s57_9, s57_10, s57_11, s57_12, s57_13, s57_14, s57_15, s57_16, s57_17, s57_18, s57_19, s57_20, s57_21, s57_22, s57_23, s57_24, s57_25, s57_26, s57_27, s57_28, s57_29, s57_30, s57_31, s57_32, s57_33, s57_34, s57_35, s57_36, s57_37, s57_38, s57_39, s57_40, s57_41, s57_42, s57_43, s57_44, s57_45, s57_46, s57_47, s57_48, s57_49, s57_50, s57_51, s57_52, s57_53, s57_54, s57_55, s57_56, s57_57, s57_58, s57_59, s57_60, s57_61, s57_62, s57_63, s57_64, s57_65, s57_66, s57_67, s57_68, s57_69, s57_70, s57_71, s57_72, s57_73, s57_74, s57_75, s57_76, s57_77, s57_78, s57_79, s57_80, s57_81, s57_82, s57_83, s57_85, s57_86, s57_87, s57_88, s57_89, s57_90, s57_91, s57_92, s57_93, s57_94, s57_95, s57_96, s57_97, s57_98, s57_99, s57_100, ↓reduceIte, Bool.true_eq_false, Bool.false_eq_true, ip_rfS, true_or, or_true, true_and, and_true, Option.toList_some, Option.toList_none, List.cons_append, List.nil_append, ip_fxn, ip_fxi, ip_fxr, ip_fxl, ip_wid, ip_n998, ip_lt900, iO0, iO1, iA2, iA3, iA4, iA5, iA6, iA7, iA8, iO9, iA10, iA11, iA12, iA13, iA14, iA15, iA16, iO17, iA18, iO19, iA20, iA21, iA22, iA23, iO24, iA25, iO26, iA27, iA28, iO29, iA30, iA31, iO32, iA33, iA34, iO35, iA36, iA37, iO38, iA39, iA40, iO41, iA42, iA43, iO44, iA45, iA46, iA47, iA48, iA49, iA50, iA51, iA52, iA53, iO54, iA55, iO56, iA57, iO58, iA59, iO60, iA61, iO62, iA63, iA64, iA65, iA66, iA67, iA68, iA69, iA70, iA71, iA72, iA73, iA74, iA75, iA76, iA77, iA78, iOT, iAT1, iAT2, iOS, iAS, ↓yfx0_0 hX, ↓yfx0_1 hX, ↓yfx0_3 hX, ↓yfx0_4 hX, ↓yfx0_5 hX, ↓yfx0_6 hX, ↓yfx0_7 hX, ↓yfx0_8 hX, ↓yfx0_9 hX, ↓yfx1_0 hX, ↓yfx1_1 hX, ↓yfx1_2 hX, ↓yfx1_3 hX, ↓yfx1_4 hX, ↓yfx1_5 hX, ↓yfx1_6 hX, ↓yfx9_0 hX, ↓yfx9_1 hX, ↓yfx9_2 hX, ↓yfx9_3 hX, ↓yfx9_4 hX, ↓yfx9_5 hX, ↓yfx9_6 hX, ↓yfx17_0 hX, ↓yfx17_1 hX, ↓yfx17_2 hX, ↓yfx17_3 hX, ↓yfx24_0 hX, ↓yfx19_0 hX, ↓yfx19_1 hX, ↓yfx19_2 hX, ↓yfx19_3 hX, ↓yfx18_0 hX, ↓yfx26_0 hX, ↓yfx26_1 hX, ↓yfx18_1 hX, ↓yfx29_0 hX, ↓yfx29_1 hX, ↓yfx18_2 hX, ↓yfx32_0 hX, ↓yfx32_1 hX, ↓yfx18_3 hX, ↓yfx35_0 hX, ↓yfx35_1 hX, ↓yfx18_4 hX, ↓yfx38_0 hX, ↓yfx38_1 hX, ↓yfx18_5 hX, ↓yfx41_0 hX, ↓yfx41_1 hX, ↓yfx44_0 hX, ↓yfx44_1 hX, ↓yfx44_2 hX, ↓yfx44_3 hX, ↓yfx44_4 hX, ↓yfx44_5 hX, ↓yfx49_0 hX, ↓yfx54_0 hX, ↓yfx49_1 hX, ↓yfx56_0 hX, ↓yfx49_2 hX, ↓yfx58_0 hX, ↓yfx49_3 hX, ↓yfx60_0 hX, rx0_0 hX, rx0_1 hX, rx0_3 hX, rx0_4 hX, rx0_5 hX, rx0_6 hX, rx0_7 hX, rx0_8 hX, rx0_9 hX, rx1_0 hX, rx1_1 hX, rx1_2 hX, rx1_3 hX, rx1_4 hX, rx1_5 hX, rx1_6 hX, rx9_0 hX, rx9_1 hX, rx9_2 hX, rx9_3 hX, rx9_4 hX, rx9_5 hX, rx9_6 hX, rx17_0 hX, rx17_1 hX, rx17_2 hX, rx17_3 hX, rx24_0 hX, rx19_0 hX, rx19_1 hX, rx19_2 hX, rx19_3 hX, rx18_0 hX, rx26_0 hX, rx26_1 hX, rx18_1 hX, rx29_0 hX, rx29_1 hX, rx18_2 hX, rx32_0 hX, rx32_1 hX, rx18_3 hX, rx35_0 hX, rx35_1 hX, rx18_4 hX, rx38_0 hX, rx38_1 hX, rx18_5 hX, rx41_0 hX, rx41_1 hX, rx44_0 hX, rx44_1 hX, rx44_2 hX, rx44_3 hX, rx44_4 hX, rx44_5 hX, rx49_0 hX, rx54_0 hX, rx49_1 hX, rx56_0 hX, rx49_2 hX, rx58_0 hX, rx49_3 hX, rx60_0 hX, hf, hb, ha, hs, p3', ip_upc, r18, hS1, e81, Int.reduceEq]
    simp (disch := omega) only [s57_0, s57_1, s57_2, s57_3, s57_4, s57_5, s57_6, s57_7, s57_8, s57_9, s57_10, s57_11, s57_12, s57_13, s57_14, s57_15, s57_16, s57_17, s57_18, s57_19, s57_20, s57_21, s57_22, s57_23, s57_24, s57_25, s57_26, s57_27, s57_28, s57_29, s57_30, s57_31, s57_32, s57_33, s57_34, s57_35, s57_36, s57_37, s57_38, s57_39, s57_40, s57_41, s57_42, s57_43, s57_44, s57_45, s57_46, s57_47, s57_48, s57_49, s57_50, s57_51, s57_52, s57_53, s57_54, s57_55, s57_56, s57_57, s57_58, s57_59, s57_60, s57_61, s57_62, s57_63, s57_64, s57_65, s57_66, s57_67, s57_68, s57_69, s57_70, s57_71, s57_72, s57_73, s57_74, s57_75, s57_76, s57_77, s57_78, s57_79, s57_80, s57_81, s57_82, s57_83, s57_84, s57_85, s57_86, s57_87, s57_88, s57_89, s57_90, s57_91, s57_92, s57_93, s57_94, s57_95, s57_96, s57_97, s57_98, s57_99, s57_100, ↓reduceIte, Bool.true_eq_false, Bool.false_eq_true, ip_rfS, true_or, or_true, true_and, and_true, Option.toList_some, Option.toList_none, List.cons_append, List.nil_append, ip_fxn, ip_fxi, ip_fxr, ip_fxl, ip_wid, ip_n998, ip_lt900, iO0, iO1, iA2, iA3, iA4, iA5, iA6, iA7, iA8, iO9, iA10, iA11, iA12, iA13, iA14, iA15, iA16, iO17, iA18, iO19, iA20, iA21, iA22, iA23, iO24, iA25, iO26, iA27, iA28, iO29, iA30, iA31, iO32, iA33, iA34, iO35, iA36, iA37, iO38, iA39, iA40, iO41, iA42, iA43, iO44, iA45, iA46, iA47, iA48, iA49, iA50, iA51, iA52, iA53, iO54, iA55, iO56, iA57, iO58, iA59, iO60, iA61, iO62, iA63, iA64, iA65, iA66, iA67, iA68, iA69, iA70, iA71, iA72, iA73, iA74, iA75, iA76, iA77, iA78, iOT, iAT1, iAT2, iOS, iAS, ↓yfx0_0 hX, ↓yfx0_1 hX, ↓yfx0_3 hX, ↓yfx0_4 hX, ↓yfx0_5 hX, ↓yfx0_6 hX, ↓yfx0_7 hX, ↓yfx0_8 hX, ↓yfx0_9 hX, ↓yfx1_0 hX, ↓yfx1_1 hX, ↓yfx1_2 hX, ↓yfx1_3 hX, ↓yfx1_4 hX, ↓yfx1_5 hX, ↓yfx1_6 hX, ↓yfx9_0 hX, ↓yfx9_1 hX, ↓yfx9_2 hX, ↓yfx9_3 hX, ↓yfx9_4 hX, ↓yfx9_5 hX, ↓yfx9_6 hX, ↓yfx17_0 hX, ↓yfx17_1 hX, ↓yfx17_2 hX, ↓yfx17_3 hX, ↓yfx24_0 hX, ↓yfx19_0 hX, ↓yfx19_1 hX, ↓yfx19_2 hX, ↓yfx19_3 hX, ↓yfx18_0 hX, ↓yfx26_0 hX, ↓yfx26_1 hX, ↓yfx18_1 hX, ↓yfx29_0 hX, ↓yfx29_1 hX, ↓yfx18_2 hX, ↓yfx32_0 hX, ↓yfx32_1 hX, ↓yfx18_3 hX, ↓yfx35_0 hX, ↓yfx35_1 hX, ↓yfx18_4 hX, ↓yfx38_0 hX, ↓yfx38_1 hX, ↓yfx18_5 hX, ↓yfx41_0 hX, ↓yfx41_1 hX, ↓yfx44_0 hX, ↓yfx44_1 hX, ↓yfx44_2 hX, ↓yfx44_3 hX, ↓yfx44_4 hX, ↓yfx44_5 hX, ↓yfx49_0 hX, ↓yfx54_0 hX, ↓yfx49_1 hX, ↓yfx56_0 hX, ↓yfx49_2 hX, ↓yfx58_0 hX, ↓yfx49_3 hX, ↓yfx60_0 hX, rx0_0 hX, rx0_1 hX, rx0_3 hX, rx0_4 hX, rx0_5 hX, rx0_6 hX, rx0_7 hX, rx0_8 hX, rx0_9 hX, rx1_0 hX, rx1_1 hX, rx1_2 hX, rx1_3 hX, rx1_4 hX, rx1_5 hX, rx1_6 hX, rx9_0 hX, rx9_1 hX, rx9_2 hX, rx9_3 hX, rx9_4 hX, rx9_5 hX, rx9_6 hX, rx17_0 hX, rx17_1 hX, rx17_2 hX, rx17_3 hX, rx24_0 hX, rx19_0 hX, rx19_1 hX, rx19_2 hX, rx19_3 hX, rx18_0 hX, rx26_0 hX, rx26_1 hX, rx18_1 hX, rx29_0 hX, rx29_1 hX, rx18_2 hX, rx32_0 hX, rx32_1 hX, rx18_3 hX, rx35_0 hX, rx35_1 hX, rx18_4 hX, rx38_0 hX, rx38_1 hX, rx18_5 hX, rx41_0 hX, rx41_1 hX, rx44_0 hX, rx44_1 hX, rx44_2 hX, rx44_3 hX, rx44_4 hX, rx44_5 hX, rx49_0 hX, rx54_0 hX, rx49_1 hX, rx56_0 hX, rx49_2 hX, rx58_0 hX, rx49_3 hX, rx60_0 hX, k0, k1, k2, hVw 0 (by omega) (by omega), hVw 1 (by omega) (by omega), hVw 2 (by omega) (by omega), hA, hB, hC, Int.reduceLT, Int.reduceAdd]
end TDM
