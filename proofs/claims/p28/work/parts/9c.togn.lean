/-! the reference's ways, told as the least of them -/
section TGN
variable {d : Nat} {S : ip_S} {R : ip_R} {L : ip_S}
/-- what 210 does, below some number of people -/
def y_mt (D : Nat) (S : ip_S) (R : ip_R) (L : ip_S) (V : Nat → Nat → Int) (p l : Nat) : Prop :=
  ∀ (way miles : Int) (st : Int × Int), 0 ≤ way → way * 100 ^ (t_pc l / 2) + 100 ^ (t_pc l / 2) ≤ 1000000 → 0 ≤ miles → miles + 3960 * ((t_pc l / 2 : Nat) : Int) ≤ 11880 → t_sr st →
    ∀ Q, ip_wc D 210 [.ref 62, vi (l : Int), vi way, vi miles] 79 (m_st S st) R L Q = Q none 79 (m_st S (t_lk st (way * 100 ^ (t_pc l / 2) + (t_al V l).2) (miles + (t_al V l).1))) R L
theorem t_apr {V : Nat → Nat → Int} {st : Int × Int} {P : Nat} {way miles : Int} {c : Int × Int} (hs : t_sr st) (hw : 0 ≤ way) (hwP : way * 100 ^ P + 100 ^ P ≤ 1000000) (hm : 0 ≤ miles) (hmP : miles + 3960 * (P : Int) ≤ 11880) (hc : c = (-1, 0) ∨ t_bd (3960 * (P : Int)) P c) : t_sr (t_ap st P way miles c) := by
  have hp : (0 : Int) ≤ way * 100 ^ P := Int.mul_nonneg hw (Int.pow_nonneg (by omega))
  unfold t_ap
  split
  · exact hs
  · rename_i z
    rcases hc with hc | hc
    · rw [hc] at z
      exact absurd rfl z
    · obtain ⟨⟨c1, c2⟩, c3, c4⟩ := hc
      exact t_srl hs (by omega) (by omega)
theorem y210l {D : Nat} {V : Nat → Nat → Int} {p l : Nat} {way miles : Int} {st : Int × Int} (hM : x_RM R) (hV : ∀ i j, 0 ≤ V i j ∧ V i j ≤ 3960) (hp : p < 7) (h6 : l < 64) (hlp : l < 2 ^ p) (h0 : 0 < l) (hS : ∀ i j : Nat, i < j → j < p → S 71 (6 * (i : Int) + (j : Int)) = V i j)
    (ih : ∀ r : Nat, r < 64 → r < 2 ^ p → t_pc r < t_pc l → y_mt D S R L V p r) (hw : 0 ≤ way) (hwP : way * 100 ^ (t_pc l / 2) + 100 ^ (t_pc l / 2) ≤ 1000000) (hm : 0 ≤ miles) (hmP : miles + 3960 * ((t_pc l / 2 : Nat) : Int) ≤ 11880) (hs : t_sr st) :
    ∀ (k o : Nat) (c : Int × Int), o + k = 6 → t_lo l < o → (c = (-1, 0) ∨ t_bd (3960 * ((t_pc l / 2 : Nat) : Int)) (t_pc l / 2) c) → ∃ c', c' = t_s V (t_al V) (t_lo l) (t_rm l (t_lo l)) k o c ∧ (c' = (-1, 0) ∨ t_bd (3960 * ((t_pc l / 2 : Nat) : Int)) (t_pc l / 2) c') ∧ ∀ Q,
      ip_wp D 210 25 [some (.ref 62), some (vi (l : Int)), some (vi way), some (vi miles), some (vi (t_lo l : Int)), some (vi (t_rm l (t_lo l) : Int)), some (vi (o : Int))] [] 79 (m_st S (t_ap st (t_pc l / 2) way miles c)) R L Q = ip_wp D 210 69 [some (.ref 62), some (vi (l : Int)), some (vi way), some (vi miles), some (vi (t_lo l : Int)), some (vi (t_rm l (t_lo l) : Int)), some (vi 6)] [] 79 (m_st S (t_ap st (t_pc l / 2) way miles c')) R L Q
  | 0, o, c, h, hlo, hc => by
    obtain rfl : o = 6 := by omega
    refine ⟨c, rfl, hc, fun Q => ?_⟩
    rw [s210_25]
    simp (disch := omega) only [s210_26, s210_27, s210_28, s210_29, s210_30, s210_31, s210_32, s210_33, s210_34, s210_35, s210_36, s210_37, s210_38, s210_39, s210_40, s210_41, s210_42, s210_43, s210_44, s210_45, s210_46, s210_47, s210_48, s210_49, s210_50, s210_51, s210_52, s210_53, s210_54, s210_55, s210_56, s210_57, s210_58, s210_59, s210_60, s210_61, s210_62, s210_63, s210_64, s210_65, s210_66, s210_67, s210_68, ↓reduceIte, Bool.true_eq_false, Bool.false_eq_true, ip_rfS, true_or, or_true, true_and, and_true, Option.toList_some, Option.toList_none, List.cons_append, List.nil_append, ip_fxn, ip_fxi, ip_fxr, ip_fxl, ip_wid, ip_n998, ip_lt900, Int.cast_ofNat_Int, Int.lt_irrefl]
  | k + 1, o, c, h, hlo, hc => by
    obtain ⟨hb, hl6⟩ := t_lob l h6 h0
    have hr := t_bl hb
    have hpc := t_pcb l h6 (t_lo l) hl6 hb
    have fm := t_fm (t_rm l (t_lo l)) (by omega) o (by omega)
    have fx := t_fx1 (t_rm l (t_lo l)) (by omega) o (by omega)
    rw [t_s]
    by_cases b : t_bit (t_rm l (t_lo l)) o = true
    · rw [if_pos b] at fm
      rw [if_pos b]
      have hr2 := t_bl b
      have hpc2 := t_pcb _ (by omega) o (by omega) b
      have hop := t_bp p hp (t_rm l (t_lo l)) (by omega) (by omega) o (by omega) b
      have ep : t_pc l / 2 = t_pc (t_rm (t_rm l (t_lo l)) o) / 2 + 1 := by omega
      have v := hV (t_lo l) o
      have eS := hS (t_lo l) o hlo hop
      have hal := t_alb hV 64 (t_rm (t_rm l (t_lo l)) o) (by omega) (by omega)
      have pw := t_pw (t_pc (t_rm (t_rm l (t_lo l)) o) / 2) (by have := t_pc6 l h6; omega)
      have e100 : (100 : Int) ^ (t_pc l / 2) = 100 ^ (t_pc (t_rm (t_rm l (t_lo l)) o) / 2) * 100 := by rw [ep]; exact Int.pow_succ 100 _
      have hc' := t_kpb (B := 3960 * ((t_pc l / 2 : Nat) : Int)) (P := t_pc l / 2) (c := c) (m := V (t_lo l) o + (t_al V (t_rm (t_rm l (t_lo l)) o)).1) (w := t_dg (t_lo l) o * 100 ^ (t_pc (t_rm (t_rm l (t_lo l)) o) / 2) + (t_al V (t_rm (t_rm l (t_lo l)) o)).2) hc (by
        obtain ⟨⟨i3, i4⟩, i5, i6⟩ := hal
        have dg : 0 ≤ t_dg (t_lo l) o ∧ t_dg (t_lo l) o ≤ 66 := by unfold t_dg; omega
        unfold t_bd
        rw [e100]
        generalize (100 : Int) ^ (t_pc (t_rm (t_rm l (t_lo l)) o) / 2) = pp at *
        have m1 : 0 ≤ t_dg (t_lo l) o * pp := Int.mul_nonneg dg.1 (by omega)
        have m2 : t_dg (t_lo l) o * pp ≤ 66 * pp := Int.mul_le_mul_of_nonneg_right dg.2 (by omega)
        exact ⟨⟨by dsimp only; omega, by dsimp only; omega⟩, by dsimp only; omega, by dsimp only; omega⟩)
      obtain ⟨c2, q1, q2, q3⟩ := y210l hM hV hp h6 hlp h0 hS ih hw hwP hm hmP hs k (o + 1) _ (by omega) (by omega) (Or.inr hc')
      refine ⟨c2, q1, q2, fun Q => ?_⟩
      have hsr := t_apr (V := V) hs hw hwP hm hmP hc
      have hdg : t_dg (t_lo l) o = 10 * ((t_lo l : Int) + 1) + o + 1 := by unfold t_dg; omega
      have k2 := ih (t_rm (t_rm l (t_lo l)) o) (by omega) (by omega) (by omega) (100 * way + 10 * ((t_lo l : Int) + 1) + o + 1) (miles + V (t_lo l) o) (t_ap st (t_pc l / 2) way miles c) (by omega) (by
        rw [e100] at hwP
        generalize (100 : Int) ^ (t_pc (t_rm (t_rm l (t_lo l)) o) / 2) = pp at *
        have m2 : (10 * ((t_lo l : Int) + 1) + o + 1) * pp ≤ 66 * pp := Int.mul_le_mul_of_nonneg_right (by omega) (by omega)
        have m3 : (100 * way + 10 * ((t_lo l : Int) + 1) + o + 1) * pp = way * (pp * 100) + (10 * ((t_lo l : Int) + 1) + o + 1) * pp := by
          rw [show 100 * way + 10 * ((t_lo l : Int) + 1) + o + 1 = 100 * way + (10 * ((t_lo l : Int) + 1) + o + 1) by omega, Int.add_mul, Int.mul_comm 100 way, Int.mul_assoc, Int.mul_comm 100 pp]
        omega) (by omega) (by omega) hsr
      have hap := t_apk (st := st) (P := t_pc l / 2) (way := way) (miles := miles) (c := c) (m := V (t_lo l) o + (t_al V (t_rm (t_rm l (t_lo l)) o)).1) (w := t_dg (t_lo l) o * 100 ^ (t_pc (t_rm (t_rm l (t_lo l)) o) / 2) + (t_al V (t_rm (t_rm l (t_lo l)) o)).2) hw (by rcases hc with z | z; exact Or.inl z; exact Or.inr ⟨z.1.1, z.2.1⟩) (by have := hal.1.1; omega)
      have e3 : way * 100 ^ (t_pc l / 2) + (t_dg (t_lo l) o * 100 ^ (t_pc (t_rm (t_rm l (t_lo l)) o) / 2) + (t_al V (t_rm (t_rm l (t_lo l)) o)).2) = (100 * way + 10 * ((t_lo l : Int) + 1) + o + 1) * 100 ^ (t_pc (t_rm (t_rm l (t_lo l)) o) / 2) + (t_al V (t_rm (t_rm l (t_lo l)) o)).2 := by
        rw [e100, hdg]
        generalize (100 : Int) ^ (t_pc (t_rm (t_rm l (t_lo l)) o) / 2) = pp
        have m3 : (100 * way + 10 * ((t_lo l : Int) + 1) + o + 1) * pp = way * (pp * 100) + (10 * ((t_lo l : Int) + 1) + o + 1) * pp := by
          rw [show 100 * way + 10 * ((t_lo l : Int) + 1) + o + 1 = 100 * way + (10 * ((t_lo l : Int) + 1) + o + 1) by omega, Int.add_mul, Int.mul_comm 100 way, Int.mul_assoc, Int.mul_comm 100 pp]
        rw [m3]
        omega
      rw [e3, ← Int.add_assoc] at hap
      rw [← hap] at k2
      have w1 : way * 100 ≤ 1000000 := by
        have : way * 100 ≤ way * 100 ^ (t_pc l / 2) := Int.mul_le_mul_of_nonneg_left (by rw [e100]; omega) hw
        have := pw.1
        omega
      rw [← q3 Q, s210_25]
      simp (disch := omega) only [s210_26, s210_27, s210_28, s210_29, s210_30, s210_31, s210_32, s210_33, s210_34, s210_35, s210_36, s210_37, s210_38, s210_39, s210_40, s210_41, s210_42, s210_43, s210_44, s210_45, s210_46, s210_47, s210_48, s210_49, s210_50, s210_51, s210_52, s210_53, s210_54, s210_55, s210_56, s210_57, s210_58, s210_59, s210_60, s210_61, s210_62, s210_63, s210_64, s210_65, s210_66, s210_67, s210_68, ↓reduceIte, Bool.true_eq_false, Bool.false_eq_true, ip_rfS, true_or, or_true, true_and, and_true, Option.toList_some, Option.toList_none, List.cons_append, List.nil_append, ip_fxn, ip_fxi, ip_fxr, ip_fxl, ip_wid, ip_n998, ip_lt900, iO0, iO1, iA2, iA3, iA4, iA5, iA6, iA7, iA8, iO9, iA10, iA11, iA12, iA13, iA14, iA15, iA16, iO17, iA18, iO19, iA20, iA21, iA22, iA23, iO24, iA25, iO26, iA27, iA28, iO29, iA30, iA31, iO32, iA33, iA34, iO35, iA36, iA37, iO38, iA39, iA40, iO41, iA42, iA43, iO44, iA45, iA46, iA47, iA48, iA49, iA50, iA51, iA52, iA53, iO54, iA55, iO56, iA57, iO58, iA59, iO60, iA61, iO62, iA63, iA64, iA65, iA66, iA67, iA68, iA69, iA70, iA71, iA72, iA73, iA74, iA75, iA76, iA77, iA78, iOT, iAT1, iAT2, iOS, iAS, ↓yfm1 hM, ↓yfm2 hM, ↓yfm5 hM, ↓yfm8 hM, ↓yfm9 hM, ↓yfm10 hM, ↓yfm12 hM, ↓yfm28 hM, ↓yfm32 hM, ↓yfm35 hM, ↓yfm36 hM, ↓yfm37 hM, ↓yfm41 hM, ↓yfm42 hM, ↓yfm43 hM, ↓yfm44 hM, rm1 hM, rm2 hM, rm5 hM, rm8 hM, rm9 hM, rm10 hM, rm12 hM, rm28 hM, rm32 hM, rm35 hM, rm36 hM, rm37 hM, rm41 hM, rm42 hM, rm43 hM, rm44 hM, p128r, p187r, p215r, k_n1, k_n0, k_n2, ip_r0, ip_r1, show (o : Int) < 6 by omega, fm, fx, m_st71, eS, k2, Int.reduceEq, Int.natCast_add, Int.cast_ofNat_Int]
    · rw [if_neg b] at fm
      rw [if_neg b]
      obtain ⟨c2, q1, q2, q3⟩ := y210l hM hV hp h6 hlp h0 hS ih hw hwP hm hmP hs k (o + 1) c (by omega) (by omega) hc
      refine ⟨c2, q1, q2, fun Q => ?_⟩
      rw [← q3 Q, s210_25]
      simp (disch := omega) only [s210_26, s210_27, s210_28, s210_29, s210_30, s210_31, s210_32, s210_33, s210_34, s210_35, s210_36, s210_37, s210_38, s210_39, s210_40, s210_41, s210_42, s210_43, s210_44, s210_45, s210_46, s210_47, s210_48, s210_49, s210_50, s210_51, s210_52, s210_53, s210_54, s210_55, s210_56, s210_57, s210_58, s210_59, s210_60, s210_61, s210_62, s210_63, s210_64, s210_65, s210_66, s210_67, s210_68, ↓reduceIte, Bool.true_eq_false, Bool.false_eq_true, ip_rfS, true_or, or_true, true_and, and_true, Option.toList_some, Option.toList_none, List.cons_append, List.nil_append, ip_fxn, ip_fxi, ip_fxr, ip_fxl, ip_wid, ip_n998, ip_lt900, iO0, iO1, iA2, iA3, iA4, iA5, iA6, iA7, iA8, iO9, iA10, iA11, iA12, iA13, iA14, iA15, iA16, iO17, iA18, iO19, iA20, iA21, iA22, iA23, iO24, iA25, iO26, iA27, iA28, iO29, iA30, iA31, iO32, iA33, iA34, iO35, iA36, iA37, iO38, iA39, iA40, iO41, iA42, iA43, iO44, iA45, iA46, iA47, iA48, iA49, iA50, iA51, iA52, iA53, iO54, iA55, iO56, iA57, iO58, iA59, iO60, iA61, iO62, iA63, iA64, iA65, iA66, iA67, iA68, iA69, iA70, iA71, iA72, iA73, iA74, iA75, iA76, iA77, iA78, iOT, iAT1, iAT2, iOS, iAS, ↓yfm1 hM, ↓yfm2 hM, ↓yfm5 hM, ↓yfm8 hM, ↓yfm9 hM, ↓yfm10 hM, ↓yfm12 hM, ↓yfm28 hM, ↓yfm32 hM, ↓yfm35 hM, ↓yfm36 hM, ↓yfm37 hM, ↓yfm41 hM, ↓yfm42 hM, ↓yfm43 hM, ↓yfm44 hM, rm1 hM, rm2 hM, rm5 hM, rm8 hM, rm9 hM, rm10 hM, rm12 hM, rm28 hM, rm32 hM, rm35 hM, rm36 hM, rm37 hM, rm41 hM, rm42 hM, rm43 hM, rm44 hM, p128r, p187r, p215r, k_n1, k_n0, k_n2, ip_r0, ip_r1, show (o : Int) < 6 by omega, fm, fx, Int.reduceEq, Int.natCast_add, Int.cast_ofNat_Int]
end TGN
