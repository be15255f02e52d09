/-! together in the class: the whole of one mask -/
theorem t_sa {V : Nat → Nat → Int} {F : Nat → Int × Int} {one others : Nat} {b : Nat} : ∀ (a o : Nat) (c : Int × Int), t_s V F one others (a + b) o c = t_s V F one others b (o + a) (t_s V F one others a o c)
  | 0, o, c => by rw [Nat.zero_add, Nat.add_zero, t_s]
  | a + 1, o, c => by
    rw [show a + 1 + b = (a + b) + 1 by omega, t_s, t_s, t_sa a (o + 1), show o + 1 + a = o + (a + 1) by omega]
theorem t_sB {V : Nat → Nat → Int} {F : Nat → Int × Int} {one others : Nat} {B : Int} (h : ∀ o, o < 6 → t_bit others o = true → 0 ≤ V one o + (F (t_rm others o)).1 ∧ V one o + (F (t_rm others o)).1 ≤ B) : ∀ (k o : Nat) (c : Int × Int), o + k ≤ 6 → -1 ≤ c.1 ∧ c.1 ≤ B → -1 ≤ (t_s V F one others k o c).1 ∧ (t_s V F one others k o c).1 ≤ B
  | 0, _, _, _, hc => hc
  | k + 1, o, c, ho, hc => by
    rw [t_s]
    refine t_sB h k (o + 1) _ (by omega) ?_
    split
    · rename_i b
      have := h o (by omega) b
      unfold t_kp
      split
      · exact hc
      · dsimp only
        omega
    · exact hc
section PTH
variable {d : Nat} {S : ip_S} {R : ip_R} {L : ip_S}
theorem x91 {V : Nat → Nat → Int} {p l : Nat} (hX : x_RX R) (hV : ∀ i j, 0 ≤ V i j ∧ V i j ≤ 3960) (hp : S 1 7 = (p : Int)) (hp6 : p < 7) (h6 : l < 64) (hlp : l < 2 ^ p) (h0 : 0 < l) (h51 : ∀ i j : Nat, i < j → j < p → S 51 ((i : Int) * 6 + (j : Int)) = V i j)
    (hd : ∀ r : Nat, r < l → S 52 r = (t_al V r).1 ∧ S 53 r = (t_al V r).2) {Q} : ip_wc (d + 3) 91 [.ref 0, vi (l : Int)] 79 S R L Q = Q none 79 (x_lw S l (t_al V l)) R L := by
  obtain ⟨hb, hl6⟩ := t_lob l h6 h0
  have hr := t_bl hb
  have hlop := t_bp p hp6 l h6 hlp (t_lo l) hl6 hb
  have fx := t_fx1 l h6 (t_lo l) hl6
  have fb := t_fpc l h6
  have er := (t_frem (t_pc l) (by have := t_pc6 l h6; omega)).1
  have k92 := fun Q' => p92 (d := d + 1) (S := S) (R := R) (L := L) (n := 79) (Q := Q') h6 h0
  have e0 : ip_up S 52 l (-1) = x_lw S l (-1, S 53 l) := by
    funext b k
    unfold x_lw ip_up
    dsimp only
    repeat' split
    all_goals first | rfl | omega | simp_all
  obtain ⟨v', k1⟩ := x91l (d := d) (L := L) hX hV hp hp6 h6 hlp h0 h51 hd (p - (t_lo l + 1)) (t_lo l + 1) (-1, S 53 l) none (by omega) (by omega) (by dsimp only; omega)
  rw [Int.natCast_add, Int.cast_ofNat_Int] at k1
  have hsa := fun u : Int => t_sa (V := V) (F := t_al V) (one := t_lo l) (others := t_rm l (t_lo l)) (b := 6 - p) (p - (t_lo l + 1)) (t_lo l + 1) (-1, u)
  rw [show p - (t_lo l + 1) + (6 - p) = 5 - t_lo l by omega, show t_lo l + 1 + (p - (t_lo l + 1)) = p by omega] at hsa
  have hsn := fun u : Int => t_sn (V := V) (F := t_al V) (one := t_lo l) hp6 (by omega : t_rm l (t_lo l) < 64) (by omega) (6 - p) p (t_s V (t_al V) (t_lo l) (t_rm l (t_lo l)) (p - (t_lo l + 1)) (t_lo l + 1) (-1, u)) (by omega) (Nat.le_refl _)
  rw [← (hsa (S 53 l)).trans (hsn (S 53 l))] at k1
  have hal := t_alb hV 64 l h6 h6
  have halo := t_alb hV 64 (t_rm l (t_lo l)) (by omega) (by omega)
  have hT := t_als (V := V) h0 h6
  unfold t_st at hT
  have hpc := t_pcb l h6 (t_lo l) hl6 hb
  have hp66 := t_pc6 l h6
  have hcu : -1 ≤ (t_s V (t_al V) (t_lo l) (t_rm l (t_lo l)) (5 - t_lo l) (t_lo l + 1) (-1, S 53 l)).1 ∧ (t_s V (t_al V) (t_lo l) (t_rm l (t_lo l)) (5 - t_lo l) (t_lo l + 1) (-1, S 53 l)).1 ≤ 100000 := by
    refine t_sB (fun o ho hbo => ?_) _ _ _ (by omega) (by dsimp only; omega)
    have hrr := t_bl hbo
    have a1 := (t_alb hV 64 (t_rm (t_rm l (t_lo l)) o) (by omega) (by omega)).1
    have a2 := hV (t_lo l) o
    have a3 := t_pc6 (t_rm (t_rm l (t_lo l)) o) (by omega)
    omega
  have su := t_su (V := V) (F := t_al V) (one := t_lo l) (others := t_rm l (t_lo l)) (u := S 53 l) (5 - t_lo l) (t_lo l + 1)
  generalize t_s V (t_al V) (t_lo l) (t_rm l (t_lo l)) (5 - t_lo l) (t_lo l + 1) (-1, S 53 l) = cu at *
  generalize t_s V (t_al V) (t_lo l) (t_rm l (t_lo l)) (5 - t_lo l) (t_lo l + 1) (-1, 0) = c0 at *
  have k79 := fun S' Q' => p79 (d := d + 1) (n := 79) (S := S') (R := R) (L := L) (v := (l : Int)) (Q := Q') (by omega)
  rw [fb] at k79
  by_cases c2 : t_pc l % 2 = 1
  · rw [if_pos c2] at hT
    rw [c2] at er
    obtain ⟨d1, d2⟩ := hd (t_rm l (t_lo l)) (by omega)
    have a1 := halo.1
    have a2 := halo.2
    have pw := t_pw (t_pc (t_rm l (t_lo l)) / 2) (by omega)
    have k93 := fun Q' => p93 (d := d) (S := S) (R := R) (L := L) (l := l) (r := t_rm l (t_lo l)) (dg := 0) (mi := 0) (c := cu) (Q := Q') hX h6 (by omega) (by omega) (by omega) hcu (by rw [d1]; omega) (by rw [d2]; omega)
    rw [d1, d2, Int.zero_mul, Int.zero_add, Int.zero_add] at k93
    have e5 : t_kp cu (t_al V (t_rm l (t_lo l))).1 (t_al V (t_rm l (t_lo l))).2 = t_al V l := by
      rw [hT]
      rcases su with z | z
      · rw [z.1, z.2]
        simp [t_kp]
      · rw [z]
    rw [e5] at k93
    simp (disch := omega) only [c91, s91_0, s91_1, s91_2, s91_3, s91_4, s91_5, s91_6, s91_7, s91_8, s91_9, s91_10, s91_11, s91_12, s91_13, s91_14, s91_15, s91_16, s91_17, s91_18, s91_19, s91_21, s91_22, s91_23, s91_24, s91_25, s91_26, s91_27, s91_28, s91_29, s91_30, s91_31, s91_32, s91_33, s91_34, s91_35, s91_36, s91_37, s91_38, s91_39, s91_40, s91_41, s91_42, s91_43, s91_44, s91_45, s91_46, s91_47, s91_48, s91_49, s91_50, s91_51, s91_52, s91_53, s91_54, s91_55, s91_56, s91_57, s91_58, s91_59, s91_60, s91_61, s91_63, s91_64, s91_65, s91_66, s91_67, s91_68, s91_69, s91_70, s91_71, s91_72, s91_73, s91_74, ↓reduceIte, Bool.true_eq_false, Bool.false_eq_true, ip_rfS, true_or, or_true, true_and, and_true, Option.toList_some, Option.toList_none, List.cons_append, List.nil_append, ip_fxn, ip_fxi, ip_fxr, ip_fxl, ip_wid, ip_n998, ip_lt900, iO0, iO1, iA2, iA3, iA4, iA5, iA6, iA7, iA8, iO9, iA10, iA11, iA12, iA13, iA14, iA15, iA16, iO17, iA18, iO19, iA20, iA21, iA22, iA23, iO24, iA25, iO26, iA27, iA28, iO29, iA30, iA31, iO32, iA33, iA34, iO35, iA36, iA37, iO38, iA39, iA40, iO41, iA42, iA43, iO44, iA45, iA46, iA47, iA48, iA49, iA50, iA51, iA52, iA53, iO54, iA55, iO56, iA57, iO58, iA59, iO60, iA61, iO62, iA63, iA64, iA65, iA66, iA67, iA68, iA69, iA70, iA71, iA72, iA73, iA74, iA75, iA76, iA77, iA78, iOT, iAT1, iAT2, iOS, iAS, ↓yfx0_0 hX, ↓yfx0_1 hX, ↓yfx0_3 hX, ↓yfx0_4 hX, ↓yfx0_5 hX, ↓yfx0_6 hX, ↓yfx0_7 hX, ↓yfx0_8 hX, ↓yfx0_9 hX, ↓yfx1_0 hX, ↓yfx1_1 hX, ↓yfx1_2 hX, ↓yfx1_3 hX, ↓yfx1_4 hX, ↓yfx1_5 hX, ↓yfx1_6 hX, ↓yfx9_0 hX, ↓yfx9_1 hX, ↓yfx9_2 hX, ↓yfx9_3 hX, ↓yfx9_4 hX, ↓yfx9_5 hX, ↓yfx9_6 hX, ↓yfx17_0 hX, ↓yfx17_1 hX, ↓yfx17_2 hX, ↓yfx17_3 hX, ↓yfx24_0 hX, ↓yfx19_0 hX, ↓yfx19_1 hX, ↓yfx19_2 hX, ↓yfx19_3 hX, ↓yfx18_0 hX, ↓yfx26_0 hX, ↓yfx26_1 hX, ↓yfx18_1 hX, ↓yfx29_0 hX, ↓yfx29_1 hX, ↓yfx18_2 hX, ↓yfx32_0 hX, ↓yfx32_1 hX, ↓yfx18_3 hX, ↓yfx35_0 hX, ↓yfx35_1 hX, ↓yfx18_4 hX, ↓yfx38_0 hX, ↓yfx38_1 hX, ↓yfx18_5 hX, ↓yfx41_0 hX, ↓yfx41_1 hX, ↓yfx44_0 hX, ↓yfx44_1 hX, ↓yfx44_2 hX, ↓yfx44_3 hX, ↓yfx44_4 hX, ↓yfx44_5 hX, ↓yfx49_0 hX, ↓yfx54_0 hX, ↓yfx49_1 hX, ↓yfx56_0 hX, ↓yfx49_2 hX, ↓yfx58_0 hX, ↓yfx49_3 hX, ↓yfx60_0 hX, rx0_0 hX, rx0_1 hX, rx0_3 hX, rx0_4 hX, rx0_5 hX, rx0_6 hX, rx0_7 hX, rx0_8 hX, rx0_9 hX, rx1_0 hX, rx1_1 hX, rx1_2 hX, rx1_3 hX, rx1_4 hX, rx1_5 hX, rx1_6 hX, rx9_0 hX, rx9_1 hX, rx9_2 hX, rx9_3 hX, rx9_4 hX, rx9_5 hX, rx9_6 hX, rx17_0 hX, rx17_1 hX, rx17_2 hX, rx17_3 hX, rx24_0 hX, rx19_0 hX, rx19_1 hX, rx19_2 hX, rx19_3 hX, rx18_0 hX, rx26_0 hX, rx26_1 hX, rx18_1 hX, rx29_0 hX, rx29_1 hX, rx18_2 hX, rx32_0 hX, rx32_1 hX, rx18_3 hX, rx35_0 hX, rx35_1 hX, rx18_4 hX, rx38_0 hX, rx38_1 hX, rx18_5 hX, rx41_0 hX, rx41_1 hX, rx44_0 hX, rx44_1 hX, rx44_2 hX, rx44_3 hX, rx44_4 hX, rx44_5 hX, rx49_0 hX, rx54_0 hX, rx49_1 hX, rx56_0 hX, rx49_2 hX, rx58_0 hX, rx49_3 hX, rx60_0 hX, p45r, k_n1, k_n0, k_n2, ip_r0, ip_r1, k92, fx, e0, k1]
    rw [s91_62]
    simp (disch := omega) only [s91_63, s91_64, s91_65, s91_66, s91_67, s91_68, s91_69, s91_70, s91_71, s91_72, s91_73, s91_74, ↓reduceIte, Bool.true_eq_false, Bool.false_eq_true, ip_rfS, true_or, or_true, true_and, and_true, Option.toList_some, Option.toList_none, List.cons_append, List.nil_append, ip_fxn, ip_fxi, ip_fxr, ip_fxl, ip_wid, ip_n998, ip_lt900, iO0, iO1, iA2, iA3, iA4, iA5, iA6, iA7, iA8, iO9, iA10, iA11, iA12, iA13, iA14, iA15, iA16, iO17, iA18, iO19, iA20, iA21, iA22, iA23, iO24, iA25, iO26, iA27, iA28, iO29, iA30, iA31, iO32, iA33, iA34, iO35, iA36, iA37, iO38, iA39, iA40, iO41, iA42, iA43, iO44, iA45, iA46, iA47, iA48, iA49, iA50, iA51, iA52, iA53, iO54, iA55, iO56, iA57, iO58, iA59, iO60, iA61, iO62, iA63, iA64, iA65, iA66, iA67, iA68, iA69, iA70, iA71, iA72, iA73, iA74, iA75, iA76, iA77, iA78, iOT, iAT1, iAT2, iOS, iAS, ↓yfx0_0 hX, ↓yfx0_1 hX, ↓yfx0_3 hX, ↓yfx0_4 hX, ↓yfx0_5 hX, ↓yfx0_6 hX, ↓yfx0_7 hX, ↓yfx0_8 hX, ↓yfx0_9 hX, ↓yfx1_0 hX, ↓yfx1_1 hX, ↓yfx1_2 hX, ↓yfx1_3 hX, ↓yfx1_4 hX, ↓yfx1_5 hX, ↓yfx1_6 hX, ↓yfx9_0 hX, ↓yfx9_1 hX, ↓yfx9_2 hX, ↓yfx9_3 hX, ↓yfx9_4 hX, ↓yfx9_5 hX, ↓yfx9_6 hX, ↓yfx17_0 hX, ↓yfx17_1 hX, ↓yfx17_2 hX, ↓yfx17_3 hX, ↓yfx24_0 hX, ↓yfx19_0 hX, ↓yfx19_1 hX, ↓yfx19_2 hX, ↓yfx19_3 hX, ↓yfx18_0 hX, ↓yfx26_0 hX, ↓yfx26_1 hX, ↓yfx18_1 hX, ↓yfx29_0 hX, ↓yfx29_1 hX, ↓yfx18_2 hX, ↓yfx32_0 hX, ↓yfx32_1 hX, ↓yfx18_3 hX, ↓yfx35_0 hX, ↓yfx35_1 hX, ↓yfx18_4 hX, ↓yfx38_0 hX, ↓yfx38_1 hX, ↓yfx18_5 hX, ↓yfx41_0 hX, ↓yfx41_1 hX, ↓yfx44_0 hX, ↓yfx44_1 hX, ↓yfx44_2 hX, ↓yfx44_3 hX, ↓yfx44_4 hX, ↓yfx44_5 hX, ↓yfx49_0 hX, ↓yfx54_0 hX, ↓yfx49_1 hX, ↓yfx56_0 hX, ↓yfx49_2 hX, ↓yfx58_0 hX, ↓yfx49_3 hX, ↓yfx60_0 hX, rx0_0 hX, rx0_1 hX, rx0_3 hX, rx0_4 hX, rx0_5 hX, rx0_6 hX, rx0_7 hX, rx0_8 hX, rx0_9 hX, rx1_0 hX, rx1_1 hX, rx1_2 hX, rx1_3 hX, rx1_4 hX, rx1_5 hX, rx1_6 hX, rx9_0 hX, rx9_1 hX, rx9_2 hX, rx9_3 hX, rx9_4 hX, rx9_5 hX, rx9_6 hX, rx17_0 hX, rx17_1 hX, rx17_2 hX, rx17_3 hX, rx24_0 hX, rx19_0 hX, rx19_1 hX, rx19_2 hX, rx19_3 hX, rx18_0 hX, rx26_0 hX, rx26_1 hX, rx18_1 hX, rx29_0 hX, rx29_1 hX, rx18_2 hX, rx32_0 hX, rx32_1 hX, rx18_3 hX, rx35_0 hX, rx35_1 hX, rx18_4 hX, rx38_0 hX, rx38_1 hX, rx18_5 hX, rx41_0 hX, rx41_1 hX, rx44_0 hX, rx44_1 hX, rx44_2 hX, rx44_3 hX, rx44_4 hX, rx44_5 hX, rx49_0 hX, rx54_0 hX, rx49_1 hX, rx56_0 hX, rx49_2 hX, rx58_0 hX, rx49_3 hX, rx60_0 hX, p45r, k_n1, k_n0, k_n2, ip_r0, ip_r1, k79, er, k93, Int.cast_ofNat_Int, Int.reduceEq, not_false_eq_true, true_and]
  · rw [if_neg c2] at hT
    rw [show t_pc l % 2 = 0 by omega] at er
    have e5 : cu = t_al V l := by
      rcases su with z | z
      · rw [hT, z.2] at hal
        exact absurd hal.1.1 (by decide)
      · rw [z, hT]
    rw [e5] at k1
    simp (disch := omega) only [c91, s91_0, s91_1, s91_2, s91_3, s91_4, s91_5, s91_6, s91_7, s91_8, s91_9, s91_10, s91_11, s91_12, s91_13, s91_14, s91_15, s91_16, s91_17, s91_18, s91_19, s91_21, s91_22, s91_23, s91_24, s91_25, s91_26, s91_27, s91_28, s91_29, s91_30, s91_31, s91_32, s91_33, s91_34, s91_35, s91_36, s91_37, s91_38, s91_39, s91_40, s91_41, s91_42, s91_43, s91_44, s91_45, s91_46, s91_47, s91_48, s91_49, s91_50, s91_51, s91_52, s91_53, s91_54, s91_55, s91_56, s91_57, s91_58, s91_59, s91_60, s91_61, s91_63, s91_64, s91_65, s91_66, s91_67, s91_68, s91_69, s91_70, s91_71, s91_72, s91_73, s91_74, ↓reduceIte, Bool.true_eq_false, Bool.false_eq_true, ip_rfS, true_or, or_true, true_and, and_true, Option.toList_some, Option.toList_none, List.cons_append, List.nil_append, ip_fxn, ip_fxi, ip_fxr, ip_fxl, ip_wid, ip_n998, ip_lt900, iO0, iO1, iA2, iA3, iA4, iA5, iA6, iA7, iA8, iO9, iA10, iA11, iA12, iA13, iA14, iA15, iA16, iO17, iA18, iO19, iA20, iA21, iA22, iA23, iO24, iA25, iO26, iA27, iA28, iO29, iA30, iA31, iO32, iA33, iA34, iO35, iA36, iA37, iO38, iA39, iA40, iO41, iA42, iA43, iO44, iA45, iA46, iA47, iA48, iA49, iA50, iA51, iA52, iA53, iO54, iA55, iO56, iA57, iO58, iA59, iO60, iA61, iO62, iA63, iA64, iA65, iA66, iA67, iA68, iA69, iA70, iA71, iA72, iA73, iA74, iA75, iA76, iA77, iA78, iOT, iAT1, iAT2, iOS, iAS, ↓yfx0_0 hX, ↓yfx0_1 hX, ↓yfx0_3 hX, ↓yfx0_4 hX, ↓yfx0_5 hX, ↓yfx0_6 hX, ↓yfx0_7 hX, ↓yfx0_8 hX, ↓yfx0_9 hX, ↓yfx1_0 hX, ↓yfx1_1 hX, ↓yfx1_2 hX, ↓yfx1_3 hX, ↓yfx1_4 hX, ↓yfx1_5 hX, ↓yfx1_6 hX, ↓yfx9_0 hX, ↓yfx9_1 hX, ↓yfx9_2 hX, ↓yfx9_3 hX, ↓yfx9_4 hX, ↓yfx9_5 hX, ↓yfx9_6 hX, ↓yfx17_0 hX, ↓yfx17_1 hX, ↓yfx17_2 hX, ↓yfx17_3 hX, ↓yfx24_0 hX, ↓yfx19_0 hX, ↓yfx19_1 hX, ↓yfx19_2 hX, ↓yfx19_3 hX, ↓yfx18_0 hX, ↓yfx26_0 hX, ↓yfx26_1 hX, ↓yfx18_1 hX, ↓yfx29_0 hX, ↓yfx29_1 hX, ↓yfx18_2 hX, ↓yfx32_0 hX, ↓yfx32_1 hX, ↓yfx18_3 hX, ↓yfx35_0 hX, ↓yfx35_1 hX, ↓yfx18_4 hX, ↓yfx38_0 hX, ↓yfx38_1 hX, ↓yfx18_5 hX, ↓yfx41_0 hX, ↓yfx41_1 hX, ↓yfx44_0 hX, ↓yfx44_1 hX, ↓yfx44_2 hX, ↓yfx44_3 hX, ↓yfx44_4 hX, ↓yfx44_5 hX, ↓yfx49_0 hX, ↓yfx54_0 hX, ↓yfx49_1 hX, ↓yfx56_0 hX, ↓yfx49_2 hX, ↓yfx58_0 hX, ↓yfx49_3 hX, ↓yfx60_0 hX, rx0_0 hX, rx0_1 hX, rx0_3 hX, rx0_4 hX, rx0_5 hX, rx0_6 hX, rx0_7 hX, rx0_8 hX, rx0_9 hX, rx1_0 hX, rx1_1 hX, rx1_2 hX, rx1_3 hX, rx1_4 hX, rx1_5 hX, rx1_6 hX, rx9_0 hX, rx9_1 hX, rx9_2 hX, rx9_3 hX, rx9_4 hX, rx9_5 hX, rx9_6 hX, rx17_0 hX, rx17_1 hX, rx17_2 hX, rx17_3 hX, rx24_0 hX, rx19_0 hX, rx19_1 hX, rx19_2 hX, rx19_3 hX, rx18_0 hX, rx26_0 hX, rx26_1 hX, rx18_1 hX, rx29_0 hX, rx29_1 hX, rx18_2 hX, rx32_0 hX, rx32_1 hX, rx18_3 hX, rx35_0 hX, rx35_1 hX, rx18_4 hX, rx38_0 hX, rx38_1 hX, rx18_5 hX, rx41_0 hX, rx41_1 hX, rx44_0 hX, rx44_1 hX, rx44_2 hX, rx44_3 hX, rx44_4 hX, rx44_5 hX, rx49_0 hX, rx54_0 hX, rx49_1 hX, rx56_0 hX, rx49_2 hX, rx58_0 hX, rx49_3 hX, rx60_0 hX, p45r, k_n1, k_n0, k_n2, ip_r0, ip_r1, k92, fx, e0, k1]
    rw [s91_62]
    simp (disch := omega) only [s91_63, s91_64, s91_65, s91_66, s91_67, s91_68, s91_69, s91_70, s91_71, s91_72, s91_73, s91_74, ↓reduceIte, Bool.true_eq_false, Bool.false_eq_true, ip_rfS, true_or, or_true, true_and, and_true, Option.toList_some, Option.toList_none, List.cons_append, List.nil_append, ip_fxn, ip_fxi, ip_fxr, ip_fxl, ip_wid, ip_n998, ip_lt900, iO0, iO1, iA2, iA3, iA4, iA5, iA6, iA7, iA8, iO9, iA10, iA11, iA12, iA13, iA14, iA15, iA16, iO17, iA18, iO19, iA20, iA21, iA22, iA23, iO24, iA25, iO26, iA27, iA28, iO29, iA30, iA31, iO32, iA33, iA34, iO35, iA36, iA37, iO38, iA39, iA40, iO41, iA42, iA43, iO44, iA45, iA46, iA47, iA48, iA49, iA50, iA51, iA52, iA53, iO54, iA55, iO56, iA57, iO58, iA59, iO60, iA61, iO62, iA63, iA64, iA65, iA66, iA67, iA68, iA69, iA70, iA71, iA72, iA73, iA74, iA75, iA76, iA77, iA78, iOT, iAT1, iAT2, iOS, iAS, ↓yfx0_0 hX, ↓yfx0_1 hX, ↓yfx0_3 hX, ↓yfx0_4 hX, ↓yfx0_5 hX, ↓yfx0_6 hX, ↓yfx0_7 hX, ↓yfx0_8 hX, ↓yfx0_9 hX, ↓yfx1_0 hX, ↓yfx1_1 hX, ↓yfx1_2 hX, ↓yfx1_3 hX, ↓yfx1_4 hX, ↓yfx1_5 hX, ↓yfx1_6 hX, ↓yfx9_0 hX, ↓yfx9_1 hX, ↓yfx9_2 hX, ↓yfx9_3 hX, ↓yfx9_4 hX, ↓yfx9_5 hX, ↓yfx9_6 hX, ↓yfx17_0 hX, ↓yfx17_1 hX, ↓yfx17_2 hX, ↓yfx17_3 hX, ↓yfx24_0 hX, ↓yfx19_0 hX, ↓yfx19_1 hX, ↓yfx19_2 hX, ↓yfx19_3 hX, ↓yfx18_0 hX, ↓yfx26_0 hX, ↓yfx26_1 hX, ↓yfx18_1 hX, ↓yfx29_0 hX, ↓yfx29_1 hX, ↓yfx18_2 hX, ↓yfx32_0 hX, ↓yfx32_1 hX, ↓yfx18_3 hX, ↓yfx35_0 hX, ↓yfx35_1 hX, ↓yfx18_4 hX, ↓yfx38_0 hX, ↓yfx38_1 hX, ↓yfx18_5 hX, ↓yfx41_0 hX, ↓yfx41_1 hX, ↓yfx44_0 hX, ↓yfx44_1 hX, ↓yfx44_2 hX, ↓yfx44_3 hX, ↓yfx44_4 hX, ↓yfx44_5 hX, ↓yfx49_0 hX, ↓yfx54_0 hX, ↓yfx49_1 hX, ↓yfx56_0 hX, ↓yfx49_2 hX, ↓yfx58_0 hX, ↓yfx49_3 hX, ↓yfx60_0 hX, rx0_0 hX, rx0_1 hX, rx0_3 hX, rx0_4 hX, rx0_5 hX, rx0_6 hX, rx0_7 hX, rx0_8 hX, rx0_9 hX, rx1_0 hX, rx1_1 hX, rx1_2 hX, rx1_3 hX, rx1_4 hX, rx1_5 hX, rx1_6 hX, rx9_0 hX, rx9_1 hX, rx9_2 hX, rx9_3 hX, rx9_4 hX, rx9_5 hX, rx9_6 hX, rx17_0 hX, rx17_1 hX, rx17_2 hX, rx17_3 hX, rx24_0 hX, rx19_0 hX, rx19_1 hX, rx19_2 hX, rx19_3 hX, rx18_0 hX, rx26_0 hX, rx26_1 hX, rx18_1 hX, rx29_0 hX, rx29_1 hX, rx18_2 hX, rx32_0 hX, rx32_1 hX, rx18_3 hX, rx35_0 hX, rx35_1 hX, rx18_4 hX, rx38_0 hX, rx38_1 hX, rx18_5 hX, rx41_0 hX, rx41_1 hX, rx44_0 hX, rx44_1 hX, rx44_2 hX, rx44_3 hX, rx44_4 hX, rx44_5 hX, rx49_0 hX, rx54_0 hX, rx49_1 hX, rx56_0 hX, rx49_2 hX, rx58_0 hX, rx49_3 hX, rx60_0 hX, p45r, k_n1, k_n0, k_n2, ip_r0, ip_r1, k79, er, Int.cast_ofNat_Int, Int.reduceEq, not_false_eq_true, true_and]
end PTH
