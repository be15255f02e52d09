theorem ip_clamp {z : Int32} (h : 0 ≤ z.toInt) : (z.toNatClampNeg : Int) = z.toInt := by
  show ((z.toInt.toNat : Nat) : Int) = z.toInt
  omega
theorem ip_vpin {z : Int32} {k : Nat} (h1 : 0 ≤ z.toInt) (h2 : z.toInt < (k : Int)) : vp_in z k := vp_in_iff.mpr ⟨h1, h2⟩
theorem ip_ce_up {E : ip_E} {S : ip_S} {R : ip_R} {L : ip_S} {a i : Nat} {z v : Int} (h : i ≠ a) : ip_ce E (ip_up S a z v) R L i = ip_ce E S R L i := by
  have e : ∀ y, ip_up S a z v i y = S i y := fun y => by unfold ip_up; rw [if_neg (fun q => h q.1)]
  unfold ip_ce ip_fv
  simp only [e]
theorem ip_ce_upL {E : ip_E} {S : ip_S} {R : ip_R} {L : ip_S} {a i : Nat} {z v : Int} (h : i ≠ a) : ip_ce E S R (ip_up L a z v) i = ip_ce E S R L i := by
  have e : ∀ y, ip_up L a z v i y = L i y := fun y => by unfold ip_up; rw [if_neg (fun q => h q.1)]
  unfold ip_ce ip_fv
  simp only [e]
theorem ip_ce_ur {E : ip_E} {S : ip_S} {R : ip_R} {L : ip_S} {a i : Nat} {z : Int} {v : Nat} (h : i ≠ a) : ip_ce E S (ip_ur R a z v) L i = ip_ce E S R L i := by
  have e : ∀ y, ip_ur R a z v i y = R i y := fun y => by unfold ip_ur; rw [if_neg (fun q => h q.1)]
  unfold ip_ce ip_fv
  simp only [e]
/-- one cell anew, the rest as it was -/
theorem ip_Rel.set {E : ip_E} {f : Int → Int} {n : Nat} {S S' : ip_S} {R R' : ip_R} {L L' : ip_S} {H H1 : Heap} {a : Nat} (h : ip_Rel E f n S R L H) (ha : a < n) (h9 : a < 79)
    (hz : H1.size = H.size) (hq : ∀ q : Nat, q ≠ E.2.1 + a → H1[q]? = H[q]?) (he : va_at E.1 ip_cls (E.2.1 + a, ip_ce E S' R' L' a) H1) (hc : ∀ i, i ≠ a → ip_ce E S' R' L' i = ip_ce E S R L i)
    (hS : ∀ i y, i ≠ a → S' i y = S i y) (hR : ∀ i y, i ≠ a → R' i y = R i y) (hL : ∀ i y, i ≠ a → L' i y = L i y) (h9R : ∀ y z, R' a y = some z → z < 900) : ip_Rel E f n S' R' L' H1 := by
  obtain ⟨h1, h2, h3, h4, h5⟩ := h
  refine ⟨?_, fun q => by rw [hz]; exact h2 q, ?_, fun j k hj hj9 => ?_, fun j k y hy => ?_⟩
  · rw [← ip_ws_set ha hc]
    exact h1.set ip_ws_D (ip_ws_get ha) he hq
  · rw [← h3]; funext y; exact hS 900 y (by omega)
  · rw [hS j k (by omega), hR j k (by omega), hL j k (by omega)]; exact h4 j k hj hj9
  · by_cases hja : j = a
    · subst hja; exact h9R k y hy
    · rw [hR j k hja] at hy; exact h5 j k y hy
theorem ip_S_put {E : ip_E} {s : State} {H H1 : Heap} {locs : List Loc} {a k : Nat} (hS : va_S (ip_A E) s.heap H locs) (hz : H1.size = H.size) (hq : ∀ q : Nat, q ≠ E.2.1 + a → H1[q]? = H[q]?) : va_S (ip_A E) s.heap H1 (locs ++ [⟨E.2.1 + a, k⟩]) :=
  hS.put hz hq (show E.2.1 ≤ E.2.1 + a by omega)
theorem ip_isAb_at {n a t : Nat} {z : Int} (h : ip_isAb n a t z = true) (ht : t < 4) : a < n ∧ (ip_kd a).1 = t ∧ 0 ≤ z ∧ z < ((ip_kd a).2 : Int) ∧ a < 79 := by
  simp only [ip_isAb, Bool.and_eq_true, decide_eq_true_eq] at h
  refine ⟨h.1, h.2.1, h.2.2.1, h.2.2.2, ?_⟩
  rcases Nat.lt_or_ge a 79 with q | q
  · exact q
  · have h2 := h.2.1
    rw [ip_kd_big q] at h2
    exact absurd (show 99 = t from h2) (by omega)
theorem ip_tys_arr {E : ip_E} {t : Nat} (ht : t = 0 ∨ t = 1) : (ip_tys E)[t]? = some (E.2.2.2.2.2.2 t, if t = 0 then .int else .boolean) := by
  rcases ht with rfl | rfl <;> rfl
theorem sn_iaload : ip_Snd .iaload := by
  intro p l e Rm s mid args below meth c Qf E f m i ls st n S R L q t a b ok nx H locs lsA n0 i' ls' st' n' S' R' L' F hck hnx hs hl hR hS hn0 hroom hfr kk
  obtain ⟨hx, hb, hml, hown, hts, hlk, hini, hV, hO, hsz⟩ := F
  simp only [ip_si] at hs
  simp only [ip_ck, Bool.and_eq_true, Bool.or_eq_true, decide_eq_true_eq] at hck
  obtain ⟨-, hd⟩ := hck
  obtain ⟨hd, hn⟩ := ip_dcI hd
  split at hs
  · rename_i z x r
    split at hs
    · rename_i hA
      obtain ⟨hxn, hkd, hz1, hz2, h79⟩ := ip_isAb_at hA (by decide)
      cases hs
      have hkk := kk H locs lsA hl hR hS
      rw [← hnx, hn] at hkk
      unfold ip_G at hkk ⊢
      rw [List.map_cons, List.map_cons, ip_cv_in (by omega)]
      rw [List.map_cons] at hkk
      have he := ip_ws_get (E := E) (S := S) (R := R) (L := L) hxn
      rw [ip_ce_arr hkd (Or.inl rfl)] at he
      refine va_iald hx hb hV.1 hR.1 x 0 he rfl (ip_vpin hz1 hz2) hd ?_
      rw [ip_clamp hz1]
      exact hkk
    · cases hs
  · cases hs
theorem sn_baload : ip_Snd .baload := by
  intro p l e Rm s mid args below meth c Qf E f m i ls st n S R L q t a b ok nx H locs lsA n0 i' ls' st' n' S' R' L' F hck hnx hs hl hR hS hn0 hroom hfr kk
  obtain ⟨hx, hb, hml, hown, hts, hlk, hini, hV, hO, hsz⟩ := F
  simp only [ip_si] at hs
  simp only [ip_ck, Bool.and_eq_true, Bool.or_eq_true, decide_eq_true_eq] at hck
  obtain ⟨-, hd⟩ := hck
  obtain ⟨hd, hn⟩ := ip_dcI hd
  split at hs
  · rename_i z x r
    split at hs
    · rename_i hA
      obtain ⟨hxn, hkd, hz1, hz2, h79⟩ := ip_isAb_at hA (by decide)
      cases hs
      have hkk := kk H locs lsA hl hR hS
      rw [← hnx, hn] at hkk
      unfold ip_G at hkk ⊢
      rw [List.map_cons, List.map_cons, ip_cv_in (by omega)]
      rw [List.map_cons] at hkk
      have he := ip_ws_get (E := E) (S := S) (R := R) (L := L) hxn
      rw [ip_ce_arr hkd (Or.inr rfl)] at he
      refine va_zald hx hb hV.1 hR.1 x 1 he rfl (ip_vpin hz1 hz2) hd ?_
      rw [ip_clamp hz1]
      exact hkk
    · cases hs
  · cases hs
theorem sn_aaload : ip_Snd .aaload := by
  intro p l e Rm s mid args below meth c Qf E f m i ls st n S R L q t a b ok nx H locs lsA n0 i' ls' st' n' S' R' L' F hck hnx hs hl hR hS hn0 hroom hfr kk
  obtain ⟨hx, hb, hml, hown, hts, hlk, hini, hV, hO, hsz⟩ := F
  simp only [ip_si] at hs
  simp only [ip_ck, Bool.and_eq_true, Bool.or_eq_true, decide_eq_true_eq] at hck
  obtain ⟨-, hd⟩ := hck
  obtain ⟨hd, hn⟩ := ip_dcI hd
  split at hs
  · rename_i z x r
    split at hs
    · rename_i hA
      split at hs
      · rename_i y hy
        cases hs
        have hkk := kk H locs lsA hl hR hS
        rw [← hnx, hn] at hkk
        unfold ip_G at hkk ⊢
        have hy9 := hR.2.2.2.2 _ _ _ hy
        rw [List.map_cons, ip_cv_in hy9] at hkk
        have key : ∀ (t : Nat), ip_isAb n x t z.toInt = true → (t = 2 ∨ t = 3) → (∃ C, (ip_tys E)[t]? = some (E.2.2.2.2.2.2 t, .object C)) → W p l e Rm s mid args below meth c H locs (n - n0) (ip_sz n - ip_sz n0) Qf (F0 mid q lsA ((Value.int z :: Value.ref x :: r).map (ip_cv E))) := by
          intro t hA ht ⟨C, hty⟩
          obtain ⟨hxn, hkd, hz1, hz2, h79⟩ := ip_isAb_at hA (by omega)
          rw [List.map_cons, List.map_cons, ip_cv_in (by omega)]
          have he := ip_ws_get (E := E) (S := S) (R := R) (L := L) hxn
          rw [ip_ce_ref hkd ht] at he
          refine va_aldq hx hb hV.1 hR.1 x t he hty (ip_vpin hz1 hz2) hd ?_
          rw [ip_clamp hz1, hy]
          exact hkk
        rcases Bool.or_eq_true _ _ ▸ hA with hA | hA
        · exact key 2 hA (Or.inl rfl) ⟨_, rfl⟩
        · exact key 3 hA (Or.inr rfl) ⟨_, rfl⟩
      · cases hs
    · cases hs
  · cases hs
theorem ip_kd_lt {x : Nat} (h : (ip_kd x).1 = 0) : x < 79 := by
  rcases Nat.lt_or_ge x 79 with q | q
  · exact q
  · rw [ip_kd_big q] at h; exact absurd (show 99 = 0 from h) (by omega)
theorem sn_alen : ip_Snd .arraylength := by
  intro p l e Rm s mid args below meth c Qf E f m i ls st n S R L q t a b ok nx H locs lsA n0 i' ls' st' n' S' R' L' F hck hnx hs hl hR hS hn0 hroom hfr kk
  obtain ⟨hx, hb, hml, hown, hts, hlk, hini, hV, hO, hsz⟩ := F
  simp only [ip_si] at hs
  simp only [ip_ck, Bool.and_eq_true, Bool.or_eq_true, decide_eq_true_eq] at hck
  obtain ⟨-, hd⟩ := hck
  obtain ⟨hd, hn⟩ := ip_dcI hd
  split at hs
  · rename_i x r
    split at hs
    · rename_i hA
      have hA2 : ip_isAb n x 0 0 = true ∨ (x < n ∧ (ip_kd x).1 = 0 ∧ (ip_kd x).2 = 0) ∨ True := Or.inr (Or.inr trivial)
      replace hA : x < n ∧ (ip_kd x).1 = 0 := by simpa using hA
      obtain ⟨hxn, hkd⟩ := hA
      have h79 := ip_kd_lt hkd
      cases hs
      have hkk := kk H locs lsA hl hR hS
      rw [← hnx, hn] at hkk
      unfold ip_G at hkk ⊢
      rw [List.map_cons, ip_cv_in (by omega)]
      have he := ip_ws_get (E := E) (S := S) (R := R) (L := L) hxn
      rw [ip_ce_arr hkd (Or.inl rfl)] at he
      exact va_alen hx hb hV.1 hR.1 x 0 he rfl (Int32.ofInt_eq_ofNat).symm hd hkk
    · cases hs
  · cases hs
theorem sn_caload : ip_Snd .caload := by
  intro p l e Rm s mid args below meth c Qf E f m i ls st n S R L q t a b ok nx H locs lsA n0 i' ls' st' n' S' R' L' F hck hnx hs hl hR hS hn0 hroom hfr kk
  obtain ⟨hx, hb, hml, hown, hts, hlk, hini, hV, hO, hsz⟩ := F
  simp only [ip_si] at hs
  simp only [ip_ck, Bool.and_eq_true, Bool.or_eq_true, decide_eq_true_eq] at hck
  obtain ⟨-, hd⟩ := hck
  obtain ⟨hd, hn⟩ := ip_dcI hd
  split at hs
  · rename_i z x r
    split at hs
    · rename_i hA
      replace hA : x = 900 ∧ 0 ≤ z.toInt ∧ z.toInt < S 900 (-1) := by simpa using hA
      obtain ⟨h9, hz1, hz2⟩ := hA
      cases hs
      subst h9
      have hkk := kk H locs lsA hl hR hS
      rw [← hnx, hn] at hkk
      unfold ip_G at hkk ⊢
      rw [List.map_cons, List.map_cons, show ip_cv E (.ref 900) = .ref E.2.2.1 from rfl]
      rw [List.map_cons] at hkk
      obtain ⟨⟨Ln, xs, o1, o2, o3⟩, o4, -⟩ := hO
      rw [hR.2.2.1, o2] at hz2
      refine va_sld hx hb o1 (by omega) (fun (q : E.2.1 ≤ E.2.2.1) => by omega) hS (ip_vpin hz1 hz2) hd ?_
      have hc := ip_clamp hz1
      rw [o3 _ (by omega), hc, ← hR.2.2.1]
      exact hkk
    · cases hs
  · cases hs
theorem sn_saload : ip_Snd .saload := by
  intro p l e Rm s mid args below meth c Qf E f m i ls st n S R L q t a b ok nx H locs lsA n0 i' ls' st' n' S' R' L' F hck hnx hs hl hR hS hn0 hroom hfr kk
  obtain ⟨hx, hb, hml, hown, hts, hlk, hini, hV, hO, hsz⟩ := F
  simp only [ip_si] at hs
  simp only [ip_ck, Bool.and_eq_true, Bool.or_eq_true, decide_eq_true_eq] at hck
  obtain ⟨-, hd⟩ := hck
  obtain ⟨hd, hn⟩ := ip_dcI hd
  split at hs
  · rename_i x r
    split at hs
    · rename_i h9
      cases hs
      replace h9 : x = 900 := h9
      subst h9
      have hkk := kk H locs lsA hl hR hS
      rw [← hnx, hn] at hkk
      unfold ip_G at hkk ⊢
      rw [List.map_cons, show ip_cv E (.ref 900) = .ref E.2.2.1 from rfl]
      rw [List.map_cons] at hkk
      obtain ⟨⟨Ln, xs, o1, o2, o3⟩, o4, -⟩ := hO
      refine va_slen hx hb o1 (by omega) (fun (q : E.2.1 ≤ E.2.2.1) => by omega) hS hd ?_
      rw [hR.2.2.1, o2] at hkk
      rw [← Int32.ofInt_eq_ofNat]
      exact hkk
    · cases hs
  · cases hs
theorem ip_len_at : ∀ k, k < 13 → ip_len.getD k 0 = (ip_tx k).length ∧ ∀ j, j < (ip_tx k).length → (ip_byt.getD k []).getD j 0 = Int32.ofInt ((ip_tx k).getD j 0) := by decide +kernel
theorem ip_adV {E : ip_E} {x : Nat} (h : 951 ≤ x ∧ x < 964) : ip_cv E (.ref x) = .ref (E.2.2.2.2.1 (x - 951)) ∧ x - 951 < 13 := by
  refine ⟨?_, by omega⟩
  simp only [ip_cv, ip_ad]
  rw [if_neg (show ¬ x = 998 by omega), if_neg (show ¬ x < 900 by omega), if_neg (show ¬ x = 900 by omega), if_neg (show ¬ x < 951 by omega)]
theorem sn_laload : ip_Snd .laload := by
  intro p l e Rm s mid args below meth c Qf E f m i ls st n S R L q t a b ok nx H locs lsA n0 i' ls' st' n' S' R' L' F hck hnx hs hl hR hS hn0 hroom hfr kk
  obtain ⟨hx, hb, hml, hown, hts, hlk, hini, hV, hO, hsz⟩ := F
  simp only [ip_si] at hs
  simp only [ip_ck, Bool.and_eq_true, Bool.or_eq_true, decide_eq_true_eq] at hck
  obtain ⟨-, hd⟩ := hck
  obtain ⟨hd, hn⟩ := ip_dcI hd
  split at hs
  · rename_i x r
    split at hs
    · rename_i hA
      obtain ⟨e1, e3⟩ := ip_adV (E := E) (x := x) (by simpa using hA)
      cases hs
      have hkk := kk H locs lsA hl hR hS
      rw [← hnx, hn] at hkk
      unfold ip_G at hkk ⊢
      rw [List.map_cons, e1]
      rw [List.map_cons] at hkk
      have hT := (hO.2.2.1.1 (x - 951) e3).2.2.2
      exact va_tlen hx hb hT hS (by rw [(ip_len_at _ e3).1]; exact (Int32.ofInt_eq_ofNat).symm) hd hkk
    · cases hs
  · cases hs
theorem sn_faload : ip_Snd .faload := by
  intro p l e Rm s mid args below meth c Qf E f m i ls st n S R L q t a b ok nx H locs lsA n0 i' ls' st' n' S' R' L' F hck hnx hs hl hR hS hn0 hroom hfr kk
  obtain ⟨hx, hb, hml, hown, hts, hlk, hini, hV, hO, hsz⟩ := F
  simp only [ip_si] at hs
  simp only [ip_ck, Bool.and_eq_true, Bool.or_eq_true, decide_eq_true_eq] at hck
  obtain ⟨-, hd⟩ := hck
  obtain ⟨hd, hn⟩ := ip_dcI hd
  split at hs
  · rename_i z x r
    split at hs
    · rename_i hA
      have hA2 : (951 ≤ x ∧ x < 964) ∧ 0 ≤ z.toInt ∧ z.toInt < ((ip_tx (x - 951)).length : Int) := by simpa [and_assoc] using hA
      obtain ⟨e1, e3⟩ := ip_adV (E := E) (x := x) hA2.1
      obtain ⟨-, hz1, hz2⟩ := hA2
      cases hs
      have hkk := kk H locs lsA hl hR hS
      rw [← hnx, hn] at hkk
      unfold ip_G at hkk ⊢
      rw [List.map_cons, List.map_cons, e1]
      rw [List.map_cons] at hkk
      have hT := (hO.2.2.1.1 (x - 951) e3).2.2.2
      obtain ⟨g1, g2⟩ := ip_len_at _ e3
      have hc := ip_clamp hz1
      refine va_tb hx hb hT hS (ip_vpin hz1 (by rw [g1]; exact hz2)) rfl hd ?_
      rw [g2 _ (by omega)]
      exact hkk
    · cases hs
  · cases hs
theorem sn_iastore : ip_Snd .iastore := by
  intro p l e Rm s mid args below meth c Qf E f m i ls st n S R L q t a b ok nx H locs lsA n0 i' ls' st' n' S' R' L' F hck hnx hs hl hR hS hn0 hroom hfr kk
  obtain ⟨hx, hb, hml, hown, hts, hlk, hini, hV, hO, hsz⟩ := F
  simp only [ip_si] at hs
  simp only [ip_ck, Bool.and_eq_true, Bool.or_eq_true, decide_eq_true_eq] at hck
  obtain ⟨-, hd⟩ := hck
  obtain ⟨hd, hn⟩ := ip_dcI hd
  split at hs
  · rename_i v z x r
    split at hs
    · rename_i hA
      obtain ⟨hxn, hkd, hz1, hz2, h79⟩ := ip_isAb_at hA (by decide)
      cases hs
      unfold ip_G
      rw [List.map_cons, List.map_cons, List.map_cons, ip_cv_in (by omega)]
      have he := ip_ws_get (E := E) (S := S) (R := R) (L := L) hxn
      rw [ip_ce_arr hkd (Or.inl rfl)] at he
      have hin := ip_vpin hz1 hz2
      refine W.iast hx hb (hR.1 x _ he) ((hV.1.2 0 _ rfl).1 (ip_kd x).2 (fun j => .int (Int32.ofInt (S x (j : Int))))) (fun q => by cases q) (by show ¬ (z < 0 ∨ (arrV _ _ _).slots.size ≤ _); rw [arrV_size]; exact hin) rfl rfl hd fun H1 e1 hz hq => ?_
      have hc := ip_clamp hz1
      have hR1 : ip_Rel E f n (ip_up S x z.toInt v.toInt) R L H1 := by
        refine hR.set hxn h79 hz hq ?_ (fun i h => ip_ce_up h) (fun i y h => by unfold ip_up; rw [if_neg (fun q => h q.1)]) (fun _ _ _ => rfl) (fun _ _ _ => rfl) (fun y k h => hR.2.2.2.2 _ _ _ h)
        rw [ip_ce_arr hkd (Or.inl rfl)]
        show H1[_]? = some (vp_cell _ _)
        rw [e1, vp_cell_i, vp_cell_i, arrV_store]
        congr 2
        funext k
        unfold updV ip_up
        by_cases hk : k = z.toNatClampNeg
        · rw [if_pos hk, if_pos ⟨rfl, by rw [hk]; exact hc⟩, Int32.ofInt_toInt]
        · rw [if_neg hk, if_neg (fun q => hk (by have := q.2; omega))]
      have hkk := kk H1 _ lsA hl hR1 (ip_S_put (k := z.toNatClampNeg) hS hz hq)
      rw [← hnx, hn] at hkk
      exact hkk
    · cases hs
  · cases hs
theorem sn_bastore : ip_Snd .bastore := by
  intro p l e Rm s mid args below meth c Qf E f m i ls st n S R L q t a b ok nx H locs lsA n0 i' ls' st' n' S' R' L' F hck hnx hs hl hR hS hn0 hroom hfr kk
  obtain ⟨hx, hb, hml, hown, hts, hlk, hini, hV, hO, hsz⟩ := F
  simp only [ip_si] at hs
  simp only [ip_ck, Bool.and_eq_true, Bool.or_eq_true, decide_eq_true_eq] at hck
  obtain ⟨-, hd⟩ := hck
  obtain ⟨hd, hn⟩ := ip_dcI hd
  split at hs
  · rename_i v z x r
    split at hs
    · rename_i hA
      simp only [Bool.and_eq_true, decide_eq_true_eq] at hA
      obtain ⟨hn79, hA, hb2⟩ := hA
      obtain ⟨hxn, hkd, hz1, hz2, h79⟩ := ip_isAb_at hA (by decide)
      cases hs
      unfold ip_G
      rw [List.map_cons, List.map_cons, List.map_cons, ip_cv_in (by omega)]
      have he := ip_ws_get (E := E) (S := S) (R := R) (L := L) hxn
      rw [ip_ce_arr hkd (Or.inr rfl)] at he
      have hin := ip_vpin hz1 hz2
      refine W.zast hx hb (hR.1 x _ he) ((hV.1.2 1 _ rfl).1 (ip_kd x).2 (fun j => .int (Int32.ofInt (S x (j : Int))))) (fun q => by cases q) (by show ¬ (z < 0 ∨ (arrV _ _ _).slots.size ≤ _); rw [arrV_size]; exact hin) rfl rfl hd fun H1 e1 hz hq => ?_
      have hc := ip_clamp hz1
      have hv2 : narrow .boolean (.int v) = .int v := by
        unfold ip_b2 at hb2
        simp only [Bool.or_eq_true, decide_eq_true_eq] at hb2
        rcases hb2 with rfl | rfl <;> rfl
      rw [hv2] at e1
      have hR1 : ip_Rel E f n (ip_up S x z.toInt v.toInt) R L H1 := by
        refine hR.set hxn h79 hz hq ?_ (fun i h => ip_ce_up h) (fun i y h => by unfold ip_up; rw [if_neg (fun q => h q.1)]) (fun _ _ _ => rfl) (fun _ _ _ => rfl) (fun y k h => hR.2.2.2.2 _ _ _ h)
        rw [ip_ce_arr hkd (Or.inr rfl)]
        show H1[_]? = some (vp_cell _ _)
        rw [e1, vp_cell_i, vp_cell_i, arrV_store]
        congr 2
        funext k
        unfold updV ip_up
        by_cases hk : k = z.toNatClampNeg
        · rw [if_pos hk, if_pos ⟨rfl, by rw [hk]; exact hc⟩, Int32.ofInt_toInt]
        · rw [if_neg hk, if_neg (fun q => hk (by have := q.2; omega))]
      have hkk := kk H1 _ lsA hl hR1 (ip_S_put (k := z.toNatClampNeg) hS hz hq)
      rw [← hnx, hn] at hkk
      exact hkk
    · cases hs
  · cases hs
