/-! locals and memory, instruction by instruction -/
abbrev ip_lst (E : ip_E) (ml : Nat) (ls : ip_L) : List (Nat × Value) := (List.range ml).filterMap (fun k => match ls[k]? with
    | some (some v) => some (k, ip_cv E v)
    | _ => none)
theorem ip_fxa_get {ls : ip_L} {k j : Nat} {v : Value} (hj : j ≠ k) (h : (ip_fxa ls k)[j]? = some (some v)) : ls[j]? = some (some v) ∧ (j + 1 = k → v.category = 1) := by
  unfold ip_fxa at h
  cases k with
  | zero => exact ⟨h, fun e => by omega⟩
  | succ i =>
    dsimp only at h
    rw [List.getElem?_modify] at h
    cases hl : ls[j]? with
    | none => rw [hl] at h; simp at h
    | some o =>
      rw [hl] at h
      by_cases hij : i = j
      · have h1 : ip_fx o = some v := by simpa [hij] using h
        obtain ⟨e1, e2⟩ := ip_fx_val h1
        exact ⟨by rw [e1], fun _ => e2⟩
      · have h1 : o = some v := by simpa [hij] using h
        exact ⟨by rw [h1], fun e => by omega⟩
theorem ip_fxa_len {ls : ip_L} {k : Nat} : (ip_fxa ls k).length = ls.length := by
  unfold ip_fxa
  cases k <;> simp
theorem ip_ll_st1 {E : ip_E} {ml k : Nat} {ls ls2 : ip_L} {lsA lsA' : Array Slot} {v : Value} (hf : (E.2.2.2.2.2.1).category = 1) (hl : ip_ll E ml lsA ls) (hs : ip_st1 ls k v = some ls2) (hA : lv_has lsA' ml ((k, ip_cv E v) :: (ip_lst E ml ls).filter (fun q => !(q.1 == k) && !(q.1 + 1 == k && q.2.category == 2)))) : ip_ll E ml lsA' ls2 := by
  unfold ip_st1 at hs
  split at hs
  · rename_i hk
    cases hs
    refine ⟨hA.1, by rw [List.length_set, ip_fxa_len]; exact hl.2.1, hA.2.1, fun j w hw => ?_⟩
    rw [List.getElem?_set] at hw
    by_cases hkj : k = j
    · subst hkj
      rw [if_pos rfl, if_pos (by rw [ip_fxa_len]; exact hk)] at hw
      obtain rfl : v = w := by simpa using hw
      exact hA.2.2 (k, ip_cv E v) List.mem_cons_self
    · rw [if_neg hkj] at hw
      obtain ⟨h1, h2⟩ := ip_fxa_get (fun e => hkj e.symm) hw
      refine hA.2.2 (j, ip_cv E w) (List.mem_cons_of_mem _ (List.mem_filter.mpr ⟨ip_ll_mem hl.2.1 h1, ?_⟩))
      have hne : (j == k) = false := by simpa using fun e : j = k => hkj e.symm
      by_cases hj1 : j + 1 = k
      · have hc : (ip_cv E w).category = 1 := by
          by_cases hw9 : w = .ref 998
          · subst hw9; exact hf
          · rw [ip_cv_cat hw9]; exact h2 hj1
        simp [hne, hc]
      · have : (j + 1 == k) = false := by simpa using hj1
        simp [hne, this]
  · cases hs
theorem ip_ll_st2 {E : ip_E} {ml k : Nat} {ls ls2 : ip_L} {lsA lsA' : Array Slot} {v : Value} (hf : (E.2.2.2.2.2.1).category = 1) (hl : ip_ll E ml lsA ls) (hs : ip_st2 ls k v = some ls2) (hA : lv_has lsA' ml ((k, ip_cv E v) :: (ip_lst E ml ls).filter (fun q => !(q.1 == k) && (!(q.1 == k + 1) && !(q.1 + 1 == k && q.2.category == 2))))) : ip_ll E ml lsA' ls2 := by
  unfold ip_st2 at hs
  split at hs
  · rename_i hk
    cases hs
    refine ⟨hA.1, by rw [List.length_set, List.length_set, ip_fxa_len]; exact hl.2.1, hA.2.1, fun j w hw => ?_⟩
    rw [List.getElem?_set] at hw
    by_cases hk1 : k + 1 = j
    · rw [if_pos hk1, if_pos (by rw [List.length_set, ip_fxa_len]; exact hk)] at hw
      cases hw
    · rw [if_neg hk1, List.getElem?_set] at hw
      by_cases hkj : k = j
      · subst hkj
        rw [if_pos rfl, if_pos (by rw [ip_fxa_len]; omega)] at hw
        obtain rfl : v = w := by simpa using hw
        exact hA.2.2 (k, ip_cv E v) List.mem_cons_self
      · rw [if_neg hkj] at hw
        obtain ⟨h1, h2⟩ := ip_fxa_get (fun e => hkj e.symm) hw
        refine hA.2.2 (j, ip_cv E w) (List.mem_cons_of_mem _ (List.mem_filter.mpr ⟨ip_ll_mem hl.2.1 h1, ?_⟩))
        have hne : (j == k) = false := by simpa using fun e : j = k => hkj e.symm
        have hne1 : (j == k + 1) = false := by simpa using fun e : j = k + 1 => hk1 e.symm
        by_cases hj1 : j + 1 = k
        · have hc : (ip_cv E w).category = 1 := by
            by_cases hw9 : w = .ref 998
            · subst hw9; exact hf
            · rw [ip_cv_cat hw9]; exact h2 hj1
          simp [hne, hne1, hc]
        · have : (j + 1 == k) = false := by simpa using hj1
          simp [hne, hne1, this]
  · cases hs
theorem ip_st1_lt {ls ls2 : ip_L} {k : Nat} {v : Value} (h : ip_st1 ls k v = some ls2) : k < ls.length := by
  unfold ip_st1 at h
  split at h
  · assumption
  · cases h
theorem ip_st2_lt {ls ls2 : ip_L} {k : Nat} {v : Value} (h : ip_st2 ls k v = some ls2) : k + 1 < ls.length := by
  unfold ip_st2 at h
  split at h
  · assumption
  · cases h
theorem sn_istore (k : Nat) : ip_Snd (.istore k) := by
  intro p l e Rm s mid args below meth c Qf E f m i ls st n S R L q t a b ok nx H locs lsA n0 i' ls' st' n' S' R' L' F hck hnx hs hl hR hS hn0 hroom hfr kk
  obtain ⟨hx, hb, hml, hown, hts, hlk, hini, hV, hO, hsz⟩ := F
  simp only [ip_si] at hs
  simp only [ip_ck, Bool.and_eq_true, Bool.or_eq_true, decide_eq_true_eq] at hck
  obtain ⟨-, hd⟩ := hck
  split at hs
  · rename_i v r
    split at hs
    · rename_i ls2 h2
      cases hs
      have hlt := ip_st1_lt h2
      rw [hl.2.1] at hlt
      unfold ip_G
      rw [List.map_cons]
      rcases hd with hd | ⟨hk4, hd⟩
      · obtain ⟨hd, hn⟩ := ip_dcI hd
        refine lv_istore hx hb hd (ip_ll_has hl) hlt rfl fun lsA1 hA => ?_
        have hkk := kk H locs lsA1 (ip_ll_st1 hO.2.2.2.2.2 hl h2 hA) hR hS
        rw [← hnx, hn] at hkk
        exact hkk
      · obtain ⟨hd, hn⟩ := ip_dcI hd
        refine lv_istore_n hx hb hd (show k % 4 = k by omega) (ip_ll_has hl) hlt rfl fun lsA1 hA => ?_
        have hkk := kk H locs lsA1 (ip_ll_st1 hO.2.2.2.2.2 hl h2 hA) hR hS
        rw [← hnx, hn] at hkk
        exact hkk
    · cases hs
  · cases hs
theorem sn_lstore (k : Nat) : ip_Snd (.lstore k) := by
  intro p l e Rm s mid args below meth c Qf E f m i ls st n S R L q t a b ok nx H locs lsA n0 i' ls' st' n' S' R' L' F hck hnx hs hl hR hS hn0 hroom hfr kk
  obtain ⟨hx, hb, hml, hown, hts, hlk, hini, hV, hO, hsz⟩ := F
  simp only [ip_si] at hs
  simp only [ip_ck, Bool.and_eq_true, Bool.or_eq_true, decide_eq_true_eq] at hck
  obtain ⟨-, hd⟩ := hck
  split at hs
  · rename_i v r
    split at hs
    · rename_i ls2 h2
      cases hs
      have hlt := ip_st2_lt h2
      rw [hl.2.1] at hlt
      unfold ip_G
      rw [List.map_cons]
      rcases hd with hd | ⟨hk4, hd⟩
      · obtain ⟨hd, hn⟩ := ip_dcI hd
        refine lv_lstore hx hb hd (ip_ll_has hl) hlt rfl fun lsA1 hA => ?_
        have hkk := kk H locs lsA1 (ip_ll_st2 hO.2.2.2.2.2 hl h2 hA) hR hS
        rw [← hnx, hn] at hkk
        exact hkk
      · obtain ⟨hd, hn⟩ := ip_dcI hd
        refine lv_lstore_n hx hb hd (show k % 4 = k by omega) (ip_ll_has hl) hlt rfl fun lsA1 hA => ?_
        have hkk := kk H locs lsA1 (ip_ll_st2 hO.2.2.2.2.2 hl h2 hA) hR hS
        rw [← hnx, hn] at hkk
        exact hkk
    · cases hs
  · cases hs
theorem sn_astore (k : Nat) : ip_Snd (.astore k) := by
  intro p l e Rm s mid args below meth c Qf E f m i ls st n S R L q t a b ok nx H locs lsA n0 i' ls' st' n' S' R' L' F hck hnx hs hl hR hS hn0 hroom hfr kk
  obtain ⟨hx, hb, hml, hown, hts, hlk, hini, hV, hO, hsz⟩ := F
  simp only [ip_si] at hs
  simp only [ip_ck, Bool.and_eq_true, Bool.or_eq_true, decide_eq_true_eq] at hck
  obtain ⟨-, hd⟩ := hck
  split at hs
  · rename_i v r
    split at hs
    · rename_i ls2 h2
      split at hs
      · cases hs
      rename_i hne
      cases hs
      have hlt := ip_st1_lt h2
      rw [hl.2.1] at hlt
      unfold ip_G
      rw [List.map_cons]
      rw [show ip_cv E (.ref v) = .ref (ip_ad E v) from if_neg hne]
      rcases hd with hd | ⟨hk4, hd⟩
      · obtain ⟨hd, hn⟩ := ip_dcI hd
        refine lv_astore hx hb hd (ip_ll_has hl) hlt rfl fun lsA1 hA => ?_
        have hkk := kk H locs lsA1 (ip_ll_st1 hO.2.2.2.2.2 hl h2 (by rw [show ip_cv E (.ref v) = .ref (ip_ad E v) from if_neg hne]; exact hA)) hR hS
        rw [← hnx, hn] at hkk
        exact hkk
      · obtain ⟨hd, hn⟩ := ip_dcI hd
        refine lv_astore_n hx hb hd (show k % 4 = k by omega) (ip_ll_has hl) hlt rfl fun lsA1 hA => ?_
        have hkk := kk H locs lsA1 (ip_ll_st1 hO.2.2.2.2.2 hl h2 (by rw [show ip_cv E (.ref v) = .ref (ip_ad E v) from if_neg hne]; exact hA)) hR hS
        rw [← hnx, hn] at hkk
        exact hkk
    · cases hs
  · cases hs
theorem sn_iinc (k : Nat) (z : Int) : ip_Snd (.iinc k z) := by
  intro p l e Rm s mid args below meth c Qf E f m i ls st n S R L q t a b ok nx H locs lsA n0 i' ls' st' n' S' R' L' F hck hnx hs hl hR hS hn0 hroom hfr kk
  obtain ⟨hx, hb, hml, hown, hts, hlk, hini, hV, hO, hsz⟩ := F
  simp only [ip_si] at hs
  simp only [ip_ck, Bool.and_eq_true, Bool.or_eq_true, decide_eq_true_eq] at hck
  obtain ⟨-, hd⟩ := hck
  obtain ⟨hd, hn⟩ := ip_dcI hd
  split at hs
  · rename_i v hk
    split at hs
    · rename_i ls2 h2
      cases hs
      have hm := ip_ll_mem (E := E) hl.2.1 hk
      obtain ⟨j, hj⟩ := List.getElem?_of_mem hm
      refine lv_iinc hx hb hd (ip_ll_has hl) hj rfl (by rw [← hl.2.1]; exact ip_st1_lt h2) rfl fun lsA1 hA => ?_
      have hkk := kk H locs lsA1 (ip_ll_st1 hO.2.2.2.2.2 hl h2 hA) hR hS
      rw [← hnx, hn] at hkk
      exact hkk
    · cases hs
  · cases hs
/-! a class's tables -/
def ip_tyl : List (Nat → FieldType) := [ip_t0, ip_t1, ip_t2, ip_t3, ip_t4, ip_t5, ip_t6, ip_t7, ip_t8]
def ip_ty (ci : Nat) : Nat → FieldType := ip_tyl.getD ci ip_t0
def ip_clsok (ci : Nat) : Prop :=
  ip_cls[ci]? = some (ip_CN ci, ip_FT ci, ip_NF.getD ci 0) ∧ (∀ w ∈ u_ws (ip_CN ci) (ip_FT ci) (ip_NF.getD ci 0), w ∈ ip_W) ∧ (∀ k, k < ip_NF.getD ci 0 → parseFieldDescriptor (ip_FT ci k).2.2.1 = some (ip_ty ci k)) ∧
  (∀ x, x < ip_NF.getD ci 0 → ∀ y, y < ip_NF.getD ci 0 → x ≠ y → (ip_FT ci x).2.1 ≠ (ip_FT ci y).2.1) ∧ (∀ k, k < ip_NF.getD ci 0 → (ip_FT ci k).1 = ip_CN ci) ∧
  (∀ k, k < ip_NF.getD ci 0 → (ip_FK.getD ci []).getD k 9 = match ip_ty ci k with
    | .int => 0
    | .boolean => 1
    | .long => 3
    | .object _ => 2
    | .array _ => 2
    | _ => 9)
theorem ip_kd_obj : ∀ j, j < 79 → 10 ≤ (ip_kd j).1 → (ip_kd j).1 - 10 < 9 ∧ (ip_kd j).2 = ip_NF.getD ((ip_kd j).1 - 10) 0 := by decide +kernel
theorem ip_kd_big {j : Nat} (h : 79 ≤ j) : ip_kd j = (99, 0) := by
  unfold ip_kd
  rw [List.getD_eq_getElem?_getD, List.getElem?_eq_none (by exact h)]
  rfl
theorem ip_ce_obj {E : ip_E} {S : ip_S} {R : ip_R} {L : ip_S} {j ci : Nat} (h : (ip_kd j).1 = 10 + ci) : ip_ce E S R L j = .inr (ci, (List.range (ip_kd j).2).map (fun k => ip_fv E ci k j S R L)) := by
  unfold ip_ce
  rw [h]
  split
  · omega
  · omega
  · omega
  · omega
  · rw [show 10 + ci - 10 = ci by omega]
theorem ip_ce_arr {E : ip_E} {S : ip_S} {R : ip_R} {L : ip_S} {j t : Nat} (h : (ip_kd j).1 = t) (ht : t = 0 ∨ t = 1) : ip_ce E S R L j = .inl (E.2.2.2.2.2.2 t, (ip_kd j).2, .inl (fun i => Int32.ofInt (S j (i : Int)))) := by
  unfold ip_ce
  rw [h]
  rcases ht with rfl | rfl <;> rfl
theorem ip_ce_ref {E : ip_E} {S : ip_S} {R : ip_R} {L : ip_S} {j t : Nat} (h : (ip_kd j).1 = t) (ht : t = 2 ∨ t = 3) : ip_ce E S R L j = .inl (E.2.2.2.2.2.2 t, (ip_kd j).2, .inr (.inr (.inr (.inr (fun i => (R j (i : Int)).map (fun b => E.2.1 + b)))))) := by
  unfold ip_ce
  rw [h]
  rcases ht with rfl | rfl <;> rfl
theorem ip_lt79 {n a ci : Nat} (h : ip_isOb n a ci = true) (hc : ci < 9) : a < n ∧ (ip_kd a).1 = 10 + ci ∧ a < 79 := by
  simp only [ip_isOb, Bool.and_eq_true, decide_eq_true_eq] at h
  refine ⟨h.1, h.2, ?_⟩
  rcases Nat.lt_or_ge a 79 with q | q
  · exact q
  · have := h.2
    rw [ip_kd_big q] at this
    exact absurd (show 99 = 10 + ci from this) (by omega)
theorem ip_cv_in {E : ip_E} {a : Nat} (h : a < 900) : ip_cv E (.ref a) = .ref (E.2.1 + a) := by
  simp only [ip_cv, ip_ad]
  rw [if_neg (show ¬ a = 998 by omega), if_pos h]
theorem ip_nest {E : ip_E} {s : State} {args : Array Value} (hV : ip_V E s) {pos : Nat} {e : Nat × Nat × Nat × Nat × Nat} (he : ip_et pos = e) (hg : ip_isN (ip_lw e) = true) (ho : (ip_lw e).onTables = true) (hne : e.1 ≠ 99) : (ip_lw e).before args s = true := by
  rcases ip_tblL pos with h | h
  · rw [he] at h
    subst h
    exact absurd rfl hne
  · rw [he] at h
    exact va_Nw.use ho (hV.2.1 _ h hg)
theorem ip_adK {E : ip_E} {x : Nat} (h : 901 ≤ x ∧ x < 914) : ip_cv E (.ref x) = .ref (E.2.2.2.1 (x - 901)) ∧ ip_cv E (.ref (x + 50)) = .ref (E.2.2.2.2.1 (x - 901)) ∧ x - 901 < 13 := by
  refine ⟨?_, ?_, by omega⟩
  · have := ip_cv_str (E := E) (k := x - 901) (by omega)
    rwa [show 901 + (x - 901) = x by omega] at this
  · simp only [ip_cv, ip_ad]
    rw [if_neg (show ¬ x + 50 = 998 by omega), if_neg (show ¬ x + 50 < 900 by omega), if_neg (show ¬ x + 50 = 900 by omega), if_neg (show ¬ x + 50 < 951 by omega), show x + 50 - 951 = x - 901 by omega]
theorem sn_getf (hcl : ∀ ci, ci < 9 → ip_clsok ci) (g : Nat) : ip_Snd (.getfield g) := by
  intro p l e Rm s mid args below meth c Qf E f m i ls st n S R L q t a b ok nx H locs lsA n0 i' ls' st' n' S' R' L' F hck hnx hs hl hR hS hn0 hroom hfr kk
  obtain ⟨hx, hb, hml, hown, hts, hlk, hini, hV, hO, hsz⟩ := F
  simp only [ip_si] at hs
  simp only [ip_ck, Bool.and_eq_true] at hck
  obtain ⟨-, hd, hw⟩ := hck
  obtain ⟨hd, hn⟩ := ip_dcI hd
  split at hs
  · rename_i x r
    by_cases hg0 : g = 1280
    · rw [if_pos hg0] at hs hw
      simp only [decide_eq_true_eq] at hw
      split at hs
      · rename_i hx9
        replace hx9 : 901 ≤ x ∧ x < 914 := by simpa using hx9
        cases hs
        have hkk := kk H locs lsA hl hR hS
        rw [← hnx, hn] at hkk
        unfold ip_G at hkk ⊢
        rw [List.map_cons] at hkk ⊢
        obtain ⟨e1, e2, e3⟩ := ip_adK (E := E) (x := x) hx9
        rw [e1]
        rw [e2] at hkk
        exact vk_getf hx hb (hO.2.2.1.1 (x - 901) e3).2.2.1 hS hown (ip_lnk hts hw rfl) (fun _ h => h) hd hkk
      · cases hs
    · rw [if_neg hg0] at hs hw
      by_cases hg1 : g = 1281
      · rw [if_pos hg1] at hs hw
        simp only [decide_eq_true_eq] at hw
        split at hs
        · rename_i hx9
          replace hx9 : 901 ≤ x ∧ x < 914 := by simpa using hx9
          cases hs
          have hkk := kk H locs lsA hl hR hS
          rw [← hnx, hn] at hkk
          unfold ip_G at hkk ⊢
          rw [List.map_cons] at hkk ⊢
          obtain ⟨e1, e2, e3⟩ := ip_adK (E := E) (x := x) hx9
          rw [e1]
          exact vk_getf hx hb (hO.2.2.1.1 (x - 901) e3).2.1 hS hown (ip_lnk hts hw rfl) (fun _ h => h) hd hkk
        · cases hs
      · rw [if_neg hg1] at hs hw
        simp only [ip_fchk, Bool.and_eq_true, Bool.or_eq_true, decide_eq_true_eq] at hw
        obtain ⟨hci, hk, hw⟩ := hw
        split at hs
        · rename_i hO1
          obtain ⟨hxn, hkd, h79⟩ := ip_lt79 hO1 hci
          obtain ⟨c1, c2, c3, c4, c5, c6⟩ := hcl _ hci
          have hkd2 := (ip_kd_obj x h79 (by omega)).2
          rw [hkd, show 10 + g / 64 - 10 = g / 64 by omega] at hkd2
          have he := ip_ws_get (E := E) (S := S) (R := R) (L := L) hxn
          rw [ip_ce_obj hkd] at he
          have hfs : ((List.range (ip_kd x).2).map (fun k => ip_fv E (g / 64) k x S R L))[g % 64]? = some (ip_fv E (g / 64) (g % 64) x S R L) := by
            rw [List.getElem?_map, List.getElem?_range (by omega)]; rfl
          have key : ∀ v, st' = v :: r → i' = i + 1 → ls' = ls → n' = n → S' = S → R' = R → L' = L → ip_fv E (g / 64) (g % 64) x S R L = ip_cv E v → ip_G p l e Rm s mid args below meth c Qf E H locs n0 n q lsA (.ref x :: r) := by
            intro v e1 e2 e3 e4 e5 e6 e7 ev
            subst e1; subst e2; subst e3; subst e4; subst e5; subst e6; subst e7
            have hkk := kk H locs lsA hl hR hS
            rw [← hnx, hn] at hkk
            unfold ip_G at hkk ⊢
            rw [List.map_cons] at hkk ⊢
            rw [ip_cv_in (by omega)]
            rw [ev] at hfs
            rcases hw with ⟨-, hw⟩ | ⟨-, hw⟩
            · exact va_get (ref := ip_CN (g / 64)) hx hb hts c2 hown hV.1 hR.1 x he c1 (g % 64) hk (ip_lnk hts hw rfl) (fun y hy => by rw [c5 _ hk] at hy; exact hy) hfs hd hkk
            · exact va_getN (ref := ip_CN (g / 64)) (host := ip_host) hx hb hts c2 hown hV.1 hR.1 x he c1 (g % 64) hk (ip_nest hV hw rfl rfl (by simp)) (fun y hy => by rw [c5 _ hk] at hy; exact hy) hfs hd hkk
          unfold ip_fk at hs
          split at hs
          · rename_i h0
            cases hs
            exact key _ rfl rfl rfl rfl rfl rfl rfl (by unfold ip_fv; rw [h0]; rfl)
          · rename_i h0
            cases hs
            exact key _ rfl rfl rfl rfl rfl rfl rfl (by unfold ip_fv; rw [h0]; rfl)
          · rename_i h0
            split at hs
            · rename_i y hy
              cases hs
              by_cases hy9 : y < 900
              · exact key _ rfl rfl rfl rfl rfl rfl rfl (by unfold ip_fv; rw [h0]; show va_rf ((R x (g % 64 : Nat)).map (fun b => E.2.1 + b)) = _; rw [hy, ip_cv_in hy9]; rfl)
              · exact absurd (hR.2.2.2.2 x _ y hy) hy9
            · cases hs
          · rename_i h0
            cases hs
            exact key _ rfl rfl rfl rfl rfl rfl rfl (by unfold ip_fv; rw [h0]; rfl)
          · cases hs
        · cases hs
  · cases hs
