theorem ip_mokf {k : Nat} (h : ip_mok k = true) : k < 900 ∧ plainName (ip_me k).1.cls = true ∧ (ip_me k).1.cls = ip_CN (ip_cid k) ∧ (ip_me k).1.cls ≠ "java/lang/invoke/MethodHandle" ∧ (ip_me k).1.cls ≠ "java/lang/invoke/VarHandle" ∧
    (parseMethodDescriptor (ip_me k).1.desc).map (fun d => d.parameters.length) = some (if ip_rc k = 0 then ip_na k else ip_na k - 1) ∧ (∃ p, ip_et p = (4, k, 0, 0, 0)) ∧ (∃ p, ip_et p = (8, ip_cid k, 0, 0, 0)) ∧
    (if ip_rc k = 0 then ∃ p, ip_et p = (6, k, 0, 0, 0) else ∃ p, ip_et p = (5, k, 0, 0, 0)) ∧ (10 ≤ ip_rc k → ∃ p, ip_et p = (7, k, 0, 0, 0)) ∧ (ip_rc k = 5 → (ip_me k).1.name = "<init>" ∧ ip_re k = none) ∧
    (10 ≤ ip_rc k → if ip_rc k = 30 then ip_cid k = 12 else ip_cid k = ip_rc k - 10 ∧ ip_rc k - 10 < 9) ∧ ip_ml k ≤ 20 ∧ (0 < ip_na k ∨ ip_rc k = 0) ∧
    ((ip_rk k = 0 ∧ ip_re k = some .int) ∨ (ip_rk k = 1 ∧ ip_re k = some .boolean) ∨ (ip_rk k = 2 ∧ ip_re k = some .byte) ∨ (ip_rk k = 3 ∧ ip_re k = some .char) ∨ (ip_rk k = 4 ∧ ip_re k = some .long) ∨ (ip_rk k = 5 ∧ ip_re k = some (.object "java/lang/String")) ∨ (ip_rk k = 9 ∧ ip_re k = none)) := by
  unfold ip_mok at h
  simp only [Bool.and_eq_true, decide_eq_true_eq] at h
  obtain ⟨h1, h2, h3, h4, h5, h6, h7, h8, h9, h10, h11, h12, h13, h14, h15⟩ := h
  refine ⟨h1, h2, h3, h4, h5, h6, ⟨_, h7⟩, ⟨_, h8⟩, ?_, fun z => ?_, fun z => ?_, fun z => ?_, h13, h14, ?_⟩
  · split at h9
    · rename_i hz; rw [if_pos hz]; exact ⟨_, by simpa using h9⟩
    · rename_i hz; rw [if_neg hz]; exact ⟨_, by simpa using h9⟩
  · rw [if_pos z] at h10; exact ⟨_, by simpa using h10⟩
  · rw [if_pos z] at h11; simpa using h11
  · rw [if_pos z] at h12
    split at h12
    · rename_i hz; rw [if_pos hz]; simpa using h12
    · rename_i hz; rw [if_neg hz]; simpa using h12
  · split at h15
    · rename_i hz; exact Or.inl ⟨hz, by simpa using h15⟩
    · rename_i hz; exact Or.inr (Or.inl ⟨hz, by simpa using h15⟩)
    · rename_i hz; exact Or.inr (Or.inr (Or.inl ⟨hz, by simpa using h15⟩))
    · rename_i hz; exact Or.inr (Or.inr (Or.inr (Or.inl ⟨hz, by simpa using h15⟩)))
    · rename_i hz; exact Or.inr (Or.inr (Or.inr (Or.inr (Or.inl ⟨hz, by simpa using h15⟩))))
    · rename_i hz; exact Or.inr (Or.inr (Or.inr (Or.inr (Or.inr (Or.inl ⟨hz, by simpa using h15⟩)))))
    · rename_i hz; exact Or.inr (Or.inr (Or.inr (Or.inr (Or.inr (Or.inr ⟨hz, by simpa using h15⟩)))))
    · cases h15
theorem ip_MN_me {k : Nat} (h : k < 900) : ip_MN k = (ip_me k).1 := by
  unfold ip_MN
  split <;> first | omega | rfl
theorem ip_Wgood {w : Jvm.Cond} (h : w ∈ ip_W) : goodWord w = true := (List.mem_filter.mp h).2
theorem ip_wsM_in {k : Nat} (hk : ip_mok k = true) : ∀ w ∈ ip_wsM k, w ∈ ip_W := by
  intro w hw
  obtain ⟨h9, -, -, -, -, -, ⟨pp, hp⟩, -⟩ := ip_mokf hk
  rcases List.mem_cons.mp hw with rfl | h
  · rcases ip_tblL pp with h | h
    · rw [hp] at h; exact absurd (congrArg Prod.fst h) (by simp)
    · rw [hp] at h
      have e : ip_lw (4, k, 0, 0, 0) = Jvm.Cond.code (ip_me k).1 (ip_by k) (ip_ml k) (ip_re k) := by
        show Jvm.Cond.code (ip_MN k) _ _ _ = _
        rw [ip_MN_me h9]
      rw [e] at h
      exact List.mem_filter.mpr ⟨h, rfl⟩
  · exact h
theorem ip_args_ll {E : ip_E} {f : Int → Int} {s : State} (hV : ip_V E s) (hO : ip_out E f s s.heap) (as : List Value) : (lg_sl (as.map (ip_cv E))).length = (ip_sl as).length ∧ ∀ (o j : Nat) (v : Value), (ip_sl as)[j]? = some (some v) → (o + j, ip_cv E v) ∈ lv_args o (as.map (ip_cv E)) := by
  induction as with
  | nil => exact ⟨rfl, fun o j v h => by simp [ip_sl] at h⟩
  | cons a as ih =>
    have hv : (ip_cv E a).category = a.category := by
      by_cases h9 : a = .ref 998
      · subst h9; exact hO.2.2.2.2.2
      · exact ip_cv_cat h9
    obtain ⟨i1, i2⟩ := ih
    have e1 : lg_sl ((a :: as).map (ip_cv E)) = (if (ip_cv E a).category = 2 then [.val (ip_cv E a), .second] else [.val (ip_cv E a)]) ++ lg_sl (as.map (ip_cv E)) := rfl
    rw [e1, hv, ip_sl]
    by_cases hc : a.category = 2
    · rw [if_pos hc, if_pos hc]
      refine ⟨by simp [i1], fun o j v h => ?_⟩
      rw [List.map_cons, lv_args, hv, if_pos hc]
      cases j with
      | zero =>
        simp only [List.getElem?_cons_zero, Option.some.injEq] at h
        subst h
        exact List.mem_cons_self
      | succ j =>
        cases j with
        | zero => simp at h
        | succ j =>
          simp only [List.getElem?_cons_succ] at h
          have := i2 (o + 2) j v h
          rw [show o + (j + 1 + 1) = o + 2 + j by omega]
          exact List.mem_cons_of_mem _ this
    · rw [if_neg hc, if_neg hc]
      refine ⟨by simp [i1], fun o j v h => ?_⟩
      rw [List.map_cons, lv_args, hv, if_neg hc]
      cases j with
      | zero =>
        simp only [List.getElem?_cons_zero, Option.some.injEq] at h
        subst h
        exact List.mem_cons_self
      | succ j =>
        simp only [List.getElem?_cons_succ] at h
        have := i2 (o + 1) j v h
        rw [show o + (j + 1) = o + 1 + j by omega]
        exact List.mem_cons_of_mem _ this
theorem ip_ent_ll {E : ip_E} {f : Int → Int} {s : State} {m : Nat} (hV : ip_V E s) (hO : ip_out E f s s.heap) {as : List Value} (hl : (ip_sl as).length ≤ ip_ml m) : ip_ll E (ip_ml m) ((lg_sl (as.map (ip_cv E)) ++ List.replicate (ip_ml m - (lg_sl (as.map (ip_cv E))).length) Slot.unset).toArray) (ip_ent m as) := by
  obtain ⟨a1, a2⟩ := ip_args_ll hV hO as
  have hh := lv_entry (as.map (ip_cv E)) (n := ip_ml m) (by rw [a1]; exact hl)
  refine ⟨hh.1, by unfold ip_ent; rw [List.length_append, List.length_replicate]; omega, hh.2.1, fun j v hj => ?_⟩
  unfold ip_ent at hj
  by_cases hjl : j < (ip_sl as).length
  · rw [List.getElem?_append_left hjl] at hj
    have := a2 0 j v hj
    rw [Nat.zero_add] at this
    exact hh.2.2 _ this
  · rw [List.getElem?_append_right (by omega), List.getElem?_replicate] at hj
    split at hj <;> simp at hj
/-- a call in a frame -/
theorem ip_callG (HOk : ip_Ok) {p : Program} {l : Launch} {e : Env} {Rm : Room} {s : State} {mid : MethodId} {args : Array Value} {below : List Frame} {meth : Method} {c : Code} {Qf : State → Prop} {E : ip_E} {f : Int → Int} {m i d F : Nat} {ls : ip_L} {st : List Value} {n : Nat} {S : ip_S} {R : ip_R} {L : ip_S} {q k t a b : Nat} {ok : Bool} {nx : Nat} {H : Heap} {locs : List Loc} {lsA : Array Slot} {n0 i' : Nat} {ls' : ip_L} {st' as : List Value} {r : Option Value} {n' : Nat} {S' : ip_S} {R' : ip_R} {L' : ip_S}
    (HM : ip_Met l E f d) (FF : ip_Fr E f m p s mid args meth c) (hck : ip_ck m (ip_cid m) (ip_by m) ok nx (q, .invokestatic k, t, a, b) = true) (hnx : nx = ip_pc m (i + 1)) (hs : ip_si m (.invokestatic k) t i ls st (n, S, R, L) = some (.inr (.inl (k, as, i', ls', st'))))
    (hrun : ip_run d F k as (n, S, R, L) = some (r, (n', S', R', L')))
    (hl : ip_ll E (ip_ml m) lsA ls) (hR : ip_Rel E f n S R L H) (hS : va_S (ip_A E) s.heap H locs) (hn0 : n0 ≤ n) (h79 : n ≤ 79) (hroom : n' - n0 ≤ Rm.cells ∧ ip_sz n' - ip_sz n0 ≤ Rm.slots) (hfr : d + 2 ≤ Rm.frames ∧ 100 * (d + 2) ≤ Rm.locals)
    (kk : ∀ H1 locs1, ip_Rel E f n' S' R' L' H1 → va_S (ip_A E) s.heap H1 locs1 → ip_G p l e Rm s mid args below meth c Qf E H1 locs1 n0 n' (ip_pc m i') lsA (r.toList ++ st')) : ip_G p l e Rm s mid args below meth c Qf E H locs n0 n q lsA st := by
  obtain ⟨hx, hb, hml, hown, hts, hlk, hini, hV, hO, hsz⟩ := FF
  have hmono := ip_run_mono d F k as _ _ _ hrun
  have hm1 : n ≤ n' := hmono.1
  have hm2 : n' ≤ 79 := hmono.2 h79
  have hz1 := ip_sz_le hm1 hm2
  have hz2 := ip_sz_le hn0 h79
  simp only [ip_si] at hs
  split at hs
  · rename_i hA
    simp only [Bool.and_eq_true, decide_eq_true_eq] at hA
    obtain ⟨hk, hlen, hrcv, hcat⟩ := hA
    cases hs
    have hmk := HOk.2.2.2.1 k hk
    obtain ⟨f1, f2, f3, f4, f5, f6, ⟨pc4, f7⟩, ⟨pc8, f8⟩, f9, f10, f11, f12, f13, f14, f15⟩ := ip_mokf hmk
    have hM := HM F k _ n S R L r n' S' R' L' hk h79 hrun
    have hst : st = ((st.take (ip_na k)).reverse).reverse ++ st.drop (ip_na k) := by rw [List.reverse_reverse, List.take_append_drop]
    have hKx : ∀ (nn : Nat), (nn : Nat) = (if ip_rc k = 0 then ip_na k else ip_na k - 1) → ∀ sig, parseMethodDescriptor (ip_me k).1.desc = some sig → nn = sig.parameters.length := by
      intro nn hnn sig hsig
      rw [hsig] at f6
      simp only [Option.map_some, Option.some.injEq] at f6
      omega
    have hpre : ∀ U : State, U.heap = H → s.WarmedH U.vm → va_Pc (((st.take (ip_na k)).reverse).map (ip_cv E)) (ip_B E f n S R L) (((st.take (ip_na k)).reverse).map (ip_cv E)).toArray U := by
      intro U hU hW
      exact ⟨rfl, hV.go hW, by rw [hU]; exact hO.go hW.alike hS, by rw [hU]; exact Nat.le_trans hsz hS.1, by rw [hU]; exact hR⟩
    have hpay : ∀ w ∈ ip_wsM k, ∀ (a' : Array Value) (U : State), s.WarmedH U.vm → w.before a' U = true := fun w hw a' U hW => by
      have hi := ip_wsM_in hmk w hw
      exact word_at hW (good_of_word (ip_Wgood hi)) (hts w hi)
    have hcodeW : (Jvm.Cond.code (ip_me k).1 (ip_by k) (ip_ml k) (ip_re k)).before args s = true := hts _ (ip_wsM_in hmk _ List.mem_cons_self)
    have hinit : (Jvm.Cond.initialized (ip_me k).1.cls).before args s = true := by
      rw [f3]; exact ip_lnk hts f8 rfl
    have hKC : (ip_rm d (n' - n) (ip_sz n' - ip_sz n)).cells = n' - n ∧ (ip_rm d (n' - n) (ip_sz n' - ip_sz n)).slots = ip_sz n' - ip_sz n ∧ (ip_rm d (n' - n) (ip_sz n' - ip_sz n)).frames + 1 ≤ Rm.frames ∧ 8 + (ip_ml k + 11) + (ip_rm d (n' - n) (ip_sz n' - ip_sz n)).locals ≤ Rm.locals ∧ (∀ w ∈ ip_wsM k, ∀ (a' : Array Value) (U : State), s.WarmedH U.vm → w.before a' U = true) ∧ Jvm.Cond.code (ip_me k).1 (ip_by k) (ip_ml k) (ip_re k) ∈ ip_wsM k :=
      ⟨rfl, rfl, by show d + 1 + 1 ≤ _; omega, by show 8 + (ip_ml k + 11) + 100 * (d + 1) ≤ _; omega, hpay, List.mem_cons_self⟩
    have hfin : ∀ (hrun : va_Run p l e Rm s mid args below meth c H locs (n - n0) (ip_sz n - ip_sz n0) (n' - n) (ip_sz n' - ip_sz n) (F0 mid q lsA (st.map (ip_cv E))) ((st.drop (ip_na k)).map (ip_cv E)) (ip_Qc E f r n' S' R' L' (((st.take (ip_na k)).reverse).map (ip_cv E)).toArray) (ip_A E)), nx = q + 3 → ip_G p l e Rm s mid args below meth c Qf E H locs n0 n q lsA st := by
      intro hrun hnq
      refine ip_callW hrun hS fun H1 locs1 hR1 hS1 => ?_
      have hkk := kk H1 locs1 hR1 hS1
      rw [← hnx, hnq] at hkk
      unfold ip_G at hkk
      rw [show n - n0 + (n' - n) = n' - n0 by omega, show ip_sz n - ip_sz n0 + (ip_sz n' - ip_sz n) = ip_sz n' - ip_sz n0 by omega]
      have e1 : (r.toList ++ st.drop (ip_na k)).map (ip_cv E) = (r.map (ip_cv E)).toList ++ (st.drop (ip_na k)).map (ip_cv E) := by
        rw [List.map_append]
        cases r <;> rfl
      rw [e1] at hkk
      exact hkk
    have hcat2 : 2 * (F0 mid q lsA (st.map (ip_cv E))).monitorRoom + (((st.drop (ip_na k)).map (ip_cv E)).map fun v => v.category).sum ≤ 8 := by
      rw [ip_cat_map hV hO]
      exact (show 2 * 0 + ip_cat (st.drop (ip_na k)) ≤ 8 by omega)
    have hfix : CallFix p mid c (ip_by m) (ip_ml m) s args ip_W (ip_CN (ip_cid m)) := ⟨hx, hb, hml, hown, hts⟩
    have hroom2 : n - n0 + (n' - n) ≤ Rm.cells ∧ ip_sz n - ip_sz n0 + (ip_sz n' - ip_sz n) ≤ Rm.slots := by omega
    simp only [ip_ck] at hck
    rw [if_neg (by omega)] at hck
    simp only [Bool.and_eq_true, decide_eq_true_eq] at hck
    obtain ⟨-, -, hck⟩ := hck
    -- the receiver of an instance call
    have hrec : ip_rc k ≠ 0 → ∃ (x : Nat) (As : List Value), (st.take (ip_na k)).reverse = .ref x :: As ∧ (ip_rc k = 5 → x < 900) ∧ (ip_rc k = 30 → 901 ≤ x ∧ x < 914) ∧ (10 ≤ ip_rc k → ip_rc k ≠ 30 → ip_isOb n x (ip_rc k - 10) = true) := by
      intro h0
      unfold ip_rcv at hrcv
      split at hrcv
      · rename_i h; exact absurd h h0
      · rename_i h
        split at hrcv
        · rename_i x As hh
          refine ⟨x, As, hh, fun _ => by simpa using hrcv, fun h2 => by omega, fun h2 => by omega⟩
        · cases hrcv
      · rename_i h
        split at hrcv
        · rename_i x As hh
          refine ⟨x, As, hh, fun h2 => by omega, fun _ => by simpa using hrcv, fun _ h2 => absurd h h2⟩
        · cases hrcv
      · rename_i h1 h2 h3
        split at hrcv
        · rename_i x As hh
          exact ⟨x, As, hh, fun h => absurd h h2, fun h => absurd h h3, fun _ _ => hrcv⟩
        · cases hrcv
    have hself : ∀ {pos : Nat}, ip_et pos = (2, ip_cid m, a, k, 0) → (Jvm.Cond.methodLink (ip_CN (ip_cid m)) a (ip_me k).1).before args s = true := fun he => by
      have := ip_lnk hts he rfl
      rw [show ip_lw (2, ip_cid m, a, k, 0) = Jvm.Cond.methodLink (ip_CN (ip_cid m)) a (ip_MN k) from rfl, ip_MN_me f1] at this
      exact this
    have hselfN : ∀ {pos : Nat}, ip_et pos = (3, ip_cid m, a, k, 0) → (Jvm.Cond.methodLinkNest (ip_CN (ip_cid m)) a (ip_me k).1 ip_host).before args s = true := fun he => by
      have := ip_nest (args := args) hV he rfl rfl (by simp)
      rw [show ip_lw (3, ip_cid m, a, k, 0) = Jvm.Cond.methodLinkNest (ip_CN (ip_cid m)) a (ip_MN k) ip_host from rfl, ip_MN_me f1] at this
      exact this
    have hinst : ip_rc k ≠ 0 → (Jvm.Cond.instanceMethod (ip_me k).1).before args s = true := fun h0 => by
      rw [if_neg h0] at f9
      obtain ⟨p9, h9⟩ := f9
      have := ip_lnk hts h9 rfl
      rw [show ip_lw (5, k, 0, 0, 0) = Jvm.Cond.instanceMethod (ip_MN k) from rfl, ip_MN_me f1] at this
      exact this
    have hstat : ip_rc k = 0 → (Jvm.Cond.static (ip_me k).1).before args s = true := fun h0 => by
      rw [if_pos h0] at f9
      obtain ⟨p9, h9⟩ := f9
      have := ip_lnk hts h9 rfl
      rw [show ip_lw (6, k, 0, 0, 0) = Jvm.Cond.static (ip_MN k) from rfl, ip_MN_me f1] at this
      exact this
    have hsel : 10 ≤ ip_rc k → (Jvm.Cond.selects (ip_me k).1.cls (ip_me k).1 (ip_me k).1).before args s = true := fun h0 => by
      obtain ⟨p9, h9⟩ := f10 h0
      have := ip_lnk hts h9 rfl
      rw [show ip_lw (7, k, 0, 0, 0) = Jvm.Cond.selects (ip_MN k).cls (ip_MN k) (ip_MN k) from rfl, ip_MN_me f1] at this
      exact this
    have hns : ∀ As : List Value, ∀ x : Nat, (st.take (ip_na k)).reverse = .ref x :: As → (As.map (ip_cv E)).length = ip_na k - 1 := fun As x h => by
      rw [h] at hlen
      simp only [List.length_cons] at hlen
      rw [List.length_map]; omega
    have hstk : ∀ As : List Value, ∀ x : Nat, (st.take (ip_na k)).reverse = .ref x :: As → x ≠ 998 → (F0 mid q lsA (st.map (ip_cv E))).stack = (As.map (ip_cv E)).reverse ++ .ref (ip_ad E x) :: (st.drop (ip_na k)).map (ip_cv E) := fun As x h h9 => by
      show st.map (ip_cv E) = _
      have e1 : st = As.reverse ++ (.ref x :: st.drop (ip_na k)) := by
        rw [h] at hst
        rw [List.reverse_cons, List.append_assoc] at hst
        exact hst
      have e2 : ip_cv E (.ref x) = .ref (ip_ad E x) := if_neg h9
      calc st.map (ip_cv E) = (As.reverse ++ (.ref x :: st.drop (ip_na k))).map (ip_cv E) := by rw [← e1]
        _ = _ := by rw [List.map_append, List.map_cons, List.map_reverse, e2]
    have hargs : ∀ As : List Value, ∀ x : Nat, (st.take (ip_na k)).reverse = .ref x :: As → x ≠ 998 → ((st.take (ip_na k)).reverse).map (ip_cv E) = .ref (ip_ad E x) :: As.map (ip_cv E) := fun As x h h9 => by
      rw [h, List.map_cons, show ip_cv E (.ref x) = .ref (ip_ad E x) from if_neg h9]
    split at hck
    · simp only [Bool.and_eq_true, decide_eq_true_eq] at hck
      obtain ⟨h10, hd, hw⟩ := hck
      obtain ⟨hd, hn⟩ := ip_dcI hd
      obtain ⟨x, As, hh, -, r30, rO⟩ := hrec (by omega)
      have h9 : x ≠ 998 := by
        by_cases h30 : ip_rc k = 30
        · have := r30 h30; omega
        · have := ip_lt79 (rO h10 h30) (by have := f12 h10; rw [if_neg h30] at this; exact this.2); omega
      refine hfin ?_ hn
      have hrecv : ∃ cellB : Cell, H[ip_ad E x]? = some cellB ∧ cellB.vm.isStatics = false ∧ s.vm.findClass (ip_me k).1.cls = some cellB.cls := by
        have g12 := f12 h10
        by_cases h30 : ip_rc k = 30
        · rw [if_pos h30] at g12
          obtain ⟨x1, x2⟩ := r30 h30
          have e1 := (ip_adK (E := E) (x := x) ⟨x1, x2⟩)
          have e2 : ip_ad E x = E.2.2.2.1 (x - 901) := by
            have := e1.1
            rw [show ip_cv E (.ref x) = .ref (ip_ad E x) from if_neg h9] at this
            exact Value.ref.inj this
          rw [e2, f3, g12]
          obtain ⟨cell, y1, y2, y3, y4⟩ := (hO.2.2.1.1 (x - 901) e1.2.2).1.kept hS.2.1
          exact ⟨cell, y1, y2, y3⟩
        · rw [if_neg h30] at g12
          obtain ⟨w1, w2, w3⟩ := ip_lt79 (rO h10 h30) g12.2
          have he := ip_ws_get (E := E) (S := S) (R := R) (L := L) w1
          rw [ip_ce_obj w2] at he
          have hc1 := (HOk.1 _ g12.2).1
          have := va_recv hV.1 hR.1 hc1 he
          have e2 : ip_ad E x = E.2.1 + x := by unfold ip_ad; rw [if_pos (by omega)]
          rw [e2, f3, g12.1]
          exact this
      have e0 := hargs As x hh h9
      rw [e0] at hpre hM ⊢
      exact va_runV (As := As.map (ip_cv E)) (rest := (st.drop (ip_na k)).map (ip_cv E)) (C := (ip_me k).1.cls) (n := ip_na k - 1) (index := a) hfix hM ⟨⟨hKC.1, hKC.2.1, hKC.2.2.1, hKC.2.2.2.1, hKC.2.2.2.2.1, hKC.2.2.2.2.2, hcodeW, hinit, ⟨f4, f5⟩, hKx _ (by rw [if_neg (by omega)]), hself hw⟩, hinst (by omega), hsel h10⟩ ⟨ip_blind, hrecv, hpre⟩ rfl (hns As x hh) hl.1 (hstk As x hh h9) hcat2 hd hroom2
    · simp only [Bool.and_eq_true, decide_eq_true_eq] at hck
      obtain ⟨h5, hd, hw⟩ := hck
      obtain ⟨hd, hn⟩ := ip_dcI hd
      obtain ⟨x, As, hh, r5, -, -⟩ := hrec (by omega)
      have hx9 := r5 h5
      have h9 : x ≠ 998 := by omega
      refine hfin ?_ hn
      have e0 := hargs As x hh h9
      rw [e0] at hpre hM ⊢
      obtain ⟨g1, g2⟩ := f11 h5
      rw [g2] at hcodeW hKC
      exact va_runI (As := As.map (ip_cv E)) (rest := (st.drop (ip_na k)).map (ip_cv E)) (n := ip_na k - 1) (index := a) hfix hM ⟨⟨hKC.1, hKC.2.1, hKC.2.2.1, hKC.2.2.2.1, hKC.2.2.2.2.1, hKC.2.2.2.2.2, hcodeW, hinit, ⟨f4, f5⟩, hKx _ (by rw [if_neg (by omega)]), hself hw⟩, g1, hinst (by omega)⟩ ⟨ip_blind, hpre⟩ rfl (hns As x hh) hl.1 (hstk As x hh h9) hcat2 hd hroom2
    · simp only [Bool.and_eq_true, decide_eq_true_eq] at hck
      obtain ⟨h5, hd, hw⟩ := hck
      obtain ⟨hd, hn⟩ := ip_dcI hd
      obtain ⟨x, As, hh, r5, -, -⟩ := hrec (by omega)
      have hx9 := r5 h5
      have h9 : x ≠ 998 := by omega
      refine hfin ?_ hn
      have e0 := hargs As x hh h9
      rw [e0] at hpre hM ⊢
      obtain ⟨g1, g2⟩ := f11 h5
      rw [g2] at hcodeW hKC
      exact va_runIN (As := As.map (ip_cv E)) (rest := (st.drop (ip_na k)).map (ip_cv E)) (n := ip_na k - 1) (index := a) (host := ip_host) hfix hM ⟨⟨hKC, hcodeW, hinit, ⟨f4, f5⟩, hKx _ (by rw [if_neg (by omega)]), hselfN hw⟩, g1, hinst (by omega)⟩ ⟨ip_blind, hpre⟩ rfl (hns As x hh) hl.1 (hstk As x hh h9) hcat2 hd hroom2
    · simp only [Bool.and_eq_true, decide_eq_true_eq] at hck
      obtain ⟨h0, hd, hw⟩ := hck
      obtain ⟨hd, hn⟩ := ip_dcI hd
      refine hfin ?_ hn
      have hstk0 : (F0 mid q lsA (st.map (ip_cv E))).stack = (((st.take (ip_na k)).reverse).map (ip_cv E)).reverse ++ (st.drop (ip_na k)).map (ip_cv E) := by
        show st.map (ip_cv E) = _
        rw [← List.map_reverse, List.reverse_reverse, ← List.map_append, List.take_append_drop]
      exact va_runS (As := ((st.take (ip_na k)).reverse).map (ip_cv E)) (rest := (st.drop (ip_na k)).map (ip_cv E)) (n := ip_na k) (index := a) hfix hM ⟨⟨hKC.1, hKC.2.1, hKC.2.2.1, hKC.2.2.2.1, hKC.2.2.2.2.1, hKC.2.2.2.2.2, hcodeW, hinit, ⟨f4, f5⟩, hKx _ (by rw [if_pos h0]), hself hw⟩, hstat h0⟩ ⟨ip_blind, hpre⟩ rfl (by rw [List.length_map]; exact hlen) hl.1 hstk0 hcat2 hd hroom2
    · simp only [Bool.and_eq_true, decide_eq_true_eq] at hck
      obtain ⟨h0, hd, hw⟩ := hck
      obtain ⟨hd, hn⟩ := ip_dcI hd
      refine hfin ?_ hn
      have hstk0 : (F0 mid q lsA (st.map (ip_cv E))).stack = (((st.take (ip_na k)).reverse).map (ip_cv E)).reverse ++ (st.drop (ip_na k)).map (ip_cv E) := by
        show st.map (ip_cv E) = _
        rw [← List.map_reverse, List.reverse_reverse, ← List.map_append, List.take_append_drop]
      exact va_runSN (As := ((st.take (ip_na k)).reverse).map (ip_cv E)) (rest := (st.drop (ip_na k)).map (ip_cv E)) (n := ip_na k) (index := a) (host := ip_host) hfix hM ⟨⟨hKC, hcodeW, hinit, ⟨f4, f5⟩, hKx _ (by rw [if_pos h0]), hselfN hw⟩, hstat h0, trivial⟩ ⟨ip_blind, hpre⟩ rfl (by rw [List.length_map]; exact hlen) hl.1 hstk0 hcat2 hd hroom2
    · cases hck
  · cases hs
