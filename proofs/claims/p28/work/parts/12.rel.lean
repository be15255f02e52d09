/-! the machine under the small one: what a state of the small one says of a heap -/
abbrev ip_E : Type := va_G × Nat × Nat × (Nat → Nat) × (Nat → Nat) × Value × (Nat → ClassId)
def ip_ad (E : ip_E) (a : Nat) : Nat := if a < 900 then E.2.1 + a else if a = 900 then E.2.2.1 else if a < 951 then E.2.2.2.1 (a - 901) else E.2.2.2.2.1 (a - 951)
def ip_cv (E : ip_E) (v : Value) : Value := match v with
  | .ref a => if a = 998 then E.2.2.2.2.2.1 else .ref (ip_ad E a)
  | v => v
def ip_fv (E : ip_E) (ci k j : Nat) (S : ip_S) (R : ip_R) (L : ip_S) : Value := match (ip_FK.getD ci []).getD k 9 with
  | 2 => va_rf ((R j (k : Int)).map (fun b => E.2.1 + b))
  | 3 => .long (Int64.ofInt (L j (k : Int)))
  | _ => .int (Int32.ofInt (S j (k : Int)))
def ip_ce (E : ip_E) (S : ip_S) (R : ip_R) (L : ip_S) (j : Nat) : va_E := match (ip_kd j).1 with
  | 0 => .inl (E.2.2.2.2.2.2 0, (ip_kd j).2, .inl (fun i => Int32.ofInt (S j (i : Int))))
  | 1 => .inl (E.2.2.2.2.2.2 1, (ip_kd j).2, .inl (fun i => Int32.ofInt (S j (i : Int))))
  | 2 => .inl (E.2.2.2.2.2.2 2, (ip_kd j).2, .inr (.inr (.inr (.inr (fun i => (R j (i : Int)).map (fun b => E.2.1 + b))))))
  | 3 => .inl (E.2.2.2.2.2.2 3, (ip_kd j).2, .inr (.inr (.inr (.inr (fun i => (R j (i : Int)).map (fun b => E.2.1 + b))))))
  | t => .inr (t - 10, (List.range (ip_kd j).2).map (fun k => ip_fv E (t - 10) k j S R L))
def ip_ws (E : ip_E) (n : Nat) (S : ip_S) (R : ip_R) (L : ip_S) : va_W := (List.range n).map (fun j => (E.2.1 + j, ip_ce E S R L j))
theorem ip_ws_get {E : ip_E} {n : Nat} {S : ip_S} {R : ip_R} {L : ip_S} {j : Nat} (h : j < n) : (ip_ws E n S R L)[j]? = some (E.2.1 + j, ip_ce E S R L j) := by
  simp [ip_ws, h]
theorem ip_ws_inv {E : ip_E} {n : Nat} {S : ip_S} {R : ip_R} {L : ip_S} {j : Nat} {q : Nat × va_E} (h : (ip_ws E n S R L)[j]? = some q) : j < n ∧ q = (E.2.1 + j, ip_ce E S R L j) := by
  by_cases hj : j < n
  · rw [ip_ws_get hj] at h
    exact ⟨hj, (Option.some.inj h).symm⟩
  · simp [ip_ws, hj] at h
theorem ip_ws_len {E : ip_E} {n : Nat} {S : ip_S} {R : ip_R} {L : ip_S} : (ip_ws E n S R L).length = n := by simp [ip_ws]
theorem ip_ws_set {E : ip_E} {n : Nat} {S S' : ip_S} {R R' : ip_R} {L L' : ip_S} {j : Nat} (hj : j < n) (h : ∀ i, i ≠ j → ip_ce E S' R' L' i = ip_ce E S R L i) : (ip_ws E n S R L).set j (E.2.1 + j, ip_ce E S' R' L' j) = ip_ws E n S' R' L' := by
  apply List.ext_getElem?
  intro i
  rw [List.getElem?_set]
  by_cases hi : i < n
  · by_cases hij : j = i
    · subst hij
      rw [if_pos rfl, if_pos (by rw [ip_ws_len]; exact hj), ip_ws_get hj]
    · rw [if_neg hij, ip_ws_get hi, ip_ws_get hi, h i (fun e => hij e.symm)]
  · rw [if_neg (by omega)]
    simp [ip_ws, hi]
theorem ip_ws_push {E : ip_E} {n : Nat} {S : ip_S} {R : ip_R} {L : ip_S} : ip_ws E (n + 1) S R L = ip_ws E n S R L ++ [(E.2.1 + n, ip_ce E S R L n)] := by
  simp [ip_ws, List.range_succ]
def ip_A (E : ip_E) : Nat → Prop := fun q => E.2.1 ≤ q
theorem ip_ws_D {E : ip_E} {n : Nat} {S : ip_S} {R : ip_R} {L : ip_S} : va_D (ip_A E) (ip_ws E n S R L) := by
  refine ⟨fun i j x y hx hy e => ?_, fun k q hk => ?_⟩
  · obtain ⟨-, rfl⟩ := ip_ws_inv hx
    obtain ⟨-, rfl⟩ := ip_ws_inv hy
    dsimp only at e
    omega
  · obtain ⟨-, rfl⟩ := ip_ws_inv hk
    show E.2.1 ≤ E.2.1 + k
    omega
def ip_Rel (E : ip_E) (f : Int → Int) (n : Nat) (S : ip_S) (R : ip_R) (L : ip_S) (H : Heap) : Prop :=
  va_P E.1 ip_cls (ip_ws E n S R L) H ∧ (n < 79 → H.size = E.2.1 + n) ∧ S 900 = f ∧ (∀ (j : Nat) (k : Int), n ≤ j → j < 900 → S j k = 0 ∧ R j k = none ∧ L j k = 0) ∧ ∀ (j : Nat) (k : Int) (y : Nat), R j k = some y → y < 900
def ip_tys (E : ip_E) : List (ClassId × FieldType) := [(E.2.2.2.2.2.2 0, .int), (E.2.2.2.2.2.2 1, .boolean), (E.2.2.2.2.2.2 2, .object "TandemKeepsAPlace$Sheet"), (E.2.2.2.2.2.2 3, .object "TandemKeepsAPlace$Text")]
def ip_isN : Jvm.Cond → Bool
  | .fieldLinkNest .. => true
  | .methodLinkNest .. => true
  | _ => false
def ip_W : List Jvm.Cond := lw_tbl.filter goodWord
def ip_V (E : ip_E) (U : State) : Prop :=
  va_K E.1 ip_cls (ip_tys E) U ∧ (∀ w ∈ lw_tbl, ip_isN w = true → va_Nw w U) ∧ (∀ k, k < 13 → vk_R (ip_ST.getD k ("", 0, "")).1 (ip_ST.getD k ("", 0, "")).2.1 (ip_ST.getD k ("", 0, "")).2.2 (E.2.2.2.1 k) U) ∧ va_AO "TandemKeepsAPlace$Sheet" U ∧ va_AO "TandemKeepsAPlace$Text" U
def ip_len : List Nat := ip_TX.map List.length
def ip_byt : List (List Int32) := ip_TX.map (fun l => l.map Int32.ofInt)
def ip_out (E : ip_E) (f : Int → Int) (U : State) (H : Heap) : Prop :=
  (∃ (Ln : Nat) (xs : Nat → Int32), va_X E.2.2.1 Ln xs U H ∧ f (-1) = (Ln : Int) ∧ ∀ j, j < Ln → xs j = Int32.ofInt (f (j : Int))) ∧ E.2.2.1 < E.2.1 ∧
  vk_S 13 ip_len ip_byt E.2.2.2.1 E.2.2.2.2.1 (ip_A E) U H ∧ va_Z "java/lang/String" "COMPACT_STRINGS" "Z" (.int 1) (ip_A E) U H ∧
  va_Z "jdk/internal/util/Preconditions" "SIOOBE_FORMATTER" "Ljava/util/function/BiFunction;" E.2.2.2.2.2.1 (ip_A E) U H ∧ (E.2.2.2.2.2.1).category = 1
theorem ip_V.go {E : ip_E} {s U : State} (h : ip_V E s) (hW : s.WarmedH U.vm) : ip_V E U := by
  obtain ⟨h1, h2, h3, h4, h5⟩ := h
  refine ⟨va_K.moved hW.alike h1, fun w hw hn => ?_, fun k hk => vk_R.warm hW (h3 k hk), h4.moved hW.alike, h5.moved hW.alike⟩
  have hz := h2 w hw hn
  cases w with
  | fieldLinkNest a i b n d h => exact va_Nw.warmF hW hz
  | methodLinkNest a i x h => exact va_Nw.warmM hW hz
  | _ => simp [ip_isN] at hn
theorem ip_V.same {E : ip_E} {u U : State} (hv : U.vm = u.vm) (h : ip_V E u) : ip_V E U := by
  obtain ⟨h1, h2, h3, h4, h5⟩ := h
  have ha : u.vm.Alike U.vm := by rw [hv]; exact Vm.Alike.refl u.vm
  refine ⟨va_K.moved ha h1, fun w hw hn => ?_, fun k hk => vk_R.same hv (h3 k hk), h4.moved ha, h5.moved ha⟩
  have hz := h2 w hw hn
  cases w with
  | fieldLinkNest a i b n d h => exact va_Nw.same rfl hv.symm hz
  | methodLinkNest a i x h => exact va_Nw.same rfl hv.symm hz
  | _ => simp [ip_isN] at hn
theorem ip_out.go {E : ip_E} {f : Int → Int} {s U : State} {H : Heap} {locs : List Loc} (h : ip_out E f s s.heap) (hvm : s.vm.Alike U.vm) (hS : va_S (ip_A E) s.heap H locs) : ip_out E f U H := by
  obtain ⟨⟨Ln, xs, h1, h2, h3⟩, h4, h5, h6, h7, h8⟩ := h
  have hq : ∀ a : Nat, a < s.heap.size → ¬ ip_A E a → H[a]? = s.heap[a]? := hS.2.1
  refine ⟨⟨Ln, xs, ?_, h2, h3⟩, h4, vk_S.moved hvm (h5.kept hq), va_Z.moved hvm (h6.kept hq), va_Z.moved hvm (h7.kept hq), h8⟩
  refine va_X.moved hvm (h1.kept ?_)
  have hb : E.2.2.1 < s.heap.size := by
    obtain ⟨scr, g1, -⟩ := h1
    exact (Array.getElem?_eq_some_iff.mp g1).1
  exact hq _ hb (fun z => by have : E.2.1 ≤ E.2.2.1 := z; omega)
theorem ip_out.same {E : ip_E} {f : Int → Int} {u U : State} {H : Heap} (hv : U.vm = u.vm) (h : ip_out E f u H) : ip_out E f U H := by
  have ha : u.vm.Alike U.vm := by rw [hv]; exact Vm.Alike.refl u.vm
  obtain ⟨⟨Ln, xs, h1, h2, h3⟩, h4, h5, h6, h7, h8⟩ := h
  exact ⟨⟨Ln, xs, va_X.moved ha h1, h2, h3⟩, h4, vk_S.moved ha h5, va_Z.moved ha h6, va_Z.moved ha h7, h8⟩
/-- the locals -/
def ip_ll (E : ip_E) (ml : Nat) (lsA : Array Slot) (ls : ip_L) : Prop := lsA.size = ml ∧ ls.length = ml ∧ lv_wf lsA ∧ ∀ (k : Nat) (v : Value), ls[k]? = some (some v) → lsA[k]? = some (.val (ip_cv E v))
theorem ip_ll_has {E : ip_E} {ml : Nat} {lsA : Array Slot} {ls : ip_L} (h : ip_ll E ml lsA ls) : lv_has lsA ml ((List.range ml).filterMap (fun k => match ls[k]? with
    | some (some v) => some (k, ip_cv E v)
    | _ => none)) := by
  obtain ⟨h1, h2, h3, h4⟩ := h
  refine ⟨h1, h3, fun q hq => ?_⟩
  obtain ⟨k, hk, hv⟩ := List.mem_filterMap.mp hq
  split at hv
  · rename_i v hv2
    cases hv
    exact h4 k v hv2
  · cases hv
theorem ip_ll_mem {E : ip_E} {ml : Nat} {ls : ip_L} {k : Nat} {v : Value} (hl : ls.length = ml) (h : ls[k]? = some (some v)) : (k, ip_cv E v) ∈ (List.range ml).filterMap (fun k => match ls[k]? with
    | some (some v) => some (k, ip_cv E v)
    | _ => none) := by
  refine List.mem_filterMap.mpr ⟨k, List.mem_range.mpr ?_, by rw [h]⟩
  rw [← hl]
  exact (List.getElem?_eq_some_iff.mp h).1
theorem ip_fx_val {o : Option Value} {v : Value} (h : ip_fx o = some v) : o = some v ∧ v.category = 1 := by
  unfold ip_fx at h
  split at h
  · cases h
  · cases h
  · rename_i h1 h2
    refine ⟨h, ?_⟩
    subst h
    cases v with
    | long x => exact absurd rfl (h1 x)
    | double x => exact absurd rfl (h2 x)
    | _ => rfl
theorem ip_cv_cat {E : ip_E} {v : Value} (h : v ≠ .ref 998) : (ip_cv E v).category = v.category := by
  cases v with
  | ref a =>
    unfold ip_cv
    by_cases ha : a = 998
    · subst ha; exact absurd rfl h
    · simp only [ha, if_false]; rfl
  | _ => rfl
