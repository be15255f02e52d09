/-! a run of the small machine is a run of the machine -/
theorem ip_si_mono {m t i i' : Nat} {x : Instr} {ls ls' : ip_L} {st st' : List Value} {h h' : ip_H} (hs : ip_si m x t i ls st h = some (.inl (i', ls', st', h'))) : h.1 ≤ h'.1 ∧ (h.1 ≤ 79 → h'.1 ≤ 79) := by
  unfold ip_si at hs
  cases x with
  | newarray ty =>
    dsimp only at hs
    split at hs
    · split at hs
      · rename_i hA
        simp only [Bool.and_eq_true, decide_eq_true_eq] at hA
        have := ip_kd_tag hA.1 (by omega)
        cases hs
        exact ⟨by show h.1 ≤ h.1 + 1; omega, fun _ => by show h.1 + 1 ≤ 79; omega⟩
      · cases hs
    · cases hs
  | anewarray tag =>
    dsimp only at hs
    split at hs
    · split at hs
      · rename_i hA
        simp only [Bool.and_eq_true, Bool.or_eq_true, decide_eq_true_eq] at hA
        have := ip_kd_tag hA.2.1 (by omega)
        cases hs
        exact ⟨by show h.1 ≤ h.1 + 1; omega, fun _ => by show h.1 + 1 ≤ 79; omega⟩
      · cases hs
    · cases hs
  | new ci =>
    dsimp only at hs
    split at hs
    · rename_i hA
      simp only [Bool.and_eq_true, decide_eq_true_eq] at hA
      have := ip_kd_tag hA.2 (by omega)
      cases hs
      exact ⟨by show h.1 ≤ h.1 + 1; omega, fun _ => by show h.1 + 1 ≤ 79; omega⟩
    · cases hs
  | _ =>
    dsimp only at hs
    first
      | (cases hs; done)
      | (cases hs; exact ⟨Nat.le_refl _, fun q => q⟩)
      | (repeat' (split at hs)
         all_goals first
           | (cases hs; done)
           | (cases hs; exact ⟨Nat.le_refl _, fun q => q⟩))
theorem ip_ev_mono {cal : Nat → List Value → ip_H → Option (Option Value × ip_H)} (hc : ∀ k as h r h', cal k as h = some (r, h') → h.1 ≤ h'.1 ∧ (h.1 ≤ 79 → h'.1 ≤ 79)) (m : Nat) : ∀ (ff i : Nat) (ls : ip_L) (st : List Value) (h : ip_H) (r : Option Value) (h' : ip_H), ip_ev cal m ff i ls st h = some (r, h') → h.1 ≤ h'.1 ∧ (h.1 ≤ 79 → h'.1 ≤ 79) := by
  intro ff
  induction ff with
  | zero => intro i ls st h r h' hr; simp [ip_ev] at hr
  | succ ff ih =>
    intro i ls st h r h' hr
    rw [ip_ev] at hr
    cases hs : ip_stp m i ls st h with
    | none => rw [hs] at hr; simp at hr
    | some q =>
      rw [hs] at hr
      rcases q with ⟨i2, ls2, st2, h2⟩ | ⟨k, as, i2, ls2, st2⟩ | q
      · have h1 := ih _ _ _ _ _ _ hr
        unfold ip_stp at hs
        split at hs
        · have h3 := ip_si_mono hs
          exact ⟨Nat.le_trans h3.1 h1.1, fun z => h1.2 (h3.2 z)⟩
        · cases hs
      · dsimp only at hr
        cases hk : cal k as h with
        | none => rw [hk] at hr; simp at hr
        | some y =>
          obtain ⟨r2, h2⟩ := y
          rw [hk] at hr
          have h3 := hc _ _ _ _ _ hk
          have h1 := ih _ _ _ _ _ _ hr
          exact ⟨Nat.le_trans h3.1 h1.1, fun z => h1.2 (h3.2 z)⟩
      · cases hr
        exact ⟨Nat.le_refl _, fun q => q⟩
theorem ip_run_mono : ∀ (d F m : Nat) (as : List Value) (h : ip_H) (r : Option Value) (h' : ip_H), ip_run d F m as h = some (r, h') → h.1 ≤ h'.1 ∧ (h.1 ≤ 79 → h'.1 ≤ 79) := by
  intro d
  induction d with
  | zero => intro F m as h r h' hr; simp [ip_run] at hr
  | succ d ih =>
    intro F m as h r h' hr
    rw [ip_run] at hr
    split at hr
    · exact ip_ev_mono (fun k as h r h' q => ih F k as h r h' q) m F 0 _ _ _ _ _ hr
    · cases hr
/-- what the kernel has checked of the tables -/
def ip_Ok : Prop :=
  (∀ ci, ci < 9 → ip_clsok ci) ∧ (∀ ci, ci < 9 → (Jvm.Cond.instantiable (ip_CN ci) (ip_NF.getD ci 0) ∈ ip_W ∧ Jvm.Cond.initialized (ip_CN ci) ∈ ip_W)) ∧
  (∀ args s, (∀ w ∈ ip_W, w.before args s = true) → ((Jvm.Cond.static Lib.Math.max.name).before args s = true ∧ (Jvm.Cond.static Lib.Math.min.name).before args s = true ∧ (Jvm.Cond.initialized "java/lang/Math").before args s = true ∧ (Jvm.Cond.code Lib.Math.max.name Lib.Math.max.code 2 (some .int)).before args s = true ∧ (Jvm.Cond.code Lib.Math.min.name Lib.Math.min.code 2 (some .int)).before args s = true) ∧
    ((Jvm.Cond.native arraycopyName).before args s = true ∧ (Jvm.Cond.static arraycopyName).before args s = true ∧ (Jvm.Cond.initialized "java/lang/System").before args s = true) ∧ ((Jvm.Cond.instanceMethod Lib.objectInit).before args s = true ∧ (Jvm.Cond.code Lib.objectInit ⟨#[0xb1]⟩ 1 none).before args s = true)) ∧
  (∀ k, k < 233 → ip_mok k = true) ∧
  ((∀ m i y, m < 234 → ip_ins m i = some y → ∃ ok, ip_ck m (ip_cid m) (ip_by m) ok (ip_pc m (i + 1)) y = true) ∧ ∀ m, m < 234 → ip_pc m 0 = 0)
theorem sn_all (h : ip_Ok) (x : Instr) : ip_Snd x := by
  obtain ⟨h1, h2, h3, -⟩ := h
  cases x with
  | iload k => exact sn_iload k
  | lload k => exact sn_lload k
  | aload k => exact sn_aload k
  | istore k => exact sn_istore k
  | lstore k => exact sn_lstore k
  | astore k => exact sn_astore k
  | iinc k z => exact sn_iinc k z
  | iconst z => exact sn_iconst z
  | sipush z => exact sn_lconst z
  | ldc k => exact sn_ldc k
  | getstatic k => exact sn_gets k
  | getfield g => exact sn_getf h1 g
  | putfield g => exact sn_putf h1 g
  | iaload => exact sn_iaload
  | baload => exact sn_baload
  | caload => exact sn_caload
  | saload => exact sn_saload
  | laload => exact sn_laload
  | faload => exact sn_faload
  | aaload => exact sn_aaload
  | iastore => exact sn_iastore
  | bastore => exact sn_bastore
  | aastore => exact sn_aastore
  | arraylength => exact sn_alen
  | newarray ty => exact sn_newa ty
  | anewarray tag => exact sn_anew tag
  | new ci => exact sn_new h1 h2 ci
  | dup => exact sn_dup
  | pop => exact sn_pop
  | pop2 => exact sn_pop2
  | goto o => exact sn_goto o
  | ifCond cd o => exact sn_ifCond cd o
  | if_icmp cd o => exact sn_if_icmp cd o
  | lookupswitch dd ps => exact sn_lsw dd ps
  | iadd => exact sn_iadd
  | isub => exact sn_isub
  | imul => exact sn_imul
  | idiv => exact sn_idiv
  | irem => exact sn_irem
  | ineg => exact sn_ineg
  | iand => exact sn_iand
  | ior => exact sn_ior
  | ixor => exact sn_ixor
  | ishl => exact sn_ishl
  | ishr => exact sn_ishr
  | iushr => exact sn_iushr
  | i2l => exact sn_i2l
  | l2i => exact sn_l2i
  | i2b => exact sn_i2b
  | i2s => exact sn_i2s
  | i2c => exact sn_i2c
  | ladd => exact sn_ladd
  | lsub => exact sn_lsub
  | lmul => exact sn_lmul
  | ldiv => exact sn_ldiv
  | lrem => exact sn_lrem
  | lcmp => exact sn_lcmp
  | invokevirtual k => exact sn_lib h3 k
  | _ =>
    intro p l e Rm s mid args below meth c Qf E f m i ls st n S R L q t a b ok nx H locs lsA n0 i' ls' st' n' S' R' L' F hck hnx hs
    simp only [ip_si] at hs
    first
      | (cases hs; done)
      | (exact absurd hs (by split <;> (try split) <;> simp))
      | (split at hs <;> (try split at hs) <;> cases hs)
def ip_rm (d mc ms : Nat) : Room := { frames := d + 1, cells := mc, slots := ms, locals := 100 * (d + 1) }
def ip_wsM (k : Nat) : List Jvm.Cond := .code (ip_me k).1 (ip_by k) (ip_ml k) (ip_re k) :: ip_W
def ip_B (E : ip_E) (f : Int → Int) (n : Nat) (S : ip_S) (R : ip_R) (L : ip_S) (U : State) : Prop := ip_V E U ∧ ip_out E f U U.heap ∧ E.2.1 ≤ U.heap.size ∧ ip_Rel E f n S R L U.heap
def ip_Qc (E : ip_E) (f : Int → Int) (r : Option Value) (n : Nat) (S : ip_S) (R : ip_R) (L : ip_S) : Array Value → State → Outcome → State → Prop := fun _ st o t => o = .returned (r.map (ip_cv E)) ∧ ip_Rel E f n S R L t.heap ∧ va_F (ip_A E) st t
def ip_Met (l : Launch) (E : ip_E) (f : Int → Int) (d : Nat) : Prop := ∀ (F k : Nat) (as : List Value) (n : Nat) (S : ip_S) (R : ip_R) (L : ip_S) (r : Option Value) (n' : Nat) (S' : ip_S) (R' : ip_R) (L' : ip_S), k < 233 → n ≤ 79 → ip_run d F k as (n, S, R, L) = some (r, (n', S', R', L')) →
  Met l (ip_me k).1 (ip_wsM k) (ip_rm d (n' - n) (ip_sz n' - ip_sz n)) (va_Pc (as.map (ip_cv E)) (ip_B E f n S R L)) (ip_Qc E f r n' S' R' L') (n' - n) (ip_sz n' - ip_sz n) (ip_A E)
theorem ip_callW {p : Program} {l : Launch} {e : Env} {Rm : Room} {s : State} {mid : MethodId} {args : Array Value} {below : List Frame} {meth : Method} {c : Code} {Qf : State → Prop} {E : ip_E} {f : Int → Int} {H : Heap} {locs : List Loc} {cells slots mc ms q : Nat} {lsA : Array Slot} {st0 rest : List Value} {r : Option Value} {n : Nat} {S : ip_S} {R : ip_R} {L : ip_S} {aa : Array Value}
    (hr : va_Run p l e Rm s mid args below meth c H locs cells slots mc ms (F0 mid q lsA st0) rest (ip_Qc E f r n S R L aa) (ip_A E)) (hS : va_S (ip_A E) s.heap H locs)
    (kk : ∀ (H1 : Heap) (locs1 : List Loc), ip_Rel E f n S R L H1 → va_S (ip_A E) s.heap H1 locs1 → W p l e Rm s mid args below meth c H1 locs1 (cells + mc) (slots + ms) Qf (F0 mid (q + 3) lsA ((r.map (ip_cv E)).toList ++ rest))) : W p l e Rm s mid args below meth c H locs cells slots Qf (F0 mid q lsA st0) := by
  intro T hT X
  obtain ⟨v, st₀, t, T', L2, h0, X', hL, e1, e2, ⟨hv, hRel, hF⟩, st⟩ := hr T hT X
  have hv2 : v = r.map (ip_cv E) := Outcome.returned.inj hv
  subst hv2
  obtain ⟨hz, hk⟩ := hF
  rw [h0] at hz hk
  obtain ⟨t2, a1, b1⟩ := kk T'.heap (locs ++ L2) (by rw [e1]; exact hRel)
    ⟨Nat.le_trans hS.1 (by rw [e1]; exact hz), fun q h1 h2 => by rw [e1, hk q (Nat.lt_of_lt_of_le h1 hS.1) h2]; exact hS.2.1 q h1 h2, fun q hq => by
      rcases List.mem_append.mp hq with h | h
      · exact hS.2.2 q h
      · exact hL q h⟩ T' rfl X'
  exact ⟨t2, st t2 a1, b1⟩
theorem ip_blind {E : ip_E} {f : Int → Int} {n : Nat} {S : ip_S} {R : ip_R} {L : ip_S} {av : List Value} : FrameBlind (va_Pc av (ip_B E f n S R L)) := by
  intro a U g mk ⟨h1, h2, h3, h4, h5⟩
  exact ⟨h1, ip_V.same (u := U) rfl h2, ip_out.same (u := U) rfl h3, h4, h5⟩
