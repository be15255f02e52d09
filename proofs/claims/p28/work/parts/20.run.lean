theorem ip_nrb {v : Int32} (h1 : -128 ≤ v.toInt) (h2 : v.toInt < 128) : narrow .byte (.int v) = .int v := by
  show Value.int v.toInt8.toInt32 = .int v
  congr 1
  rw [← Int32.toInt_inj, Int8.toInt_toInt32, Int32.toInt_toInt8]
  exact Int.bmod_eq_of_le (by omega) (by omega)
theorem ip_nrc {v : Int32} (h1 : 0 ≤ v.toInt) (h2 : v.toInt < 65536) : narrow .char (.int v) = .int v := by
  obtain ⟨k, hk⟩ : ∃ k : Nat, v.toInt = (k : Int) := ⟨v.toInt.toNat, by omega⟩
  have e : v = nI k := by
    rw [← Int32.toInt_inj, nI_toInt (by omega), hk]
  rw [e]
  exact (pk_charN (by omega)).1
theorem ip_si_call {m t i i2 k : Nat} {x : Instr} {ls ls2 : ip_L} {st st2 as : List Value} {h : ip_H} (hs : ip_si m x t i ls st h = some (.inr (.inl (k, as, i2, ls2, st2)))) : x = .invokestatic k ∧ ls2 = ls ∧ i2 = i + 1 := by
  unfold ip_si at hs
  cases x with
  | invokestatic j =>
    dsimp only at hs
    split at hs
    · cases hs; exact ⟨rfl, rfl, rfl⟩
    · cases hs
  | _ =>
    dsimp only at hs
    first
      | (cases hs; done)
      | (repeat' (split at hs)
         all_goals (cases hs; done))
theorem ip_pc0 (HOk : ip_Ok) {k : Nat} (hk : k < 233) : ip_pc k 0 = 0 := HOk.2.2.2.2.2 k (by omega)
theorem ip_retW {p : Program} {l : Launch} {e : Env} {Rm : Room} {s : State} {mid : MethodId} {args : Array Value} {below : List Frame} {meth : Method} {c : Code} {E : ip_E} {f : Int → Int} {m t i q a b : Nat} {x : Instr} {ok : Bool} {nx : Nat} {ls : ip_L} {st : List Value} {h : ip_H} {r : Option Value} {lsA : Array Slot} {H : Heap} {locs : List Loc} {cells slots : Nat} {Qc : Array Value → State → Outcome → State → Prop} {free : Addr → Prop}
    (hx : p.tables.exec = Jvm.exec) (hb : c.code = ip_by m) (hr : meth.sig.returnType = ip_re m) (hlk : meth.locks = false)
    (f15 : (ip_rk m = 0 ∧ ip_re m = some .int) ∨ (ip_rk m = 1 ∧ ip_re m = some .boolean) ∨ (ip_rk m = 2 ∧ ip_re m = some .byte) ∨ (ip_rk m = 3 ∧ ip_re m = some .char) ∨ (ip_rk m = 4 ∧ ip_re m = some .long) ∨ (ip_rk m = 5 ∧ ip_re m = some (.object "java/lang/String")) ∨ (ip_rk m = 9 ∧ ip_re m = none))
    (hck : ip_ck m (ip_cid m) (ip_by m) ok nx (q, x, t, a, b) = true) (hs : ip_si m x t i ls st h = some (.inr (.inr r))) (hV : ip_V E s) (hO : ip_out E f s s.heap)
    (hq : ∀ t : State, t.heap = H → s.WarmedH t.vm → Qc args s (.returned (r.map (ip_cv E))) t) (hf : ∀ q ∈ locs, free q.base) : W p l e Rm s mid args below meth c H locs cells slots (MQ below Qc args s cells slots free) (F0 mid q lsA (st.map (ip_cv E))) := by
  unfold ip_si at hs
  cases x with
  | ireturn =>
    dsimp only at hs
    simp only [ip_ck] at hck
    obtain ⟨hd, -⟩ := ip_dcI hck
    split at hs
    · split at hs
      · rename_i v hok
        cases hs
        rcases f15 with ⟨g1, g2⟩ | ⟨g1, g2⟩ | ⟨g1, g2⟩ | ⟨g1, g2⟩ | ⟨g1, g2⟩ | ⟨g1, g2⟩ | ⟨g1, g2⟩
        · exact W.iret hx hb (hr.trans g2) hq hf hd hlk
        · refine W.zret hx hb (hr.trans g2) ?_ hq hf hd hlk
          rw [g1] at hok
          unfold ip_rok at hok
          simp only [Bool.or_eq_true, decide_eq_true_eq] at hok
          rcases hok with rfl | rfl <;> rfl
        · refine W.zret hx hb (hr.trans g2) ?_ hq hf hd hlk
          rw [g1] at hok
          unfold ip_rok at hok
          simp only [Bool.and_eq_true, decide_eq_true_eq] at hok
          exact ip_nrb hok.1 hok.2
        · refine W.zret hx hb (hr.trans g2) ?_ hq hf hd hlk
          rw [g1] at hok
          unfold ip_rok at hok
          simp only [Bool.and_eq_true, decide_eq_true_eq] at hok
          exact ip_nrc hok.1 hok.2
        · rw [g1] at hok; cases hok
        · rw [g1] at hok; cases hok
        · rw [g1] at hok; cases hok
      · cases hs
    · cases hs
  | lreturn =>
    dsimp only at hs
    simp only [ip_ck] at hck
    obtain ⟨hd, -⟩ := ip_dcI hck
    split at hs
    · split at hs
      · rename_i hok
        cases hs
        rcases f15 with ⟨g1, g2⟩ | ⟨g1, g2⟩ | ⟨g1, g2⟩ | ⟨g1, g2⟩ | ⟨g1, g2⟩ | ⟨g1, g2⟩ | ⟨g1, g2⟩
        · omega
        · omega
        · omega
        · omega
        · exact W.lret hx hb (hr.trans g2) hq hf hd hlk
        · omega
        · omega
      · cases hs
    · cases hs
  | areturn =>
    dsimp only at hs
    simp only [ip_ck] at hck
    obtain ⟨hd, -⟩ := ip_dcI hck
    split at hs
    · split at hs
      · rename_i v hok
        simp only [Bool.and_eq_true, decide_eq_true_eq] at hok
        cases hs
        rcases f15 with ⟨g1, g2⟩ | ⟨g1, g2⟩ | ⟨g1, g2⟩ | ⟨g1, g2⟩ | ⟨g1, g2⟩ | ⟨g1, g2⟩ | ⟨g1, g2⟩
        · omega
        · omega
        · omega
        · omega
        · omega
        · exact W.aret hx hb (hr.trans g2) (Or.inl ⟨_, rfl⟩) (Or.inr ⟨ip_ad E v, if_neg hok.2⟩) hq hf hd hlk
        · omega
      · cases hs
    · cases hs
  | return_ =>
    dsimp only at hs
    simp only [ip_ck] at hck
    obtain ⟨hd, -⟩ := ip_dcI hck
    split at hs
    · split at hs
      · rename_i hok
        cases hs
        rcases f15 with ⟨g1, g2⟩ | ⟨g1, g2⟩ | ⟨g1, g2⟩ | ⟨g1, g2⟩ | ⟨g1, g2⟩ | ⟨g1, g2⟩ | ⟨g1, g2⟩
        · omega
        · omega
        · omega
        · omega
        · omega
        · omega
        · exact W.vret hx hb (hr.trans g2) hq hf hd hlk
      · cases hs
    · cases hs
  | _ =>
    exfalso
    dsimp only at hs
    first
      | (cases hs; done)
      | (repeat' (split at hs)
         all_goals (cases hs; done))
theorem ip_evW (HOk : ip_Ok) {p : Program} {l : Launch} {e : Env} {Rm : Room} {s : State} {mid : MethodId} {args : Array Value} {below : List Frame} {meth : Method} {c : Code} {Qf : State → Prop} {E : ip_E} {f : Int → Int} {m d F n0 : Nat} {r : Option Value} {n' : Nat} {S' : ip_S} {R' : ip_R} {L' : ip_S}
    (HM : ip_Met l E f d) (FF : ip_Fr E f m p s mid args meth c) (hm : m < 234) (h79 : n' ≤ 79) (hroom : n' - n0 ≤ Rm.cells ∧ ip_sz n' - ip_sz n0 ≤ Rm.slots) (hfr : d + 2 ≤ Rm.frames ∧ 100 * (d + 2) ≤ Rm.locals)
    (KR : ∀ (i q t a b : Nat) (x : Instr) (ok : Bool) (nx : Nat) (ls : ip_L) (st : List Value) (lsA : Array Slot) (H : Heap) (locs : List Loc), ip_ck m (ip_cid m) (ip_by m) ok nx (q, x, t, a, b) = true → ip_si m x t i ls st (n', S', R', L') = some (.inr (.inr r)) → ip_ll E (ip_ml m) lsA ls → ip_Rel E f n' S' R' L' H → va_S (ip_A E) s.heap H locs → ip_G p l e Rm s mid args below meth c Qf E H locs n0 n' q lsA st) :
    ∀ (ff i : Nat) (ls : ip_L) (st : List Value) (n : Nat) (S : ip_S) (R : ip_R) (L : ip_S) (lsA : Array Slot) (H : Heap) (locs : List Loc), ip_ev (ip_run d F) m ff i ls st (n, S, R, L) = some (r, (n', S', R', L')) → n0 ≤ n → ip_ll E (ip_ml m) lsA ls → ip_Rel E f n S R L H → va_S (ip_A E) s.heap H locs → ip_G p l e Rm s mid args below meth c Qf E H locs n0 n (ip_pc m i) lsA st := by
  intro ff
  induction ff with
  | zero => intro i ls st n S R L lsA H locs hr; simp [ip_ev] at hr
  | succ ff ih =>
    intro i ls st n S R L lsA H locs hr hn0 hl hR hS
    rw [ip_ev] at hr
    cases hi : ip_ins m i with
    | none =>
      have : ip_stp m i ls st (n, S, R, L) = none := by unfold ip_stp; rw [hi]
      rw [this] at hr; simp at hr
    | some y =>
      obtain ⟨q, x, t, a, b⟩ := y
      rw [ip_stp_of hi] at hr
      obtain ⟨ok, hck⟩ := HOk.2.2.2.2.1 m i _ hm hi
      have hpc : ip_pc m i = q := by unfold ip_pc; rw [hi]
      rw [hpc]
      have hcal := fun k as h r h' (q : ip_run d F k as h = some (r, h')) => ip_run_mono d F k as h r h' q
      cases hs : ip_si m x t i ls st (n, S, R, L) with
      | none => rw [hs] at hr; simp at hr
      | some z =>
        rw [hs] at hr
        rcases z with ⟨i2, ls2, st2, n2, S2, R2, L2⟩ | ⟨k, as, i2, ls2, st2⟩ | r2
        · dsimp only at hr
          have hm1 := ip_ev_mono hcal m ff _ _ _ _ _ _ hr
          have h1 := ip_si_mono hs
          have hm2 : n2 ≤ n' := hm1.1
          have h12 : n ≤ n2 := h1.1
          have hz := ip_sz_le hm2 h79
          refine sn_all HOk x p l e Rm s mid args below meth c Qf E f m i ls st n S R L q t a b ok _ H locs lsA n0 i2 ls2 st2 n2 S2 R2 L2 FF hck rfl hs hl hR hS hn0 ⟨by omega, by omega⟩ ⟨by omega, by omega⟩ ?_
          intro H1 locs1 lsA1 hl1 hR1 hS1
          exact ih i2 ls2 st2 n2 S2 R2 L2 lsA1 H1 locs1 hr (by omega) hl1 hR1 hS1
        · dsimp only at hr
          cases hk : ip_run d F k as (n, S, R, L) with
          | none => rw [hk] at hr; simp at hr
          | some y2 =>
            obtain ⟨r2, n2, S2, R2, L2⟩ := y2
            rw [hk] at hr
            dsimp only at hr
            have hm1 := ip_ev_mono hcal m ff _ _ _ _ _ _ hr
            have h1 := ip_run_mono d F k as _ _ _ hk
            have hm2 : n2 ≤ n' := hm1.1
            have h12 : n ≤ n2 := h1.1
            have hz := ip_sz_le hm2 h79
            have hx : x = .invokestatic k ∧ ls2 = ls ∧ i2 = i + 1 := ip_si_call hs
            obtain ⟨rfl, rfl, hi2⟩ := hx
            refine ip_callG HOk HM FF hck rfl hs hk hl hR hS hn0 (by omega) ⟨by omega, by omega⟩ hfr ?_
            intro H1 locs1 hR1 hS1
            exact ih i2 _ _ n2 S2 R2 L2 lsA H1 locs1 hr (by omega) hl hR1 hS1
        · cases hr
          exact KR i q t a b x ok _ ls st lsA H locs hck hs hl hR hS
theorem ip_MetS (HOk : ip_Ok) (l : Launch) (E : ip_E) (f : Int → Int) : ∀ d, ip_Met l E f d := by
  intro d
  induction d with
  | zero => intro F k as n S R L r n' S' R' L' hk hn hr; simp [ip_run] at hr
  | succ d ih =>
    intro F k as n S R L r n' S' R' L' hk hn hr
    have hmono := ip_run_mono (d + 1) F k as _ _ _ hr
    have hm1 : n ≤ n' := hmono.1
    have hm2 : n' ≤ 79 := hmono.2 hn
    have hmk := HOk.2.2.2.1 k hk
    obtain ⟨f1, f2, f3, f4, f5, f6, ⟨pc4, f7⟩, ⟨pc8, f8⟩, f9, f10, f11, f12, f13, f14, f15⟩ := ip_mokf hmk
    rw [ip_run] at hr
    split at hr
    · rename_i hlen
      refine Met.ofW (cc := ip_by k) (maxL := ip_ml k) (ret := ip_re k) f2 rfl ?_
      intro p e s mid args below meth c s₁ B hml hv
      obtain ⟨rfl, hV, hO, hsz, hR⟩ := hv
      have hts0 := atoms_spec (ws := ip_wsM k) B.pre
      have hts : ∀ w ∈ ip_W, w.before (as.map (ip_cv E)).toArray s = true := fun w hw => hts0 w (List.mem_cons_of_mem _ hw)
      have hown : s.vm.findClass (ip_CN (ip_cid k)) = some mid.cls := by rw [← f3]; exact findClass_of_methodNamed B.named
      have FF : ip_Fr E f k p s mid (as.map (ip_cv E)).toArray meth c := ⟨B.exec, B.bytes, hml, hown, hts, B.notSynchronized, fun h5 => by
        rw [(name_of_methodNamed B.named B.method).1]; exact (f11 h5).1, hV, hO, hsz⟩
      rw [lg_entry_eq]
      have hll := ip_ent_ll hV hO hlen
      have key := ip_evW HOk (Rm := (headSpec (ip_wsM k) (ip_rm (d + 1) (n' - n) (ip_sz n' - ip_sz n))).room) (n0 := n) (Qf := MQ below (ip_Qc E f r n' S' R' L') (as.map (ip_cv E)).toArray s (n' - n) (ip_sz n' - ip_sz n) (ip_A E)) (l := l) (e := e) (below := below) (F := F) ih FF (by omega) hm2 ⟨Nat.le_refl _, Nat.le_refl _⟩ ⟨by show d + 2 ≤ d + 1 + 1; omega, by show 100 * (d + 2) ≤ 100 * (d + 1 + 1); omega⟩ ?_ F 0 _ [] n S R L _ s.heap [] hr (Nat.le_refl _) hll hR va_S.rf
      · unfold ip_G at key
        rw [Nat.sub_self, Nat.sub_self] at key
        have hp0 : ip_pc k 0 = 0 := ip_pc0 HOk hk
        rw [hp0] at key
        exact key
      · intro i q t a b x ok nx ls st lsA H locs hck hs hl hR2 hS
        have hx := B.exec
        have hb := B.bytes
        have hrt := B.returns
        unfold ip_G
        have hq : ∀ t : State, t.heap = H → s.WarmedH t.vm → ip_Qc E f r n' S' R' L' (as.map (ip_cv E)).toArray s (.returned (r.map (ip_cv E))) t := fun t ht _ => ⟨rfl, by rw [ht]; exact hR2, hS.F ht⟩
        have hf : ∀ q ∈ locs, ip_A E q.base := hS.2.2
        exact ip_retW hx hb hrt B.notSynchronized f15 hck hs hV hO hq hf
    · cases hr
