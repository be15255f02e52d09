/-! instruction by instruction -/
def ip_sz (n : Nat) : Nat := ((ip_SH.take n).map (fun x => x.2)).sum
def ip_Fr (E : ip_E) (f : Int → Int) (m : Nat) (p : Program) (s : State) (mid : MethodId) (args : Array Value) (meth : Method) (c : Code) : Prop :=
  p.tables.exec = Jvm.exec ∧ c.code = ip_by m ∧ c.maxLocals = ip_ml m ∧ s.vm.findClass (ip_CN (ip_cid m)) = some mid.cls ∧ (∀ w ∈ ip_W, w.before args s = true) ∧ meth.locks = false ∧ (ip_rc m = 5 → meth.name = "<init>") ∧ ip_V E s ∧ ip_out E f s s.heap ∧ E.2.1 ≤ s.heap.size
abbrev ip_G (p : Program) (l : Launch) (e : Env) (Rm : Room) (s : State) (mid : MethodId) (args : Array Value) (below : List Frame) (meth : Method) (c : Code) (Qf : State → Prop) (E : ip_E) (H : Heap) (locs : List Loc) (n0 n pc : Nat) (lsA : Array Slot) (st : List Value) : Prop :=
  W p l e Rm s mid args below meth c H locs (n - n0) (ip_sz n - ip_sz n0) Qf (F0 mid pc lsA (st.map (ip_cv E)))
def ip_Snd (x : Instr) : Prop := ∀ (p : Program) (l : Launch) (e : Env) (Rm : Room) (s : State) (mid : MethodId) (args : Array Value) (below : List Frame) (meth : Method) (c : Code) (Qf : State → Prop) (E : ip_E) (f : Int → Int) (m i : Nat) (ls : ip_L) (st : List Value) (n : Nat) (S : ip_S) (R : ip_R) (L : ip_S) (q t a b : Nat) (ok : Bool) (nx : Nat) (H : Heap) (locs : List Loc) (lsA : Array Slot) (n0 i' : Nat) (ls' : ip_L) (st' : List Value) (n' : Nat) (S' : ip_S) (R' : ip_R) (L' : ip_S),
  ip_Fr E f m p s mid args meth c → ip_ck m (ip_cid m) (ip_by m) ok nx (q, x, t, a, b) = true → nx = ip_pc m (i + 1) → ip_si m x t i ls st (n, S, R, L) = some (.inl (i', ls', st', (n', S', R', L'))) →
  ip_ll E (ip_ml m) lsA ls → ip_Rel E f n S R L H → va_S (ip_A E) s.heap H locs → n0 ≤ n → (n' - n0 ≤ Rm.cells ∧ ip_sz n' - ip_sz n0 ≤ Rm.slots) → (1 ≤ Rm.frames ∧ 100 ≤ Rm.locals) →
  (∀ H1 locs1 lsA1, ip_ll E (ip_ml m) lsA1 ls' → ip_Rel E f n' S' R' L' H1 → va_S (ip_A E) s.heap H1 locs1 → ip_G p l e Rm s mid args below meth c Qf E H1 locs1 n0 n' (ip_pc m i') lsA1 st') →
  ip_G p l e Rm s mid args below meth c Qf E H locs n0 n q lsA st
theorem ip_dcI {b : ByteArray} {q nx : Nat} {x : Instr} {n : Nat} (h : ip_dc b q nx x n = true) : decode b q = .ok (x, n) ∧ nx = q + n := by
  simpa [ip_dc] using h
theorem ip_tblL : ∀ p, ip_et p = (99, 9999, 0, 0, 0) ∨ ip_lw (ip_et p) ∈ lw_tbl := ip_tbl
/-- a word of the tables holds -/
theorem ip_lnk {args : Array Value} {s : State} (hts : ∀ w ∈ ip_W, w.before args s = true) {pos : Nat} {e : Nat × Nat × Nat × Nat × Nat} (he : ip_et pos = e) (hg : goodWord (ip_lw e) = true) (hne : e.1 ≠ 99 := by simp) : (ip_lw e).before args s = true := by
  refine hts _ (List.mem_filter.mpr ⟨?_, hg⟩)
  rcases ip_tblL pos with h | h
  · rw [he] at h
    subst h
    exact absurd rfl hne
  · rw [he] at h
    exact h
theorem ip_cst {args : Array Value} {s : State} (hts : ∀ w ∈ ip_W, w.before args s = true) {pos own idx : Nat} {z : Int} (he : ip_et pos = (10, own, idx, z.toNat, 0)) (hz : 0 ≤ z) : (Jvm.Cond.constant (ip_CN own) idx (Int32.ofInt z)).before args s = true := by
  have h := ip_lnk hts he rfl (by simp)
  have e : Int32.ofNat z.toNat = Int32.ofInt z := by
    rw [← Int32.ofInt_eq_ofNat, Int.toNat_of_nonneg hz]
  rw [← e]
  exact h
theorem ip_cstl {args : Array Value} {s : State} (hts : ∀ w ∈ ip_W, w.before args s = true) {pos own idx : Nat} {z : Int} (he : (ip_et pos = (11, own, idx, z.toNat, 0) ∧ 0 ≤ z) ∨ (ip_et pos = (11, own, idx, (-z).toNat, 1) ∧ z ≤ 0)) : (Jvm.Cond.constantLong (ip_CN own) idx (Int64.ofInt z)).before args s = true := by
  rcases he with ⟨he, hz⟩ | ⟨he, hz⟩
  · have h := ip_lnk hts he rfl (by simp)
    have e : Int64.ofNat z.toNat = Int64.ofInt z := by
      rw [← Int64.ofInt_eq_ofNat, Int.toNat_of_nonneg hz]
    rw [← e]
    exact h
  · have h := ip_lnk hts he rfl (by simp)
    have e : -Int64.ofNat (-z).toNat = Int64.ofInt z := by
      rw [← Int64.ofInt_eq_ofNat, Int.toNat_of_nonneg (by omega), ← Int64.ofInt_neg, Int.neg_neg]
    rw [← e]
    exact h
theorem ip_cv_str {E : ip_E} {k : Nat} (hk : k < 13) : ip_cv E (.ref (901 + k)) = .ref (E.2.2.2.1 k) := by
  simp only [ip_cv, ip_ad]
  rw [if_neg (show ¬ 901 + k = 998 by omega), if_neg (show ¬ 901 + k < 900 by omega), if_neg (show ¬ 901 + k = 900 by omega), if_pos (show 901 + k < 951 by omega), show 901 + k - 901 = k by omega]
theorem ip_ne0 {x : Int32} : x.toInt = 0 ↔ x = 0 := by
  rw [← Int32.toInt_inj]; rfl
theorem ip_cv_c1 {E : ip_E} {f : Int → Int} {s : State} (hV : ip_V E s) (hO : ip_out E f s s.heap) {v : Value} (h : v.category = 1) : (ip_cv E v).category = 1 := by
  by_cases hv : v = .ref 998
  · subst hv
    show (E.2.2.2.2.2.1).category = 1
    exact hO.2.2.2.2.2
  · rw [ip_cv_cat hv]; exact h
theorem sn_iload (k : Nat) : ip_Snd (.iload k) := by
  intro p l e Rm s mid args below meth c Qf E f m i ls st n S R L q t a b ok nx H locs lsA n0 i' ls' st' n' S' R' L' F hck hnx hs hl hR hS hn0 hroom hfr kk
  obtain ⟨hx, hb, hml, hown, hts, hlk, hini, hV, hO, hsz⟩ := F
  simp only [ip_si] at hs
  split at hs
  · rename_i v hk
    cases hs
    have hv := hl.2.2.2 k _ hk
    rw [show ip_cv E (.int v) = .int v from rfl] at hv
    have hkk := kk H locs lsA hl hR hS
    simp only [ip_ck, Bool.and_eq_true, Bool.or_eq_true, decide_eq_true_eq] at hck
    obtain ⟨-, hd | ⟨hk4, hd⟩⟩ := hck
    · obtain ⟨hd, hn⟩ := ip_dcI hd
      rw [← hnx, hn] at hkk
      exact lv_iload hx hb hd hv hkk
    · obtain ⟨hd, hn⟩ := ip_dcI hd
      rw [← hnx, hn] at hkk
      refine lv_iload_n hx hb hd ?_ hv hkk
      show k % 4 = k
      omega
  · cases hs
theorem sn_lload (k : Nat) : ip_Snd (.lload k) := by
  intro p l e Rm s mid args below meth c Qf E f m i ls st n S R L q t a b ok nx H locs lsA n0 i' ls' st' n' S' R' L' F hck hnx hs hl hR hS hn0 hroom hfr kk
  obtain ⟨hx, hb, hml, hown, hts, hlk, hini, hV, hO, hsz⟩ := F
  simp only [ip_si] at hs
  split at hs
  · rename_i v hk
    cases hs
    have hv := hl.2.2.2 k _ hk
    rw [show ip_cv E (.long v) = .long v from rfl] at hv
    have hkk := kk H locs lsA hl hR hS
    simp only [ip_ck, Bool.and_eq_true, Bool.or_eq_true, decide_eq_true_eq] at hck
    obtain ⟨-, hd | ⟨hk4, hd⟩⟩ := hck
    · obtain ⟨hd, hn⟩ := ip_dcI hd
      rw [← hnx, hn] at hkk
      exact lv_lload hx hb hd hv hkk
    · obtain ⟨hd, hn⟩ := ip_dcI hd
      rw [← hnx, hn] at hkk
      refine lv_lload_n hx hb hd ?_ hv hkk
      show k % 4 = k
      omega
  · cases hs
theorem sn_aload (k : Nat) : ip_Snd (.aload k) := by
  intro p l e Rm s mid args below meth c Qf E f m i ls st n S R L q t a b ok nx H locs lsA n0 i' ls' st' n' S' R' L' F hck hnx hs hl hR hS hn0 hroom hfr kk
  obtain ⟨hx, hb, hml, hown, hts, hlk, hini, hV, hO, hsz⟩ := F
  simp only [ip_si] at hs
  split at hs
  · rename_i v hk
    split at hs
    · cases hs
    rename_i hne
    cases hs
    have hv := hl.2.2.2 k _ hk
    rw [show ip_cv E (.ref v) = .ref (ip_ad E v) from if_neg hne] at hv
    have hkk := kk H locs lsA hl hR hS
    simp only [ip_ck, Bool.and_eq_true, Bool.or_eq_true, decide_eq_true_eq] at hck
    obtain ⟨-, hd | ⟨hk4, hd⟩⟩ := hck
    · obtain ⟨hd, hn⟩ := ip_dcI hd
      rw [← hnx, hn] at hkk
      unfold ip_G at hkk
      rw [List.map_cons, show ip_cv E (.ref v) = .ref (ip_ad E v) from if_neg hne] at hkk
      exact lv_aload hx hb hd hv hkk
    · obtain ⟨hd, hn⟩ := ip_dcI hd
      rw [← hnx, hn] at hkk
      unfold ip_G at hkk
      rw [List.map_cons, show ip_cv E (.ref v) = .ref (ip_ad E v) from if_neg hne] at hkk
      refine lv_aload_n hx hb hd ?_ hv hkk
      show k % 4 = k
      omega
  · cases hs
theorem sn_iconst (z : Int) : ip_Snd (.iconst z) := by
  intro p l e Rm s mid args below meth c Qf E f m i ls st n S R L q t a b ok nx H locs lsA n0 i' ls' st' n' S' R' L' F hck hnx hs hl hR hS hn0 hroom hfr kk
  obtain ⟨hx, hb, hml, hown, hts, hlk, hini, hV, hO, hsz⟩ := F
  simp only [ip_si] at hs
  cases hs
  have hkk := kk H locs lsA hl hR hS
  simp only [ip_ck, Bool.and_eq_true, Bool.or_eq_true, decide_eq_true_eq] at hck
  obtain ⟨-, (((hd | ⟨hd, hv⟩) | ⟨hd, hv⟩) | ⟨⟨hd, hv⟩, hv2⟩) | ⟨⟨hd, hv⟩, hv2⟩⟩ := hck
  · obtain ⟨hd, hn⟩ := ip_dcI hd
    rw [← hnx, hn] at hkk
    exact lv_iconst hx hb hd rfl hkk
  · obtain ⟨hd, hn⟩ := ip_dcI hd
    rw [← hnx, hn] at hkk
    exact lv_bipush hx hb hd hv hkk
  · obtain ⟨hd, hn⟩ := ip_dcI hd
    rw [← hnx, hn] at hkk
    exact lv_sipush hx hb hd hv hkk
  · obtain ⟨hd, hn⟩ := ip_dcI hd
    rw [← hnx, hn] at hkk
    refine lv_ldc (v := Int32.ofInt z) hx hb hown ?_ hd hkk
    exact ip_cst hts hv hv2
  · obtain ⟨hd, hn⟩ := ip_dcI hd
    rw [← hnx, hn] at hkk
    refine lv_ldcw (v := Int32.ofInt z) hx hb hown ?_ hd hkk
    exact ip_cst hts hv hv2
theorem sn_lconst (z : Int) : ip_Snd (.sipush z) := by
  intro p l e Rm s mid args below meth c Qf E f m i ls st n S R L q t a b ok nx H locs lsA n0 i' ls' st' n' S' R' L' F hck hnx hs hl hR hS hn0 hroom hfr kk
  obtain ⟨hx, hb, hml, hown, hts, hlk, hini, hV, hO, hsz⟩ := F
  simp only [ip_si] at hs
  cases hs
  have hkk := kk H locs lsA hl hR hS
  simp only [ip_ck, Bool.and_eq_true, Bool.or_eq_true, decide_eq_true_eq] at hck
  obtain ⟨-, ⟨hd, hv⟩ | ⟨hd, hv⟩⟩ := hck
  · obtain ⟨hd, hn⟩ := ip_dcI hd
    rw [← hnx, hn] at hkk
    exact lv_lconst hx hb hd hv hkk
  · obtain ⟨hd, hn⟩ := ip_dcI hd
    rw [← hnx, hn] at hkk
    refine lv_ldc2 (v := Int64.ofInt z) hx hb hown ?_ hd hkk
    exact ip_cstl hts hv
theorem sn_ldc (k : Nat) : ip_Snd (.ldc k) := by
  intro p l e Rm s mid args below meth c Qf E f m i ls st n S R L q t a b ok nx H locs lsA n0 i' ls' st' n' S' R' L' F hck hnx hs hl hR hS hn0 hroom hfr kk
  obtain ⟨hx, hb, hml, hown, hts, hlk, hini, hV, hO, hsz⟩ := F
  simp only [ip_si] at hs
  split at hs
  · rename_i hk
    cases hs
    have hkk := kk H locs lsA hl hR hS
    simp only [ip_ck, Bool.and_eq_true, Bool.or_eq_true, decide_eq_true_eq] at hck
    obtain ⟨-, hd, -, h1, h2⟩ := hck
    obtain ⟨hd, hn⟩ := ip_dcI hd
    rw [← hnx, hn] at hkk
    unfold ip_G at hkk
    rw [List.map_cons, ip_cv_str hk] at hkk
    have hr := hV.2.2.1 k hk
    rw [h1, h2] at hr
    exact va_ldcS hx hb hown hr hd hkk
  · cases hs
theorem sn_gets (k : Nat) : ip_Snd (.getstatic k) := by
  intro p l e Rm s mid args below meth c Qf E f m i ls st n S R L q t a b ok nx H locs lsA n0 i' ls' st' n' S' R' L' F hck hnx hs hl hR hS hn0 hroom hfr kk
  obtain ⟨hx, hb, hml, hown, hts, hlk, hini, hV, hO, hsz⟩ := F
  simp only [ip_si] at hs
  simp only [ip_ck, Bool.and_eq_true, Bool.or_eq_true, decide_eq_true_eq] at hck
  obtain ⟨-, hd, hw⟩ := hck
  obtain ⟨hd, hn⟩ := ip_dcI hd
  rcases hw with ⟨rfl, hw⟩ | ⟨rfl, hw⟩
  · rw [if_pos rfl] at hs
    cases hs
    have hkk := kk H locs lsA hl hR hS
    rw [← hnx, hn] at hkk
    exact va_gets (ref := "java/lang/String") hx hb hO.2.2.2.1 hS hown (ip_lnk hts hw rfl) (fun _ h => h) hd hkk
  · rw [if_neg (by decide)] at hs
    cases hs
    have hkk := kk H locs lsA hl hR hS
    rw [← hnx, hn] at hkk
    exact va_gets (ref := "jdk/internal/util/Preconditions") hx hb hO.2.2.2.2.1 hS hown (ip_lnk hts hw rfl) (fun _ h => h) hd hkk
theorem sn_iadd : ip_Snd .iadd := by
  intro p l e Rm s mid args below meth c Qf E f m i ls st n S R L q t a b ok nx H locs lsA n0 i' ls' st' n' S' R' L' F hck hnx hs hl hR hS hn0 hroom hfr kk
  obtain ⟨hx, hb, hml, hown, hts, hlk, hini, hV, hO, hsz⟩ := F
  simp only [ip_si] at hs
  simp only [ip_ck, Bool.and_eq_true, Bool.or_eq_true, decide_eq_true_eq] at hck
  obtain ⟨-, hd⟩ := hck
  obtain ⟨hd, hn⟩ := ip_dcI hd
  split at hs
  · cases hs
    have hkk := kk H locs lsA hl hR hS
    rw [← hnx, hn] at hkk
    exact lv_iadd hx hb hd hkk
  · cases hs
theorem sn_isub : ip_Snd .isub := by
  intro p l e Rm s mid args below meth c Qf E f m i ls st n S R L q t a b ok nx H locs lsA n0 i' ls' st' n' S' R' L' F hck hnx hs hl hR hS hn0 hroom hfr kk
  obtain ⟨hx, hb, hml, hown, hts, hlk, hini, hV, hO, hsz⟩ := F
  simp only [ip_si] at hs
  simp only [ip_ck, Bool.and_eq_true, Bool.or_eq_true, decide_eq_true_eq] at hck
  obtain ⟨-, hd⟩ := hck
  obtain ⟨hd, hn⟩ := ip_dcI hd
  split at hs
  · cases hs
    have hkk := kk H locs lsA hl hR hS
    rw [← hnx, hn] at hkk
    exact lv_isub hx hb hd hkk
  · cases hs
theorem sn_imul : ip_Snd .imul := by
  intro p l e Rm s mid args below meth c Qf E f m i ls st n S R L q t a b ok nx H locs lsA n0 i' ls' st' n' S' R' L' F hck hnx hs hl hR hS hn0 hroom hfr kk
  obtain ⟨hx, hb, hml, hown, hts, hlk, hini, hV, hO, hsz⟩ := F
  simp only [ip_si] at hs
  simp only [ip_ck, Bool.and_eq_true, Bool.or_eq_true, decide_eq_true_eq] at hck
  obtain ⟨-, hd⟩ := hck
  obtain ⟨hd, hn⟩ := ip_dcI hd
  split at hs
  · cases hs
    have hkk := kk H locs lsA hl hR hS
    rw [← hnx, hn] at hkk
    exact lv_imul hx hb hd hkk
  · cases hs
theorem sn_iand : ip_Snd .iand := by
  intro p l e Rm s mid args below meth c Qf E f m i ls st n S R L q t a b ok nx H locs lsA n0 i' ls' st' n' S' R' L' F hck hnx hs hl hR hS hn0 hroom hfr kk
  obtain ⟨hx, hb, hml, hown, hts, hlk, hini, hV, hO, hsz⟩ := F
  simp only [ip_si] at hs
  simp only [ip_ck, Bool.and_eq_true, Bool.or_eq_true, decide_eq_true_eq] at hck
  obtain ⟨-, hd⟩ := hck
  obtain ⟨hd, hn⟩ := ip_dcI hd
  split at hs
  · cases hs
    have hkk := kk H locs lsA hl hR hS
    rw [← hnx, hn] at hkk
    exact lv_iand hx hb hd hkk
  · cases hs
theorem sn_ior : ip_Snd .ior := by
  intro p l e Rm s mid args below meth c Qf E f m i ls st n S R L q t a b ok nx H locs lsA n0 i' ls' st' n' S' R' L' F hck hnx hs hl hR hS hn0 hroom hfr kk
  obtain ⟨hx, hb, hml, hown, hts, hlk, hini, hV, hO, hsz⟩ := F
  simp only [ip_si] at hs
  simp only [ip_ck, Bool.and_eq_true, Bool.or_eq_true, decide_eq_true_eq] at hck
  obtain ⟨-, hd⟩ := hck
  obtain ⟨hd, hn⟩ := ip_dcI hd
  split at hs
  · cases hs
    have hkk := kk H locs lsA hl hR hS
    rw [← hnx, hn] at hkk
    exact lv_ior hx hb hd hkk
  · cases hs
theorem sn_ixor : ip_Snd .ixor := by
  intro p l e Rm s mid args below meth c Qf E f m i ls st n S R L q t a b ok nx H locs lsA n0 i' ls' st' n' S' R' L' F hck hnx hs hl hR hS hn0 hroom hfr kk
  obtain ⟨hx, hb, hml, hown, hts, hlk, hini, hV, hO, hsz⟩ := F
  simp only [ip_si] at hs
  simp only [ip_ck, Bool.and_eq_true, Bool.or_eq_true, decide_eq_true_eq] at hck
  obtain ⟨-, hd⟩ := hck
  obtain ⟨hd, hn⟩ := ip_dcI hd
  split at hs
  · cases hs
    have hkk := kk H locs lsA hl hR hS
    rw [← hnx, hn] at hkk
    exact lv_ixor hx hb hd hkk
  · cases hs
theorem sn_ishl : ip_Snd .ishl := by
  intro p l e Rm s mid args below meth c Qf E f m i ls st n S R L q t a b ok nx H locs lsA n0 i' ls' st' n' S' R' L' F hck hnx hs hl hR hS hn0 hroom hfr kk
  obtain ⟨hx, hb, hml, hown, hts, hlk, hini, hV, hO, hsz⟩ := F
  simp only [ip_si] at hs
  simp only [ip_ck, Bool.and_eq_true, Bool.or_eq_true, decide_eq_true_eq] at hck
  obtain ⟨-, hd⟩ := hck
  obtain ⟨hd, hn⟩ := ip_dcI hd
  split at hs
  · cases hs
    have hkk := kk H locs lsA hl hR hS
    rw [← hnx, hn] at hkk
    exact lv_ishl hx hb hd hkk
  · cases hs
theorem sn_ishr : ip_Snd .ishr := by
  intro p l e Rm s mid args below meth c Qf E f m i ls st n S R L q t a b ok nx H locs lsA n0 i' ls' st' n' S' R' L' F hck hnx hs hl hR hS hn0 hroom hfr kk
  obtain ⟨hx, hb, hml, hown, hts, hlk, hini, hV, hO, hsz⟩ := F
  simp only [ip_si] at hs
  simp only [ip_ck, Bool.and_eq_true, Bool.or_eq_true, decide_eq_true_eq] at hck
  obtain ⟨-, hd⟩ := hck
  obtain ⟨hd, hn⟩ := ip_dcI hd
  split at hs
  · cases hs
    have hkk := kk H locs lsA hl hR hS
    rw [← hnx, hn] at hkk
    exact lv_ishr hx hb hd hkk
  · cases hs
theorem sn_ladd : ip_Snd .ladd := by
  intro p l e Rm s mid args below meth c Qf E f m i ls st n S R L q t a b ok nx H locs lsA n0 i' ls' st' n' S' R' L' F hck hnx hs hl hR hS hn0 hroom hfr kk
  obtain ⟨hx, hb, hml, hown, hts, hlk, hini, hV, hO, hsz⟩ := F
  simp only [ip_si] at hs
  simp only [ip_ck, Bool.and_eq_true, Bool.or_eq_true, decide_eq_true_eq] at hck
  obtain ⟨-, hd⟩ := hck
  obtain ⟨hd, hn⟩ := ip_dcI hd
  split at hs
  · cases hs
    have hkk := kk H locs lsA hl hR hS
    rw [← hnx, hn] at hkk
    exact lv_ladd hx hb hd hkk
  · cases hs
theorem sn_lsub : ip_Snd .lsub := by
  intro p l e Rm s mid args below meth c Qf E f m i ls st n S R L q t a b ok nx H locs lsA n0 i' ls' st' n' S' R' L' F hck hnx hs hl hR hS hn0 hroom hfr kk
  obtain ⟨hx, hb, hml, hown, hts, hlk, hini, hV, hO, hsz⟩ := F
  simp only [ip_si] at hs
  simp only [ip_ck, Bool.and_eq_true, Bool.or_eq_true, decide_eq_true_eq] at hck
  obtain ⟨-, hd⟩ := hck
  obtain ⟨hd, hn⟩ := ip_dcI hd
  split at hs
  · cases hs
    have hkk := kk H locs lsA hl hR hS
    rw [← hnx, hn] at hkk
    exact lv_lsub hx hb hd hkk
  · cases hs
theorem sn_lmul : ip_Snd .lmul := by
  intro p l e Rm s mid args below meth c Qf E f m i ls st n S R L q t a b ok nx H locs lsA n0 i' ls' st' n' S' R' L' F hck hnx hs hl hR hS hn0 hroom hfr kk
  obtain ⟨hx, hb, hml, hown, hts, hlk, hini, hV, hO, hsz⟩ := F
  simp only [ip_si] at hs
  simp only [ip_ck, Bool.and_eq_true, Bool.or_eq_true, decide_eq_true_eq] at hck
  obtain ⟨-, hd⟩ := hck
  obtain ⟨hd, hn⟩ := ip_dcI hd
  split at hs
  · cases hs
    have hkk := kk H locs lsA hl hR hS
    rw [← hnx, hn] at hkk
    exact lv_lmul hx hb hd hkk
  · cases hs
theorem sn_ineg : ip_Snd .ineg := by
  intro p l e Rm s mid args below meth c Qf E f m i ls st n S R L q t a b ok nx H locs lsA n0 i' ls' st' n' S' R' L' F hck hnx hs hl hR hS hn0 hroom hfr kk
  obtain ⟨hx, hb, hml, hown, hts, hlk, hini, hV, hO, hsz⟩ := F
  simp only [ip_si] at hs
  simp only [ip_ck, Bool.and_eq_true, Bool.or_eq_true, decide_eq_true_eq] at hck
  obtain ⟨-, hd⟩ := hck
  obtain ⟨hd, hn⟩ := ip_dcI hd
  split at hs
  · cases hs
    have hkk := kk H locs lsA hl hR hS
    rw [← hnx, hn] at hkk
    exact lv_ineg hx hb hd hkk
  · cases hs
theorem sn_i2l : ip_Snd .i2l := by
  intro p l e Rm s mid args below meth c Qf E f m i ls st n S R L q t a b ok nx H locs lsA n0 i' ls' st' n' S' R' L' F hck hnx hs hl hR hS hn0 hroom hfr kk
  obtain ⟨hx, hb, hml, hown, hts, hlk, hini, hV, hO, hsz⟩ := F
  simp only [ip_si] at hs
  simp only [ip_ck, Bool.and_eq_true, Bool.or_eq_true, decide_eq_true_eq] at hck
  obtain ⟨-, hd⟩ := hck
  obtain ⟨hd, hn⟩ := ip_dcI hd
  split at hs
  · cases hs
    have hkk := kk H locs lsA hl hR hS
    rw [← hnx, hn] at hkk
    exact lv_i2l hx hb hd rfl hkk
  · cases hs
theorem sn_l2i : ip_Snd .l2i := by
  intro p l e Rm s mid args below meth c Qf E f m i ls st n S R L q t a b ok nx H locs lsA n0 i' ls' st' n' S' R' L' F hck hnx hs hl hR hS hn0 hroom hfr kk
  obtain ⟨hx, hb, hml, hown, hts, hlk, hini, hV, hO, hsz⟩ := F
  simp only [ip_si] at hs
  simp only [ip_ck, Bool.and_eq_true, Bool.or_eq_true, decide_eq_true_eq] at hck
  obtain ⟨-, hd⟩ := hck
  obtain ⟨hd, hn⟩ := ip_dcI hd
  split at hs
  · cases hs
    have hkk := kk H locs lsA hl hR hS
    rw [← hnx, hn] at hkk
    exact lv_l2i hx hb hd rfl hkk
  · cases hs
theorem sn_i2b : ip_Snd .i2b := by
  intro p l e Rm s mid args below meth c Qf E f m i ls st n S R L q t a b ok nx H locs lsA n0 i' ls' st' n' S' R' L' F hck hnx hs hl hR hS hn0 hroom hfr kk
  obtain ⟨hx, hb, hml, hown, hts, hlk, hini, hV, hO, hsz⟩ := F
  simp only [ip_si] at hs
  simp only [ip_ck, Bool.and_eq_true, Bool.or_eq_true, decide_eq_true_eq] at hck
  obtain ⟨-, hd⟩ := hck
  obtain ⟨hd, hn⟩ := ip_dcI hd
  split at hs
  · cases hs
    have hkk := kk H locs lsA hl hR hS
    rw [← hnx, hn] at hkk
    exact lv_i2b hx hb hd rfl hkk
  · cases hs
theorem sn_i2s : ip_Snd .i2s := by
  intro p l e Rm s mid args below meth c Qf E f m i ls st n S R L q t a b ok nx H locs lsA n0 i' ls' st' n' S' R' L' F hck hnx hs hl hR hS hn0 hroom hfr kk
  obtain ⟨hx, hb, hml, hown, hts, hlk, hini, hV, hO, hsz⟩ := F
  simp only [ip_si] at hs
  simp only [ip_ck, Bool.and_eq_true, Bool.or_eq_true, decide_eq_true_eq] at hck
  obtain ⟨-, hd⟩ := hck
  obtain ⟨hd, hn⟩ := ip_dcI hd
  split at hs
  · cases hs
    have hkk := kk H locs lsA hl hR hS
    rw [← hnx, hn] at hkk
    exact lv_i2s hx hb hd rfl hkk
  · cases hs
theorem sn_i2c : ip_Snd .i2c := by
  intro p l e Rm s mid args below meth c Qf E f m i ls st n S R L q t a b ok nx H locs lsA n0 i' ls' st' n' S' R' L' F hck hnx hs hl hR hS hn0 hroom hfr kk
  obtain ⟨hx, hb, hml, hown, hts, hlk, hini, hV, hO, hsz⟩ := F
  simp only [ip_si] at hs
  simp only [ip_ck, Bool.and_eq_true, Bool.or_eq_true, decide_eq_true_eq] at hck
  obtain ⟨-, hd⟩ := hck
  obtain ⟨hd, hn⟩ := ip_dcI hd
  split at hs
  · cases hs
    have hkk := kk H locs lsA hl hR hS
    rw [← hnx, hn] at hkk
    exact lv_i2c hx hb hd rfl hkk
  · cases hs
theorem sn_iushr : ip_Snd .iushr := by
  intro p l e Rm s mid args below meth c Qf E f m i ls st n S R L q t a b ok nx H locs lsA n0 i' ls' st' n' S' R' L' F hck hnx hs hl hR hS hn0 hroom hfr kk
  obtain ⟨hx, hb, hml, hown, hts, hlk, hini, hV, hO, hsz⟩ := F
  simp only [ip_si] at hs
  simp only [ip_ck, Bool.and_eq_true, Bool.or_eq_true, decide_eq_true_eq] at hck
  obtain ⟨-, hd⟩ := hck
  obtain ⟨hd, hn⟩ := ip_dcI hd
  split at hs
  · cases hs
    have hkk := kk H locs lsA hl hR hS
    rw [← hnx, hn] at hkk
    exact lv_iushr hx hb hd rfl hkk
  · cases hs
theorem sn_lcmp : ip_Snd .lcmp := by
  intro p l e Rm s mid args below meth c Qf E f m i ls st n S R L q t a b ok nx H locs lsA n0 i' ls' st' n' S' R' L' F hck hnx hs hl hR hS hn0 hroom hfr kk
  obtain ⟨hx, hb, hml, hown, hts, hlk, hini, hV, hO, hsz⟩ := F
  simp only [ip_si] at hs
  simp only [ip_ck, Bool.and_eq_true, Bool.or_eq_true, decide_eq_true_eq] at hck
  obtain ⟨-, hd⟩ := hck
  obtain ⟨hd, hn⟩ := ip_dcI hd
  split at hs
  · cases hs
    have hkk := kk H locs lsA hl hR hS
    rw [← hnx, hn] at hkk
    exact W.lcmp hx hb hd hkk
  · cases hs
theorem sn_idiv : ip_Snd .idiv := by
  intro p l e Rm s mid args below meth c Qf E f m i ls st n S R L q t a b ok nx H locs lsA n0 i' ls' st' n' S' R' L' F hck hnx hs hl hR hS hn0 hroom hfr kk
  obtain ⟨hx, hb, hml, hown, hts, hlk, hini, hV, hO, hsz⟩ := F
  simp only [ip_si] at hs
  simp only [ip_ck, Bool.and_eq_true, Bool.or_eq_true, decide_eq_true_eq] at hck
  obtain ⟨-, hd⟩ := hck
  obtain ⟨hd, hn⟩ := ip_dcI hd
  split at hs
  · split at hs
    · cases hs
    · rename_i hne
      cases hs
      have hkk := kk H locs lsA hl hR hS
      rw [← hnx, hn] at hkk
      exact lv_idiv hx hb hd hne hkk
  · cases hs
theorem sn_irem : ip_Snd .irem := by
  intro p l e Rm s mid args below meth c Qf E f m i ls st n S R L q t a b ok nx H locs lsA n0 i' ls' st' n' S' R' L' F hck hnx hs hl hR hS hn0 hroom hfr kk
  obtain ⟨hx, hb, hml, hown, hts, hlk, hini, hV, hO, hsz⟩ := F
  simp only [ip_si] at hs
  simp only [ip_ck, Bool.and_eq_true, Bool.or_eq_true, decide_eq_true_eq] at hck
  obtain ⟨-, hd⟩ := hck
  obtain ⟨hd, hn⟩ := ip_dcI hd
  split at hs
  · split at hs
    · cases hs
    · rename_i hne
      cases hs
      have hkk := kk H locs lsA hl hR hS
      rw [← hnx, hn] at hkk
      exact lv_irem hx hb hd hne hkk
  · cases hs
theorem sn_ldiv : ip_Snd .ldiv := by
  intro p l e Rm s mid args below meth c Qf E f m i ls st n S R L q t a b ok nx H locs lsA n0 i' ls' st' n' S' R' L' F hck hnx hs hl hR hS hn0 hroom hfr kk
  obtain ⟨hx, hb, hml, hown, hts, hlk, hini, hV, hO, hsz⟩ := F
  simp only [ip_si] at hs
  simp only [ip_ck, Bool.and_eq_true, Bool.or_eq_true, decide_eq_true_eq] at hck
  obtain ⟨-, hd⟩ := hck
  obtain ⟨hd, hn⟩ := ip_dcI hd
  split at hs
  · split at hs
    · cases hs
    · rename_i hne
      cases hs
      have hkk := kk H locs lsA hl hR hS
      rw [← hnx, hn] at hkk
      exact lv_ldiv hx hb hd hne hkk
  · cases hs
theorem sn_lrem : ip_Snd .lrem := by
  intro p l e Rm s mid args below meth c Qf E f m i ls st n S R L q t a b ok nx H locs lsA n0 i' ls' st' n' S' R' L' F hck hnx hs hl hR hS hn0 hroom hfr kk
  obtain ⟨hx, hb, hml, hown, hts, hlk, hini, hV, hO, hsz⟩ := F
  simp only [ip_si] at hs
  simp only [ip_ck, Bool.and_eq_true, Bool.or_eq_true, decide_eq_true_eq] at hck
  obtain ⟨-, hd⟩ := hck
  obtain ⟨hd, hn⟩ := ip_dcI hd
  split at hs
  · split at hs
    · cases hs
    · rename_i hne
      cases hs
      have hkk := kk H locs lsA hl hR hS
      rw [← hnx, hn] at hkk
      exact lv_lrem hx hb hd hne hkk
  · cases hs
theorem sn_dup : ip_Snd .dup := by
  intro p l e Rm s mid args below meth c Qf E f m i ls st n S R L q t a b ok nx H locs lsA n0 i' ls' st' n' S' R' L' F hck hnx hs hl hR hS hn0 hroom hfr kk
  obtain ⟨hx, hb, hml, hown, hts, hlk, hini, hV, hO, hsz⟩ := F
  simp only [ip_si] at hs
  simp only [ip_ck, Bool.and_eq_true, Bool.or_eq_true, decide_eq_true_eq] at hck
  obtain ⟨-, hd⟩ := hck
  obtain ⟨hd, hn⟩ := ip_dcI hd
  split at hs
  · split at hs
    · rename_i v r hc
      cases hs
      have hkk := kk H locs lsA hl hR hS
      rw [← hnx, hn] at hkk
      exact lv_dup hx hb hd (ip_cv_c1 hV hO hc) hkk
    · cases hs
  · cases hs
theorem sn_pop : ip_Snd .pop := by
  intro p l e Rm s mid args below meth c Qf E f m i ls st n S R L q t a b ok nx H locs lsA n0 i' ls' st' n' S' R' L' F hck hnx hs hl hR hS hn0 hroom hfr kk
  obtain ⟨hx, hb, hml, hown, hts, hlk, hini, hV, hO, hsz⟩ := F
  simp only [ip_si] at hs
  simp only [ip_ck, Bool.and_eq_true, Bool.or_eq_true, decide_eq_true_eq] at hck
  obtain ⟨-, hd⟩ := hck
  obtain ⟨hd, hn⟩ := ip_dcI hd
  split at hs
  · split at hs
    · rename_i v r hc
      cases hs
      have hkk := kk H locs lsA hl hR hS
      rw [← hnx, hn] at hkk
      exact lv_pop hx hb hd (ip_cv_c1 hV hO hc) hkk
    · cases hs
  · cases hs
theorem sn_pop2 : ip_Snd .pop2 := by
  intro p l e Rm s mid args below meth c Qf E f m i ls st n S R L q t a b ok nx H locs lsA n0 i' ls' st' n' S' R' L' F hck hnx hs hl hR hS hn0 hroom hfr kk
  obtain ⟨hx, hb, hml, hown, hts, hlk, hini, hV, hO, hsz⟩ := F
  simp only [ip_si] at hs
  simp only [ip_ck, Bool.and_eq_true, Bool.or_eq_true, decide_eq_true_eq] at hck
  obtain ⟨-, hd⟩ := hck
  obtain ⟨hd, hn⟩ := ip_dcI hd
  split at hs
  · split at hs
    · rename_i v r hc
      cases hs
      have hkk := kk H locs lsA hl hR hS
      rw [← hnx, hn] at hkk
      have hne : v ≠ .ref 998 := by rintro rfl; simp [Value.category] at hc
      exact lv_pop2_2 hx hb hd (by rw [ip_cv_cat hne]; exact hc) hkk
    · cases hs
  · cases hs
theorem sn_goto (o : Int) : ip_Snd (.goto o) := by
  intro p l e Rm s mid args below meth c Qf E f m i ls st n S R L q t a b ok nx H locs lsA n0 i' ls' st' n' S' R' L' F hck hnx hs hl hR hS hn0 hroom hfr kk
  obtain ⟨hx, hb, hml, hown, hts, hlk, hini, hV, hO, hsz⟩ := F
  simp only [ip_si] at hs
  simp only [ip_ck, ip_db, Bool.and_eq_true, Bool.or_eq_true, decide_eq_true_eq] at hck
  obtain ⟨-, hd⟩ := hck
  cases hs
  exact lv_goto hx hb hd (by omega) (kk H locs lsA hl hR hS)
theorem sn_ifCond (cd : ClassFile.Cond) (o : Int) : ip_Snd (.ifCond cd o) := by
  intro p l e Rm s mid args below meth c Qf E f m i ls st n S R L q t a b ok nx H locs lsA n0 i' ls' st' n' S' R' L' F hck hnx hs hl hR hS hn0 hroom hfr kk
  obtain ⟨hx, hb, hml, hown, hts, hlk, hini, hV, hO, hsz⟩ := F
  simp only [ip_si] at hs
  simp only [ip_ck, ip_db, Bool.and_eq_true, Bool.or_eq_true, decide_eq_true_eq] at hck
  obtain ⟨-, -, hn, hd⟩ := hck
  split at hs
  · rename_i x r
    have kt : ip_cond cd x.toInt 0 = true → ip_G p l e Rm s mid args below meth c Qf E H locs n0 n (ip_pc m t) lsA r := fun h => by
      rw [if_pos h] at hs
      cases hs
      exact kk H locs lsA hl hR hS
    have kf : ¬ ip_cond cd x.toInt 0 = true → ip_G p l e Rm s mid args below meth c Qf E H locs n0 n (q + 3) lsA r := fun h => by
      rw [if_neg h] at hs
      cases hs
      have hkk := kk H locs lsA hl hR hS
      rw [← hnx, hn] at hkk
      exact hkk
    have ht : (q : Int) + ((ip_pc m t : Int) - (q : Int)) = (ip_pc m t : Int) := by omega
    cases cd
    · exact lv_if_eq hx hb hd ht (fun h => kt (by simp [ip_cond, h])) (fun h => kf (by simp [ip_cond, ip_ne0, h]))
    · exact lv_if_ne hx hb hd ht (fun h => kt (by simp [ip_cond, ip_ne0, h])) (fun h => kf (by simp [ip_cond, ip_ne0, h]))
    · exact lv_if_lt hx hb hd ht (fun h => kt (by simpa [ip_cond, Int32.lt_iff_toInt_lt] using h)) (fun h => kf (by simpa [ip_cond, Int32.lt_iff_toInt_lt] using h))
    · exact lv_if_ge hx hb hd ht (fun h => kt (by simpa [ip_cond, Int32.le_iff_toInt_le] using h)) (fun h => kf (by simpa [ip_cond, Int32.le_iff_toInt_le] using h))
    · exact lv_if_gt hx hb hd ht (fun h => kt (by simpa [ip_cond, Int32.lt_iff_toInt_lt] using h)) (fun h => kf (by simpa [ip_cond, Int32.lt_iff_toInt_lt] using h))
    · exact lv_if_le hx hb hd ht (fun h => kt (by simpa [ip_cond, Int32.le_iff_toInt_le] using h)) (fun h => kf (by simpa [ip_cond, Int32.le_iff_toInt_le] using h))
  · cases hs
theorem sn_if_icmp (cd : ClassFile.Cond) (o : Int) : ip_Snd (.if_icmp cd o) := by
  intro p l e Rm s mid args below meth c Qf E f m i ls st n S R L q t a b ok nx H locs lsA n0 i' ls' st' n' S' R' L' F hck hnx hs hl hR hS hn0 hroom hfr kk
  obtain ⟨hx, hb, hml, hown, hts, hlk, hini, hV, hO, hsz⟩ := F
  simp only [ip_si] at hs
  simp only [ip_ck, ip_db, Bool.and_eq_true, Bool.or_eq_true, decide_eq_true_eq] at hck
  obtain ⟨-, -, hn, hd⟩ := hck
  split at hs
  · rename_i y x r
    have kt : ip_cond cd x.toInt y.toInt = true → ip_G p l e Rm s mid args below meth c Qf E H locs n0 n (ip_pc m t) lsA r := fun h => by
      rw [if_pos h] at hs
      cases hs
      exact kk H locs lsA hl hR hS
    have kf : ¬ ip_cond cd x.toInt y.toInt = true → ip_G p l e Rm s mid args below meth c Qf E H locs n0 n (q + 3) lsA r := fun h => by
      rw [if_neg h] at hs
      cases hs
      have hkk := kk H locs lsA hl hR hS
      rw [← hnx, hn] at hkk
      exact hkk
    have ht : (q : Int) + ((ip_pc m t : Int) - (q : Int)) = (ip_pc m t : Int) := by omega
    cases cd
    · exact lv_icmp_eq hx hb hd ht (fun h => kt (by simp [ip_cond, h])) (fun h => kf (by simp [ip_cond, Int32.toInt_inj, h]))
    · exact lv_icmp_ne hx hb hd ht (fun h => kt (by simp [ip_cond, Int32.toInt_inj, h])) (fun h => kf (by simp [ip_cond, Int32.toInt_inj, h]))
    · exact lv_icmp_lt hx hb hd ht (fun h => kt (by simpa [ip_cond, Int32.lt_iff_toInt_lt] using h)) (fun h => kf (by simpa [ip_cond, Int32.lt_iff_toInt_lt] using h))
    · exact lv_icmp_ge hx hb hd ht (fun h => kt (by simpa [ip_cond, Int32.le_iff_toInt_le] using h)) (fun h => kf (by simpa [ip_cond, Int32.le_iff_toInt_le] using h))
    · exact lv_icmp_gt hx hb hd ht (fun h => kt (by simpa [ip_cond, Int32.lt_iff_toInt_lt] using h)) (fun h => kf (by simpa [ip_cond, Int32.lt_iff_toInt_lt] using h))
    · exact lv_icmp_le hx hb hd ht (fun h => kt (by simpa [ip_cond, Int32.le_iff_toInt_le] using h)) (fun h => kf (by simpa [ip_cond, Int32.le_iff_toInt_le] using h))
  · cases hs
