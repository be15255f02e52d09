/-! the tables against the bytes and the words: checked by the kernel, method by method -/
def ip_cid (m : Nat) : Nat := (ip_me m).2.2.2.2.1.2.2.2
def ip_own (m : Nat) : String := (ip_me m).1.cls
def ip_by (m : Nat) : ByteArray := (ip_me m).2.1
def ip_re (m : Nat) : Option FieldType := (ip_me m).2.2.2.1
def ip_pc (m i : Nat) : Nat := match ip_ins m i with
  | some y => y.1
  | none => 0
def ip_MN (k : Nat) : MethodName := match k with
  | 900 => Lib.Math.max.name
  | 901 => Lib.Math.min.name
  | 904 => arraycopyName
  | 905 => Lib.objectInit
  | k => (ip_me k).1
def ip_host : String := "TandemKeepsAPlace"
def ip_NF : List Nat := [10, 8, 5, 6, 4, 3, 12, 3, 45]
/-- a word, out of its numbers -/
def ip_lw (e : Nat × Nat × Nat × Nat × Nat) : Jvm.Cond := match e.1 with
  | 0 => .fieldLink (ip_CN e.2.1) e.2.2.1 (ip_CN e.2.2.2.1) (ip_FT e.2.2.2.1 e.2.2.2.2).2.1 (ip_FT e.2.2.2.1 e.2.2.2.2).2.2.1
  | 1 => .fieldLinkNest (ip_CN e.2.1) e.2.2.1 (ip_CN e.2.2.2.1) (ip_FT e.2.2.2.1 e.2.2.2.2).2.1 (ip_FT e.2.2.2.1 e.2.2.2.2).2.2.1 ip_host
  | 2 => .methodLink (ip_CN e.2.1) e.2.2.1 (ip_MN e.2.2.2.1)
  | 3 => .methodLinkNest (ip_CN e.2.1) e.2.2.1 (ip_MN e.2.2.2.1) ip_host
  | 4 => .code (ip_MN e.2.1) (ip_by e.2.1) (ip_ml e.2.1) (ip_re e.2.1)
  | 5 => .instanceMethod (ip_MN e.2.1)
  | 6 => .static (ip_MN e.2.1)
  | 7 => .selects (ip_MN e.2.1).cls (ip_MN e.2.1) (ip_MN e.2.1)
  | 8 => .initialized (ip_CN e.2.1)
  | 9 => .classLink (ip_CN e.2.1) e.2.2.1 (ip_CN e.2.2.2.1)
  | 10 => .constant (ip_CN e.2.1) e.2.2.1 (Int32.ofNat e.2.2.2.1)
  | 11 => .constantLong (ip_CN e.2.1) e.2.2.1 (if e.2.2.2.2 = 0 then Int64.ofNat e.2.2.2.1 else -Int64.ofNat e.2.2.2.1)
  | 12 => .stringRef (ip_ST.getD e.2.1 ("", 0, "")).1 (ip_ST.getD e.2.1 ("", 0, "")).2.1 (ip_ST.getD e.2.1 ("", 0, "")).2.2
  | 13 => .instantiable (ip_CN e.2.1) (ip_NF.getD e.2.1 0)
  | 14 => u_lay (ip_CN e.2.1) (ip_FT e.2.1) e.2.2.1
  | _ => ip_RAW.getD e.2.1 .tt
def ip_et (p : Nat) : Nat × Nat × Nat × Nat × Nat := (ip_LT.getD (p / 32) []).getD (p % 32) (99, 9999, 0, 0, 0)
def ip_dc (b : ByteArray) (q nx : Nat) (x : Instr) (n : Nat) : Bool := decide (decode b q = .ok (x, n)) && decide (nx = q + n)
def ip_db (b : ByteArray) (q : Nat) (x : Instr) : Bool := decide (decode b q = .ok (x, 3))
/-- the field of an access -/
def ip_fchk (own : Nat) (g t idx pos : Nat) : Bool :=
  decide (g / 64 < 9) && (decide (g % 64 < ip_NF.getD (g / 64) 0) && ((decide (t = 0) && decide (ip_et pos = (0, own, idx, g / 64, g % 64))) || (decide (t = 1) && decide (ip_et pos = (1, own, idx, g / 64, g % 64)))))
def ip_swo (m q : Nat) (lo : Int) : List (Int × Int) → Option (List Int)
  | [] => some []
  | (v, t) :: r => if v = lo then (ip_swo m q (lo + 1) r).map (fun l => ((ip_pc m t.toNat : Int) - (q : Int)) :: l) else none
def ip_inr (m i : Nat) : Bool := (ip_ins m i).isSome
def ip_ck (m own : Nat) (b : ByteArray) (ok : Bool) (nx : Nat) (y : ip_I) : Bool := match y with
  | (q, x, t, idx, pos) => match x with
    | .iload k => ok && (ip_dc b q nx (.iload k) 2 || (decide (k < 4) && ip_dc b q nx (.iload_n (Fin.ofNat 4 k)) 1))
    | .lload k => ok && (ip_dc b q nx (.lload k) 2 || (decide (k < 4) && ip_dc b q nx (.lload_n (Fin.ofNat 4 k)) 1))
    | .aload k => ok && (ip_dc b q nx (.aload k) 2 || (decide (k < 4) && ip_dc b q nx (.aload_n (Fin.ofNat 4 k)) 1))
    | .istore k => ok && (ip_dc b q nx (.istore k) 2 || (decide (k < 4) && ip_dc b q nx (.istore_n (Fin.ofNat 4 k)) 1))
    | .lstore k => ok && (ip_dc b q nx (.lstore k) 2 || (decide (k < 4) && ip_dc b q nx (.lstore_n (Fin.ofNat 4 k)) 1))
    | .astore k => ok && (ip_dc b q nx (.astore k) 2 || (decide (k < 4) && ip_dc b q nx (.astore_n (Fin.ofNat 4 k)) 1))
    | .iinc k n => ok && ip_dc b q nx (.iinc k n) 3
    | .iconst n => ok && (ip_dc b q nx (.iconst n) 1 || (ip_dc b q nx (.bipush n) 2 && decide ((Int8.ofInt n).toInt32 = Int32.ofInt n)) || (ip_dc b q nx (.sipush n) 3 && decide ((Int16.ofInt n).toInt32 = Int32.ofInt n)) ||
        (ip_dc b q nx (.ldc idx) 2 && decide (ip_et pos = (10, own, idx, n.toNat, 0)) && decide (0 ≤ n)) || (ip_dc b q nx (.ldc_w idx) 3 && decide (ip_et pos = (10, own, idx, n.toNat, 0)) && decide (0 ≤ n)))
    | .sipush n => ok && ((ip_dc b q nx (.lconst (Fin.ofNat 2 n.toNat)) 1 && decide (Int64.ofNat ((Fin.ofNat 2 n.toNat : Fin 2) : Nat) = Int64.ofInt n)) || (ip_dc b q nx (.ldc2_w idx) 3 && ((decide (ip_et pos = (11, own, idx, n.toNat, 0)) && decide (0 ≤ n)) || (decide (ip_et pos = (11, own, idx, (-n).toNat, 1)) && decide (n ≤ 0)))))
    | .ldc k => ok && (ip_dc b q nx (.ldc idx) 2 && (decide (k < 13) && (decide ((ip_ST.getD k ("", 0, "")).2.1 = idx) && decide ((ip_ST.getD k ("", 0, "")).1 = ip_CN own))))
    | .getstatic k => ok && (ip_dc b q nx (.getstatic idx) 3 && ((decide (k = 0) && decide (ip_et pos = (0, own, idx, 12, 2))) || (decide (k = 1) && decide (ip_et pos = (0, own, idx, 14, 0)))))
    | .getfield g => ok && (ip_dc b q nx (.getfield idx) 3 && (if g = 1280 then decide (ip_et pos = (0, own, idx, 12, 0)) else if g = 1281 then decide (ip_et pos = (0, own, idx, 12, 1)) else ip_fchk own g t idx pos))
    | .putfield g => ok && (ip_dc b q nx (.putfield idx) 3 && (ip_fchk own g t idx pos && (decide ((ip_FT (g / 64) (g % 64)).2.2.2 = false) || (decide ((ip_FT (g / 64) (g % 64)).2.2.2 = true) && (decide (t = 0) && (decide (g / 64 = own) && decide (ip_rc m = 5)))))))
    | .iaload => ok && ip_dc b q nx .iaload 1
    | .caload => ok && ip_dc b q nx .iaload 1
    | .baload => ok && ip_dc b q nx .baload 1
    | .faload => ok && ip_dc b q nx .baload 1
    | .aaload => ok && ip_dc b q nx .aaload 1
    | .iastore => ok && ip_dc b q nx .iastore 1
    | .bastore => ok && ip_dc b q nx .bastore 1
    | .aastore => ok && ip_dc b q nx .aastore 1
    | .arraylength => ok && ip_dc b q nx .arraylength 1
    | .saload => ok && ip_dc b q nx .arraylength 1
    | .laload => ok && ip_dc b q nx .arraylength 1
    | .newarray ty => ok && ip_dc b q nx (.newarray ty) 2
    | .anewarray k => ok && (ip_dc b q nx (.anewarray idx) 3 && (decide (ip_et pos = (9, own, idx, if k = 2 then 7 else 5, 0)) && (decide (k = 2) || decide (k = 3))))
    | .new ci => ok && (ip_dc b q nx (.new idx) 3 && (decide (ip_et pos = (9, own, idx, ci, 0)) && decide (ci < 9)))
    | .dup => ok && ip_dc b q nx .dup 1
    | .pop => ok && ip_dc b q nx .pop 1
    | .pop2 => ok && ip_dc b q nx .pop2 1
    | .goto _ => ip_inr m t && ip_db b q (.goto ((ip_pc m t : Int) - (q : Int)))
    | .ifCond c _ => ip_inr m t && (ok && (decide (nx = q + 3) && ip_db b q (.ifCond c ((ip_pc m t : Int) - (q : Int)))))
    | .if_icmp c _ => ip_inr m t && (ok && (decide (nx = q + 3) && ip_db b q (.if_icmp c ((ip_pc m t : Int) - (q : Int)))))
    | .lookupswitch d ps => match ps.toList with
      | [] => false
      | (lo, t0) :: r => (ip_inr m d.toNat && ps.toList.all (fun y => ip_inr m y.2.toNat)) && (match ip_swo m q lo ((lo, t0) :: r) with
        | some offs => decide (decode b q = .ok (.tableswitch ((ip_pc m d.toNat : Int) - (q : Int)) lo (lo + (r.length : Int)) offs.toArray, nx - q))
        | none => false)
    | .iadd => ok && ip_dc b q nx .iadd 1
    | .isub => ok && ip_dc b q nx .isub 1
    | .imul => ok && ip_dc b q nx .imul 1
    | .idiv => ok && ip_dc b q nx .idiv 1
    | .irem => ok && ip_dc b q nx .irem 1
    | .ineg => ok && ip_dc b q nx .ineg 1
    | .iand => ok && ip_dc b q nx .iand 1
    | .ior => ok && ip_dc b q nx .ior 1
    | .ixor => ok && ip_dc b q nx .ixor 1
    | .ishl => ok && ip_dc b q nx .ishl 1
    | .ishr => ok && ip_dc b q nx .ishr 1
    | .iushr => ok && ip_dc b q nx .iushr 1
    | .i2l => ok && ip_dc b q nx .i2l 1
    | .l2i => ok && ip_dc b q nx .l2i 1
    | .i2b => ok && ip_dc b q nx .i2b 1
    | .i2s => ok && ip_dc b q nx .i2s 1
    | .i2c => ok && ip_dc b q nx .i2c 1
    | .ladd => ok && ip_dc b q nx .ladd 1
    | .lsub => ok && ip_dc b q nx .lsub 1
    | .lmul => ok && ip_dc b q nx .lmul 1
    | .ldiv => ok && ip_dc b q nx .ldiv 1
    | .lrem => ok && ip_dc b q nx .lrem 1
    | .lcmp => ok && ip_dc b q nx .lcmp 1
    | .invokevirtual k => ok && ((if k = 5 then ip_dc b q nx (.invokespecial idx) 3 else ip_dc b q nx (.invokestatic idx) 3) && (decide (ip_et pos = (2, own, idx, 900 + k, 0)) && (decide (k = 0) || (decide (k = 1) || (decide (k = 4) || decide (k = 5))))))
    | .invokestatic k => if k = 999 then true else
      ok && (decide (k < 233) && (match t with
        | 0 => decide (10 ≤ ip_rc k) && (ip_dc b q nx (.invokevirtual idx) 3 && decide (ip_et pos = (2, own, idx, k, 0)))
        | 2 => decide (ip_rc k = 5) && (ip_dc b q nx (.invokespecial idx) 3 && decide (ip_et pos = (2, own, idx, k, 0)))
        | 3 => decide (ip_rc k = 5) && (ip_dc b q nx (.invokespecial idx) 3 && decide (ip_et pos = (3, own, idx, k, 0)))
        | 4 => decide (ip_rc k = 0) && (ip_dc b q nx (.invokestatic idx) 3 && decide (ip_et pos = (2, own, idx, k, 0)))
        | 5 => decide (ip_rc k = 0) && (ip_dc b q nx (.invokestatic idx) 3 && decide (ip_et pos = (3, own, idx, k, 0)))
        | _ => false))
    | .ireturn => ip_dc b q (q + 1) .ireturn 1
    | .lreturn => ip_dc b q (q + 1) .lreturn 1
    | .areturn => ip_dc b q (q + 1) .areturn 1
    | .return_ => ip_dc b q (q + 1) .return_ 1
    | _ => true
def ip_ckn (m own : Nat) (b : ByteArray) : Nat → List ip_I → Bool
  | 0, _ => true
  | _ + 1, [] => true
  | _ + 1, [y] => ip_ck m own b false 0 y
  | k + 1, y :: z :: r => ip_ck m own b true z.1 y && ip_ckn m own b k (z :: r)
theorem ip_ckn_at {m own : Nat} {b : ByteArray} : ∀ (k : Nat) (l : List ip_I), ip_ckn m own b k l = true → ∀ (i : Nat) (y : ip_I), i < k → l[i]? = some y → ∃ ok, ip_ck m own b ok (match l[i + 1]? with
    | some z => z.1
    | none => 0) y = true := by
  intro k
  induction k with
  | zero => intro l _ i y hi; omega
  | succ k ih =>
    intro l hl i y hi hy
    match l, hl, hy with
    | [], _, hy => simp at hy
    | [z], hl, hy =>
      cases i with
      | zero =>
        simp at hy
        subst hy
        exact ⟨false, hl⟩
      | succ i => simp at hy
    | z :: z2 :: r, hl, hy =>
      rw [ip_ckn, Bool.and_eq_true] at hl
      cases i with
      | zero =>
        simp at hy
        subst hy
        exact ⟨true, hl.1⟩
      | succ i =>
        rw [List.getElem?_cons_succ] at hy ⊢
        exact ih (z2 :: r) hl.2 i y (by omega) hy
theorem ip_ckB {m own j k : Nat} {b : ByteArray} {l : List ip_I} (hm : (ip_me m).2.2.2.2.2 = l) (ho : ip_cid m = own) (hb : ip_by m = b) (h : ip_ckn m own b k (l.drop j) = true) : ∀ i y, j ≤ i → i < j + k → ip_ins m i = some y → ∃ ok, ip_ck m (ip_cid m) (ip_by m) ok (ip_pc m (i + 1)) y = true := by
  intro i y h1 h2 hy
  subst ho; subst hb
  have hy2 : l[i]? = some y := by unfold ip_ins at hy; rw [hm] at hy; exact hy
  have e : (l.drop j)[i - j]? = some y := by rw [List.getElem?_drop, show j + (i - j) = i by omega]; exact hy2
  obtain ⟨ok, h3⟩ := ip_ckn_at k _ h (i - j) y (by omega) e
  refine ⟨ok, ?_⟩
  have e2 : (l.drop j)[i - j + 1]? = ip_ins m (i + 1) := by
    unfold ip_ins
    rw [hm, List.getElem?_drop, show j + (i - j + 1) = i + 1 by omega]
  rw [e2] at h3
  exact h3
theorem ip_ins_lt {m n i : Nat} {l : List ip_I} {y : ip_I} (hm : (ip_me m).2.2.2.2.2 = l) (hn : l.length = n) (hy : ip_ins m i = some y) : i < n := by
  unfold ip_ins at hy
  rw [hm] at hy
  rw [← hn]
  exact (List.getElem?_eq_some_iff.mp hy).1
theorem ip_ckA {m own n : Nat} {b : ByteArray} {l : List ip_I} (hm : (ip_me m).2.2.2.2.2 = l) (ho : ip_cid m = own) (hb : ip_by m = b) (hn : l.length = n) (h : ip_ckn m own b n l = true) : ∀ i y, ip_ins m i = some y → ∃ ok, ip_ck m (ip_cid m) (ip_by m) ok (ip_pc m (i + 1)) y = true := by
  intro i y hy
  exact ip_ckB (j := 0) (k := n) hm ho hb h i y (Nat.zero_le _) (by have := ip_ins_lt hm hn hy; omega) hy
/-- what a caller must know of a method -/
def ip_mok (k : Nat) : Bool :=
  let y := (ip_me k).1
  let w := ip_MP.getD k (0, 0, 0, 0)
  decide (k < 900) && (plainName y.cls && (decide (y.cls = ip_CN (ip_cid k)) && (decide (y.cls ≠ "java/lang/invoke/MethodHandle") && (decide (y.cls ≠ "java/lang/invoke/VarHandle") &&
  (decide ((parseMethodDescriptor y.desc).map (fun d => d.parameters.length) = some (if ip_rc k = 0 then ip_na k else ip_na k - 1)) &&
  (decide (ip_et w.1 = (4, k, 0, 0, 0)) && (decide (ip_et w.2.1 = (8, ip_cid k, 0, 0, 0)) &&
  ((if ip_rc k = 0 then decide (ip_et w.2.2.1 = (6, k, 0, 0, 0)) else decide (ip_et w.2.2.1 = (5, k, 0, 0, 0))) &&
  ((if 10 ≤ ip_rc k then decide (ip_et w.2.2.2 = (7, k, 0, 0, 0)) else true) &&
  ((if ip_rc k = 5 then decide (y.name = "<init>") && decide (ip_re k = none) else true) &&
  ((if 10 ≤ ip_rc k then (if ip_rc k = 30 then decide (ip_cid k = 12) else decide (ip_cid k = ip_rc k - 10) && decide (ip_rc k - 10 < 9)) else true) &&
  (decide (ip_ml k ≤ 20) && (decide (0 < ip_na k ∨ ip_rc k = 0) &&
  (match ip_rk k with
    | 0 => decide (ip_re k = some .int)
    | 1 => decide (ip_re k = some .boolean)
    | 2 => decide (ip_re k = some .byte)
    | 3 => decide (ip_re k = some .char)
    | 4 => decide (ip_re k = some .long)
    | 5 => decide (ip_re k = some (.object "java/lang/String"))
    | 9 => decide (ip_re k = none)
    | _ => false))))))))))))))
