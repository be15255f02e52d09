/-! the machine of the claim, small: a step, a run, and what is true behind it (wp) -/
abbrev ip_T : Type := (Nat × ip_L × List Value × ip_H) ⊕ ((Nat × List Value × Nat × ip_L × List Value) ⊕ Option Value)
def ip_dm : ip_MT := (⟨"", "", ""⟩, ⟨#[]⟩, 0, none, (0, 0, 0, 0), [])
def ip_me (m : Nat) : ip_MT := (ip_PR.getD (m / 16) []).getD (m % 16) ip_dm
def ip_ins (m i : Nat) : Option ip_I := (ip_me m).2.2.2.2.2[i]?
def ip_na (m : Nat) : Nat := (ip_me m).2.2.2.2.1.1
def ip_rc (m : Nat) : Nat := (ip_me m).2.2.2.2.1.2.1
def ip_rk (m : Nat) : Nat := (ip_me m).2.2.2.2.1.2.2.1
def ip_ml (m : Nat) : Nat := (ip_me m).2.2.1
def ip_kd (j : Nat) : Nat × Nat := ip_SH.getD j (99, 0)
def ip_fk (g : Nat) : Nat := (ip_FK.getD (g / 64) []).getD (g % 64) 9
def ip_up (S : ip_S) (a : Nat) (z v : Int) : ip_S := fun b y => if b = a ∧ y = z then v else S b y
def ip_ur (R : ip_R) (a : Nat) (z : Int) (v : Nat) : ip_R := fun b y => if b = a ∧ y = z then some v else R b y
def ip_cp (S : ip_S) (a : Nat) (s : Int) (b : Nat) (t n : Int) : ip_S := fun c y => if c = b ∧ t ≤ y ∧ y < t + n then S a (s + (y - t)) else S c y
abbrev vi (z : Int) : Value := .int (Int32.ofInt z)
abbrev vl (z : Int) : Value := .long (Int64.ofInt z)
def ip_w (z : Int) : Int := (Int32.ofInt z).toInt
def ip_w64 (z : Int) : Int := (Int64.ofInt z).toInt
/-- an object of class ci stands at a -/
def ip_isO (n a ci : Nat) : Prop := a < n ∧ (ip_kd a).1 = 10 + ci
/-- z is a place of the array of that tag at a -/
def ip_isA (n a tag : Nat) (z : Int) : Prop := a < n ∧ (ip_kd a).1 = tag ∧ 0 ≤ z ∧ z < ((ip_kd a).2 : Int)
def ip_isOb (n a ci : Nat) : Bool := decide (a < n) && decide ((ip_kd a).1 = 10 + ci)
def ip_isAb (n a tag : Nat) (z : Int) : Bool := decide (a < n) && (decide ((ip_kd a).1 = tag) && (decide (0 ≤ z) && decide (z < ((ip_kd a).2 : Int))))
def ip_tx (k : Nat) : List Int := ip_TX.getD k []
/-- what is left of a local whose neighbour is overwritten -/
def ip_fx (o : Option Value) : Option Value := match o with
  | some (.long _) => none
  | some (.double _) => none
  | o => o
def ip_fxa (ls : ip_L) (k : Nat) : ip_L := match k with
  | 0 => ls
  | j + 1 => ls.modify j ip_fx
def ip_st1 (ls : ip_L) (k : Nat) (v : Value) : Option ip_L := if k < ls.length then some ((ip_fxa ls k).set k (some v)) else none
def ip_st2 (ls : ip_L) (k : Nat) (v : Value) : Option ip_L := if k + 1 < ls.length then some (((ip_fxa ls k).set k (some v)).set (k + 1) none) else none
def ip_cond (c : ClassFile.Cond) (x y : Int) : Bool := match c with
  | .eq => decide (x = y)
  | .ne => !decide (x = y)
  | .lt => decide (x < y)
  | .ge => !decide (x < y)
  | .gt => decide (y < x)
  | .le => !decide (y < x)
def ip_sw (z : Int) (d : Int) : List (Int × Int) → Nat
  | [] => d.toNat
  | (v, t) :: r => if z = v then t.toNat else ip_sw z d r
def ip_rok (k : Nat) (x : Int32) : Bool := match k with
  | 0 => true
  | 1 => decide (x = 0) || decide (x = 1)
  | 2 => decide (-128 ≤ x.toInt) && decide (x.toInt < 128)
  | 3 => decide (0 ≤ x.toInt) && decide (x.toInt < 65536)
  | _ => false
/-- the receiver of a method -/
def ip_rcv (k n : Nat) (as : List Value) : Bool := match ip_rc k with
  | 0 => true
  | 5 => match as with
    | .ref a :: _ => decide (a < 900)
    | _ => false
  | 30 => match as with
    | .ref a :: _ => decide (901 ≤ a) && decide (a < 914)
    | _ => false
  | c => match as with
    | .ref a :: _ => ip_isOb n a (c - 10)
    | _ => false
def ip_nx (i : Nat) (ls : ip_L) (st : List Value) (h : ip_H) : Option ip_T := some (.inl (i, ls, st, h))
def ip_b2 (x : Int32) : Bool := decide (x = 0) || decide (x = 1)
def ip_cat (st : List Value) : Nat := (st.map fun v => v.category).sum
def ip_tag (ty : ArrayType) : Nat := match ty with
  | .int => 0
  | .boolean => 1
  | _ => 50
def ip_si (m : Nat) (x : Instr) (t i : Nat) (ls : ip_L) (st : List Value) (h : ip_H) : Option ip_T := match x with
  | .iload k => match ls[k]? with
    | some (some (.int v)) => ip_nx (i + 1) ls (.int v :: st) h
    | _ => none
  | .lload k => match ls[k]? with
    | some (some (.long v)) => ip_nx (i + 1) ls (.long v :: st) h
    | _ => none
  | .aload k => match ls[k]? with
    | some (some (.ref v)) => if v = 998 then none else ip_nx (i + 1) ls (.ref v :: st) h
    | _ => none
  | .istore k => match st with
    | .int v :: r => match ip_st1 ls k (.int v) with
      | some ls' => ip_nx (i + 1) ls' r h
      | none => none
    | _ => none
  | .astore k => match st with
    | .ref v :: r => match ip_st1 ls k (.ref v) with
      | some ls' => if v = 998 then none else ip_nx (i + 1) ls' r h
      | none => none
    | _ => none
  | .lstore k => match st with
    | .long v :: r => match ip_st2 ls k (.long v) with
      | some ls' => ip_nx (i + 1) ls' r h
      | none => none
    | _ => none
  | .iinc k n => match ls[k]? with
    | some (some (.int v)) => match ip_st1 ls k (.int (v + Int32.ofInt n)) with
      | some ls' => ip_nx (i + 1) ls' st h
      | none => none
    | _ => none
  | .iconst n => ip_nx (i + 1) ls (.int (Int32.ofInt n) :: st) h
  | .sipush n => ip_nx (i + 1) ls (.long (Int64.ofInt n) :: st) h
  | .ldc k => if k < 13 then ip_nx (i + 1) ls (.ref (901 + k) :: st) h else none
  | .getstatic k => if k = 0 then ip_nx (i + 1) ls (.int 1 :: st) h else ip_nx (i + 1) ls (.ref 998 :: st) h
  | .getfield g => match st with
    | .ref a :: r =>
      if g = 1280 then (if (decide (901 ≤ a) && decide (a < 914)) = true then ip_nx (i + 1) ls (.ref (a + 50) :: r) h else none)
      else if g = 1281 then (if (decide (901 ≤ a) && decide (a < 914)) = true then ip_nx (i + 1) ls (.int 0 :: r) h else none)
      else if ip_isOb h.1 a (g / 64) = true then
        match ip_fk g with
        | 0 => ip_nx (i + 1) ls (.int (Int32.ofInt (h.2.1 a (g % 64 : Nat))) :: r) h
        | 1 => ip_nx (i + 1) ls (.int (Int32.ofInt (h.2.1 a (g % 64 : Nat))) :: r) h
        | 2 => match h.2.2.1 a (g % 64 : Nat) with
          | some b => ip_nx (i + 1) ls (.ref b :: r) h
          | none => none
        | 3 => ip_nx (i + 1) ls (.long (Int64.ofInt (h.2.2.2 a (g % 64 : Nat))) :: r) h
        | _ => none
      else none
    | _ => none
  | .putfield g => match st with
    | v :: .ref a :: r => if ip_isOb h.1 a (g / 64) = true then
        match ip_fk g, v with
        | 0, .int x => ip_nx (i + 1) ls r (h.1, ip_up h.2.1 a (g % 64 : Nat) x.toInt, h.2.2.1, h.2.2.2)
        | 1, .int x => if ip_b2 x = true then ip_nx (i + 1) ls r (h.1, ip_up h.2.1 a (g % 64 : Nat) x.toInt, h.2.2.1, h.2.2.2) else none
        | 2, .ref b => if b < 900 then ip_nx (i + 1) ls r (h.1, h.2.1, ip_ur h.2.2.1 a (g % 64 : Nat) b, h.2.2.2) else none
        | 3, .long x => ip_nx (i + 1) ls r (h.1, h.2.1, h.2.2.1, ip_up h.2.2.2 a (g % 64 : Nat) x.toInt)
        | _, _ => none
      else none
    | _ => none
  | .iaload => match st with
    | .int z :: .ref a :: r =>
      if ip_isAb h.1 a 0 z.toInt = true then ip_nx (i + 1) ls (.int (Int32.ofInt (h.2.1 a z.toInt)) :: r) h else none
    | _ => none
  | .caload => match st with
    | .int z :: .ref a :: r =>
      if (decide (a = 900) && (decide (0 ≤ z.toInt) && decide (z.toInt < h.2.1 900 (-1)))) = true then ip_nx (i + 1) ls (.int (Int32.ofInt (h.2.1 900 z.toInt)) :: r) h else none
    | _ => none
  | .saload => match st with
    | .ref a :: r => if a = 900 then ip_nx (i + 1) ls (.int (Int32.ofInt (h.2.1 900 (-1))) :: r) h else none
    | _ => none
  | .laload => match st with
    | .ref a :: r => if (decide (951 ≤ a) && decide (a < 964)) = true then ip_nx (i + 1) ls (.int (Int32.ofInt ((ip_tx (a - 951)).length : Int)) :: r) h else none
    | _ => none
  | .faload => match st with
    | .int z :: .ref a :: r =>
      if (decide (951 ≤ a) && (decide (a < 964) && (decide (0 ≤ z.toInt) && decide (z.toInt < ((ip_tx (a - 951)).length : Int))))) = true then
        ip_nx (i + 1) ls (.int (Int32.ofInt ((ip_tx (a - 951)).getD z.toInt.toNat 0)) :: r) h else none
    | _ => none
  | .baload => match st with
    | .int z :: .ref a :: r =>
      if ip_isAb h.1 a 1 z.toInt = true then ip_nx (i + 1) ls (.int (Int32.ofInt (h.2.1 a z.toInt)) :: r) h else none
    | _ => none
  | .aaload => match st with
    | .int z :: .ref a :: r => if (ip_isAb h.1 a 2 z.toInt || ip_isAb h.1 a 3 z.toInt) = true then
        (match h.2.2.1 a z.toInt with
        | some b => ip_nx (i + 1) ls (.ref b :: r) h
        | none => none)
      else none
    | _ => none
  | .iastore => match st with
    | .int x :: .int z :: .ref a :: r => if ip_isAb h.1 a 0 z.toInt = true then ip_nx (i + 1) ls r (h.1, ip_up h.2.1 a z.toInt x.toInt, h.2.2.1, h.2.2.2) else none
    | _ => none
  | .bastore => match st with
    | .int x :: .int z :: .ref a :: r => if (decide (79 ≤ h.1) && (ip_isAb h.1 a 1 z.toInt && ip_b2 x)) = true then ip_nx (i + 1) ls r (h.1, ip_up h.2.1 a z.toInt x.toInt, h.2.2.1, h.2.2.2) else none
    | _ => none
  | .aastore => match st with
    | .ref b :: .int z :: .ref a :: r =>
      if (ip_isAb h.1 a 2 z.toInt && ip_isOb h.1 b 7 || ip_isAb h.1 a 3 z.toInt && ip_isOb h.1 b 5) = true then ip_nx (i + 1) ls r (h.1, h.2.1, ip_ur h.2.2.1 a z.toInt b, h.2.2.2) else none
    | _ => none
  | .arraylength => match st with
    | .ref a :: r =>
      if (decide (a < h.1) && decide ((ip_kd a).1 = 0)) = true then ip_nx (i + 1) ls (.int (Int32.ofInt ((ip_kd a).2 : Int)) :: r) h else none
    | _ => none
  | .newarray ty => match st with
    | .int z :: r => if (decide ((ip_kd h.1).1 = ip_tag ty) && (decide (ip_tag ty < 2) && decide (z.toInt = ((ip_kd h.1).2 : Int)))) = true then ip_nx (i + 1) ls (.ref h.1 :: r) (h.1 + 1, h.2) else none
    | _ => none
  | .anewarray tag => match st with
    | .int z :: r => if ((decide (tag = 2) || decide (tag = 3)) && (decide ((ip_kd h.1).1 = tag) && decide (z.toInt = ((ip_kd h.1).2 : Int)))) = true then ip_nx (i + 1) ls (.ref h.1 :: r) (h.1 + 1, h.2) else none
    | _ => none
  | .new ci => if (decide (ci < 9) && decide ((ip_kd h.1).1 = 10 + ci)) = true then ip_nx (i + 1) ls (.ref h.1 :: st) (h.1 + 1, h.2) else none
  | .dup => match st with
    | v :: r => if v.category = 1 then ip_nx (i + 1) ls (v :: v :: r) h else none
    | _ => none
  | .pop => match st with
    | v :: r => if v.category = 1 then ip_nx (i + 1) ls r h else none
    | _ => none
  | .pop2 => match st with
    | v :: r => if v.category = 2 then ip_nx (i + 1) ls r h else none
    | _ => none
  | .goto _ => ip_nx t ls st h
  | .ifCond c _ => match st with
    | .int x :: r => if ip_cond c x.toInt 0 = true then ip_nx t ls r h else ip_nx (i + 1) ls r h
    | _ => none
  | .if_icmp c _ => match st with
    | .int y :: .int x :: r => if ip_cond c x.toInt y.toInt = true then ip_nx t ls r h else ip_nx (i + 1) ls r h
    | _ => none
  | .lookupswitch d ps => match st with
    | .int x :: r => ip_nx (ip_sw x.toInt d ps.toList) ls r h
    | _ => none
  | .iadd => match st with
    | .int y :: .int x :: r => ip_nx (i + 1) ls (.int (x + y) :: r) h
    | _ => none
  | .isub => match st with
    | .int y :: .int x :: r => ip_nx (i + 1) ls (.int (x - y) :: r) h
    | _ => none
  | .imul => match st with
    | .int y :: .int x :: r => ip_nx (i + 1) ls (.int (x * y) :: r) h
    | _ => none
  | .idiv => match st with
    | .int y :: .int x :: r => if y = 0 then none else ip_nx (i + 1) ls (.int (x / y) :: r) h
    | _ => none
  | .irem => match st with
    | .int y :: .int x :: r => if y = 0 then none else ip_nx (i + 1) ls (.int (x - x / y * y) :: r) h
    | _ => none
  | .ineg => match st with
    | .int x :: r => ip_nx (i + 1) ls (.int (-x) :: r) h
    | _ => none
  | .iand => match st with
    | .int y :: .int x :: r => ip_nx (i + 1) ls (.int (x &&& y) :: r) h
    | _ => none
  | .ior => match st with
    | .int y :: .int x :: r => ip_nx (i + 1) ls (.int (x ||| y) :: r) h
    | _ => none
  | .ixor => match st with
    | .int y :: .int x :: r => ip_nx (i + 1) ls (.int (x ^^^ y) :: r) h
    | _ => none
  | .ishl => match st with
    | .int y :: .int x :: r => ip_nx (i + 1) ls (.int (x <<< (y &&& 31)) :: r) h
    | _ => none
  | .ishr => match st with
    | .int y :: .int x :: r => ip_nx (i + 1) ls (.int (x >>> (y &&& 31)) :: r) h
    | _ => none
  | .iushr => match st with
    | .int y :: .int x :: r => ip_nx (i + 1) ls (.int (x.toUInt32 >>> (y.toUInt32 &&& Int32.toUInt32 31)).toInt32 :: r) h
    | _ => none
  | .i2l => match st with
    | .int x :: r => ip_nx (i + 1) ls (.long x.toInt64 :: r) h
    | _ => none
  | .l2i => match st with
    | .long x :: r => ip_nx (i + 1) ls (.int x.toInt32 :: r) h
    | _ => none
  | .i2b => match st with
    | .int x :: r => ip_nx (i + 1) ls (.int x.toInt8.toInt32 :: r) h
    | _ => none
  | .i2s => match st with
    | .int x :: r => ip_nx (i + 1) ls (.int x.toInt16.toInt32 :: r) h
    | _ => none
  | .i2c => match st with
    | .int x :: r => ip_nx (i + 1) ls (.int (x.toUInt32 % 65536).toInt32 :: r) h
    | _ => none
  | .ladd => match st with
    | .long y :: .long x :: r => ip_nx (i + 1) ls (.long (x + y) :: r) h
    | _ => none
  | .lsub => match st with
    | .long y :: .long x :: r => ip_nx (i + 1) ls (.long (x - y) :: r) h
    | _ => none
  | .lmul => match st with
    | .long y :: .long x :: r => ip_nx (i + 1) ls (.long (x * y) :: r) h
    | _ => none
  | .ldiv => match st with
    | .long y :: .long x :: r => if y = 0 then none else ip_nx (i + 1) ls (.long (x / y) :: r) h
    | _ => none
  | .lrem => match st with
    | .long y :: .long x :: r => if y = 0 then none else ip_nx (i + 1) ls (.long (x - x / y * y) :: r) h
    | _ => none
  | .lcmp => match st with
    | .long y :: .long x :: r => ip_nx (i + 1) ls (.int (lg_cmp x y) :: r) h
    | _ => none
  | .invokevirtual b => match b, st with
    | 0, .int y :: .int x :: r => if ip_cat r ≤ 8 then ip_nx (i + 1) ls (.int (if x < y then y else x) :: r) h else none
    | 1, .int y :: .int x :: r => if ip_cat r ≤ 8 then ip_nx (i + 1) ls (.int (if y < x then y else x) :: r) h else none
    | 4, .int n :: .int dp :: .ref a :: .int sp :: .ref b :: r =>
      if (decide (79 ≤ h.1) && (decide (ip_cat r ≤ 8) && (decide (0 ≤ n.toInt) && (ip_isAb h.1 a 0 0 && (ip_isAb h.1 b 0 0 && (decide (0 ≤ sp.toInt) && (decide (sp.toInt + n.toInt ≤ ((ip_kd b).2 : Int)) && (decide (0 ≤ dp.toInt) && decide (dp.toInt + n.toInt ≤ ((ip_kd a).2 : Int)))))))))) = true
      then ip_nx (i + 1) ls r (h.1, ip_cp h.2.1 b sp.toInt a dp.toInt n.toInt, h.2.2.1, h.2.2.2) else none
    | 5, .ref a :: r => if (decide (a < 900) && decide (ip_cat r ≤ 8)) = true then ip_nx (i + 1) ls r h else none
    | _, _ => none
  | .invokestatic k => let as := (st.take (ip_na k)).reverse
    if (decide (k < 233) && (decide (as.length = ip_na k) && (ip_rcv k h.1 as && decide (ip_cat (st.drop (ip_na k)) ≤ 8)))) = true then some (.inr (.inl (k, as, i + 1, ls, st.drop (ip_na k)))) else none
  | .ireturn => match st with
    | [.int x] => if ip_rok (ip_rk m) x = true then some (.inr (.inr (some (.int x)))) else none
    | _ => none
  | .lreturn => match st with
    | [.long x] => if ip_rk m = 4 then some (.inr (.inr (some (.long x)))) else none
    | _ => none
  | .areturn => match st with
    | [.ref x] => if (decide (ip_rk m = 5) && decide (x ≠ 998)) = true then some (.inr (.inr (some (.ref x)))) else none
    | _ => none
  | .return_ => match st with
    | [] => if ip_rk m = 9 then some (.inr (.inr none)) else none
    | _ => none
  | _ => none
def ip_stp (m i : Nat) (ls : ip_L) (st : List Value) (h : ip_H) : Option ip_T := match ip_ins m i with
  | some (_, x, t, _, _) => ip_si m x t i ls st h
  | none => none
def ip_ev (cal : Nat → List Value → ip_H → Option (Option Value × ip_H)) (m : Nat) : Nat → Nat → ip_L → List Value → ip_H → Option (Option Value × ip_H)
  | 0, _, _, _, _ => none
  | f + 1, i, ls, st, h => match ip_stp m i ls st h with
    | none => none
    | some (.inl (i', ls', st', h')) => ip_ev cal m f i' ls' st' h'
    | some (.inr (.inl (k, as, i', ls', st'))) => match cal k as h with
      | none => none
      | some (r, h') => ip_ev cal m f i' ls' (r.toList ++ st') h'
    | some (.inr (.inr r)) => some (r, h)
/-- the locals at a method's start: a long takes two -/
def ip_sl : List Value → ip_L
  | [] => []
  | v :: r => if v.category = 2 then some v :: none :: ip_sl r else some v :: ip_sl r
def ip_ent (m : Nat) (as : List Value) : ip_L := ip_sl as ++ List.replicate (ip_ml m - (ip_sl as).length) none
def ip_run : Nat → Nat → Nat → List Value → ip_H → Option (Option Value × ip_H)
  | 0, _, _, _, _ => none
  | d + 1, F, m, as, h => if (ip_sl as).length ≤ ip_ml m then ip_ev (ip_run d F) m F 0 (ip_ent m as) [] h else none
def ip_wp (d m i : Nat) (ls : ip_L) (st : List Value) (n : Nat) (S : ip_S) (R : ip_R) (L : ip_S) (Q : Option Value → Nat → ip_S → ip_R → ip_S → Prop) : Prop :=
  ∃ F f r h', ip_ev (ip_run d F) m f i ls st (n, S, R, L) = some (r, h') ∧ Q r h'.1 h'.2.1 h'.2.2.1 h'.2.2.2
def ip_wc (d m : Nat) (as : List Value) (n : Nat) (S : ip_S) (R : ip_R) (L : ip_S) (Q : Option Value → Nat → ip_S → ip_R → ip_S → Prop) : Prop :=
  ∃ F r h', ip_run d F m as (n, S, R, L) = some (r, h') ∧ Q r h'.1 h'.2.1 h'.2.2.1 h'.2.2.2
theorem ip_ev_more {cal cal' : Nat → List Value → ip_H → Option (Option Value × ip_H)} (hc : ∀ k as h r, cal k as h = some r → cal' k as h = some r) (m : Nat) : ∀ (f f' : Nat), f ≤ f' → ∀ i ls st h r, ip_ev cal m f i ls st h = some r → ip_ev cal' m f' i ls st h = some r := by
  intro f
  induction f with
  | zero => intro f' _ i ls st h r hr; simp [ip_ev] at hr
  | succ f ih =>
    intro f' hf i ls st h r hr
    obtain ⟨f2, rfl⟩ : ∃ f2, f' = f2 + 1 := ⟨f' - 1, by omega⟩
    rw [ip_ev] at hr ⊢
    cases hs : ip_stp m i ls st h with
    | none => rw [hs] at hr; simp at hr
    | some q =>
      rw [hs] at hr
      rcases q with ⟨i', ls', st', h'⟩ | ⟨k, as, i', ls', st'⟩ | q
      · exact ih f2 (by omega) _ _ _ _ _ hr
      · dsimp only at hr ⊢
        cases hk : cal k as h with
        | none => rw [hk] at hr; simp at hr
        | some y =>
          rw [hk] at hr
          rw [hc _ _ _ _ hk]
          exact ih f2 (by omega) _ _ _ _ _ hr
      · exact hr
theorem ip_run_more : ∀ (d F F' : Nat), F ≤ F' → ∀ m as h r, ip_run d F m as h = some r → ip_run d F' m as h = some r := by
  intro d
  induction d with
  | zero => intro F F' _ m as h r hr; simp [ip_run] at hr
  | succ d ih =>
    intro F F' hF m as h r hr
    rw [ip_run] at hr ⊢
    by_cases hl : (ip_sl as).length ≤ ip_ml m
    · rw [if_pos hl] at hr ⊢
      exact ip_ev_more (fun k as h r q => ih F F' hF k as h r q) m F F' hF _ _ _ _ _ hr
    · rw [if_neg hl] at hr; simp at hr
section IPW
variable {d m i : Nat} {ls : ip_L} {st : List Value} {n : Nat} {S : ip_S} {R : ip_R} {L : ip_S} {Q : Option Value → Nat → ip_S → ip_R → ip_S → Prop}
theorem ip_next {i' : Nat} {ls' : ip_L} {st' : List Value} {n' : Nat} {S' : ip_S} {R' : ip_R} {L' : ip_S} (h : ip_stp m i ls st (n, S, R, L) = some (.inl (i', ls', st', (n', S', R', L')))) : ip_wp d m i ls st n S R L Q = ip_wp d m i' ls' st' n' S' R' L' Q := by
  apply propext
  constructor
  · rintro ⟨F, f, r, h', he, hq⟩
    cases f with
    | zero => simp [ip_ev] at he
    | succ f => rw [ip_ev, h] at he; exact ⟨F, f, r, h', he, hq⟩
  · rintro ⟨F, f, r, h', he, hq⟩
    exact ⟨F, f + 1, r, h', by rw [ip_ev, h]; exact he, hq⟩
theorem ip_stop (h : ip_stp m i ls st (n, S, R, L) = none) : ip_wp d m i ls st n S R L Q = False := by
  apply propext
  constructor
  · rintro ⟨F, f, r, h', he, hq⟩
    cases f with
    | zero => simp [ip_ev] at he
    | succ f => rw [ip_ev, h] at he; simp at he
  · exact False.elim
theorem ip_call {k i' : Nat} {as : List Value} {ls' : ip_L} {st' : List Value} (h : ip_stp m i ls st (n, S, R, L) = some (.inr (.inl (k, as, i', ls', st')))) : ip_wp d m i ls st n S R L Q = ip_wc d k as n S R L (fun r n S R L => ip_wp d m i' ls' (r.toList ++ st') n S R L Q) := by
  apply propext
  constructor
  · rintro ⟨F, f, r, h', he, hq⟩
    cases f with
    | zero => simp [ip_ev] at he
    | succ f =>
      rw [ip_ev, h] at he
      dsimp only at he
      cases hk : ip_run d F k as (n, S, R, L) with
      | none => rw [hk] at he; simp at he
      | some y => rw [hk] at he; exact ⟨F, y.1, y.2, hk, F, f, r, h', he, hq⟩
  · rintro ⟨F, r1, h1, hk, F2, f, r, h', he, hq⟩
    refine ⟨F + F2, f + 1, r, h', ?_, hq⟩
    rw [ip_ev, h]
    dsimp only
    rw [ip_run_more d F (F + F2) (by omega) _ _ _ _ hk]
    exact ip_ev_more (fun k as h r q => ip_run_more d F2 (F + F2) (by omega) k as h r q) m f f (Nat.le_refl _) _ _ _ _ _ he
theorem ip_retn {r : Option Value} (h : ip_stp m i ls st (n, S, R, L) = some (.inr (.inr r))) : ip_wp d m i ls st n S R L Q = Q r n S R L := by
  apply propext
  constructor
  · rintro ⟨F, f, r', h', he, hq⟩
    cases f with
    | zero => simp [ip_ev] at he
    | succ f =>
      rw [ip_ev, h] at he
      cases he
      exact hq
  · intro hq
    exact ⟨0, 1, r, (n, S, R, L), by rw [ip_ev, h], hq⟩
theorem ip_wcS {as : List Value} (hl : (ip_sl as).length ≤ ip_ml m) : ip_wc (d + 1) m as n S R L Q = ip_wp d m 0 (ip_ent m as) [] n S R L Q := by
  apply propext
  constructor
  · rintro ⟨F, r, h', he, hq⟩
    rw [ip_run, if_pos hl] at he
    exact ⟨F, F, r, h', he, hq⟩
  · rintro ⟨F, f, r, h', he, hq⟩
    refine ⟨F + f, r, h', ?_, hq⟩
    rw [ip_run, if_pos hl]
    exact ip_ev_more (fun k as h r q => ip_run_more d F (F + f) (by omega) k as h r q) m f (F + f) (by omega) _ _ _ _ _ he
theorem ip_stp_of {q t a b : Nat} {x : Instr} (hi : ip_ins m i = some (q, x, t, a, b)) {h : ip_H} : ip_stp m i ls st h = ip_si m x t i ls st h := by
  rw [ip_stp, hi]
/-- the same, behind every answer -/
theorem ip_wc_mono {as : List Value} {Q' : Option Value → Nat → ip_S → ip_R → ip_S → Prop} (h : ip_wc d m as n S R L Q) (hq : ∀ r n S R L, Q r n S R L → Q' r n S R L) : ip_wc d m as n S R L Q' := by
  obtain ⟨F, r, h', he, q⟩ := h
  exact ⟨F, r, h', he, hq _ _ _ _ _ q⟩
theorem ip_wp_mono {Q' : Option Value → Nat → ip_S → ip_R → ip_S → Prop} (h : ip_wp d m i ls st n S R L Q) (hq : ∀ r n S R L, Q r n S R L → Q' r n S R L) : ip_wp d m i ls st n S R L Q' := by
  obtain ⟨F, f, r, h', he, q⟩ := h
  exact ⟨F, f, r, h', he, hq _ _ _ _ _ q⟩
end IPW
