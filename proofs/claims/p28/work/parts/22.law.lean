theorem ip_ok : ip_Ok := by
  refine ⟨ip_cls_all, ip_ini_all, fun args s hts => ?_, ip_mok_all, ip_ck_all, ip_pc0_all⟩
  have g : ∀ w, w ∈ lw_tbl → goodWord w = true → w.before args s = true := fun w h1 h2 => hts w (List.mem_filter.mpr ⟨h1, h2⟩)
  exact ⟨⟨g _ kr_stMax rfl, g _ kr_stMin rfl, g _ ki_Math rfl, g _ kr_cdMax rfl, g _ kr_cdMin rfl⟩, ⟨g _ kr_naCp rfl, g _ kr_stCp rfl, g _ ki_System rfl⟩, g _ kr_imOb rfl, g _ kr_cdOb rfl⟩
/-! the premises on the String constants -/
def ip_stm (k : Nat) : Term := .string (ip_ST.getD k ("", 0, "")).1 (ip_ST.getD k ("", 0, "")).2.1
def ip_sval (k : Nat) : Term := .field (ip_stm k) "java/lang/String" "value" "[B"
def ip_sp (k : Nat) : List Jvm.Cond := [.exactly (ip_stm k) "java/lang/String", .eq (.field (ip_stm k) "java/lang/String" "coder" "B") (.int 0), .arrayOf (ip_sval k) .byte, .eq (.length (ip_sval k)) (.int (Int32.ofNat (ip_len.getD k 0)))] ++
  (List.range (ip_len.getD k 0)).map (fun j => .eq (.elem (ip_sval k) (.int (Int32.ofNat j))) (.int ((ip_byt.getD k []).getD j 0)))
def ip_prem : List Jvm.Cond := [Jvm.Cond.count 1, Jvm.Cond.isRef (.arg 0)] ++ (ip_pr0 ++ (List.range 13).flatMap (fun k => ip_sp k ++ (List.range k).map (fun i => Jvm.Cond.not (.eq (ip_stm i) (ip_stm k)))))
set_option maxRecDepth 100000 in
theorem ip_premE : flatC (Jvm.Cond.and given_1 narrow_1) = ip_prem := by rfl
theorem ip_pm {args : Array Value} {s : State} (h : (Jvm.Cond.and given_1 narrow_1).before args s = true) : ∀ c ∈ ip_prem, c.before args s = true := by
  rw [← ip_premE]
  exact flat_of_before _ h
theorem ip_pmS {args : Array Value} {s : State} (h : (Jvm.Cond.and given_1 narrow_1).before args s = true) {k : Nat} (hk : k < 13) {c : Jvm.Cond} (hc : c ∈ ip_sp k ++ (List.range k).map (fun i => Jvm.Cond.not (.eq (ip_stm i) (ip_stm k)))) : c.before args s = true :=
  ip_pm h c (List.mem_append_right _ (List.mem_append_right _ (List.mem_flatMap.mpr ⟨k, List.mem_range.mpr hk, hc⟩)))
theorem ip_strs {args : Array Value} {s : State} (h : (Jvm.Cond.and given_1 narrow_1).before args s = true) {A : Nat → Prop} (hA : ∀ a : Nat, a < s.heap.size → ¬ A a) : ∃ adK adV : Nat → Nat, vk_S 13 ip_len ip_byt adK adV A s s.heap ∧ ∀ i : Nat, i < 13 → (ip_stm i).eval args s none [] s = some (.ref (adK i)) := by
  refine vk_Sof (tm := ip_stm) (by decide +kernel) (fun i hi => ?_) (fun i hi => ?_) (fun i hi => ?_) (fun i hi => ?_) (fun i hi j hj => ?_) (fun i j hi hj hij => ?_) hA
  · exact ip_pmS h hi (List.mem_append_left _ (List.mem_append_left _ (List.mem_of_getElem? (i := 0) rfl)))
  · exact ip_pmS h hi (List.mem_append_left _ (List.mem_append_left _ (List.mem_of_getElem? (i := 1) rfl)))
  · exact ip_pmS h hi (List.mem_append_left _ (List.mem_append_left _ (List.mem_of_getElem? (i := 2) rfl)))
  · exact ip_pmS h hi (List.mem_append_left _ (List.mem_append_left _ (List.mem_of_getElem? (i := 3) rfl)))
  · exact ip_pmS h hi (List.mem_append_left _ (List.mem_append_right _ (List.mem_map.mpr ⟨j, List.mem_range.mpr hj, rfl⟩)))
  · rcases Nat.lt_or_gt_of_ne hij with q | q
    · exact Or.inl (ip_pmS h hj (List.mem_append_right _ (List.mem_map.mpr ⟨i, List.mem_range.mpr q, rfl⟩)))
    · exact Or.inr (ip_pmS h hi (List.mem_append_right _ (List.mem_map.mpr ⟨j, List.mem_range.mpr q, rfl⟩)))
def ip_S0 (f : Int → Int) : ip_S := fun a k => if a = 900 then f k else 0
def ip_fsc (L : Nat) (xs : Nat → Int32) : Int → Int := fun k => if k = -1 then (L : Int) else (xs k.toNat).toInt
theorem ip_lawret {q t a b i nx : Nat} {x : Instr} {ok : Bool} {ls : ip_L} {st : List Value} {h : ip_H} (hck : ip_ck 233 (ip_cid 233) (ip_by 233) ok nx (q, x, t, a, b) = true) (hs : ip_si 233 x t i ls st h = some (.inr (.inr (some (.int 1))))) : decode code q = .ok (.ireturn, 1) ∧ st = [.int 1] := by
  unfold ip_si at hs
  cases x with
  | ireturn =>
    dsimp only at hs
    simp only [ip_ck] at hck
    obtain ⟨hd, -⟩ := ip_dcI hck
    split at hs
    · split at hs
      · cases hs; exact ⟨hd, rfl⟩
      · cases hs
    · cases hs
  | lreturn =>
    exfalso
    dsimp only at hs
    split at hs
    · split at hs
      · simp at hs
      · cases hs
    · cases hs
  | areturn =>
    exfalso
    dsimp only at hs
    split at hs
    · split at hs
      · simp at hs
      · cases hs
    · cases hs
  | return_ =>
    exfalso
    dsimp only at hs
    split at hs
    · split at hs
      · simp at hs
      · cases hs
    · cases hs
  | _ =>
    exfalso
    dsimp only at hs
    first
      | (cases hs; done)
      | (repeat' (split at hs)
         all_goals (cases hs; done))
/-- the law's body, out of a run of the small machine -/
theorem ip_start {p : Program} {e : Env} {s : State} {m : MethodId} {below : List Frame} {meth : Method} {c : Code} (l : Launch) {b L : Nat} {xs : Nat → Int32} (C0 : lw_At p s m meth c b L xs)
    (hrun : ip_wp 100 233 0 [some (.ref 900), none, none, none] [] 0 (ip_S0 (ip_fsc L xs)) (fun _ _ => none) (fun _ _ => 0) (fun r _ _ _ _ => r = some (.int 1))) : W p l e room_1 s m #[Value.ref b] below meth c s.heap [] 0 0 (lw_Z below #[Value.ref b] s) (entryFrame m ([Value.ref b] : List Value).toArray 4) := by
  obtain ⟨hx, hb, hr, hml, hown, hts, hX, hbl, hlocks, hgv⟩ := C0
  have hW : ∀ w ∈ ip_W, w.before #[Value.ref b] s = true := fun w hw => hts w (List.mem_filter.mp hw).1
  -- the classes
  have hkn : ∀ ci, ci < 9 → ∃ (cC : ClassId) (iS : Nat → Nat), u_Kn s (ip_CN ci) (ip_FT ci) (ip_NF.getD ci 0) cC iS := fun ci hc =>
    u_known hW (ip_cls_all ci hc).2.1 (hW _ (ip_ini_all ci hc).1)
  have hkn2 : ∀ ci, ∃ q : ClassId × (Nat → Nat), ci < 9 → u_Kn s (ip_CN ci) (ip_FT ci) (ip_NF.getD ci 0) q.1 q.2 := fun ci => by
    by_cases hc : ci < 9
    · obtain ⟨cC, iS, h⟩ := hkn ci hc
      exact ⟨(cC, iS), fun _ => h⟩
    · exact ⟨(0, fun _ => 0), fun h => absurd h hc⟩
  obtain ⟨qd, hqd⟩ := Classical.axiomOfChoice hkn2
  obtain ⟨adK, adV, hvs, hve⟩ := ip_strs hgv (A := fun q => s.heap.size ≤ q) (fun a h q => by omega)
  have hN : ∀ a : Nat, a < s.heap.size → ¬ (fun q => s.heap.size ≤ q) a := fun a h q => by
    have : s.heap.size ≤ a := q
    omega
  have hZ1 : va_Z "java/lang/String" "COMPACT_STRINGS" "Z" (.int 1) (fun q => s.heap.size ≤ q) s s.heap := va_Zof (hts _ kr_lsC) (hts _ ki_String) (va_eqt (ip_pm hgv _ (List.mem_append_right _ (List.mem_append_left _ (List.mem_of_getElem? (i := 2) rfl))))) hN
  have hZ2 : va_Zq "jdk/internal/util/Preconditions" "SIOOBE_FORMATTER" "Ljava/util/function/BiFunction;" (fun q => s.heap.size ≤ q) s s.heap := va_Zqof (hts _ kr_lsS) (hts _ ki_Precond) (ip_pm hgv _ (List.mem_append_right _ (List.mem_append_left _ (List.mem_of_getElem? (i := 3) rfl)))) hN
  obtain ⟨fmt, hfmt, hfc⟩ : ∃ v : Value, va_Z "jdk/internal/util/Preconditions" "SIOOBE_FORMATTER" "Ljava/util/function/BiFunction;" v (fun q => s.heap.size ≤ q) s s.heap ∧ v.category = 1 := by
    rcases hZ2 with h | ⟨t, h⟩
    · exact ⟨_, h, rfl⟩
    · exact ⟨_, h, rfl⟩
  -- the classes of rows
  obtain ⟨cI, kI, pI, i1, i2, i3⟩ := Cond.arrayClass_spec (hts _ kr_acI)
  obtain ⟨cZ, kZ, pZ, z1, z2, z3⟩ := Cond.arrayClass_spec (hts _ kr_acZ)
  obtain ⟨pS, cS, kS, s1, -, s2, s3, s4⟩ := Cond.arrayOver_spec (hts _ kr_aoS)
  obtain ⟨pT, cT, kT, t1, -, t2, t3, t4⟩ := Cond.arrayOver_spec (hts _ kr_aoT)
  let E : ip_E := ((fun ci => (qd ci).1, fun ci => (qd ci).2), s.heap.size, b, adK, adV, fmt, fun t => if t = 0 then cI else if t = 1 then cZ else if t = 2 then cS else cT)
  have hV : ip_V E s := by
    refine ⟨⟨fun ci q hq => ?_, fun k q hk => ?_⟩, fun w hw hn => ?_, fun k hk => ?_, va_AO.of (hts _ kr_aoS), va_AO.of (hts _ kr_aoT)⟩
    · have hc : ci < 9 := (List.getElem?_eq_some_iff.mp hq).1
      have h2 := (ip_cls_all ci hc).1
      cases hq.symm.trans h2
      exact hqd ci hc
    · match k, hk with
      | 0, hk => cases hk; exact ⟨fun n z => ⟨fun k h => (by cases h), kI, i2, pI, i3⟩, i1⟩
      | 1, hk => cases hk; exact ⟨fun n z => ⟨fun k h => (by cases h), kZ, z2, pZ, z3⟩, z1⟩
      | 2, hk => cases hk; exact ⟨fun n z => ⟨fun k h => (by cases h), kS, s2, pS, s3⟩, kS, pS, s2, s3, s1, s4⟩
      | 3, hk => cases hk; exact ⟨fun n z => ⟨fun k h => (by cases h), kT, t2, pT, t3⟩, kT, pT, t2, t3, t1, t4⟩
      | n + 4, hk => cases hk
    · have h := hts w hw
      cases w with
      | fieldLinkNest a i b n d h2 => exact va_Nw.of rfl h
      | methodLinkNest a i x h2 => exact va_Nw.of rfl h
      | _ => simp [ip_isN] at hn
    · exact vk_R.of (hts _ (ks_all k hk)) (hve k hk)
  have hO : ip_out E (ip_fsc L xs) s s.heap := by
    refine ⟨⟨L, xs, hX, rfl, fun j hj => ?_⟩, hbl, hvs, hZ1, hfmt, hfc⟩
    unfold ip_fsc
    rw [if_neg (by omega), Int.toNat_natCast, Int32.ofInt_toInt]
  have hown2 : s.vm.findClass (ip_CN (ip_cid 233)) = some m.cls := hown
  have FF : ip_Fr E (ip_fsc L xs) 233 p s m #[Value.ref b] meth c := ⟨hx, hb, hml, hown2, hW, hlocks, fun h => absurd h (by decide +kernel), hV, hO, Nat.le_refl _⟩
  obtain ⟨F, ff, r, h', hev, hq⟩ := hrun
  obtain ⟨n', S', R', L'⟩ := h'
  subst hq
  have hmono := ip_ev_mono (fun k as h r h' q => ip_run_mono 100 F k as h r h' q) 233 ff 0 _ _ _ _ _ hev
  have hn79 : n' ≤ 79 := hmono.2 (Nat.zero_le _)
  have hsz9 : ip_sz n' ≤ ip_sz 79 := ip_sz_le hn79 (Nat.le_refl _)
  have hszv : ip_sz 79 ≤ 7302250 := by decide +kernel
  have hR0 : ip_Rel E (ip_fsc L xs) 0 (ip_S0 (ip_fsc L xs)) (fun _ _ => none) (fun _ _ => 0) s.heap := by
    refine ⟨fun k q hk => ?_, fun _ => rfl, ?_, fun j k _ hj => ⟨?_, rfl, rfl⟩, fun j k y h => by cases h⟩
    · simp [ip_ws] at hk
    · funext k; exact if_pos rfl
    · exact if_neg (by omega)
  have hll : ip_ll E (ip_ml 233) ((lg_sl ([Value.ref b]) ++ List.replicate (4 - (lg_sl ([Value.ref b])).length) Slot.unset).toArray) [some (.ref 900), none, none, none] := by
    have hh := lv_entry ([Value.ref b]) (n := 4) (Nat.le_of_ble_eq_true rfl)
    refine ⟨hh.1, rfl, hh.2.1, fun k v hk => ?_⟩
    match k, hk with
    | 0, hk =>
      simp at hk
      subst hk
      exact hh.2.2 (0, .ref b) List.mem_cons_self
    | 1, hk => simp at hk
    | 2, hk => simp at hk
    | 3, hk => simp at hk
    | n + 4, hk => simp at hk
  rw [lg_entry_eq]
  have key := ip_evW ip_ok (Rm := room_1) (n0 := 0) (Qf := lw_Z below #[Value.ref b] s) (l := l) (e := e) (below := below) (F := F) (ip_MetS ip_ok l E (ip_fsc L xs) 100) FF (by omega) hn79 ⟨by show n' - 0 ≤ 600000; omega, by show ip_sz n' - ip_sz 0 ≤ 7302250; omega⟩ ⟨by show 102 ≤ 2048; omega, by show 100 * 102 ≤ 84000; omega⟩ ?_ ff 0 _ [] 0 _ _ _ _ s.heap [] hev (Nat.le_refl _) hll hR0 va_S.rf
  · unfold ip_G at key
    rw [Nat.sub_self, Nat.sub_self, ip_pc0_all 233 (by omega)] at key
    exact key
  · intro i q t a b2 x ok nx ls st lsA H locs hck hs hl hR2 hS
    unfold ip_G
    obtain ⟨hd, rfl⟩ := ip_lawret hck hs
    refine va_forget (fun q hq => hS.2.2 q hq) ?_
    refine W.widen (k := 600000) (n := 7302250) (by omega) (by omega) ?_
    exact lw_ret hx hb hr hlocks hd
