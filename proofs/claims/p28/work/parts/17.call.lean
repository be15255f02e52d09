theorem ip_kd_len : ∀ j, j < 79 → (ip_kd j).2 ≤ 960 := by decide +kernel
theorem ip_sz_succ : ∀ j, j < 79 → ip_sz (j + 1) = ip_sz j + (ip_kd j).2 := by decide +kernel
theorem ip_kd_tag {j t : Nat} (h : (ip_kd j).1 = t) (ht : t ≠ 99) : j < 79 := by
  rcases Nat.lt_or_ge j 79 with q | q
  · exact q
  · rw [ip_kd_big q] at h; exact absurd h.symm ht
theorem ip_sz_mono : ∀ j, j < 79 → ip_sz j ≤ ip_sz (j + 1) := fun j h => by rw [ip_sz_succ j h]; omega
theorem ip_sz_le : ∀ {j k : Nat}, j ≤ k → k ≤ 79 → ip_sz j ≤ ip_sz k := by
  intro j k h
  induction h with
  | refl => exact fun _ => Nat.le_refl _
  | step h ih => exact fun hk => Nat.le_trans (ih (by omega)) (ip_sz_mono _ (by omega))
theorem ip_dflt : ∀ ci, ci < 9 → ∀ j, j < ip_NF.getD ci 0 → defaultValue (ip_ty ci j) = (match (match ip_ty ci j with
    | .int => 0
    | .boolean => 1
    | .long => 3
    | .object _ => 2
    | .array _ => 2
    | _ => 9) with
  | 2 => va_rf (Option.map (fun b => b) (none : Option Nat))
  | 3 => .long (Int64.ofInt 0)
  | _ => .int (Int32.ofInt 0)) := by decide +kernel
/-- a new cell behind the others -/
theorem ip_Rel.push {E : ip_E} {f : Int → Int} {n : Nat} {S : ip_S} {R : ip_R} {L : ip_S} {H H1 : Heap} (h : ip_Rel E f n S R L H) (h9 : n < 79) (hz : H1.size = E.2.1 + n + 1) (hq : ∀ q : Nat, q < E.2.1 + n → H1[q]? = H[q]?) (he : va_at E.1 ip_cls (E.2.1 + n, ip_ce E S R L n) H1) : ip_Rel E f (n + 1) S R L H1 := by
  obtain ⟨h1, h2, h3, h4, h5⟩ := h
  refine ⟨?_, fun _ => by rw [hz]; omega, h3, fun j k hj hj9 => h4 j k (by omega) hj9, h5⟩
  rw [ip_ws_push]
  refine (h1.kept (fun k q hk => ?_)).app (fun k q hk => ?_)
  · obtain ⟨hk1, rfl⟩ := ip_ws_inv hk
    exact hq _ (by show E.2.1 + k < E.2.1 + n; omega)
  · have hk0 : k < 1 := (List.getElem?_eq_some_iff.mp hk).1
    rw [show k = 0 by omega] at hk
    cases hk
    exact he
theorem ip_S_push {E : ip_E} {s : State} {H H1 : Heap} {locs : List Loc} {n : Nat} (hS : va_S (ip_A E) s.heap H locs) (hH : H.size = E.2.1 + n) (hz : H1.size = E.2.1 + n + 1) (hq : ∀ q : Nat, q < E.2.1 + n → H1[q]? = H[q]?) : va_S (ip_A E) s.heap H1 locs :=
  ⟨Nat.le_trans hS.1 (by omega), fun q h1 h2 => (hq q (by have := hS.1; omega)).trans (hS.2.1 q h1 h2), hS.2.2⟩
theorem sn_newa (ty : ArrayType) : ip_Snd (.newarray ty) := by
  intro p l e Rm s mid args below meth c Qf E f m i ls st n S R L q t a b ok nx H locs lsA n0 i' ls' st' n' S' R' L' F hck hnx hs hl hR hS hn0 hroom hfr kk
  obtain ⟨hx, hb, hml, hown, hts, hlk, hini, hV, hO, hsz⟩ := F
  simp only [ip_si] at hs
  simp only [ip_ck, Bool.and_eq_true, Bool.or_eq_true, decide_eq_true_eq] at hck
  obtain ⟨-, hd⟩ := hck
  obtain ⟨hd, hn⟩ := ip_dcI hd
  split at hs
  · rename_i z r
    split at hs
    · rename_i hA
      have key : ∀ (t : Nat), (ip_kd n).1 = t → (t = 0 ∨ t = 1) → z.toInt = ((ip_kd n).2 : Int) → (newarray.typeOf ty = if t = 0 then .int else .boolean) → defaultValue (newarray.typeOf ty) = .int 0 → componentBytes (newarray.typeOf ty) ≤ 4 → ip_G p l e Rm s mid args below meth c Qf E H locs n0 n q lsA (.int z :: r) := by
        intro t hkd ht hz hty hdv hcb
        have h79 := ip_kd_tag hkd (by omega)
        cases hs
        have hH := hR.2.1 h79
        have hN : z.toNatClampNeg = (ip_kd n).2 := by show z.toInt.toNat = _; omega
        have hlen := ip_kd_len n h79
        have hsz := ip_sz_succ n h79
        have hle := ip_sz_le hn0 (show n ≤ 79 by omega)
        have hta := ip_tys_arr (E := E) ht
        have hfc := (hV.1.2 t _ hta).2
        have harr : (Jvm.Cond.arrayClass (newarray.typeOf ty)).before args s = true := by
          refine hts _ (ip_arrw ?_)
          rw [hty]; rcases ht with rfl | rfl
          · exact Or.inl rfl
          · exact Or.inr rfl
        unfold ip_G
        rw [List.map_cons]
        refine va_newaK hx hb harr rfl hd (n := z) (N := (ip_kd n).2) rfl (fun h => by have := Int32.lt_iff_toInt_lt.mp h; rw [Int32.toInt_zero] at this; omega) hN (by
          have := Nat.mul_le_mul hlen hcb
          omega) (by omega) (by omega) hH fun H1 cA e1 z1 q1 hAr hnm => ?_
        have hcA : cA = E.2.2.2.2.2.2 t := by
          have h2 : s.vm.findClass ("[" ++ (newarray.typeOf ty).toString) = some (E.2.2.2.2.2.2 t) := by
            rw [hty]
            rcases ht with rfl | rfl
            · exact hfc
            · exact hfc
          exact Option.some.inj (hnm.symm.trans h2)
        subst hcA
        have hR1 : ip_Rel E f (n + 1) S R L H1 := by
          refine hR.push h79 z1 q1 ?_
          rw [ip_ce_arr hkd ht]
          show H1[_]? = some (vp_cell _ _)
          rw [vp_cell_i, e1, hdv]
          congr 2
          funext k
          rw [(hR.2.2.2.1 n (k : Int) (Nat.le_refl _) (by omega)).1]
          rfl
        have hkk := kk H1 locs lsA hl hR1 (ip_S_push hS hH z1 q1)
        rw [← hnx, hn] at hkk
        unfold ip_G at hkk
        rw [List.map_cons, ip_cv_in (by omega)] at hkk
        rw [show n - n0 + 1 = n + 1 - n0 by omega, show ip_sz n - ip_sz n0 + (ip_kd n).2 = ip_sz (n + 1) - ip_sz n0 by have := ip_sz_le hn0 (by omega : n ≤ 79); omega]
        exact hkk
      simp only [Bool.and_eq_true, decide_eq_true_eq] at hA
      obtain ⟨hA, hA2, hz⟩ := hA
      cases ty with
      | int => exact key 0 hA (Or.inl rfl) hz rfl rfl (by decide)
      | boolean => exact key 1 hA (Or.inr rfl) hz rfl rfl (by decide)
      | _ => exact absurd hA2 (by decide)
    · cases hs
  · cases hs
theorem sn_anew (tag : Nat) : ip_Snd (.anewarray tag) := by
  intro p l e Rm s mid args below meth c Qf E f m i ls st n S R L q t a b ok nx H locs lsA n0 i' ls' st' n' S' R' L' F hck hnx hs hl hR hS hn0 hroom hfr kk
  obtain ⟨hx, hb, hml, hown, hts, hlk, hini, hV, hO, hsz⟩ := F
  simp only [ip_si] at hs
  simp only [ip_ck, Bool.and_eq_true, Bool.or_eq_true, decide_eq_true_eq] at hck
  obtain ⟨-, hd, hw, ht⟩ := hck
  obtain ⟨hd, hn⟩ := ip_dcI hd
  split at hs
  · rename_i z r
    split at hs
    · rename_i hA
      simp only [Bool.and_eq_true, decide_eq_true_eq] at hA
      obtain ⟨-, hkd, hz⟩ := hA
      have h79 := ip_kd_tag hkd (by omega)
      cases hs
      have hH := hR.2.1 h79
      have hN : z.toNatClampNeg = (ip_kd n).2 := by show z.toInt.toNat = _; omega
      have hlen := ip_kd_len n h79
      have hsz := ip_sz_succ n h79
      have hle := ip_sz_le hn0 (show n ≤ 79 by omega)
      unfold ip_G
      rw [List.map_cons]
      have key : ∀ C : String, (Jvm.Cond.classLink (ip_CN (ip_cid m)) a C).before args s = true → va_AO C s → (ip_tys E)[tag]? = some (E.2.2.2.2.2.2 tag, .object C) → W p l e Rm s mid args below meth c H locs (n - n0) (ip_sz n - ip_sz n0) Qf (F0 mid q lsA (ip_cv E (.int z) :: r.map (ip_cv E))) := by
        intro C hlk hao hta
        refine W.anew hx hb hown hlk (va_AO.use hao) rfl hd (n := z) rfl (fun h => by have := Int32.lt_iff_toInt_lt.mp h; rw [Int32.toInt_zero] at this; omega) (by rw [hN]; omega) (by omega) (by rw [hN]; omega) fun cA kA comp f1 f2 f3 f4 => ?_
        have hcA : cA = E.2.2.2.2.2.2 tag := by
          obtain ⟨_, _, _, _, _, g4⟩ := (hV.1.2 tag _ hta).2
          exact Option.some.inj (f1.symm.trans g4)
        subst hcA
        generalize hH1 : H.push ({ cls := E.2.2.2.2.2.2 tag, slots := Array.replicate z.toNatClampNeg .null, vm := .none } : Cell) = H1
        have z1 : H1.size = E.2.1 + n + 1 := by rw [← hH1, Array.size_push, hH]
        have q1 : ∀ q : Nat, q < E.2.1 + n → H1[q]? = H[q]? := fun q h => by
          rw [← hH1, Array.getElem?_push, if_neg (by omega)]
        have e1 : H1[E.2.1 + n]? = some (arrV (E.2.2.2.2.2.2 tag) (ip_kd n).2 (fun _ => .null)) := by
          rw [← hH1, ← hH, Array.getElem?_push_size, ← arrV_new, hN]
        have hR1 : ip_Rel E f (n + 1) S R L H1 := by
          refine hR.push h79 z1 q1 ?_
          rw [ip_ce_ref hkd ht]
          show H1[_]? = some (vp_cell _ _)
          rw [vp_cell_q, e1]
          congr 2
          funext k
          rw [(hR.2.2.2.1 n (k : Int) (Nat.le_refl _) (by omega)).2.1]
          rfl
        have hkk := kk H1 locs lsA hl hR1 (ip_S_push hS hH z1 q1)
        rw [← hnx, hn] at hkk
        unfold ip_G at hkk
        rw [List.map_cons, ip_cv_in (by omega)] at hkk
        rw [hN, hH, show n - n0 + 1 = n + 1 - n0 by omega, show ip_sz n - ip_sz n0 + (ip_kd n).2 = ip_sz (n + 1) - ip_sz n0 by have := ip_sz_le hn0 (by omega : n ≤ 79); omega]
        exact hkk
      have hlk := ip_lnk hts hw rfl
      rcases ht with rfl | rfl
      · exact key _ hlk hV.2.2.2.1 rfl
      · exact key _ hlk hV.2.2.2.2 rfl
    · cases hs
  · cases hs
theorem sn_new (hcl : ∀ ci, ci < 9 → ip_clsok ci) (hin : ∀ ci, ci < 9 → (Jvm.Cond.instantiable (ip_CN ci) (ip_NF.getD ci 0) ∈ ip_W ∧ Jvm.Cond.initialized (ip_CN ci) ∈ ip_W)) (ci : Nat) : ip_Snd (.new ci) := by
  intro p l e Rm s mid args below meth c Qf E f m i ls st n S R L q t a b ok nx H locs lsA n0 i' ls' st' n' S' R' L' F hck hnx hs hl hR hS hn0 hroom hfr kk
  obtain ⟨hx, hb, hml, hown, hts, hlk, hini, hV, hO, hsz⟩ := F
  simp only [ip_si] at hs
  simp only [ip_ck, Bool.and_eq_true, Bool.or_eq_true, decide_eq_true_eq] at hck
  obtain ⟨-, hd, hw, hci⟩ := hck
  obtain ⟨hd, hn⟩ := ip_dcI hd
  split at hs
  · rename_i hA
    simp only [Bool.and_eq_true, decide_eq_true_eq] at hA
    obtain ⟨-, hkd⟩ := hA
    have h79 := ip_kd_tag hkd (by omega)
    cases hs
    have hH := hR.2.1 h79
    have hsz := ip_sz_succ n h79
    have hle := ip_sz_le hn0 (show n ≤ 79 by omega)
    have hkd2 := (ip_kd_obj n h79 (by omega)).2
    rw [hkd, show 10 + ci - 10 = ci by omega] at hkd2
    obtain ⟨c1, c2, c3, c4, c5, c6⟩ := hcl _ hci
    have hKn := hV.1.1 ci _ c1
    unfold ip_G
    refine W.newcK hx hb hown (ip_lnk hts hw rfl) (hts _ (hin ci hci).1) (hts _ (hin ci hci).2) rfl hd (by omega) (by omega) hKn.2.1 hH fun H1 kC hkC e1 z1 q1 => ?_
    have hR1 : ip_Rel E f (n + 1) S R L H1 := by
      refine hR.push h79 z1 q1 ?_
      rw [ip_ce_obj hkd]
      refine ⟨_, c1, (u_born (ip_ty ci) hts c2 hKn hkC e1 c3).to (fun j hj => ?_)⟩
      have hj2 : j < ip_NF.getD ci 0 := hj
      rw [ip_fieldv (by omega)]
      obtain ⟨y1, y2, y3⟩ := hR.2.2.2.1 n (j : Int) (Nat.le_refl _) (by omega)
      unfold ip_fv
      rw [c6 j hj2, y1, y2, y3]
      have hz := ip_dflt ci hci j hj2
      rw [hz]
      rfl
    have hkk := kk H1 locs lsA hl hR1 (ip_S_push hS hH z1 q1)
    rw [← hnx, hn] at hkk
    unfold ip_G at hkk
    rw [List.map_cons, ip_cv_in (by omega)] at hkk
    rw [show n - n0 + 1 = n + 1 - n0 by omega, show ip_sz n - ip_sz n0 + ip_NF.getD ci 0 = ip_sz (n + 1) - ip_sz n0 by have := ip_sz_le hn0 (by omega : n ≤ 79); omega]
    exact hkk
  · cases hs
theorem sn_aastore : ip_Snd .aastore := by
  intro p l e Rm s mid args below meth c Qf E f m i ls st n S R L q t a b ok nx H locs lsA n0 i' ls' st' n' S' R' L' F hck hnx hs hl hR hS hn0 hroom hfr kk
  obtain ⟨hx, hb, hml, hown, hts, hlk, hini, hV, hO, hsz⟩ := F
  simp only [ip_si] at hs
  simp only [ip_ck, Bool.and_eq_true, Bool.or_eq_true, decide_eq_true_eq] at hck
  obtain ⟨-, hd⟩ := hck
  obtain ⟨hd, hn⟩ := ip_dcI hd
  split at hs
  · rename_i y z x r
    split at hs
    · rename_i hA
      have key : ∀ (t ci : Nat) (C : String), ip_isAb n x t z.toInt = true → ip_isOb n y ci = true → (t = 2 ∨ t = 3) → ci < 9 → ip_cls[ci]? = some (C, ip_FT ci, ip_NF.getD ci 0) → (ip_tys E)[t]? = some (E.2.2.2.2.2.2 t, .object C) → ip_G p l e Rm s mid args below meth c Qf E H locs n0 n q lsA (.ref y :: .int z :: .ref x :: r) := by
        intro t ci C hA hOb ht hci hcl1 hta
        obtain ⟨hxn, hkd, hz1, hz2, h79⟩ := ip_isAb_at hA (by omega)
        obtain ⟨hyn, hkdy, hy79⟩ := ip_lt79 hOb hci
        cases hs
        unfold ip_G
        rw [List.map_cons, List.map_cons, List.map_cons, ip_cv_in (a := x) (by omega), ip_cv_in (a := y) (by omega)]
        have he := ip_ws_get (E := E) (S := S) (R := R) (L := L) hxn
        rw [ip_ce_ref hkd ht] at he
        have hy := ip_ws_get (E := E) (S := S) (R := R) (L := L) hyn
        rw [ip_ce_obj hkdy] at hy
        have hin := ip_vpin hz1 hz2
        obtain ⟨kA, comp, k1, k2, k3, -⟩ := (hV.1.2 t _ hta).2
        have hcls := (hV.1.1 ci _ hcl1).2
        have hcomp : comp = E.1.1 ci := Option.some.inj (k3.symm.trans hcls.1)
        subst hcomp
        obtain ⟨kC, hkC, -⟩ := hcls.2
        obtain ⟨r0, g0, cellv, g1, g2, g3, -⟩ := hR.1 y _ hy
        have hcell := hR.1 x _ he
        refine W.aast (k := kA) (kv := kC) (kcomp := kC) (comp := E.1.1 ci) (t := .object C) hx hb hcell (fun _ h => by cases h) (fun h => by cases h) k1 k2 rfl hkC (by
            show ¬ z < 0 ∧ _ < (arrV _ _ _).slots.size
            rw [arrV_size]
            exact ⟨fun h => hin (Or.inl h), Nat.lt_of_not_le (fun h => hin (Or.inr h))⟩) g1 (fun _ h => by rw [g3] at h; cases h) (by rw [g2]; exact hkC) (by rw [g2]; exact va_assign hcls) rfl rfl hd fun H1 e1 hz hq => ?_
        have hc := ip_clamp hz1
        have hR1 : ip_Rel E f n S (ip_ur R x z.toInt y) L H1 := by
          refine hR.set hxn h79 hz hq ?_ (fun i h => ip_ce_ur h) (fun _ _ _ => rfl) (fun i y h => by unfold ip_ur; rw [if_neg (fun q => h q.1)]) (fun _ _ _ => rfl) (ip_ur9 hR (by omega))
          rw [ip_ce_ref hkd ht]
          show H1[_]? = some (vp_cell _ _)
          rw [e1, vp_cell_q, vp_cell_q, arrV_store]
          congr 2
          funext k
          unfold updV ip_ur
          by_cases hk : k = z.toNatClampNeg
          · rw [if_pos hk, if_pos ⟨rfl, by rw [hk]; exact hc⟩]; rfl
          · rw [if_neg hk, if_neg (fun q => hk (by have := q.2; omega))]
        have hkk := kk H1 _ lsA hl hR1 (ip_S_put (k := z.toNatClampNeg) hS hz hq)
        rw [← hnx, hn] at hkk
        exact hkk
      simp only [Bool.or_eq_true, Bool.and_eq_true] at hA
      rcases hA with ⟨h1, h2⟩ | ⟨h1, h2⟩
      · exact key 2 7 _ h1 h2 (Or.inl rfl) (by decide) rfl rfl
      · exact key 3 5 _ h1 h2 (Or.inr rfl) (by decide) rfl rfl
    · cases hs
  · cases hs
theorem ip_swo_at {m q : Nat} : ∀ (ps : List (Int × Int)) (lo : Int) (offs : List Int) (d z : Int), ip_swo m q lo ps = some offs → offs.length = ps.length ∧ ((z < lo ∨ lo + (ps.length : Int) ≤ z) → ip_sw z d ps = d.toNat) ∧ (lo ≤ z → z < lo + (ps.length : Int) → ∃ o, offs[(z - lo).toNat]? = some o ∧ (q : Int) + o = (ip_pc m (ip_sw z d ps) : Int)) := by
  intro ps
  induction ps with
  | nil =>
    intro lo offs d z h
    simp only [ip_swo] at h
    cases h
    exact ⟨rfl, fun _ => rfl, fun h1 h2 => by simp at h2; omega⟩
  | cons pr ps ih =>
    obtain ⟨v, t⟩ := pr
    intro lo offs d z h
    simp only [ip_swo] at h
    split at h
    · rename_i hv
      subst hv
      cases hr : ip_swo m q (v + 1) ps with
      | none => rw [hr] at h; simp at h
      | some l =>
        rw [hr] at h
        simp only [Option.map_some] at h
        cases h
        obtain ⟨i1, i2, i3⟩ := ih (v + 1) l d z hr
        refine ⟨by simp [i1], fun hz => ?_, fun h1 h2 => ?_⟩
        · simp only [List.length_cons] at hz
          rw [ip_sw, if_neg (by omega)]
          exact i2 (by omega)
        · simp only [List.length_cons] at h2
          by_cases hz : z = v
          · subst hz
            refine ⟨_, by rw [Int.sub_self]; rfl, ?_⟩
            rw [ip_sw, if_pos rfl]
            omega
          · obtain ⟨o, o1, o2⟩ := i3 (by omega) (by omega)
            refine ⟨o, ?_, ?_⟩
            · rw [show (z - v).toNat = (z - (v + 1)).toNat + 1 by omega, List.getElem?_cons_succ]
              exact o1
            · rw [ip_sw, if_neg hz]
              exact o2
    · cases h
theorem sn_lsw (dd : Int) (ps : Array (Int × Int)) : ip_Snd (.lookupswitch dd ps) := by
  intro p l e Rm s mid args below meth c Qf E f m i ls st n S R L q t a b ok nx H locs lsA n0 i' ls' st' n' S' R' L' F hck hnx hs hl hR hS hn0 hroom hfr kk
  obtain ⟨hx, hb, hml, hown, hts, hlk, hini, hV, hO, hsz⟩ := F
  simp only [ip_si] at hs
  split at hs
  · rename_i x r
    cases hs
    have hkk := kk H locs lsA hl hR hS
    simp only [ip_ck] at hck
    split at hck
    · cases hck
    · rename_i lo t0 rr hps
      simp only [Bool.and_eq_true] at hck
      obtain ⟨-, hck⟩ := hck
      split at hck
      · rename_i offs ho
        simp only [decide_eq_true_eq] at hck
        obtain ⟨i1, i2, i3⟩ := ip_swo_at _ _ _ dd x.toInt ho
        rw [hps] at hkk
        simp only [List.length_cons] at i2 i3
        unfold ip_G
        rw [List.map_cons]
        by_cases hin : x.toInt < lo ∨ lo + (rr.length : Int) < x.toInt
        · rw [i2 (by omega)] at hkk
          exact lv_tableOut hx hb hck hin (by omega) hkk
        · obtain ⟨o, o1, o2⟩ := i3 (by omega) (by omega)
          exact lv_tableIn hx hb hck (by omega) (by omega) (by simpa using o1) o2 hkk
      · cases hck
  · cases hs
theorem ip_cat_map {E : ip_E} {f : Int → Int} {s : State} (hV : ip_V E s) (hO : ip_out E f s s.heap) (st : List Value) : ((st.map (ip_cv E)).map fun v => v.category).sum = ip_cat st := by
  induction st with
  | nil => rfl
  | cons v st ih =>
    have hv : (ip_cv E v).category = v.category := by
      by_cases h9 : v = .ref 998
      · subst h9; exact hO.2.2.2.2.2
      · exact ip_cv_cat h9
    show (ip_cv E v).category + _ = v.category + _
    rw [hv]
    exact congrArg _ ih
theorem sn_lib (hlib : ∀ args s, (∀ w ∈ ip_W, w.before args s = true) → ((Jvm.Cond.static Lib.Math.max.name).before args s = true ∧ (Jvm.Cond.static Lib.Math.min.name).before args s = true ∧ (Jvm.Cond.initialized "java/lang/Math").before args s = true ∧ (Jvm.Cond.code Lib.Math.max.name Lib.Math.max.code 2 (some .int)).before args s = true ∧ (Jvm.Cond.code Lib.Math.min.name Lib.Math.min.code 2 (some .int)).before args s = true) ∧
    ((Jvm.Cond.native arraycopyName).before args s = true ∧ (Jvm.Cond.static arraycopyName).before args s = true ∧ (Jvm.Cond.initialized "java/lang/System").before args s = true) ∧ ((Jvm.Cond.instanceMethod Lib.objectInit).before args s = true ∧ (Jvm.Cond.code Lib.objectInit ⟨#[0xb1]⟩ 1 none).before args s = true)) (k : Nat) : ip_Snd (.invokevirtual k) := by
  intro p l e Rm s mid args below meth c Qf E f m i ls st n S R L q t a b ok nx H locs lsA n0 i' ls' st' n' S' R' L' F hck hnx hs hl hR hS hn0 hroom hfr kk
  obtain ⟨hx, hb, hml, hown, hts, hlk, hini, hV, hO, hsz⟩ := F
  simp only [ip_si] at hs
  simp only [ip_ck, Bool.and_eq_true, Bool.or_eq_true, decide_eq_true_eq] at hck
  obtain ⟨-, hd, hw, hk⟩ := hck
  obtain ⟨⟨m1, m2, m3, m4, m5⟩, ⟨m6, m7, m8⟩, m9, m10⟩ := hlib args s hts
  have hlk := ip_lnk hts hw rfl
  have hml2 : c.maxLocals = lsA.size := by rw [hml, hl.1]
  split at hs
  · rename_i y xx r
    split at hs
    · rename_i hcat
      rw [if_neg (by decide)] at hd
      obtain ⟨hd, hn⟩ := ip_dcI hd
      cases hs
      have hkk := kk H locs lsA hl hR hS
      rw [← hnx, hn] at hkk
      exact va_mmax hx hb hml2 hown hlk m1 m3 m4 hfr.1 (by rw [ip_cat_map hV hO]; omega) hroom.1 hroom.2 hd hkk
    · cases hs
  · rename_i y xx r
    split at hs
    · rename_i hcat
      rw [if_neg (by decide)] at hd
      obtain ⟨hd, hn⟩ := ip_dcI hd
      cases hs
      have hkk := kk H locs lsA hl hR hS
      rw [← hnx, hn] at hkk
      exact va_mmin hx hb hml2 hown hlk m2 m3 m5 hfr.1 (by rw [ip_cat_map hV hO]; omega) hroom.1 hroom.2 hd hkk
    · cases hs
  · rename_i nn dp x sp y r
    split at hs
    · rename_i hA
      simp only [Bool.and_eq_true, decide_eq_true_eq] at hA
      obtain ⟨hn79, hcat, hn0', hAx, hAy, h1, h2, h3, h4⟩ := hA
      obtain ⟨hxn, hkdx, -, -, hx79⟩ := ip_isAb_at hAx (by decide)
      obtain ⟨hyn, hkdy, -, -, hy79⟩ := ip_isAb_at hAy (by decide)
      rw [if_neg (by decide)] at hd
      obtain ⟨hd, hn⟩ := ip_dcI hd
      cases hs
      unfold ip_G
      rw [List.map_cons, List.map_cons, List.map_cons, List.map_cons, List.map_cons, ip_cv_in (a := x) (by omega), ip_cv_in (a := y) (by omega)]
      have hex := ip_ws_get (E := E) (S := S) (R := R) (L := L) hxn
      rw [ip_ce_arr hkdx (Or.inl rfl)] at hex
      have hey := ip_ws_get (E := E) (S := S) (R := R) (L := L) hyn
      rw [ip_ce_arr hkdy (Or.inl rfl)] at hey
      have cn := ip_clamp hn0'
      have cs := ip_clamp h1
      have cd := ip_clamp h3
      have hlt : ∀ {w : Int32}, 0 ≤ w.toInt → ¬ w < 0 := fun h1 h2 => by have := Int32.lt_iff_toInt_lt.mp h2; rw [Int32.toInt_zero] at this; omega
      refine va_copyi hx hb hml2 hown hlk m6 m7 m8 hV.1 hR.1 ip_ws_D hS y x 0 0 hey hex rfl rfl rfl (hlt h1) (hlt h3) (hlt hn0') (by omega) (by omega) (fun _ _ => rfl) hfr.1 (by rw [ip_cat_map hV hO]; have : nativeFrameWords "java/lang/System" "arraycopy" 5 ≤ 80 := (by decide +kernel); omega) hd fun H1 locs1 hP1 _ hS1 => ?_
      have hR1 : ip_Rel E f n (ip_cp S y sp.toInt x dp.toInt nn.toInt) R L H1 := by
        refine ⟨?_, fun h => absurd h (by omega), ?_, fun j k hj hj9 => ?_, hR.2.2.2.2⟩
        · rw [← ip_ws_set (S := S) (R := R) (L := L) hxn (fun i hi => ?_)]
          · rw [ip_ce_arr hkdx (Or.inl rfl)]
            have ef : (fun i : Nat => Int32.ofInt (ip_cp S y sp.toInt x dp.toInt nn.toInt x (i : Int))) = va_cpy (fun i : Nat => Int32.ofInt (S y (i : Int))) (fun i : Nat => Int32.ofInt (S x (i : Int))) sp.toNatClampNeg dp.toNatClampNeg nn.toNatClampNeg := by
              funext i
              unfold va_cpy ip_cp
              by_cases hi : dp.toNatClampNeg ≤ i ∧ i < dp.toNatClampNeg + nn.toNatClampNeg
              · rw [if_pos hi, if_pos ⟨rfl, by omega, by omega⟩]
                congr 2
                omega
              · rw [if_neg hi, if_neg (fun q => hi (by have := q.2; omega))]
            rw [ef]
            exact hP1
          · have e : ∀ y2, ip_cp S y sp.toInt x dp.toInt nn.toInt i y2 = S i y2 := fun y2 => by unfold ip_cp; rw [if_neg (fun q => hi q.1)]
            unfold ip_ce ip_fv
            simp only [e]
        · rw [← hR.2.2.1]; funext y2; unfold ip_cp; rw [if_neg (fun q => by have := q.1; omega)]
        · have e : ip_cp S y sp.toInt x dp.toInt nn.toInt j k = S j k := by unfold ip_cp; rw [if_neg (fun q => by have := q.1; omega)]
          rw [e]; exact hR.2.2.2.1 j k hj hj9
      have hkk := kk H1 locs1 lsA hl hR1 hS1
      rw [← hnx, hn] at hkk
      exact hkk
    · cases hs
  · rename_i x r
    split at hs
    · rename_i hA
      replace hA : (fun y : Nat => y < 900) x ∧ ip_cat r ≤ 8 := by simpa using hA
      rw [if_pos rfl] at hd
      obtain ⟨hd, hn⟩ := ip_dcI hd
      cases hs
      have hkk := kk H locs lsA hl hR hS
      rw [← hnx, hn] at hkk
      unfold ip_G
      rw [List.map_cons, ip_cv_in hA.1]
      exact W.objInit hx hb hown hlk m9 m10 rfl hml2.symm rfl hd hfr.1 (by rw [ip_cat_map hV hO]; show 2 * 0 + _ + 12 ≤ _; omega) hkk
    · cases hs
  · cases hs
