/-! puts, references into rows, new cells, the switch, the library's own -/
theorem ip_fieldv {E : ip_E} {ci k j : Nat} {S : ip_S} {R : ip_R} {L : ip_S} {len : Nat} (h : k < len) : vp_V ((List.range len).map (fun k => ip_fv E ci k j S R L)) k = ip_fv E ci k j S R L := by
  unfold vp_V
  rw [List.getD_eq_getElem?_getD, List.getElem?_map, List.getElem?_range h]
  rfl
/-- a field of an object anew: what the heap holds then -/
theorem ip_putH {E : ip_E} {f : Int → Int} {s : State} {args : Array Value} {own : String} {n x ci k : Nat} {S S' : ip_S} {R R' : ip_R} {L L' : ip_S} {H : Heap} {v : Value} {mcls : ClassId} (hts : ∀ w ∈ ip_W, w.before args s = true) (hown : s.vm.findClass own = some mcls) (hV : ip_V E s) (hR : ip_Rel E f n S R L H) (hcl : ip_clsok ci) (hci : ci < 9) (hxn : x < n) (h79 : x < 79) (hkd : (ip_kd x).1 = 10 + ci) (hk : k < ip_NF.getD ci 0)
    (hv : ip_fv E ci k x S' R' L' = v) (ho : ∀ y, y ≠ k → ip_fv E ci y x S' R' L' = ip_fv E ci y x S R L) :
    ∃ (cell : Cell) (cf : ClassId) (kf : Class) (fi : Nat) (fd : Field) (cC : ClassId) (kC : Class), H[E.2.1 + x]? = some cell ∧ cell.cls = cC ∧ cell.vm = .none ∧ fd.slot < cell.slots.size ∧ s.fieldFound? (ip_CN ci) (ip_FT ci k).2.1 (ip_FT ci k).2.2.1 = some (cf, kf, fi, fd) ∧ s.vm.findClass (ip_CN ci) = some cC ∧ s.vm.classes[cC]? = some kC ∧ kC.kind = .ordinary ∧ fd.isStatic = false ∧
      ∀ H1 : Heap, H1[E.2.1 + x]? = some (cell.setSlot fd.slot v) → va_at E.1 ip_cls (E.2.1 + x, ip_ce E S' R' L' x) H1 := by
  obtain ⟨c1, c2, c3, c4, c5, c6⟩ := hcl
  have hkd2 := (ip_kd_obj x h79 (by omega)).2
  rw [hkd, show 10 + ci - 10 = ci by omega] at hkd2
  have he := ip_ws_get (E := E) (S := S) (R := R) (L := L) hxn
  rw [ip_ce_obj hkd] at he
  obtain ⟨r, h1, cell, q1, q2, q3, q4⟩ := hR.1 x _ he
  have hr : r = (ip_CN ci, ip_FT ci, ip_NF.getD ci 0) := Option.some.inj (h1.symm.trans c1)
  subst hr
  have hap := va_apart (own := own) hts c2 (ip_ty ci) c3 c4 hV.1 c1
  obtain ⟨hS, hfc, kC, hkC, hkind⟩ := hV.1.1 ci _ c1
  obtain ⟨cf, kf, fi, fd, hi, hsl⟩ := hS k hk
  have hst := (u_facts hfc hkC (u_lays hts c2 hk) hi).1
  rw [c5 k hk] at hi
  refine ⟨cell, cf, kf, fi, fd, _, kC, q1, q2, q3, by rw [hsl]; exact k2_hasslot (q4 k hk), hi, hfc, hkC, hkind, hst, fun H1 e1 => ?_⟩
  rw [ip_ce_obj hkd]
  refine ⟨_, c1, t_OB.to (V := updV (vp_V ((List.range (ip_kd x).2).map (fun k => ip_fv E ci k x S R L))) k v) ⟨_, e1, q2, q3, by rw [hsl]; exact t_set q4 hap hk v⟩ (fun j hj => ?_)⟩
  have hj2 : j < ip_NF.getD ci 0 := hj
  rw [ip_fieldv (by omega)]
  unfold updV
  by_cases hjk : j = k
  · subst hjk
    rw [if_pos rfl]; exact hv.symm
  · rw [if_neg hjk, ip_fieldv (by omega)]
    exact (ho j hjk).symm
theorem ip_ur9 {E : ip_E} {f : Int → Int} {n x y : Nat} {k : Int} {S : ip_S} {R : ip_R} {L : ip_S} {H : Heap} (hR : ip_Rel E f n S R L H) (hy : y < 900) : ∀ (j : Int) (z : Nat), ip_ur R x k y x j = some z → z < 900 := by
  intro j z h
  unfold ip_ur at h
  split at h
  · cases h; exact hy
  · exact hR.2.2.2.2 _ _ _ h
theorem ip_modk {a b : Nat} (h : a ≠ b) : ¬ ((a : Int) = (b : Int)) := by omega
theorem sn_putf (hcl : ∀ ci, ci < 9 → ip_clsok ci) (g : Nat) : ip_Snd (.putfield g) := by
  intro p l e Rm s mid args below meth c Qf E f m i ls st n S R L q t a b ok nx H locs lsA n0 i' ls' st' n' S' R' L' F hck hnx hs hl hR hS hn0 hroom hfr kk
  obtain ⟨hx, hb, hml, hown, hts, hlk, hini, hV, hO, hsz⟩ := F
  simp only [ip_si] at hs
  simp only [ip_ck, Bool.and_eq_true] at hck
  obtain ⟨-, hd, hw, hfin⟩ := hck
  obtain ⟨hd, hn⟩ := ip_dcI hd
  simp only [ip_fchk, Bool.and_eq_true, Bool.or_eq_true, decide_eq_true_eq] at hw hfin
  obtain ⟨hci, hk, hw⟩ := hw
  split at hs
  · rename_i v x r
    split at hs
    · rename_i hO1
      obtain ⟨hxn, hkd, h79⟩ := ip_lt79 hO1 hci
      obtain ⟨c1, c2, c3, c4, c5, c6⟩ := hcl _ hci
      have key : ∀ (S2 : ip_S) (R2 : ip_R) (L2 : ip_S), st' = r → i' = i + 1 → ls' = ls → n' = n → S' = S2 → R' = R2 → L' = L2 → ip_fv E (g / 64) (g % 64) x S2 R2 L2 = ip_cv E v → (∀ y, y ≠ g % 64 → ip_fv E (g / 64) y x S2 R2 L2 = ip_fv E (g / 64) y x S R L) →
          (∀ i, i ≠ x → ip_ce E S2 R2 L2 i = ip_ce E S R L i) → (∀ i y, i ≠ x → S2 i y = S i y) → (∀ i y, i ≠ x → R2 i y = R i y) → (∀ i y, i ≠ x → L2 i y = L i y) → (∀ y z, R2 x y = some z → z < 900) →
          narrow (ip_ty (g / 64) (g % 64)) (ip_cv E v) = ip_cv E v → fits (ip_ty (g / 64) (g % 64)) (ip_cv E v) = true → ip_G p l e Rm s mid args below meth c Qf E H locs n0 n q lsA (v :: .ref x :: r) := by
        intro S2 R2 L2 e1 e2 e3 e4 e5 e6 e7 ev eo ec eS eR eL e9 en ef
        subst e1; subst e2; subst e3; subst e4; subst e5; subst e6; subst e7
        obtain ⟨cell, cf, kf, fi, fd, cC, kC, p1, p2, p3, p4, p5, p6, p7, p8, p9, p10⟩ := ip_putH hts hown hV hR (hcl _ hci) hci hxn h79 hkd hk ev eo
        have kk2 : ∀ H1 : Heap, H1[E.2.1 + x]? = some (cell.setSlot fd.slot (ip_cv E v)) → H1.size = H.size → (∀ q : Nat, q ≠ E.2.1 + x → H1[q]? = H[q]?) → W p l e Rm s mid args below meth c H1 (locs ++ [⟨E.2.1 + x, fd.slot⟩]) (n' - n0) (ip_sz n' - ip_sz n0) Qf (F0 mid (q + 3) lsA (st'.map (ip_cv E))) := by
          intro H1 e1 hz hq
          have hkk := kk H1 _ lsA hl (hR.set hxn h79 hz hq (p10 H1 e1) ec eS eR eL e9) (ip_S_put (k := fd.slot) hS hz hq)
          rw [← hnx, hn] at hkk
          exact hkk
        unfold ip_G
        rw [List.map_cons, List.map_cons, ip_cv_in (by omega)]
        have hlay := hts _ (c2 _ (u_in_lay hk))
        unfold u_lay at hlay
        rcases hfin with hff | ⟨hff, ht0, hown2, hrc⟩
        · rw [if_neg (by rw [hff]; decide)] at hlay
          rw [c5 _ hk] at hlay
          have h6 := u_store p6 p7 p8 hlay p5 (c3 _ hk) en ef
          rcases hw with ⟨-, hw⟩ | ⟨-, hw⟩
          · exact W.putK hx hb (f := fd) ⟨hown, ip_lnk hts hw rfl, ⟨_, _, _, p5⟩, p9⟩ (by rw [p2]; exact h6) p1 p3 p4 rfl rfl hd kk2
          · exact va_WputK hx hb (f := fd) hown (ip_nest hV hw rfl rfl (by simp)) p5 p9 (by rw [p2]; exact h6) p1 p3 p4 rfl rfl hd kk2
        · rw [if_pos hff, c5 _ hk] at hlay
          rcases hw with ⟨-, hw⟩ | ⟨ht1, hw⟩
          · have hcf : mid.cls = cf := by
              obtain ⟨_, _, c', _, _, _, -, -, hf', -, -, -, hown3, -⟩ := Cond.laysFinal_spec hlay
              have e1 : c' = cf := by have := p5.symm.trans hf'; simp at this; exact this.1.symm
              rw [hown2] at hown3
              rw [← e1]; exact Option.some.inj (hown.symm.trans hown3)
            have h6 := u_fits p6 p7 p8 (Or.inr hlay) p5 (c3 _ hk) en ef
            exact W.putFinK hx hb hown (ip_lnk hts hw rfl) p5 p9 hcf (hini hrc) (by rw [p2]; exact h6) p1 p3 p4 rfl rfl hd kk2
          · omega
      have hfk := c6 _ hk
      have eS0 : ∀ (z : Int) (y : Nat), y ≠ g % 64 → ip_fv E (g / 64) y x (ip_up S x (g % 64 : Nat) z) R L = ip_fv E (g / 64) y x S R L := fun z y hy => by
        unfold ip_fv ip_up
        rw [if_neg (fun q => ip_modk hy q.2)]
      unfold ip_fk at hs
      rw [hfk] at hs
      cases hty : ip_ty (g / 64) (g % 64) with
      | int =>
        rw [hty] at hs hfk
        dsimp only at hs
        split at hs
        · rename_i h0 z
          cases hs
          refine key _ _ _ rfl rfl rfl rfl rfl rfl rfl ?_ (eS0 _) (fun i h => ip_ce_up h) (fun i y h => by unfold ip_up; rw [if_neg (fun q => h q.1)]) (fun _ _ _ => rfl) (fun _ _ _ => rfl) (fun y k h => hR.2.2.2.2 _ _ _ h) ?_ ?_
          · unfold ip_fv ip_up
            rw [hfk]
            simp only [and_self, if_true, Int32.ofInt_toInt]
            rfl
          · rw [hty]; rfl
          · rw [hty]; rfl
        · rename_i h0; simp at h0
        · rename_i h0; simp at h0
        · rename_i h0; simp at h0
        · cases hs
      | boolean =>
        rw [hty] at hs hfk
        dsimp only at hs
        split at hs
        · rename_i h0; simp at h0
        · rename_i h0 z
          split at hs
          · rename_i hb2
            cases hs
            refine key _ _ _ rfl rfl rfl rfl rfl rfl rfl ?_ (eS0 _) (fun i h => ip_ce_up h) (fun i y h => by unfold ip_up; rw [if_neg (fun q => h q.1)]) (fun _ _ _ => rfl) (fun _ _ _ => rfl) (fun y k h => hR.2.2.2.2 _ _ _ h) ?_ ?_
            · unfold ip_fv ip_up
              rw [hfk]
              simp only [and_self, if_true, Int32.ofInt_toInt]
              rfl
            · rw [hty]
              unfold ip_b2 at hb2
              simp only [Bool.or_eq_true, decide_eq_true_eq] at hb2
              rcases hb2 with rfl | rfl <;> rfl
            · rw [hty]
              unfold ip_b2 at hb2
              simp only [Bool.or_eq_true, decide_eq_true_eq] at hb2
              rcases hb2 with rfl | rfl <;> rfl
          · cases hs
        · rename_i h0; simp at h0
        · rename_i h0; simp at h0
        · cases hs
      | long =>
        rw [hty] at hs hfk
        dsimp only at hs
        split at hs
        · rename_i h0; simp at h0
        · rename_i h0; simp at h0
        · rename_i h0; simp at h0
        · rename_i h0 z
          cases hs
          refine key _ _ _ rfl rfl rfl rfl rfl rfl rfl ?_ (fun y hy => by unfold ip_fv ip_up; rw [if_neg (fun q => ip_modk hy q.2)]) (fun i h => ip_ce_upL h) (fun _ _ _ => rfl) (fun _ _ _ => rfl) (fun i y h => by unfold ip_up; rw [if_neg (fun q => h q.1)]) (fun y k h => hR.2.2.2.2 _ _ _ h) ?_ ?_
          · unfold ip_fv ip_up
            rw [hfk]
            simp only [and_self, if_true, Int64.ofInt_toInt]
            rfl
          · rw [hty]; rfl
          · rw [hty]; rfl
        · cases hs
      | object C =>
        rw [hty] at hs hfk
        dsimp only at hs
        split at hs
        · rename_i h0; simp at h0
        · rename_i h0; simp at h0
        · rename_i h0 y
          split at hs
          · rename_i hy9
            cases hs
            refine key _ _ _ rfl rfl rfl rfl rfl rfl rfl ?_ (fun y hy => by unfold ip_fv ip_ur; rw [if_neg (fun q => ip_modk hy q.2)]) (fun i h => ip_ce_ur h) (fun _ _ _ => rfl) (fun i y h => by unfold ip_ur; rw [if_neg (fun q => h q.1)]) (fun _ _ _ => rfl) (ip_ur9 hR hy9) ?_ ?_
            · unfold ip_fv ip_ur
              rw [hfk]
              simp only [and_self, if_true]
              rw [ip_cv_in hy9]
              rfl
            · rw [hty, ip_cv_in hy9]; rfl
            · rw [hty, ip_cv_in hy9]; rfl
          · cases hs
        · rename_i h0; simp at h0
        · cases hs
      | array C =>
        rw [hty] at hs hfk
        dsimp only at hs
        split at hs
        · rename_i h0; simp at h0
        · rename_i h0; simp at h0
        · rename_i h0 y
          split at hs
          · rename_i hy9
            cases hs
            refine key _ _ _ rfl rfl rfl rfl rfl rfl rfl ?_ (fun y hy => by unfold ip_fv ip_ur; rw [if_neg (fun q => ip_modk hy q.2)]) (fun i h => ip_ce_ur h) (fun _ _ _ => rfl) (fun i y h => by unfold ip_ur; rw [if_neg (fun q => h q.1)]) (fun _ _ _ => rfl) (ip_ur9 hR hy9) ?_ ?_
            · unfold ip_fv ip_ur
              rw [hfk]
              simp only [and_self, if_true]
              rw [ip_cv_in hy9]
              rfl
            · rw [hty, ip_cv_in hy9]; rfl
            · rw [hty, ip_cv_in hy9]; rfl
          · cases hs
        · rename_i h0; simp at h0
        · cases hs
      | _ =>
        rw [hty] at hs
        dsimp only at hs
        split at hs
        · rename_i h0; simp at h0
        · rename_i h0; simp at h0
        · rename_i h0; simp at h0
        · rename_i h0; simp at h0
        · cases hs
    · cases hs
  · cases hs
