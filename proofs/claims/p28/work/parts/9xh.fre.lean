/-! where both begin: the relation holds -/
theorem ip_n9 : (¬ (900 : Nat) = 998) = True := eq_true (by decide)
section FRE
variable {S : ip_S}
theorem m_Snf {a : Nat} (h1 : ¬ a = 62) (h2 : ¬ a = 63) (h3 : ¬ a = 64) (h4 : ¬ a = 69) : m_Sn S a = S a := by
  funext k
  simp only [m_Sn, m_sp, m_Sm, ip_up, ip_ar, h1, h2, h3, h4, false_and, if_false]
theorem m_SHf {a : Nat} (h : a < 54 ∨ 61 ≤ a) : m_SH 4 S a = S a := by
  funext k
  simp only [m_SH, ip_up]
  rw [if_neg (by omega), if_neg (by omega), if_neg (by omega), if_neg (by omega)]
theorem m_S4f {a : Nat} (h : a < 17 ∨ 29 ≤ a) : m_S4 S a = S a := by
  funext k
  unfold m_S4 ip_up
  rw [if_neg (by omega), if_neg (by omega)]
  unfold x_S2 k_RS
  rw [if_neg (by omega), if_neg (by omega), if_neg (by omega), if_neg (by omega), if_neg (by omega)]
  unfold x_S1 k_TS
  rw [if_neg (by omega), if_neg (by omega), if_neg (by omega), if_neg (by omega), m_tpn (by omega) (by omega)]
theorem m_S0f {a : Nat} (h : a < 17 ∨ (29 ≤ a ∧ a < 54) ∨ 61 ≤ a) : m_S0 S a = m_Sb (m_Sa S) a := by
  unfold m_S0
  rw [m_SHf (by omega), m_S4f (by omega)]
def m_L1 : List Int := [112, 117, 108, 108, 115, 32, 49, 48, 32, 43, 32, 110, 117, 109, 98, 101, 114, 32, 45, 32, 115, 116, 101, 112, 115, 32, 59, 32, 109, 111, 111, 100, 115, 32, 110, 117, 109, 98, 101, 114, 32, 59, 32, 101, 110, 111, 117, 103, 104, 32, 49, 50, 32, 60, 32, 115, 116, 101, 112, 115, 32, 59, 32, 32]
def m_bM : Int → Int := fun k => m_L1.getD k.toNat 0
def m_z0 : Int → Int := fun _ => 0
def m_s1 : Int × (Int → Int) × (Int → Int) × (Int → Int) := k_split m_bM 64 m_z0 m_z0 m_z0
theorem m_bMe : ∀ n : Nat, n < 64 → m_Sn (fun _ _ => 0) 63 n = m_bM n := by decide +kernel
theorem m_bMr : ∀ n : Nat, n < 64 → 0 ≤ m_bM n ∧ m_bM n < 256 := by decide +kernel
theorem m_a0 : x_acc m_s0.2.1 m_s0.2.2.2 m_s0.1 = true := by decide +kernel
theorem m_a1 : x_acc m_s1.2.1 m_s1.2.2.2 m_s1.1 = true := by decide +kernel
theorem m_q0 : (x_q0 m_s0.2.1 m_s0.2.2.2 m_s0.1).2.2 = (x_q0 m_s1.2.1 m_s1.2.2.2 m_s1.1).2.2 := by decide +kernel
theorem m_q1 : (x_q1 m_s0.2.1 m_s0.2.2.2 m_s0.1).2.2 = (x_q1 m_s1.2.1 m_s1.2.2.2 m_s1.1).2.2 := by decide +kernel
theorem m_q2 : (x_q2 m_s0.2.1 m_s0.2.2.2 m_s0.1).2.2 = (x_q2 m_s1.2.1 m_s1.2.2.2 m_s1.1).2.2 := by decide +kernel
theorem m_qk {k : Int} : (x_qk m_s0.2.1 m_s0.2.2.2 m_s0.1 k).2.2 = (x_qk m_s1.2.1 m_s1.2.2.2 m_s1.1 k).2.2 := by
  unfold x_qk
  split
  · exact m_q0
  · split
    · exact m_q1
    · exact m_q2
def m_q : x_RD := x_read m_s0.2.1 m_s0.2.2.2 m_s0.1 (fun _ => 0) (fun _ => 0)
theorem x_rg0 {n lo hi : Int} (h1 : lo ≤ 0) (h2 : 0 ≤ hi) : x_rg (fun _ => 0) n lo hi := fun _ _ _ => ⟨h1, h2⟩
theorem y_rw0 : y_rw (fun _ => 0) := fun _ _ _ => ⟨⟨Int.le_refl 0, (by decide : (0 : Int) < 10)⟩, ⟨Int.le_refl 0, (by decide : (0 : Int) < 8)⟩, ⟨Int.le_refl 0, (by decide : (0 : Int) ≤ 99999)⟩⟩
theorem x_wi0 {ro D kd nu go rd di : Int → Int} (h1 : ro = fun _ => 0) (h2 : D = m_fw (fun _ => 0) (fun _ => 0)) (h3 : kd = fun _ => 0) (h4 : nu = fun _ => 0) (h5 : go = fun _ => 0) (h6 : rd = fun _ => 0) (h7 : di 0 = 9) (h8 : di 1 = 0) : x_wi ro D kd nu go rd di := by
  subst h1 h2 h3 h4 h5 h6
  have hr : x_rg (fun _ => 0) 64 0 99 := x_rg0 (by decide) (by decide)
  refine ⟨hr, (f_fw hr).1, x_rg0 (by decide) (by decide), x_rg0 (by decide) (by decide), x_rg0 (by decide) (by decide), x_rg0 (by decide) (by decide), by rw [h7]; omega, by rw [h8]; omega, fun k _ _ => ?_, fun _ _ _ _ _ _ => rfl, fun _ _ _ => rfl⟩
  rw [f_fwi hr]
theorem x_rel0 (hZ : ∀ a : Nat, a < 79 → S a = fun _ => 0) : x_rel (m_Sn (m_S0 S)) (m_Sn (m_S0 S)) := by
  have n1 : ∀ a : Nat, a < 62 → m_Sn (m_S0 S) a = m_S0 S a := fun a h => m_Snf (by omega) (by omega) (by omega) (by omega)
  have z : ∀ a : Nat, 17 ≤ a → a < 79 → m_Sb (m_Sa S) a = fun _ => 0 := fun a h1 h2 => by rw [m_Sba h1, hZ a h2]
  have lo : ∀ a : Nat, a < 17 → m_Sn (m_S0 S) a = m_Sb (m_Sa S) a := fun a h => by rw [n1 a (by omega), m_S0f (by omega)]
  have lz : ∀ a : Nat, a < 17 → a ≠ 3 → a ≠ 8 → a ≠ 11 → a ≠ 16 → m_Sn (m_S0 S) a = fun _ => 0 := fun a h h3 h8 h11 h16 => by
    rw [lo a h]
    unfold m_Sb m_Sa
    rw [m_ar_ne h11, ip_upc h16, m_ar_ne h3, ip_upc h8, hZ a (by omega)]
  have l3 : m_Sn (m_S0 S) 3 = m_fw (fun _ => 0) (fun _ => 0) := by
    rw [lo 3 (by omega)]
    unfold m_Sb m_Sa
    rw [m_ar_ne (by omega), ip_upc (by omega), m_ar_eq, hZ 2 (by omega), hZ 3 (by omega)]
  have l11 : m_Sn (m_S0 S) 11 = m_fw (fun _ => 0) (fun _ => 0) := by
    rw [lo 11 (by omega)]
    unfold m_Sb
    rw [m_ar_eq]
    unfold m_Sa
    rw [m_ar_ne (by omega), m_ar_ne (by omega), ip_upc (by omega), ip_upc (by omega), hZ 10 (by omega), hZ 11 (by omega)]
  have l8 : m_Sn (m_S0 S) 8 0 = 9 ∧ m_Sn (m_S0 S) 8 1 = 0 := by
    rw [lo 8 (by omega)]
    unfold m_Sb m_Sa
    rw [m_ar_ne (by omega), ip_upc (by omega), m_ar_ne (by omega), ip_ups, ip_upk (by omega), hZ 8 (by omega)]
    exact ⟨rfl, rfl⟩
  have l16 : m_Sn (m_S0 S) 16 0 = 9 ∧ m_Sn (m_S0 S) 16 1 = 0 := by
    rw [lo 16 (by omega)]
    unfold m_Sb m_Sa
    rw [m_ar_ne (by omega), ip_ups, ip_upk (by omega), m_ar_ne (by omega), ip_upc (by omega), hZ 16 (by omega)]
    exact ⟨rfl, rfl⟩
  have mi : ∀ a : Nat, a < 54 → m_Sn (m_S0 S) a = m_S4 (m_Sb (m_Sa S)) a := fun a h => by
    rw [n1 a (by omega)]
    exact m_SHf (by omega)
  have mz : ∀ a : Nat, 29 ≤ a → a < 54 → m_Sn (m_S0 S) a = fun _ => 0 := fun a h1 h2 => by rw [n1 a (by omega), m_S0f (by omega), z a (by omega) (by omega)]
  have sp := m_spt (S := m_Sb (m_Sa S)) (z 20 (by omega) (by omega)) (z 21 (by omega) (by omega)) (z 22 (by omega) (by omega)) (z 23 (by omega) (by omega))
  obtain ⟨hla, hW1, hW2⟩ := k_spl_r (b := m_b0) (sz := 62) (by omega) m_b0r (62 : Int).toNat 0 0 0 (fun _ => 0) (fun _ => 0) (fun _ => 0) (by omega) (by omega) (by omega) (by omega) x_W0 x_W0
  rw [show k_spl m_b0 62 (62 : Int).toNat 0 0 0 (fun _ => 0) (fun _ => 0) (fun _ => 0) = m_s0 from rfl] at hla hW1 hW2
  have hTk : y_Tok m_b0 62 m_s0.2.1 m_s0.2.2.1 m_s0.2.2.2 m_s0.1 := y_TokS (by omega)
  have hT := hTk.2.2.2.1
  obtain ⟨s1, s2, s3, s4⟩ := x_S2c (S := m_tp (m_Sb (m_Sa S)) 62) (z := 62) (t := 0)
  have eg : x_got (m_tp (m_Sb (m_Sa S)) 62) 62 0 = m_q := by
    unfold x_got m_q
    rw [sp, m_tpn (by omega) (by omega), m_tpn (by omega) (by omega), z _ (by omega) (by omega), z _ (by omega) (by omega)]
  rw [eg] at s1 s2
  rw [sp] at s3 s4
  have e17 : m_Sn (m_S0 S) 17 4 = 1 := by rw [mi 17 (by omega)]; unfold m_S4; rw [ip_ups]
  have e19 : m_Sn (m_S0 S) 19 4 = 0 := by rw [mi 19 (by omega)]; unfold m_S4; rw [ip_upc (by omega), ip_ups]
  have e20 : m_Sn (m_S0 S) 20 = m_b0 := by rw [mi 20 (by omega)]; unfold m_S4; rw [ip_upc (by omega), ip_upc (by omega), x_S2n (by omega), m_tp20 (z 20 (by omega) (by omega))]
  have e21 : m_Sn (m_S0 S) 21 = m_s0.2.1 := by rw [mi 21 (by omega)]; unfold m_S4; rw [ip_upc (by omega), ip_upc (by omega), s3]
  have e23 : m_Sn (m_S0 S) 23 = m_s0.2.2.2 := by rw [mi 23 (by omega)]; unfold m_S4; rw [ip_upc (by omega), ip_upc (by omega), s4]
  have e27 : m_Sn (m_S0 S) (27 + 3 * 0) = m_q.2.2.2.1 := by rw [mi _ (by omega)]; unfold m_S4; rw [ip_upc (by omega), ip_upc (by omega), s1]
  have e28 : m_Sn (m_S0 S) (28 + 3 * 0) = m_q.2.2.2.2 := by rw [mi _ (by omega)]; unfold m_S4; rw [ip_upc (by omega), ip_upc (by omega), s2]
  have rw3 := x_rdw hT (fun j j0 j1 => hW2 j j0 (by omega)) 3 0 0 0 (fun _ => 0) (fun _ => 0) m_q (by omega) (by omega) (by omega) hla.1 (by omega) (by omega) (fun _ _ _ => ip_w0) (x_rg0 (n := 3) (by decide) (by decide)) rfl
  have rdv := (x_rdv hT ⟨hla.1, by omega⟩ m_a0 (c := fun _ => 0) (e := fun _ => 0) (q := m_q) rfl).2.2
  have sh : ∀ q : Nat, q < 4 → m_Sn (m_S0 S) (54 + 2 * q) 1 = -1 ∧ m_Sn (m_S0 S) (54 + 2 * q) 2 = 0 ∧ m_Sn (m_S0 S) (55 + 2 * q) = fun _ => 0 := fun q hq => by
    have e4 : ∀ a : Nat, 29 ≤ a → a < 79 → m_S4 (m_Sb (m_Sa S)) a = fun _ => 0 := fun a h1 h2 => by rw [m_S4f (by omega), z a (by omega) h2]
    rw [n1 _ (by omega), n1 _ (by omega)]
    unfold m_S0
    match q, hq with
    | 0, _ => refine ⟨?_, ?_, ?_⟩ <;> first | (funext k; simp [m_SH, ip_up, e4]; done) | (simp [m_SH, ip_up, e4])
    | 1, _ => refine ⟨?_, ?_, ?_⟩ <;> first | (funext k; simp [m_SH, ip_up, e4]; done) | (simp [m_SH, ip_up, e4])
    | 2, _ => refine ⟨?_, ?_, ?_⟩ <;> first | (funext k; simp [m_SH, ip_up, e4]; done) | (simp [m_SH, ip_up, e4])
    | 3, _ => refine ⟨?_, ?_, ?_⟩ <;> first | (funext k; simp [m_SH, ip_up, e4]; done) | (simp [m_SH, ip_up, e4])
    | q + 4, h => omega
  have zh : ∀ a : Nat, 61 ≤ a → a < 79 → m_S0 S a = fun _ => 0 := fun a h1 h2 => by rw [m_S0f (by omega), m_Sba (by omega), hZ a h2]
  have mh : ∀ a : Nat, 64 < a → a < 79 → a ≠ 69 → m_Sn (m_S0 S) a = fun _ => 0 := fun a h1 h2 h3 => by rw [m_Snf (by omega) (by omega) (by omega) h3, zh a (by omega) h2]
  have e62 : ∀ k, m_Sn (m_S0 S) 62 k = if k = 3 then 1 else if k = 38 then -1 else if k = 7 then 9 else 0 := fun k => by
    simp only [m_Sn, m_sp, m_Sm, ip_up, ip_ar, zh 62 (by omega) (by omega)]
    simp
  have e69 : m_Sn (m_S0 S) 69 = m_fw (fun _ => 0) (fun _ => 0) := by
    have z66 := zh 66 (by omega) (by omega)
    have z69 := zh 69 (by omega) (by omega)
    funext k
    simp only [m_Sn, m_sp, m_Sm, ip_up, ip_ar, z66, z69]
    simp
  have e64 : m_Sn (m_S0 S) 64 0 = 64 := by
    simp [m_Sn, ip_up]
  have e63 : ∀ k, m_Sn (m_S0 S) 63 k = m_Sn (fun _ _ => 0) 63 k := fun k => by
    simp only [m_Sn, m_sp, m_Sm, ip_up, ip_ar, zh 63 (by omega) (by omega)]
    simp
  refine ⟨x_wi0 (lz 2 (by omega) (by omega) (by omega) (by omega) (by omega)) l3 (lz 4 (by omega) (by omega) (by omega) (by omega) (by omega)) (lz 5 (by omega) (by omega) (by omega) (by omega) (by omega)) (lz 6 (by omega) (by omega) (by omega) (by omega) (by omega)) (lz 7 (by omega) (by omega) (by omega) (by omega) (by omega)) l8.1 l8.2,
    x_wi0 (lz 10 (by omega) (by omega) (by omega) (by omega) (by omega)) l11 (lz 12 (by omega) (by omega) (by omega) (by omega) (by omega)) (lz 13 (by omega) (by omega) (by omega) (by omega) (by omega)) (lz 14 (by omega) (by omega) (by omega) (by omega) (by omega)) (lz 15 (by omega) (by omega) (by omega) (by omega) (by omega)) l16.1 l16.2, ?_, ?_, ?_, ?_, ?_, ?_, ?_⟩
  · intro t ht
    by_cases c : t = 0
    · subst c
      rw [e27, e28]
      exact rw3.2
    · rw [mz (27 + 3 * t) (by omega) (by omega), mz (28 + 3 * t) (by omega) (by omega)]
      exact ⟨fun _ _ _ => ip_w0, x_rg0 (n := 3) (by decide) (by decide)⟩
  · rw [lz 1 (by omega) (by omega) (by omega) (by omega) (by omega)]
    exact ⟨Int.le_refl _, by decide⟩
  · unfold x_c4
    rw [lz 1 (by omega) (by omega) (by omega) (by omega) (by omega), l8.1, l8.2, e62, e62, e62, mh 66 (by omega) (by omega) (by omega), e69, lz 2 (by omega) (by omega) (by omega) (by omega) (by omega), l3]
    exact ⟨rfl, fun p h0 h1 => absurd (show p < 0 from h1) (by omega), rfl, rfl, fun k _ _ => ⟨rfl, rfl⟩⟩
  · unfold x_c5
    rw [lz 0 (by omega) (by omega) (by omega) (by omega) (by omega), lz 9 (by omega) (by omega) (by omega) (by omega) (by omega), e62]
    exact ⟨Or.inl rfl, ⟨Int.le_refl _, by decide⟩, fun _ => rfl, fun h => absurd h (by decide)⟩
  · unfold x_c6
    rw [e17, l8.2, e62, e19, e62, e20, e21, e23]
    refine ⟨⟨by decide, by decide⟩, by decide, rfl, ⟨by decide, by decide⟩, rfl, fun k k0 k1 => by have := m_b0r k k0 k1; omega, fun i i0 i1 => absurd i1 (by omega), hW1, hW2, fun t ht => ?_⟩
    obtain rfl : t = 0 := by omega
    refine ⟨m_bM, 64, m_s1.2.1, m_s1.2.2.1, m_s1.2.2.2, m_s1.1, e64, ⟨by decide, by decide⟩, fun i i0 i1 => ?_, fun i i0 i1 => ?_, y_TokS (by decide), m_a1, fun k F k0 k1 => ?_⟩
    · have := m_bMe i.toNat (by omega)
      rw [Int.toNat_of_nonneg i0] at this
      rw [show (160 : Int) * ((0 : Nat) : Int) + i = i by omega, e63, this]
    · have := m_bMr i.toNat (by omega)
      rwa [Int.toNat_of_nonneg i0] at this
    · unfold x_V0
      rw [e27, e28, rdv k F k0 k1, m_qk]
  · refine ⟨by rw [mh 78 (by omega) (by omega) (by omega)]; exact x_rg0 (by decide) (by decide), fun q hq => ?_⟩
    obtain ⟨q1, q2, q3⟩ := sh q hq
    unfold x_sh
    rw [q1, q2, q3, mh 75 (by omega) (by omega) (by omega), mh 76 (by omega) (by omega) (by omega), mh 77 (by omega) (by omega) (by omega)]
    refine ⟨⟨by decide, by decide⟩, ⟨by decide, by decide⟩, x_rg0 (by decide) (by decide), ?_, ?_, ?_, fun _ => rfl, fun h => absurd rfl h⟩ <;> (dsimp only; decide)
  · unfold y_mi
    rw [mh 67 (by omega) (by omega) (by omega), mh 68 (by omega) (by omega) (by omega), mh 74 (by omega) (by omega) (by omega), mh 73 (by omega) (by omega) (by omega), e62, e62, e62]
    exact ⟨x_rg0 (by decide) (by decide), y_rw0, y_rw0, x_rg0 (by decide) (by decide), ⟨by decide, by decide⟩, ⟨by decide, by decide⟩, ⟨by decide, by decide⟩⟩
theorem x_RX0 : x_RX (m_RM0 (m_R0 (fun _ _ => none))) := by
  unfold x_RX
  decide +kernel
theorem x_RM0 : x_RM (m_RM0 (m_R0 (fun _ _ => none))) := by
  unfold x_RM
  decide +kernel
theorem m_0f {a : Nat} (h : 79 ≤ a) : m_Sn (m_S0 S) a = S a := by
  rw [m_Snf (by omega) (by omega) (by omega) (by omega), m_S0f (by omega), m_Sba (by omega)]
end FRE
