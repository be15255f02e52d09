/-! the first rule reads well -/
def m_b0 : Int → Int := fun k => if 0 ≤ k ∧ k < 62 then (ip_tx 0).getD k.toNat 0 else 0
def m_s0 : Int × (Int → Int) × (Int → Int) × (Int → Int) := k_split m_b0 62 (fun _ => 0) (fun _ => 0) (fun _ => 0)
theorem m_s0l : m_s0.1 = 15 := by decide +kernel
theorem m_s0t : ([0, 1, 2, 3, 4, 5, 6, 7, 8, 9, 10, 11, 12, 13, 14, 15] : List Int).map (fun k => m_s0.2.1 k) = [0, 20, 43, 7, 45, 8, 59, 1, 7, 59, 2, 20, 60, 8, 59, -1] := by decide +kernel
def m_t0 : Int → Int := fun k => ([0, 20, 43, 7, 45, 8, 59, 1, 7, 59, 2, 20, 60, 8, 59, -1] : List Int).getD k.toNat 0
def m_n0 : Int → Int := fun k => if k = 1 then 10 else if k = 11 then 12 else 0
theorem m_r0 : (x_read m_t0 m_n0 15 (fun _ => 0) (fun _ => 0)).1 = true := by decide +kernel
