/-! how much data a box takes -/
def capN (c : Int32) : Nat := if c < 0 then 0 else if c ≤ nI 400 then c.toNatClampNeg else 400
theorem capN_c {c : Int32} (h0 : ¬ c < 0) (h : c ≤ nI 400) : c = nI (capN c) ∧ capN c ≤ 400 := by
  obtain ⟨v, hv, rfl⟩ := in_le (n := 400) (by decide) h0 h
  have e : capN (nI v) = v := by rw [capN, if_neg h0, if_pos h, nI_clamp (by omega)]
  rw [e]
  exact ⟨rfl, hv⟩
theorem capN_le (c : Int32) : capN c ≤ 400 := by
  by_cases h0 : c < 0
  · rw [capN, if_pos h0]; omega
  · by_cases h : c ≤ nI 400
    · exact (capN_c h0 h).2
    · rw [capN, if_neg h0, if_neg h]; omega
theorem cap_a {c : Int32} (h : ¬ 0 ≤ c) : nI 0 = nI (capN c) := by
  rw [capN, if_pos (Int32.not_le.mp h)]
theorem cap_b {c : Int32} (h0 : 0 ≤ c) (h : ¬ c ≤ nI 400) : nI 400 = nI (capN c) := by
  rw [capN, if_neg (fun q => Int32.not_lt.mpr h0 q), if_neg h]
theorem cap_c {c : Int32} (h0 : 0 ≤ c) (h : c ≤ nI 400) : c = nI (capN c) := (capN_c (fun q => Int32.not_lt.mpr h0 q) h).1
theorem cap_mm (c : Int32) : (if nI 0 < (if c < nI 400 then c else nI 400) then (if c < nI 400 then c else nI 400) else nI 0) = nI (capN c) := by
  by_cases h0 : c < 0
  · have h1 : c < nI 400 := Int32.lt_trans h0 (by decide)
    have h2 : ¬ nI 0 < c := fun q => absurd (Int32.lt_trans q h0) (by decide)
    rw [if_pos h1, if_neg h2, capN, if_pos h0]
  · by_cases h : c ≤ nI 400
    · obtain ⟨v, hv, rfl⟩ := in_le (n := 400) (by decide) h0 h
      rw [← (capN_c h0 h).1]
      by_cases h1 : v < 400
      · rw [if_pos (nI_lt h1 (by decide))]
        by_cases h2 : 0 < v
        · rw [if_pos (nI_lt h2 (by omega))]
        · rw [show v = 0 by omega]; decide
      · rw [show v = 400 by omega]; decide
    · have h1 : ¬ c < nI 400 := fun q => h (Int32.le_of_lt q)
      rw [if_neg h1, if_pos (by decide), capN, if_neg h0, if_neg h]
