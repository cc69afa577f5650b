/-! arguments: bytes, places -/
def by01 (n : Nat) (b r : Int32) : Prop := (r = nI 1 ∧ ∃ v, v < n ∧ b = nI v) ∨ (r = nI 0 ∧ ¬ ∃ v, v < n ∧ b = nI v)
theorem by01_1 {n : Nat} {b r : Int32} (h : by01 n b r) (hr : ¬ r = 0) : ∃ v, v < n ∧ b = nI v := by
  rcases h with ⟨-, h⟩ | ⟨rfl, -⟩
  · exact h
  · exact absurd rfl hr
theorem by01_0 {n : Nat} {b r : Int32} (h : by01 n b r) (hr : r = 0) : ¬ ∃ v, v < n ∧ b = nI v := by
  rcases h with ⟨rfl, h⟩ | ⟨-, h⟩
  · exact absurd hr (by decide)
  · exact h
theorem by01_ok {n v : Nat} {r : Int32} (h : by01 n (nI v) r) (hv : v < n) : ¬ r = 0 := fun q => by01_0 h q ⟨v, hv, rfl⟩
theorem by01_lt {n : Nat} {b : Int32} (hn : n < 2 ^ 31) (h : b < 0) : by01 n b (nI 0) := Or.inr ⟨rfl, fun ⟨v, hv, e⟩ => by
  rw [e, ← nI_0, nI_ltI (by omega) (by omega)] at h
  omega⟩
theorem by01_ge {n : Nat} {b : Int32} (hn : n < 2 ^ 31) (h : nI n ≤ b) : by01 n b (nI 0) := Or.inr ⟨rfl, fun ⟨v, hv, e⟩ => by
  rw [e, nI_leI (by omega) (by omega)] at h
  omega⟩
theorem by01_gt {n : Nat} {b : Int32} (hn : n + 1 < 2 ^ 31) (h : nI n < b) : by01 (n + 1) b (nI 0) := Or.inr ⟨rfl, fun ⟨v, hv, e⟩ => by
  rw [e, nI_ltI (by omega) (by omega)] at h
  omega⟩
theorem nI_lo {b : Int32} (h0 : ¬ b < 0) : ∃ v, v < 2 ^ 31 ∧ b = nI v := nI_of h0
theorem by01_in {n : Nat} {b : Int32} (hn : n < 2 ^ 31) (h0 : ¬ b < 0) (h : ¬ nI n ≤ b) : by01 n b (nI 1) := by
  obtain ⟨v, hv, rfl⟩ := nI_lo h0
  rw [nI_leI (by omega) (by omega)] at h
  exact Or.inl ⟨rfl, v, by omega, rfl⟩
theorem by01_in' {n : Nat} {b : Int32} (hn : n + 1 < 2 ^ 31) (h0 : ¬ b < 0) (h : ¬ nI n < b) : by01 (n + 1) b (nI 1) := by
  obtain ⟨v, hv, rfl⟩ := nI_lo h0
  rw [nI_ltI (by omega) (by omega)] at h
  exact Or.inl ⟨rfl, v, by omega, rfl⟩
theorem in_lt {n : Nat} {b : Int32} (hn : n < 2 ^ 31) (h0 : ¬ b < 0) (h : b < nI n) : ∃ v, v < n ∧ b = nI v := by
  obtain ⟨v, hv, rfl⟩ := nI_lo h0
  rw [nI_ltI (by omega) (by omega)] at h
  exact ⟨v, h, rfl⟩
theorem in_le {n : Nat} {b : Int32} (hn : n < 2 ^ 31) (h0 : ¬ b < 0) (h : b ≤ nI n) : ∃ v, v ≤ n ∧ b = nI v := by
  obtain ⟨v, hv, rfl⟩ := nI_lo h0
  rw [nI_leI (by omega) (by omega)] at h
  exact ⟨v, h, rfl⟩
theorem in_nle {n : Nat} {b : Int32} (hn : n < 2 ^ 31) (h0 : ¬ b < 0) (h : ¬ nI n ≤ b) : ∃ v, v < n ∧ b = nI v := by
  obtain ⟨v, hv, rfl⟩ := nI_lo h0
  rw [nI_leI (by omega) (by omega)] at h
  exact ⟨v, by omega, rfl⟩
theorem TG_lt (f : Nat → Int32) (a : Nat → Nat) (n : Nat) (d : Nat → Nat) (m j : Nat) : TG f a n d m j < 256 := dg_lt _ _
theorem xor_lt {a b : Nat} (ha : a < 256) (hb : b < 256) : a ^^^ b < 256 := Nat.xor_lt_two_pow (n := 8) ha hb
theorem nI_ne {a b : Nat} (ha : a < 2 ^ 31) (hb : b < 2 ^ 31) (h : ¬ nI a = nI b) : ¬ a = b := fun e => h (by rw [e])
