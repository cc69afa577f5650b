/-! the reference's stream -/
def stF (k n : Nat → Int32) (c : Int32) (j : Nat) : Int32 := if j = 0 then 1634760805 else if j = 1 then 857760878 else if j = 2 then 2036477234 else if j = 3 then 1797285236 else if j < 12 then k (j - 4) else if j = 12 then c else n (j - 13)
theorem st_init (k n : Nat → Int32) (c : Int32) (f : Nat → Int32) : ∀ j, j < 4 + 0 → upd (upd (upd (upd f 0 1634760805) 1 857760878) 2 2036477234) 3 1797285236 j = stF k n c j := by
  intro j hj
  rcases (show j = 0 ∨ j = 1 ∨ j = 2 ∨ j = 3 by omega) with rfl | rfl | rfl | rfl <;> rfl
theorem st_key {k n g : Nat → Int32} {c : Int32} {i : Nat} (hg : ∀ j, j < 4 + i → g j = stF k n c j) (hi : i < 8) : ∀ j, j < 4 + (i + 1) → upd g (4 + i) (k i) j = stF k n c j := by
  intro j hj
  unfold upd
  by_cases q : j = 4 + i
  · rw [if_pos q, q, stF, if_neg (by omega), if_neg (by omega), if_neg (by omega), if_neg (by omega), if_pos (by omega), show 4 + i - 4 = i by omega]
  · rw [if_neg q]
    exact hg j (by omega)
theorem st_12 {k n g : Nat → Int32} {c : Int32} (hg : ∀ j, j < 4 + 8 → g j = stF k n c j) : ∀ j, j < 13 + 0 → upd g 12 c j = stF k n c j := by
  intro j hj
  unfold upd
  by_cases q : j = 12
  · subst q; rfl
  · rw [if_neg q]
    exact hg j (by omega)
theorem st_non {k n g : Nat → Int32} {c : Int32} {i : Nat} (hg : ∀ j, j < 13 + i → g j = stF k n c j) (hi : i < 3) : ∀ j, j < 13 + (i + 1) → upd g (13 + i) (n i) j = stF k n c j := by
  intro j hj
  unfold upd
  by_cases q : j = 13 + i
  · rw [if_pos q, q, stF, if_neg (by omega), if_neg (by omega), if_neg (by omega), if_neg (by omega), if_neg (by omega), if_neg (by omega), show 13 + i - 13 = i by omega]
  · rw [if_neg q]
    exact hg j (by omega)
def colN : Nat → (Nat → Int32) → (Nat → Int32)
  | 0, f => f
  | q + 1, f => QR (colN q f) q (4 + q) (8 + q) (12 + q)
def diagN : Nat → (Nat → Int32) → (Nat → Int32)
  | 0, f => f
  | q + 1, f => QR (diagN q f) q (4 + (q + 1) % 4) (8 + (q + 2) % 4) (12 + (q + 3) % 4)
theorem DR_eq (f : Nat → Int32) : diagN 4 (colN 4 f) = DR f := rfl
/-- two arrays alike below 16 -/
def E16 (f g : Nat → Int32) : Prop := ∀ j, j < 16 → f j = g j
theorem e_upd {f g : Nat → Int32} (h : E16 f g) (k : Nat) {x y : Int32} (e : x = y) : E16 (upd f k x) (upd g k y) := by
  intro j hj
  unfold upd
  split
  · exact e
  · exact h j hj
