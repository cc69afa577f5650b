/-! the stream's blocks, alike below 16 -/
theorem e_rf (f : Nat → Int32) : E16 f f := fun _ _ => rfl
theorem e_sy {f g : Nat → Int32} (h : E16 f g) : E16 g f := fun j hj => (h j hj).symm
theorem e_tr {f g k : Nat → Int32} (h : E16 f g) (h2 : E16 g k) : E16 f k := fun j hj => (h j hj).trans (h2 j hj)
theorem e_at {f g : Nat → Int32} (h : E16 f g) {a b d : Nat} (ha : a < 16) (hb : b < 16) (hd : d < 16) (k : Int32) : E16 (AT f a b d k) (AT g a b d k) := by
  have h1 : E16 (upd f a (f a + f b)) (upd g a (g a + g b)) := e_upd h a (by rw [h a ha, h b hb])
  unfold AT
  exact e_upd h1 d (by rw [h1 d hd, h1 a ha])
theorem e_qr {f g : Nat → Int32} (h : E16 f g) {a b c d : Nat} (ha : a < 16) (hb : b < 16) (hc : c < 16) (hd : d < 16) : E16 (QR f a b c d) (QR g a b c d) := e_at (e_at (e_at (e_at h ha hb hd _) hc hd hb _) ha hb hd _) hc hd hb _
theorem e_dr {f g : Nat → Int32} (h : E16 f g) : E16 (DR f) (DR g) := by
  unfold DR
  refine e_qr (e_qr (e_qr (e_qr (e_qr (e_qr (e_qr (e_qr h ?_ ?_ ?_ ?_) ?_ ?_ ?_ ?_) ?_ ?_ ?_ ?_) ?_ ?_ ?_ ?_) ?_ ?_ ?_ ?_) ?_ ?_ ?_ ?_) ?_ ?_ ?_ ?_) ?_ ?_ ?_ ?_ <;> decide
theorem e_drn {f g : Nat → Int32} (h : E16 f g) : ∀ n, E16 (DRn n f) (DRn n g)
  | 0 => h
  | n + 1 => e_dr (e_drn h n)
theorem cpy_at (g f : Nat → Int32) : ∀ n j, cpy16 n g f j = if j < n then g j else f j
  | 0, j => by rw [if_neg (by omega)]; rfl
  | n + 1, j => by
    show upd (cpy16 n g f) n (g n) j = _
    unfold upd
    by_cases e : j = n
    · rw [if_pos e, if_pos (by omega), e]
    · rw [if_neg e, cpy_at g f n j]
      by_cases q : j < n
      · rw [if_pos q, if_pos (by omega)]
      · rw [if_neg q, if_neg (by omega)]
theorem add_at (g f : Nat → Int32) : ∀ n j, addN n g f j = if j < n then f j + g j else f j
  | 0, j => by rw [if_neg (by omega)]; rfl
  | n + 1, j => by
    show upd (addN n g f) n (addN n g f n + g n) j = _
    unfold upd
    by_cases e : j = n
    · rw [if_pos e, if_pos (by omega), e, add_at g f n n, if_neg (by omega)]
    · rw [if_neg e, add_at g f n j]
      by_cases q : j < n
      · rw [if_pos q, if_pos (by omega)]
      · rw [if_neg q, if_neg (by omega)]
theorem e_mb {i i2 : Nat → Int32} (h : E16 i i2) (b b2 : Nat → Int32) : E16 (MB i b) (MB i2 b2) := by
  have hc : E16 (cpy16 16 i b) (cpy16 16 i2 b2) := fun j hj => by rw [cpy_at, cpy_at, if_pos hj, if_pos hj, h j hj]
  have hd := e_drn hc 10
  intro j hj
  unfold MB
  rw [add_at, add_at, if_pos hj, if_pos hj, hd j hj, h j hj]
theorem bbn_cong {f g : Nat → Int32} (h : E16 f g) {i : Nat} (hi : i < 64) : bbn f i = bbn g i := by
  unfold bbn
  rw [h (i / 4) (by omega)]
theorem rF_cong {f g : Nat → Int32} (h : E16 f g) : rF f = rF g := by
  funext j
  unfold rF
  by_cases q : j < 16
  · rw [if_pos q, if_pos q, bbn_cong h (by omega)]
  · rw [if_neg q, if_neg q]
theorem rF_16 (f : Nat → Int32) : rF f 16 = 0 := if_neg (by omega)
theorem hAll_cong {f g : Nat → Int32} (h : E16 f g) (a : Nat → Nat) (n : Nat) (d : Nat → Nat) (m : Nat) : hAll f a n d m = hAll g a n d m := by
  unfold hAll
  rw [rF_cong h]
theorem TG_cong {f g : Nat → Int32} (h : E16 f g) (a : Nat → Nat) (n : Nat) (d : Nat → Nat) (m j : Nat) : TG f a n d m j = TG g a n d m j := by
  unfold TG
  rw [hAll_cong h, vl_cong (a := xM (hAll g a n d m) (sB f)) (b := xM (hAll g a n d m) (sB g)) (fun k hk => by
    unfold xM sB
    rw [bbn_cong h (by omega)])]
theorem pol_congA {R H0 k : Nat} {f g : Nat → Nat} (h : ∀ i, i < k → f i = g i) : ∀ q, pol R f k H0 q = pol R g k H0 q
  | 0 => rfl
  | q + 1 => by
    show tV (pol R f k H0 q) (cb f k q) * R % pP = tV (pol R g k H0 q) (cb g k q) * R % pP
    rw [pol_congA h q, tV_cong (b := cb f k q) (c := cb g k q) (fun j hj => by
      unfold cb
      by_cases e : 16 * q + j < k
      · rw [if_pos e, if_pos e, h _ e]
      · rw [if_neg e, if_neg e])]
/-- block c of a key and a nonce -/
def CB (k n : Nat → Int32) (c : Int32) : Nat → Int32 := MB (stF k n c) (fun _ => 0)
/-- the stream's words as the reference has them, but for the counter -/
def inE (fi k n : Nat → Int32) : Prop := ∀ j, j < 16 → j ≠ 12 → fi j = stF k n (nI 0) j
theorem stF_ne {k n : Nat → Int32} {c c2 : Int32} {j : Nat} (h : j ≠ 12) : stF k n c j = stF k n c2 j := by
  unfold stF
  rw [if_neg h, if_neg h]
theorem in_put {fi k n : Nat → Int32} (h : inE fi k n) (c : Int32) : E16 (upd fi 12 c) (stF k n c) := by
  intro j hj
  unfold upd
  by_cases e : j = 12
  · rw [if_pos e, e]; rfl
  · rw [if_neg e, h j hj e]
    exact stF_ne e
theorem in_keep {fi k n : Nat → Int32} (h : inE fi k n) (c : Int32) : inE (upd fi 12 c) k n := by
  intro j hj e
  unfold upd
  rw [if_neg e]
  exact h j hj e
theorem stF_k {k k2 n : Nat → Int32} {c : Int32} {j : Nat} (h : ¬ (4 ≤ j ∧ j < 12)) : stF k n c j = stF k2 n c j := by
  unfold stF
  by_cases q : j < 4
  · rcases (show j = 0 ∨ j = 1 ∨ j = 2 ∨ j = 3 by omega) with rfl | rfl | rfl | rfl <;> rfl
  · rw [if_neg (show ¬ j < 12 by omega), if_neg (show ¬ j < 12 by omega)]
theorem stF_ki {k n : Nat → Int32} {c : Int32} {j : Nat} (h : 4 ≤ j ∧ j < 12) : stF k n c j = k (j - 4) := by
  unfold stF
  rw [if_neg (by omega), if_neg (by omega), if_neg (by omega), if_neg (by omega), if_pos h.2]
theorem stF_n {k n n2 : Nat → Int32} {c : Int32} {j : Nat} (h : ¬ 13 ≤ j) : stF k n c j = stF k n2 c j := by
  by_cases q : 4 ≤ j ∧ j < 12
  · rw [stF_ki q, stF_ki q]
  · unfold stF
    by_cases q2 : j < 4
    · rcases (show j = 0 ∨ j = 1 ∨ j = 2 ∨ j = 3 by omega) with rfl | rfl | rfl | rfl <;> rfl
    · rw [show j = 12 by omega]
      rfl
theorem stF_ni {k n : Nat → Int32} {c : Int32} {j : Nat} (h : 13 ≤ j) : stF k n c j = n (j - 13) := by
  unfold stF
  rw [if_neg (by omega), if_neg (by omega), if_neg (by omega), if_neg (by omega), if_neg (by omega), if_neg (by omega)]
theorem upd_at (f : Nat → Int32) (k : Nat) (x : Int32) (j : Nat) : upd f k x j = if j = k then x else f j := rfl
theorem in_key {fi k n : Nat → Int32} (h : inE fi k n) {i : Nat} (hi : i < 8) (w : Int32) : inE (upd fi (4 + i) w) (upd k i w) n := by
  intro j hj e
  rw [upd_at]
  by_cases q3 : 4 ≤ j ∧ j < 12
  · rw [stF_ki q3, upd_at]
    by_cases q : j = 4 + i
    · rw [if_pos q, if_pos (by omega)]
    · rw [if_neg q, if_neg (by omega), h j hj e, stF_ki q3]
  · rw [if_neg (by omega), h j hj e]
    exact stF_k q3
theorem in_non {fi k n : Nat → Int32} (h : inE fi k n) {i : Nat} (hi : i < 3) (w : Int32) : inE (upd fi (13 + i) w) k (upd n i w) := by
  intro j hj e
  rw [upd_at]
  by_cases q3 : 13 ≤ j
  · rw [stF_ni q3, upd_at]
    by_cases q : j = 13 + i
    · rw [if_pos q, if_pos (by omega)]
    · rw [if_neg q, if_neg (by omega), h j hj e, stF_ni q3]
  · rw [if_neg (by omega), h j hj e]
    exact stF_n q3
