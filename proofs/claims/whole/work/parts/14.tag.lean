/-! the tag, in numbers -/
/-- byte i of a block, as a number -/
def bbn (f : Nat → Int32) (i : Nat) : Nat := (f (i / 4)).toBitVec.toNat / 2 ^ (8 * (i % 4)) % 256
theorem bbn_lt (f : Nat → Int32) (i : Nat) : bbn f i < 256 := Nat.mod_lt _ (by decide)
theorem sh8 : ∀ k, k < 4 → (((nI (8 * k)).toUInt32 &&& Int32.toUInt32 31).toBitVec % 32).toNat = 8 * k := by decide
theorem BB_n (f : Nat → Int32) (i : Nat) : BB f i = nI (bbn f i) := by
  unfold BB bbn
  rw [pk_and _ 8 (by decide), pk_ushr _ _ (8 * (i % 4)) (sh8 _ (Nat.mod_lt _ (by decide)))]
def fmask (i : Nat) : Nat := if i % 4 = 3 then 15 else if i % 4 = 0 ∧ 0 < i then 252 else 255
def rF (f : Nat → Int32) (j : Nat) : Nat := if j < 16 then bbn f j &&& fmask j else 0
theorem rF_le (f : Nat → Int32) (j : Nat) : rF f j ≤ 255 := by
  unfold rF
  split
  · have := Nat.and_le_left (n := bbn f j) (m := fmask j)
    have := bbn_lt f j
    omega
  · omega
def red (S : Nat) : Nat := 5 * (S / 2 ^ 130) + S % 2 ^ 130
theorem red_mod (S : Nat) : red S % pP = S % pP := by
  have e : S = red S + pP * (S / 2 ^ 130) := by
    have h1 := Nat.div_add_mod S (2 ^ 130)
    have h2 : (2 : Nat) ^ 130 = pP + 5 := by decide
    unfold red
    rw [h2] at h1 ⊢
    rw [Nat.add_mul] at h1
    omega
  conv => rhs; rw [e]
  rw [Nat.add_mul_mod_self_left]
theorem p256_17 : (256 : Nat) ^ 17 = 2 ^ 136 := by decide
theorem p256_16 : (256 : Nat) ^ 16 = 2 ^ 128 := by decide
theorem dg_mod {S j : Nat} (h : j < 16) : dg (S % 2 ^ 130) j = dg S j := by
  have e : S = S % 2 ^ 130 + (S / 2 ^ 130 * 4) * 256 ^ 16 := by
    have h1 := Nat.div_add_mod S (2 ^ 130)
    have h2 : (2 : Nat) ^ 130 = 4 * 256 ^ 16 := by decide
    rw [h2] at h1 ⊢
    rw [Nat.mul_comm, ← Nat.mul_assoc, Nat.mul_comm 4] at h1
    rw [Nat.mul_comm (256 ^ 16), Nat.mul_comm _ 4] at h1
    have : S / (4 * 256 ^ 16) * 4 * 256 ^ 16 = 4 * 256 ^ 16 * (S / (4 * 256 ^ 16)) := by
      rw [Nat.mul_comm _ 4, Nat.mul_assoc, Nat.mul_comm (S / _), Nat.mul_assoc]
    omega
  conv => rhs; rw [e]
  rw [dg_high h]
theorem dg_mod16 (S : Nat) : dg (S % 2 ^ 130) 16 = dg S 16 % 4 := by
  unfold dg
  rw [p256_16]
  omega
theorem hi130 (S : Nat) : S / 256 ^ 17 * 64 + dg S 16 / 4 = S / 2 ^ 130 := by
  unfold dg
  rw [p256_16, p256_17]
  omega
def bump (a : Nat → Nat) (j : Nat) : Nat := if j = 16 then a j + 1 else a j
/-- the hash behind a chunk -/
def EC (a r : Nat → Nat) : Nat := red (vl 17 (prd (bump a) r))
/-- the hash's limbs in the midst of a chunk: t bytes have come -/
def hsh (V : Nat) (bs : Nat → Nat) (t j : Nat) : Nat := dg V j + (if j < t then bs j else 0)
def updN (f : Nat → Nat) (k x : Nat) (j : Nat) : Nat := if j = k then x else f j
theorem hsh_le {V t j : Nat} {bs : Nat → Nat} (h : ∀ j, bs j < 256) : hsh V bs t j ≤ 510 := by
  unfold hsh
  have := dg_lt V j
  have := h j
  split <;> omega
theorem hsh_0 (V : Nat) (bs : Nat → Nat) (j : Nat) : hsh V bs 0 j = dg V j := by simp [hsh]
theorem hsh_put (V : Nat) (bs : Nat → Nat) (t v j : Nat) : (if j = t then hsh V bs t j + v else hsh V bs t j) = hsh V (updN bs t v) (t + 1) j := by
  unfold hsh updN
  by_cases e : j = t
  · subst e; simp
  · rcases Nat.lt_or_ge j t with q | q
    · simp [e, q, show j < t + 1 by omega]
    · simp [e, show ¬ j < t by omega, show ¬ j < t + 1 by omega]
/-- what the tag's maker holds: the hash behind the last chunk, the bytes that came behind it, how many -/
abbrev TS : Type := Nat × (Nat → Nat) × Nat
def okT (S : TS) : Prop := S.2.2 < 16 ∧ ∀ j, S.2.1 j < 256
def tk1 (r : Nat → Nat) (S : TS) (v : Nat) : TS := if S.2.2 + 1 = 16 then (EC (hsh S.1 (updN S.2.1 S.2.2 v) 16) r, updN S.2.1 S.2.2 v, 0) else (S.1, updN S.2.1 S.2.2 v, S.2.2 + 1)
theorem tk1_ok {r : Nat → Nat} {S : TS} {v : Nat} (h : okT S) (hv : v < 256) : okT (tk1 r S v) := by
  have hu : ∀ j, updN S.2.1 S.2.2 v j < 256 := fun j => by
    unfold updN
    split
    · exact hv
    · exact h.2 j
  unfold tk1
  split
  · exact ⟨(by show 0 < 16; decide), hu⟩
  · exact ⟨by have := h.1; show S.2.2 + 1 < 16; omega, hu⟩
def tks (r : Nat → Nat) (S : TS) (f : Nat → Nat) : Nat → TS
  | 0 => S
  | n + 1 => tk1 r (tks r S f n) (f n)
theorem tks_ok {r : Nat → Nat} {S : TS} {f : Nat → Nat} (h : okT S) (hf : ∀ j, f j < 256) (n : Nat) : okT (tks r S f n) := by
  induction n with
  | zero => exact h
  | succ n ih => exact tk1_ok ih (hf n)
def fl1 (r : Nat → Nat) (S : TS) : TS := if 0 < S.2.2 then (EC (hsh S.1 S.2.1 S.2.2) r, S.2.1, 0) else S
def clV (V : Nat) : Nat := if 2 ^ 130 ≤ V + 5 then 5 + V else V
abbrev hF (S : TS) : Nat → Int32 := fun j => nI (hsh S.1 S.2.1 S.2.2 j)
theorem shN : ∀ k, k < 4 → (((nI (8 * k)).toUInt32 &&& Int32.toUInt32 31).toBitVec % 32).toNat = 8 * k := sh8
theorem cnt_byte {c i : Nat} (hc : c < 2 ^ 31) (hi : i < 4) : ((nI c).toUInt32 >>> ((nI (8 * i)).toUInt32 &&& Int32.toUInt32 31)).toInt32 &&& nI 255 = nI (dg c i) := by
  rw [pk_ushrN (by omega) _ (8 * i) (sh8 i hi), and255 (by have := Nat.div_le_self c (2 ^ (8 * i)); omega)]
  unfold dg
  rw [show (256 : Nat) = 2 ^ 8 from rfl, ← Nat.pow_mul]
theorem dg_big {c i : Nat} (hc : c < 2 ^ 32) (hi : 4 ≤ i) : dg c i = 0 := by
  unfold dg
  have h1 : (256 : Nat) ^ 4 ≤ 256 ^ i := Nat.pow_le_pow_right (by decide) hi
  rw [Nat.div_eq_of_lt (by omega)]
theorem mix_r {ff fb : Nat → Int32} (h16 : ff 16 = nI 0) : ∀ j, j < 17 → mixf 16 (fun j => nI (rF fb j)) ff j = nI (rF fb j) := by
  intro j hj
  rcases Nat.lt_or_ge j 16 with q | q
  · exact mixf_n q
  · rw [show j = 16 by omega, mixf_at, h16]
    rfl
theorem mix_h0 {fh : Nat → Int32} : ∀ j, j < 17 → mixf 17 (fun _ => nI 0) fh j = hF (0, (fun _ => 0), 0) j := by
  intro j hj
  rw [mixf_n hj]
  show nI 0 = nI (hsh 0 _ 0 j)
  rw [hsh_0]
  simp [dg]
theorem upd16 (S : Nat) : ∀ j, j < 17 → upd (fun j => nI (dg S j)) 16 (nI (dg S 16 % 4)) j = nI (dg (S % 2 ^ 130) j) := by
  intro j hj
  unfold upd
  split
  · next q => rw [q, dg_mod16]
  · next q => exact congrArg nI (dg_mod (by omega)).symm
theorem upd_bump (a : Nat → Nat) : ∀ j, j < 17 → upd (fun j => nI (a j)) 16 (nI (a 16 + 1)) j = nI (bump a j) := by
  intro j hj
  unfold upd bump
  split
  · next q => rw [q]
  · rfl
theorem bump_le {a : Nat → Nat} (ha : ∀ j, j < 17 → a j ≤ 509 + (if j = 16 then 0 else 1)) : ∀ j, j < 17 → bump a j ≤ 510 := by
  intro j hj
  have h := ha j hj
  unfold bump
  split
  · next q => rw [if_pos q] at h; omega
  · next q => rw [if_neg q] at h; omega
theorem upd_hsh (V : Nat) (bs : Nat → Nat) (t v : Nat) : ∀ j, j < 17 → upd (fun j => nI (hsh V bs t j)) t (nI (hsh V bs t t + v)) j = nI (hsh V (updN bs t v) (t + 1) j) := by
  intro j _
  rw [← hsh_put]
  unfold upd
  split
  · next q => rw [q]
  · rfl
theorem hF_0 (V : Nat) (bs : Nat → Nat) : hF (V, bs, 0) = fun j => nI (dg V j) := funext fun j => congrArg nI (hsh_0 V bs j)
theorem hsh_ec {V t : Nat} {bs : Nat → Nat} (h : ∀ j, bs j < 256) (ht : t ≤ 16) : ∀ j, j < 17 → hsh V bs t j ≤ 509 + (if j = 16 then 0 else 1) := by
  intro j hj
  unfold hsh
  have h1 := dg_lt V j
  have h2 := h j
  by_cases q : j = 16
  · rw [if_neg (show ¬ j < t by omega), if_pos q]; omega
  · rw [if_neg q]
    split <;> omega
theorem updN_lt {bs : Nat → Nat} {t v : Nat} (h : ∀ j, bs j < 256) (hv : v < 256) : ∀ j, updN bs t v j < 256 := fun j => by
  unfold updN
  split
  · exact hv
  · exact h j
theorem tk1_no {r : Nat → Nat} {S : TS} {v : Nat} (h : ¬ S.2.2 + 1 = 16) : tk1 r S v = (S.1, updN S.2.1 S.2.2 v, S.2.2 + 1) := if_neg h
theorem tk1_yes {r : Nat → Nat} {S : TS} {v : Nat} (h : S.2.2 + 1 = 16) : tk1 r S v = (EC (hsh S.1 (updN S.2.1 S.2.2 v) (S.2.2 + 1)) r, updN S.2.1 S.2.2 v, 0) := by rw [h]; exact if_pos h
theorem fl1_no {r : Nat → Nat} {S : TS} (h : S.2.2 ≤ 0) : fl1 r S = S := if_neg (by omega)
theorem fl1_yes {r : Nat → Nat} {S : TS} (h : ¬ S.2.2 ≤ 0) : fl1 r S = (EC (hsh S.1 S.2.1 S.2.2) r, S.2.1, 0) := if_pos (by omega)
theorem fl1_ok {r : Nat → Nat} {S : TS} (h : okT S) : okT (fl1 r S) := by
  unfold fl1
  split
  · exact ⟨(by show 0 < 16; decide), h.2⟩
  · exact h
theorem fl1_0 {r : Nat → Nat} {S : TS} : (fl1 r S).2.2 = 0 := by
  unfold fl1
  split
  · rfl
  · omega
theorem clV_no {V : Nat} (h : ¬ 2 ^ 130 ≤ V + 5) : clV V = V := if_neg h
theorem clV_yes {V : Nat} (h : 2 ^ 130 ≤ V + 5) : clV V = 5 + V := if_pos h
def xS (V : Nat) (sd : Nat → Nat) (j : Nat) : Nat := dg (clV V) j + sd j
theorem ifone_0 {P : Prop} [Decidable P] (h : nI (if P then 1 else 0) = 0) : ¬ P := fun q => by
  rw [if_pos q] at h
  exact absurd h (by decide)
theorem ifone_1 {P : Prop} [Decidable P] (h : ¬ nI (if P then 1 else 0) = 0) : P := by
  by_cases q : P
  · exact q
  · exact absurd (by rw [if_neg q]; rfl) h
