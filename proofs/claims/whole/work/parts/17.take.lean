/-! one chunk, and the tag's row, in the reference -/
theorem fin_up {V : Nat} (h : V < 2 ^ 130) (h5 : 2 ^ 130 ≤ V + 5) : ∀ j, j < 40 → upd (fun j => nI (dg (V + 5) j)) 16 (nI (dg (V + 5) 16 % 4)) j = nI (dg (V % pP) j) := by
  intro j hj
  rw [← (red_fin h).1 h5]
  unfold upd
  by_cases q : j = 16
  · rw [if_pos q, q, dg_mod16]
  · rw [if_neg q]
    show nI (dg (V + 5) j) = _
    rcases Nat.lt_or_ge j 16 with h2 | h2
    · rw [dg_mod h2]
    · have e1 : dg (V + 5) j = 0 := dg_ge (n := 17) (by rw [p256_17]; omega) (by omega)
      have e2 : dg ((V + 5) % 2 ^ 130) j = 0 := dg_ge (n := 17) (Nat.lt_trans (Nat.mod_lt _ (by decide)) (by decide)) (by omega)
      rw [e1, e2]
theorem dn_val {V : Nat} (h : V < 256 ^ 40) (h5 : V < 2 ^ 130) : vI 40 (fun j => if j = 0 then ((dg (V + 5) 0 : Nat) : Int) + (-5) else ((dg (V + 5) j : Nat) : Int)) = (V : Int) := by
  rw [vI_upd (y := dg (V + 5)) (by decide), vl_dg, Nat.mod_eq_of_lt (by rw [p256_40]; omega)]
  omega
def chL (H : Nat) (b : Nat → Nat) (j : Nat) : Nat := dg H j + (if j < 16 then b j else 0)
theorem chL_mix (H : Nat) (b : Nat → Nat) : ∀ j, j < 40 → mixf 16 (fun j => nI (dg H j + b j)) (fun j => nI (dg H j)) j = nI (chL H b j) := by
  intro j _
  unfold mixf chL
  split <;> rfl
def tV (H : Nat) (b : Nat → Nat) : Nat := H + vl 16 b + 2 ^ 128
theorem vl_cut (n k : Nat) (b : Nat → Nat) : vl (n + k) (fun j => if j < n then b j else 0) = vl n b := by
  induction k with
  | zero => exact vl_cong (fun j hj => by rw [if_pos (by omega)])
  | succ k ih =>
    rw [← Nat.add_assoc, vl_succ, ih, if_neg (by omega), Nat.zero_mul, Nat.add_zero]
theorem tk_val {H : Nat} {b : Nat → Nat} (h : H < 256 ^ 40) : vl 40 (updN (chL H b) 16 (chL H b 16 + 1)) = tV H b := by
  rw [vl_upd (by decide)]
  have e : vl 40 (chL H b) = vl 40 (dg H) + vl 40 (fun j => if j < 16 then b j else 0) := (vl_add 40 (dg H) (fun j => if j < 16 then b j else 0))
  rw [e, vl_dg, Nat.mod_eq_of_lt h, vl_cut 16 24 b, p256_16, Nat.one_mul]
  rfl
theorem chL_le {H : Nat} {b : Nat → Nat} (hb : ∀ j, j < 16 → b j ≤ 255) : ∀ j, j < 40 → updN (chL H b) 16 (chL H b 16 + 1) j ≤ 2 ^ 30 := by
  intro j hj
  have h1 : ∀ k, chL H b k ≤ 510 := fun k => by
    unfold chL
    have := dg_lt H k
    split
    · next q => have := hb k q; omega
    · omega
  have h2 := h1 16
  have h3 := h1 j
  unfold updN
  split <;> omega
theorem in_step (X d R x i q : Nat) : X + d * R * 256 ^ i + d * x * 256 ^ (i + q) = X + d * (R + x * 256 ^ q) * 256 ^ i := by
  rw [Nat.mul_add, Nat.add_mul, Nat.pow_add, Nat.add_assoc]
  congr 2
  simp only [Nat.mul_assoc, Nat.mul_comm, Nat.mul_left_comm]
theorem out_step (X d R i : Nat) : X * R + d * R * 256 ^ i = (X + d * 256 ^ i) * R := by
  rw [Nat.add_mul]
  congr 1
  rw [Nat.mul_assoc, Nat.mul_comm R, ← Nat.mul_assoc]
theorem y_le {y : Nat → Nat} {T i q rq : Nat} (hq : i + q < 40) (hr : rq ≤ 255) (hy : ∀ j, j < 40 → y j ≤ (16 * i + q) * 65025) : ∀ j, j < 40 → updN y (i + q) (y (i + q) + dg T i * rq) j ≤ (16 * i + (q + 1)) * 65025 := by
  intro j hj
  have h1 := hy j hj
  have h2 := hy (i + q) hq
  have h3 : dg T i * rq ≤ 255 * 255 := Nat.mul_le_mul (by have := dg_lt T i; omega) hr
  rw [← Nat.add_assoc, Nat.add_mul, Nat.one_mul]
  generalize (16 * i + q) * 65025 = B at h1 h2 ⊢
  unfold updN
  split <;> omega
theorem tV_lt {H : Nat} {b : Nat → Nat} (hH : H < pP) (hb : ∀ j, j < 16 → b j ≤ 255) : tV H b < 2 ^ 131 := by
  have h1 := vl_lt (n := 16) (b := 255) (a := b) hb
  rw [p256_16] at h1
  have h2 : pP = 2 ^ 130 - 5 := rfl
  unfold tV
  omega
theorem y_tot {y b r : Nat → Nat} {H : Nat} (hH : H < pP) (hb : ∀ j, j < 16 → b j ≤ 255) (hr : ∀ j, j < 16 → r j ≤ 255) (hy : vl 40 y = vl 18 (dg (tV H b)) * vl 16 r) : vl 40 y = tV H b * vl 16 r ∧ vl 40 y < 256 ^ 40 := by
  have h1 := tV_lt hH hb
  have e : vl 40 y = tV H b * vl 16 r := by rw [hy, vl_dg, Nat.mod_eq_of_lt (Nat.lt_trans h1 (by decide))]
  refine ⟨e, ?_⟩
  have h2 := vl_lt (n := 16) (b := 255) (a := r) hr
  rw [p256_16] at h2
  have h3 : vl 16 r ≤ 2 ^ 128 := by omega
  rw [e]
  exact Nat.lt_of_le_of_lt (Nat.mul_le_mul (Nat.le_of_lt h1) h3) (by decide)
theorem pP_pos : 0 < pP := by decide
/-- byte j of chunk q of n bytes, 0s behind them -/
def cb (a : Nat → Nat) (n q j : Nat) : Nat := if 16 * q + j < n then a (16 * q + j) else 0
def pol (R : Nat) (a : Nat → Nat) (n H0 : Nat) : Nat → Nat
  | 0 => H0
  | q + 1 => tV (pol R a n H0 q) (cb a n q) * R % pP
theorem pol_lt {R : Nat} {a : Nat → Nat} {n H0 : Nat} (h : H0 < pP) (q : Nat) : pol R a n H0 q < pP := by
  cases q with
  | zero => exact h
  | succ q => exact Nat.mod_lt _ pP_pos
theorem cb_le {a : Nat → Nat} (ha : ∀ j, a j < 256) (n q : Nat) : ∀ j, j < 16 → cb a n q j ≤ 255 := by
  intro j _
  unfold cb
  split
  · have := ha (16 * q + j); omega
  · omega
def dD (op : Nat) (b t : Nat → Nat) (j : Nat) : Nat := if op = 0 then t j else b j
theorem dD_lt {op : Nat} {b t : Nat → Nat} (hb : ∀ j, b j < 256) (ht : ∀ j, t j < 256) : ∀ j, dD op b t j < 256 := by
  intro j
  unfold dD
  split
  · exact ht j
  · exact hb j
def lenb (n m j : Nat) : Nat := if j < 8 then dg n j else dg m (j - 8)
theorem lenb_le (n m : Nat) : ∀ j, j < 16 → lenb n m j ≤ 255 := by
  intro j _
  unfold lenb
  have := dg_lt n j
  have := dg_lt m (j - 8)
  split <;> omega
theorem sh8s : ∀ k, k < 4 → ((nI (8 * k) &&& 31).toBitVec.smod 32).toNat = 8 * k := by decide
theorem cnt_shr {c i : Nat} (hc : c < 2 ^ 31) (hi : i < 4) : nI c >>> (nI (8 * i) &&& 31) &&& nI 255 = nI (dg c i) := by
  rw [pk_shrN hc _ (8 * i) (sh8s i hi), and255 (by have := Nat.div_le_self c (2 ^ (8 * i)); omega)]
  unfold dg
  rw [show (256 : Nat) = 2 ^ 8 from rfl, ← Nat.pow_mul]
theorem len_a {n m k : Nat} (h : k < 8) : nI (dg n (k % 8)) = nI (lenb n m k) := by
  unfold lenb
  rw [if_pos h, Nat.mod_eq_of_lt h]
theorem len_b {n m k : Nat} (h : ¬ k < 8) (h2 : k < 16) : nI (dg m (k % 8)) = nI (lenb n m k) := by
  unfold lenb
  rw [if_neg h, show k % 8 = k - 8 by omega]
theorem len_c {n m k : Nat} (hn : n < 2 ^ 31) (hm : m < 2 ^ 31) (h : ¬ k % 8 < 4) (h2 : k < 16) : nI 0 = nI (lenb n m k) := by
  unfold lenb
  split
  · rw [dg_big (by omega) (by omega)]
  · rw [dg_big (by omega) (by omega)]
theorem rf_a {f : Nat → Int32} {k : Nat} (hk : k < 16) (h : k % 4 = 3) : nI (bbn f k) &&& nI 15 = nI (rF f k) := by
  rw [nI_and, rF, if_pos hk, fmask, if_pos h]
theorem rf_b {f : Nat → Int32} {k : Nat} (hk : k < 16) (h : k % 4 = 0) (h2 : 0 < k) : nI (bbn f k) &&& nI 252 = nI (rF f k) := by
  rw [nI_and, rF, if_pos hk, fmask, if_neg (by omega), if_pos ⟨h, h2⟩]
theorem rf_c {f : Nat → Int32} {k : Nat} (hk : k < 16) (h : ¬ k % 4 = 3) (h2 : ¬ (k % 4 = 0 ∧ 0 < k)) : nI (bbn f k) = nI (rF f k) := by
  rw [rF, if_pos hk, fmask, if_neg h, if_neg h2, ← nI_and, and255 (by have := bbn_lt f k; omega), Nat.mod_eq_of_lt (bbn_lt f k)]
def sB (f : Nat → Int32) (j : Nat) : Nat := bbn f (16 + j)
def xM (H : Nat) (sd : Nat → Nat) (j : Nat) : Nat := dg H j + sd j
theorem mix_h040 {fh : Nat → Int32} : ∀ j, j < 40 → mixf 40 (fun _ => nI 0) fh j = nI (dg 0 j) := by
  intro j hj
  rw [mixf_n hj]
  simp [dg]
/-- the hash behind the whole row -/
def hAll (f : Nat → Int32) (a : Nat → Nat) (n : Nat) (d : Nat → Nat) (m : Nat) : Nat := tV (pol (vl 16 (rF f)) d m (pol (vl 16 (rF f)) a n 0 ((n + 15) / 16)) ((m + 15) / 16)) (lenb n m) * vl 16 (rF f) % pP
/-- byte j of the tag -/
def TG (f : Nat → Int32) (a : Nat → Nat) (n : Nat) (d : Nat → Nat) (m j : Nat) : Nat := dg (0 + vl 16 (xM (hAll f a n d m) (sB f))) j
