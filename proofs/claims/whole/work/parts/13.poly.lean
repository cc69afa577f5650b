/-! products modulo 2^130 - 5 -/
theorem sm_split (n m : Nat) (f : Nat → Nat) : sm (n + m) f = sm n f + sm m (fun j => f (n + j)) := by
  induction m with
  | zero => rfl
  | succ m ih =>
    show sm (n + m) f + f (n + m) = sm n f + (sm m (fun j => f (n + j)) + f (n + m))
    rw [ih, Nat.add_assoc]
theorem tri1 (G : Nat → Nat → Nat) (n : Nat) : sm n (fun i => sm (i + 1) (fun j => G j (i - j))) = sm n (fun j => sm (n - j) (fun k => G j k)) := by
  induction n with
  | zero => rfl
  | succ n ih =>
    have e1 : sm (n + 1) (fun i => sm (i + 1) (fun j => G j (i - j))) = sm n (fun i => sm (i + 1) (fun j => G j (i - j))) + sm (n + 1) (fun j => G j (n - j)) := rfl
    have e2 : sm (n + 1) (fun j => sm (n + 1 - j) (fun k => G j k)) = sm n (fun j => sm (n + 1 - j) (fun k => G j k)) + sm (n + 1 - n) (fun k => G n k) := rfl
    have e3 : sm n (fun j => sm (n + 1 - j) (fun k => G j k)) = sm n (fun j => sm (n - j) (fun k => G j k) + G j (n - j)) := sm_cong (fun j hj => by rw [show n + 1 - j = (n - j) + 1 by omega]; rfl)
    have e4 : sm (n + 1 - n) (fun k => G n k) = G n 0 := by rw [show n + 1 - n = 1 by omega]; simp [sm]
    have e5 : sm (n + 1) (fun j => G j (n - j)) = sm n (fun j => G j (n - j)) + G n 0 := by
      show sm n _ + G n (n - n) = _
      rw [Nat.sub_self]
    rw [e1, e2, ih, e3, sm_add, e4, e5]
    omega
theorem tri2 (E : Nat → Nat → Nat) (n : Nat) : sm n (fun j => sm j (fun u => E j u)) = sm n (fun u => sm (n - 1 - u) (fun t => E (u + 1 + t) u)) := by
  induction n with
  | zero => rfl
  | succ n ih =>
    have e1 : sm (n + 1) (fun j => sm j (fun u => E j u)) = sm n (fun j => sm j (fun u => E j u)) + sm n (fun u => E n u) := rfl
    have e2 : sm (n + 1) (fun u => sm (n + 1 - 1 - u) (fun t => E (u + 1 + t) u)) = sm n (fun u => sm (n + 1 - 1 - u) (fun t => E (u + 1 + t) u)) + sm (n + 1 - 1 - n) (fun t => E (n + 1 + t) n) := rfl
    have e3 : sm n (fun u => sm (n + 1 - 1 - u) (fun t => E (u + 1 + t) u)) = sm n (fun u => sm (n - 1 - u) (fun t => E (u + 1 + t) u) + E n u) := sm_cong (fun u hu => by
      rw [show n + 1 - 1 - u = (n - 1 - u) + 1 by omega]
      show _ + E (u + 1 + (n - 1 - u)) u = _
      rw [show u + 1 + (n - 1 - u) = n by omega])
    have e4 : sm (n + 1 - 1 - n) (fun t => E (n + 1 + t) n) = 0 := by rw [show n + 1 - 1 - n = 0 by omega]; rfl
    rw [e1, e2, e3, e4, sm_add, ih, Nat.add_zero]
def lo_ (a r : Nat → Nat) (i : Nat) : Nat := sm (i + 1) (fun j => a j * r (i - j))
def hi_ (n : Nat) (a r : Nat → Nat) (i : Nat) : Nat := sm (n - 1 - i) (fun t => a (i + 1 + t) * r (n - 1 - t))
theorem prod_split (n : Nat) (a r : Nat → Nat) : vl n a * vl n r = vl n (lo_ a r) + vl n (hi_ n a r) * 256 ^ n := by
  have e1 : vl n a * vl n r = sm n (fun j => sm n (fun k => (a j * 256 ^ j) * (r k * 256 ^ k))) := by
    show sm n _ * vl n r = _
    rw [← sm_mulr]
    exact sm_cong (fun j _ => (sm_mul n (a j * 256 ^ j) (fun k => r k * 256 ^ k)).symm)
  have e2 : sm n (fun j => sm n (fun k => (a j * 256 ^ j) * (r k * 256 ^ k))) = sm n (fun j => sm (n - j) (fun k => (a j * 256 ^ j) * (r k * 256 ^ k)) + sm j (fun u => (a j * 256 ^ j) * (r (n - j + u) * 256 ^ (n - j + u)))) := sm_cong (fun j hj => by
    have := sm_split (n - j) j (fun k => (a j * 256 ^ j) * (r k * 256 ^ k))
    rw [show n - j + j = n by omega] at this
    exact this)
  rw [e1, e2, sm_add, ← tri1 (fun j k => (a j * 256 ^ j) * (r k * 256 ^ k)), tri2 (fun j u => (a j * 256 ^ j) * (r (n - j + u) * 256 ^ (n - j + u)))]
  congr 1
  · refine sm_cong (fun i hi => ?_)
    rw [lo_, ← sm_mulr]
    refine sm_cong (fun j hj => ?_)
    have e : 256 ^ i = 256 ^ j * 256 ^ (i - j) := by rw [← Nat.pow_add, show j + (i - j) = i by omega]
    show a j * 256 ^ j * (r (i - j) * 256 ^ (i - j)) = a j * r (i - j) * 256 ^ i
    rw [e]
    simp only [Nat.mul_assoc, Nat.mul_comm, Nat.mul_left_comm]
  · show _ = sm n _ * 256 ^ n
    rw [← sm_mulr]
    refine sm_cong (fun u hu => ?_)
    show sm (n - 1 - u) _ = hi_ n a r u * 256 ^ u * 256 ^ n
    rw [hi_, Nat.mul_assoc, ← sm_mulr]
    refine sm_cong (fun t ht => ?_)
    show a (u + 1 + t) * 256 ^ (u + 1 + t) * (r (n - (u + 1 + t) + u) * 256 ^ (n - (u + 1 + t) + u)) = a (u + 1 + t) * r (n - 1 - t) * (256 ^ u * 256 ^ n)
    rw [show n - (u + 1 + t) + u = n - 1 - t by omega]
    have e : 256 ^ u * 256 ^ n = 256 ^ (u + 1 + t) * 256 ^ (n - 1 - t) := by rw [← Nat.pow_add, ← Nat.pow_add, show u + 1 + t + (n - 1 - t) = u + n by omega]
    rw [e]
    simp only [Nat.mul_assoc, Nat.mul_comm, Nat.mul_left_comm]
/-- the modulus -/
def pP : Nat := 2 ^ 130 - 5
/-- what place i of the products is -/
def prd (a r : Nat → Nat) (i : Nat) : Nat := sm (i + 1) (fun j => a j * r (i - j)) + sm (16 - i) (fun t => 320 * a (i + 1 + t) * r (17 + i - (i + 1 + t)))
theorem prd_eq (a r : Nat → Nat) (i : Nat) : prd a r i = lo_ a r i + 320 * hi_ 17 a r i := by
  unfold prd lo_ hi_
  congr 1
  rw [← sm_mul]
  refine sm_cong (fun t ht => ?_)
  rw [show 17 + i - (i + 1 + t) = 17 - 1 - t by omega, Nat.mul_assoc]
theorem prd_mod (a r : Nat → Nat) : vl 17 (prd a r) % pP = (vl 17 a * vl 17 r) % pP := by
  have e : vl 17 (prd a r) = vl 17 (lo_ a r) + 320 * vl 17 (hi_ 17 a r) := by
    rw [← vl_mul, ← vl_add]
    exact vl_cong (fun j _ => prd_eq a r j)
  rw [prod_split, e]
  have e2 : vl 17 (lo_ a r) + vl 17 (hi_ 17 a r) * 256 ^ 17 = vl 17 (lo_ a r) + 320 * vl 17 (hi_ 17 a r) + pP * (64 * vl 17 (hi_ 17 a r)) := by
    have h1 : (256 : Nat) ^ 17 = 320 + pP * 64 := by decide
    rw [h1, Nat.mul_add, Nat.mul_comm _ 320, Nat.add_assoc, Nat.mul_comm _ (pP * 64), Nat.mul_assoc pP]
  rw [e2, Nat.add_mul_mod_self_left]
theorem prd_le {a r : Nat → Nat} {i : Nat} (hi : i < 17) (ha : ∀ j, j < 17 → a j ≤ 510) (hr : ∀ j, j < 17 → r j ≤ 255) : prd a r i ≤ 707472000 := by
  have h1 : sm (i + 1) (fun j => a j * r (i - j)) ≤ (i + 1) * (510 * 255) := sm_le (fun j hj => Nat.mul_le_mul (ha j (by omega)) (hr _ (by omega)))
  have h2 : sm (16 - i) (fun t => 320 * a (i + 1 + t) * r (17 + i - (i + 1 + t))) ≤ (16 - i) * (320 * 510 * 255) := sm_le (fun t ht => Nat.mul_le_mul (Nat.mul_le_mul_left _ (ha _ (by omega))) (hr _ (by omega)))
  unfold prd
  omega
