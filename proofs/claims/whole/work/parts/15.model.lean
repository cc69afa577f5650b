/-! the reference's numbers: signed carries, the rest modulo 2^130 - 5, rows of products -/
def iZ (z : Int) : Int32 := Int32.ofInt z
theorem iZ_n (n : Nat) : nI n = iZ (n : Int) := by
  apply Int32.toBitVec_inj.mp
  show BitVec.ofNat 32 n = BitVec.ofInt 32 (n : Int)
  rw [BitVec.ofInt_natCast]
theorem iZ_add (a b : Int) : iZ a + iZ b = iZ (a + b) := by
  apply Int32.toBitVec_inj.mp
  show BitVec.ofInt 32 a + BitVec.ofInt 32 b = BitVec.ofInt 32 (a + b)
  rw [BitVec.ofInt_add]
theorem iZ_sub (a b : Nat) : nI a - nI b = iZ ((a : Int) - b) := by
  have h : iZ ((a : Int) - b) + nI b = nI a := by
    rw [iZ_n b, iZ_add, iZ_n a]
    congr 1
    omega
  rw [← h]
  exact Int32.add_sub_cancel _ _
theorem iZ_toInt {z : Int} (h1 : -2 ^ 31 ≤ z) (h2 : z < 2 ^ 31) : (iZ z).toInt = z := by
  show (BitVec.ofInt 32 z).toInt = z
  rw [BitVec.toInt_ofInt]
  exact Int.bmod_eq_of_le (by omega) (by omega)
theorem iZ_and (z : Int) : iZ z &&& nI 255 = nI (z % 256).toNat := by
  rw [pk_and _ 8 (by decide)]
  congr 1
  have : (iZ z).toBitVec.toNat = (z % 2 ^ 32).toNat := BitVec.toNat_ofInt z
  rw [this]
  omega
theorem iZ_shr {z : Int} (h1 : -2 ^ 31 ≤ z) (h2 : z < 2 ^ 31) : iZ z >>> (nI 8 &&& 31) = iZ (z / 256) := by
  apply Int32.toInt_inj.mp
  rw [pk_shr _ _ 8 (by decide), iZ_toInt h1 h2, iZ_toInt (by omega) (by omega), Int.shiftRight_eq_div_pow]
  rfl
def sI : Nat → (Nat → Int) → Int
  | 0, _ => 0
  | n + 1, f => sI n f + f n
def vI (n : Nat) (z : Nat → Int) : Int := sI n (fun j => z j * 256 ^ j)
theorem vI_succ (n : Nat) (z : Nat → Int) : vI (n + 1) z = vI n z + z n * 256 ^ n := rfl
theorem vI_n (n : Nat) (x : Nat → Nat) : vI n (fun j => (x j : Int)) = (vl n x : Int) := by
  induction n with
  | zero => rfl
  | succ n ih =>
    rw [vI_succ, ih, vl_succ]
    simp
def ci (z : Nat → Int) (i : Nat) : Int := vI i z / 256 ^ i
theorem ci_0 (z : Nat → Int) : ci z 0 = 0 := by simp [ci, vI, sI]
theorem p256_pos (i : Nat) : (0 : Int) < 256 ^ i := Int.pow_pos (by decide)
theorem ci_step (z : Nat → Int) (i : Nat) : vI (i + 1) z / 256 ^ i = ci z i + z i := by
  rw [vI_succ, Int.add_mul_ediv_right _ _ (by have := p256_pos i; omega)]
  rfl
theorem ci_succ (z : Nat → Int) (i : Nat) : ci z (i + 1) = (ci z i + z i) / 256 := by
  rw [← ci_step, ci, Int.pow_succ, Int.ediv_ediv_of_nonneg (by have := p256_pos i; omega)]
theorem vI_tail (z : Nat → Int) (i : Nat) : ∀ k, ∃ K : Int, vI (i + k) z = vI i z + K * 256 ^ i
  | 0 => ⟨0, by simp⟩
  | k + 1 => by
    obtain ⟨K, h⟩ := vI_tail z i k
    refine ⟨K + z (i + k) * 256 ^ k, ?_⟩
    rw [← Nat.add_assoc, vI_succ, h, Int.pow_add, Int.add_mul, Int.add_assoc, Int.mul_assoc (z (i + k)), Int.mul_comm (256 ^ k)]
theorem ci_dig {z : Nat → Int} {V n i : Nat} (hV : vI n z = (V : Int)) (h : i < n) : ((ci z i + z i) % 256).toNat = dg V i := by
  obtain ⟨K, hK⟩ := vI_tail z (i + 1) (n - (i + 1))
  rw [show i + 1 + (n - (i + 1)) = n by omega, hV, Int.pow_succ, Int.mul_comm (256 ^ i), ← Int.mul_assoc] at hK
  have e : (V : Int) / 256 ^ i = ci z i + z i + K * 256 := by rw [hK, Int.add_mul_ediv_right _ _ (by have := p256_pos i; omega), ci_step]
  have e2 : ((dg V i : Nat) : Int) = (ci z i + z i) % 256 := by
    unfold dg
    rw [Int.natCast_emod, Int.natCast_ediv, Int.natCast_pow]
    show (V : Int) / 256 ^ i % 256 = _
    rw [e, Int.add_mul_emod_self_right]
  rw [← e2]
  exact Int.toNat_natCast _
theorem ci_le {n : Nat} {z : Nat → Int} (hz : ∀ j, j < n → -2 ^ 30 ≤ z j ∧ z j ≤ 2 ^ 30) : ∀ i, i ≤ n → -2 ^ 29 ≤ ci z i ∧ ci z i ≤ 2 ^ 29 := by
  intro i
  induction i with
  | zero => intro _; rw [ci_0]; omega
  | succ i ih =>
    intro hi
    have h1 := ih (by omega)
    have h2 := hz i (by omega)
    rw [ci_succ]
    omega
theorem p256_40 : (256 : Nat) ^ 40 = 2 ^ 320 := by decide
/-! is it above -/
theorem ab_17 (V : Nat) : 2 ^ 130 ≤ V % 256 ^ 17 ↔ 3 < dg V 16 := by
  unfold dg
  rw [p256_16, p256_17]
  omega
theorem ab_s {V i : Nat} (hi : 17 ≤ i) : 2 ^ 130 ≤ V % 256 ^ (i + 1) ↔ (2 ^ 130 ≤ V % 256 ^ i ∨ 0 < dg V i) := by
  rw [show (256 : Nat) ^ (i + 1) = 256 ^ i * 256 from Nat.pow_succ _ _, Nat.mod_mul]
  have h1 : (256 : Nat) ^ 17 ≤ 256 ^ i := Nat.pow_le_pow_right (by decide) hi
  rw [p256_17] at h1
  show 2 ^ 130 ≤ V % 256 ^ i + 256 ^ i * dg V i ↔ _
  rcases Nat.eq_zero_or_pos (dg V i) with q | q
  · rw [q, Nat.mul_zero]
    omega
  · have : 256 ^ i * 1 ≤ 256 ^ i * dg V i := Nat.mul_le_mul_left _ q
    omega
theorem if01 {P Q : Prop} [Decidable P] [Decidable Q] (h : P ↔ Q) : nI (if P then 1 else 0) = nI (if Q then 1 else 0) := by
  by_cases q : Q
  · rw [if_pos q, if_pos (h.mpr q)]
  · rw [if_neg q, if_neg (fun z => q (h.mp z))]
theorem one_if {P : Prop} [Decidable P] (h : P) : nI 1 = nI (if P then 1 else 0) := by rw [if_pos h]
theorem zero_if {P : Prop} [Decidable P] (h : ¬ P) : nI 0 = nI (if P then 1 else 0) := by rw [if_neg h]
theorem nar01 {P : Prop} [Decidable P] : narrow .boolean (.int (nI (if P then 1 else 0))) = .int (nI (if P then 1 else 0)) := by
  by_cases q : P
  · rw [if_pos q]; rfl
  · rw [if_neg q]; rfl
/-! the high part -/
theorem dg_ge {V j n : Nat} (h : V < 256 ^ n) (hj : n ≤ j) : dg V j = 0 := by
  unfold dg
  have h1 : (256 : Nat) ^ n ≤ 256 ^ j := Nat.pow_le_pow_right (by decide) hj
  rw [Nat.div_eq_of_lt (by omega)]
theorem hi_dig (V k : Nat) : dg V (k + 16) / 4 + dg V (k + 17) % 4 * 64 = dg (V / 2 ^ 130) k := by
  have e1 : dg V (k + 16) = V / 2 ^ 128 / 256 ^ k % 256 := by
    unfold dg
    rw [Nat.div_div_eq_div_mul, Nat.pow_add, Nat.mul_comm (256 ^ k), p256_16]
  have e2 : dg V (k + 17) = V / 2 ^ 128 / 256 ^ k / 256 % 256 := by
    unfold dg
    rw [Nat.div_div_eq_div_mul, Nat.div_div_eq_div_mul, show k + 17 = 16 + (k + 1) by omega, Nat.pow_add 256 16, p256_16, show (256 : Nat) ^ (k + 1) = 256 ^ k * 256 from Nat.pow_succ _ _]
  have e3 : dg (V / 2 ^ 130) k = V / 2 ^ 128 / 256 ^ k / 4 % 256 := by
    unfold dg
    rw [show (2 : Nat) ^ 130 = 2 ^ 128 * 4 from by decide, ← Nat.div_div_eq_div_mul, Nat.div_div_eq_div_mul _ 4, Nat.mul_comm 4, ← Nat.div_div_eq_div_mul]
  rw [e1, e2, e3]
  omega
theorem hi_or (V k : Nat) : nI (dg V (k + 16) / 4) ||| nI (dg V (k + 17) % 4 * 64) = nI (dg (V / 2 ^ 130) k) := by
  rw [nI_or, Nat.or_comm, or_sum (k := 6) (by have := dg_lt V (k + 16); omega), Nat.add_comm, hi_dig]
/-- the lower 130 bits, in 40 limbs -/
theorem low_dig (V : Nat) : ∀ j, upd (fun j => nI (if 17 ≤ j ∧ j < 40 then 0 else dg V j)) 16 (nI (dg V 16 % 4)) j = nI (if j < 40 then dg (V % 2 ^ 130) j else dg V j) := by
  intro j
  unfold upd
  by_cases q : j = 16
  · rw [if_pos q, q, if_pos (by decide), dg_mod16]
  · rw [if_neg q]
    show nI (if 17 ≤ j ∧ j < 40 then 0 else dg V j) = _
    rcases Nat.lt_or_ge j 16 with h | h
    · rw [if_neg (by omega), if_pos (by omega), dg_mod h]
    · rcases Nat.lt_or_ge j 40 with h2 | h2
      · rw [if_pos (by omega), if_pos h2, dg_ge (n := 17) (Nat.lt_trans (Nat.mod_lt _ (by decide)) (by decide)) (by omega)]
      · rw [if_neg (by omega), if_neg (by omega)]
theorem low_dig40 (V : Nat) : ∀ j, j < 40 → upd (fun j => nI (if 17 ≤ j ∧ j < 40 then 0 else dg V j)) 16 (nI (dg V 16 % 4)) j = nI (dg (V % 2 ^ 130) j) := by
  intro j hj
  rw [low_dig, if_pos hj]
theorem zr_put (V t : Nat) : ∀ j, upd (fun j => nI (if 17 ≤ j ∧ j < 17 + t then 0 else dg V j)) (17 + t) (nI 0) j = nI (if 17 ≤ j ∧ j < 17 + (t + 1) then 0 else dg V j) := by
  intro j
  unfold upd
  by_cases q : j = 17 + t
  · rw [if_pos q, if_pos (by omega)]
  · rw [if_neg q]
    show nI (if 17 ≤ j ∧ j < 17 + t then 0 else dg V j) = _
    by_cases h : 17 ≤ j ∧ j < 17 + t
    · rw [if_pos h, if_pos (by omega)]
    · rw [if_neg h, if_neg (by omega)]
theorem zr_0 (V : Nat) : ∀ j, nI (dg V j) = nI (if 17 ≤ j ∧ j < 17 + 0 then 0 else dg V j) := by
  intro j
  rw [if_neg (by omega)]
theorem vl_red {V : Nat} (h : V < 256 ^ 40) : vl 40 (fun j => dg (V % 2 ^ 130) j + 5 * dg (V / 2 ^ 130) j) = red V := by
  have h1 : vl 40 (fun j => dg (V % 2 ^ 130) j + 5 * dg (V / 2 ^ 130) j) = vl 40 (dg (V % 2 ^ 130)) + 5 * vl 40 (dg (V / 2 ^ 130)) := by
    rw [← vl_mul, ← vl_add]
  have h2 : V / 2 ^ 130 ≤ V := Nat.div_le_self _ _
  have h3 : V % 2 ^ 130 ≤ V := Nat.mod_le _ _
  rw [h1, vl_dg, vl_dg, Nat.mod_eq_of_lt (Nat.lt_of_le_of_lt h3 h), Nat.mod_eq_of_lt (Nat.lt_of_le_of_lt h2 h), red, Nat.add_comm]
theorem red_lt {V : Nat} (h : 2 ^ 130 ≤ V) : red V < V := by
  unfold red
  omega
theorem red_fin {V : Nat} (h : V < 2 ^ 130) : (2 ^ 130 ≤ V + 5 → (V + 5) % 2 ^ 130 = V % pP) ∧ (¬ 2 ^ 130 ≤ V + 5 → V = V % pP) := by
  have hp : pP = 2 ^ 130 - 5 := rfl
  constructor
  · intro q
    have e : V % pP = V - pP := by
      rw [Nat.mod_eq_sub_mod (by omega), Nat.mod_eq_of_lt (by omega)]
    rw [e, hp, Nat.mod_eq_sub_mod q, Nat.mod_eq_of_lt (by omega)]
    omega
  · intro q
    rw [Nat.mod_eq_of_lt (by omega)]
/-! changing one place of a row of limbs -/
theorem vl_upd {n k x : Nat} {y : Nat → Nat} (h : k < n) : vl n (updN y k (y k + x)) = vl n y + x * 256 ^ k := by
  induction n with
  | zero => omega
  | succ n ih =>
    rw [vl_succ, vl_succ]
    rcases Nat.lt_or_ge k n with q | q
    · rw [ih q, updN, if_neg (by omega)]
      omega
    · have e : k = n := by omega
      subst e
      have e2 : vl k (updN y k (y k + x)) = vl k y := vl_cong (fun j hj => by rw [updN, if_neg (by omega)])
      rw [e2, updN, if_pos rfl, Nat.add_mul]
      omega
theorem upd_nI {y : Nat → Nat} (k x : Nat) : ∀ j, upd (fun j => nI (y j)) k (nI x) j = nI (updN y k x j) := by
  intro j
  unfold upd updN
  split <;> rfl
theorem upd_iZ {y : Nat → Nat} (k : Nat) (x : Int) : ∀ j, upd (fun j => nI (y j)) k (iZ x) j = iZ (if j = k then x else (y j : Int)) := by
  intro j
  unfold upd
  split
  · rfl
  · exact iZ_n _
theorem vI_upd {n : Nat} {y : Nat → Nat} (h : 0 < n) (d : Int) : vI n (fun j => if j = 0 then (y 0 : Int) + d else (y j : Int)) = (vl n y : Int) + d := by
  induction n with
  | zero => omega
  | succ n ih =>
    rw [vI_succ, vl_succ]
    rcases Nat.eq_zero_or_pos n with q | q
    · subst q
      simp [vI, sI, vl, sm]
    · rw [ih q, if_neg (by omega)]
      simp
      omega
theorem abt (V t : Nat) : 2 ^ 130 ≤ V % 256 ^ (17 + (t + 1)) ↔ (2 ^ 130 ≤ V % 256 ^ (17 + t) ∨ 0 < dg V (17 + t)) := ab_s (i := 17 + t) (by omega)
theorem abt_0 {V t : Nat} (h : ¬ 2 ^ 130 ≤ V % 256 ^ (17 + t)) (hd : ¬ 0 < dg V (17 + t)) : ¬ 2 ^ 130 ≤ V % 256 ^ (17 + (t + 1)) := fun q => ((abt V t).mp q).elim h hd
