/-! sums, digits, carries: numbers alone -/
def sm : Nat → (Nat → Nat) → Nat
  | 0, _ => 0
  | n + 1, f => sm n f + f n
theorem sm_cong {n : Nat} {f g : Nat → Nat} (h : ∀ j, j < n → f j = g j) : sm n f = sm n g := by
  induction n with
  | zero => rfl
  | succ n ih => simp only [sm]; rw [ih (fun j hj => h j (by omega)), h n (by omega)]
theorem sm_add (n : Nat) (f g : Nat → Nat) : sm n (fun j => f j + g j) = sm n f + sm n g := by
  induction n with
  | zero => rfl
  | succ n ih => simp only [sm]; rw [ih]; omega
theorem sm_mul (n c : Nat) (f : Nat → Nat) : sm n (fun j => c * f j) = c * sm n f := by
  induction n with
  | zero => simp [sm]
  | succ n ih => simp only [sm]; rw [ih, Nat.mul_add]
theorem sm_mulr (n c : Nat) (f : Nat → Nat) : sm n (fun j => f j * c) = sm n f * c := by
  induction n with
  | zero => simp [sm]
  | succ n ih => simp only [sm]; rw [ih, Nat.add_mul]
theorem sm_le {n b : Nat} {f : Nat → Nat} (h : ∀ j, j < n → f j ≤ b) : sm n f ≤ n * b := by
  induction n with
  | zero => simp [sm]
  | succ n ih =>
    simp only [sm]
    have h1 := ih (fun j hj => h j (by omega))
    have h2 := h n (by omega)
    rw [Nat.add_mul, Nat.one_mul]
    omega
theorem sm_0 (n : Nat) : sm n (fun _ => 0) = 0 := by
  induction n with
  | zero => rfl
  | succ n ih => simp only [sm]; rw [ih]
/-- the number of n bytes, the lowest first -/
def vl (n : Nat) (a : Nat → Nat) : Nat := sm n (fun j => a j * 256 ^ j)
theorem vl_succ (n : Nat) (a : Nat → Nat) : vl (n + 1) a = vl n a + a n * 256 ^ n := rfl
theorem vl_cong {n : Nat} {a b : Nat → Nat} (h : ∀ j, j < n → a j = b j) : vl n a = vl n b := sm_cong (fun j hj => by rw [h j hj])
theorem vl_add (n : Nat) (a b : Nat → Nat) : vl n (fun j => a j + b j) = vl n a + vl n b := by
  unfold vl
  rw [← sm_add]
  exact sm_cong (fun j _ => Nat.add_mul _ _ _)
theorem vl_mul (n c : Nat) (a : Nat → Nat) : vl n (fun j => c * a j) = c * vl n a := by
  unfold vl
  rw [← sm_mul]
  exact sm_cong (fun j _ => Nat.mul_assoc _ _ _)
theorem vl_0 (n : Nat) : vl n (fun _ => 0) = 0 := by
  unfold vl
  exact (sm_cong (fun j _ => Nat.zero_mul _)).trans (sm_0 n)
theorem vl_lt {n b : Nat} {a : Nat → Nat} (h : ∀ j, j < n → a j ≤ b) : 255 * vl n a ≤ b * (256 ^ n - 1) := by
  induction n with
  | zero => simp [vl, sm]
  | succ n ih =>
    have h1 := ih (fun j hj => h j (by omega))
    have h2 : a n * 256 ^ n ≤ b * 256 ^ n := Nat.mul_le_mul_right _ (h n (by omega))
    have hp : 0 < 256 ^ n := Nat.pow_pos (by decide)
    rw [vl_succ, Nat.pow_succ, Nat.mul_add]
    have e : b * (256 ^ n * 256 - 1) = b * (256 ^ n - 1) + 255 * (b * 256 ^ n) := by
      rw [Nat.mul_sub, Nat.mul_sub, ← Nat.mul_assoc]
      have : b * 1 ≤ b * 256 ^ n := Nat.mul_le_mul_left _ hp
      omega
    omega
def dg (V j : Nat) : Nat := V / 256 ^ j % 256
theorem dg_lt (V j : Nat) : dg V j < 256 := Nat.mod_lt _ (by decide)
theorem vl_dg (n V : Nat) : vl n (dg V) = V % 256 ^ n := by
  induction n with
  | zero => simp [vl, sm, Nat.mod_one]
  | succ n ih => rw [vl_succ, ih, Nat.pow_succ, Nat.mod_mul, dg, Nat.mul_comm (V / 256 ^ n % 256)]
theorem dg_high {x y i j : Nat} (h : j < i) : dg (x + y * 256 ^ i) j = dg x j := by
  obtain ⟨k, rfl⟩ : ∃ k, i = j + 1 + k := ⟨i - (j + 1), by omega⟩
  unfold dg
  have e : y * 256 ^ (j + 1 + k) = (y * 256 ^ k * 256) * 256 ^ j := by
    rw [Nat.pow_add, Nat.pow_add, Nat.pow_one]
    simp only [Nat.mul_assoc, Nat.mul_comm, Nat.mul_left_comm]
  rw [e, Nat.add_mul_div_right _ _ (Nat.pow_pos (by decide)), Nat.add_mul_mod_self_right]
/-- the carry that comes to place i -/
def cs (c : Nat) (x : Nat → Nat) (i : Nat) : Nat := (c + vl i x) / 256 ^ i
theorem cs_0 (c : Nat) (x : Nat → Nat) : cs c x 0 = c := by simp [cs, vl, sm]
theorem cs_step (c : Nat) (x : Nat → Nat) (i : Nat) : (c + vl (i + 1) x) / 256 ^ i = cs c x i + x i := by
  rw [vl_succ, ← Nat.add_assoc, Nat.add_mul_div_right _ _ (Nat.pow_pos (by decide))]
  rfl
theorem cs_succ (c : Nat) (x : Nat → Nat) (i : Nat) : cs c x (i + 1) = (cs c x i + x i) / 256 := by
  rw [← cs_step, cs, Nat.pow_succ, Nat.div_div_eq_div_mul]
theorem dg_step (c : Nat) (x : Nat → Nat) (i : Nat) : dg (c + vl (i + 1) x) i = (cs c x i + x i) % 256 := by
  rw [dg, cs_step]
theorem dg_keep (c : Nat) (x : Nat → Nat) {i j n : Nat} (h : j < i) (hn : i ≤ n) : dg (c + vl n x) j = dg (c + vl i x) j := by
  induction n with
  | zero => rw [show i = 0 by omega]
  | succ n ih =>
    rcases Nat.lt_or_ge n i with q | q
    · rw [show n + 1 = i by omega]
    · rw [vl_succ, ← Nat.add_assoc, dg_high (by omega), ih q]
/-- the digit that place i gets, out of the whole -/
theorem dg_at (c : Nat) (x : Nat → Nat) {i n : Nat} (h : i < n) : dg (c + vl n x) i = (cs c x i + x i) % 256 := by
  rw [dg_keep c x (Nat.lt_succ_self i) h, dg_step]
theorem cs_le {c B n : Nat} {x : Nat → Nat} (hc : c ≤ B) (hx : ∀ j, j < n → x j ≤ B) : ∀ i, i ≤ n → cs c x i ≤ B := by
  intro i
  induction i with
  | zero => intro _; rw [cs_0]; exact hc
  | succ i ih =>
    intro hi
    have h1 := ih (by omega)
    have h2 := hx i (by omega)
    rw [cs_succ]
    omega
/-- an array whose first i places are g's, the others f's -/
def mixf (i : Nat) (g f : Nat → Int32) : Nat → Int32 := fun j => if j < i then g j else f j
theorem mixf_0 (g f : Nat → Int32) (j : Nat) : f j = mixf 0 g f j := by simp [mixf]
theorem mixf_put {i : Nat} {g f : Nat → Int32} {x : Int32} (h : x = g i) (j : Nat) : upd (mixf i g f) i x j = mixf (i + 1) g f j := by
  unfold upd mixf
  by_cases e : j = i
  · subst e; simp [h]
  · rcases Nat.lt_or_ge j i with q | q
    · simp [e, q, show j < i + 1 by omega]
    · simp [e, show ¬ j < i by omega, show ¬ j < i + 1 by omega]
theorem mixf_n {n j : Nat} {g f : Nat → Int32} (h : j < n) : mixf n g f j = g j := by simp [mixf, h]
theorem mixf_at (i : Nat) (g f : Nat → Int32) : mixf i g f i = f i := by simp [mixf]
theorem mixf_hi {i j : Nat} {g f : Nat → Int32} (h : i ≤ j) : mixf i g f j = f j := by simp [mixf, show ¬ j < i by omega]
/-! int rows by numbers -/
theorem and255 {n : Nat} (h : n < 2 ^ 32) : nI n &&& nI 255 = nI (n % 256) := pk_andN h 8 (by decide)
theorem and3 {n : Nat} (h : n < 2 ^ 32) : nI n &&& nI 3 = nI (n % 4) := pk_andN h 2 (by decide)
theorem ushr8 {n : Nat} (h : n < 2 ^ 32) : ((nI n).toUInt32 >>> ((nI 8).toUInt32 &&& Int32.toUInt32 31)).toInt32 = nI (n / 256) := pk_ushrN h (nI 8) 8 (by decide)
theorem ushr2 {n : Nat} (h : n < 2 ^ 32) : ((nI n).toUInt32 >>> ((nI 2).toUInt32 &&& Int32.toUInt32 31)).toInt32 = nI (n / 4) := pk_ushrN h (nI 2) 2 (by decide)
theorem shl6 {n : Nat} (h : n * 64 < 2 ^ 32) : nI n <<< (nI 6 &&& 31) = nI (n * 64) := pk_shlN (nI 6 &&& 31) 6 (by decide) h
theorem shr8 {n : Nat} (h : n < 2 ^ 31) : nI n >>> (nI 8 &&& 31) = nI (n / 256) := pk_shrN h (nI 8 &&& 31) 8 (by decide)
theorem shr2 {n : Nat} (h : n < 2 ^ 31) : nI n >>> (nI 2 &&& 31) = nI (n / 4) := pk_shrN h (nI 2 &&& 31) 2 (by decide)
theorem nI_bv (n : Nat) : (nI n).toBitVec = BitVec.ofNat 32 n := rfl
theorem nI_and (a b : Nat) : nI a &&& nI b = nI (a &&& b) := by
  apply Int32.toBitVec_inj.mp
  rw [Int32.toBitVec_and, nI_bv, nI_bv, nI_bv, BitVec.ofNat_and]
theorem nI_or (a b : Nat) : nI a ||| nI b = nI (a ||| b) := by
  apply Int32.toBitVec_inj.mp
  rw [Int32.toBitVec_or, nI_bv, nI_bv, nI_bv, BitVec.ofNat_or]
theorem nI_xor (a b : Nat) : nI a ^^^ nI b = nI (a ^^^ b) := by
  apply Int32.toBitVec_inj.mp
  rw [Int32.toBitVec_xor, nI_bv, nI_bv, nI_bv, BitVec.ofNat_xor]
/-- an or of what lies above k bits and what lies below is their sum -/
theorem or_sum {a b k : Nat} (h : b < 2 ^ k) : a * 2 ^ k ||| b = a * 2 ^ k + b := by
  rw [Nat.mul_comm]
  exact (Nat.two_pow_add_eq_or_of_lt h a).symm
