/-! the box's words -/
def nfi (fi : Nat → Int32) (m : Nat) : Nat → Int32 := if m % 64 = 0 then upd fi 12 (nI (1 + m / 64)) else fi
def nfb (fi fb : Nat → Int32) (m : Nat) : Nat → Int32 := if m % 64 = 0 then MB (upd fi 12 (nI (1 + m / 64))) fb else fb
def dfr (x g : Nat → Nat) : Nat → Nat
  | 0 => 0
  | i + 1 => dfr x g i ||| (x i ^^^ g i)
theorem dfr_lt {x g : Nat → Nat} (hx : ∀ j, x j < 256) (hg : ∀ j, g j < 256) : ∀ i, dfr x g i < 256
  | 0 => (by show 0 < 256; decide)
  | i + 1 => Nat.or_lt_two_pow (n := 8) (dfr_lt hx hg i) (xor_lt (hx i) (hg i))
theorem or_0 {a b : Nat} (h : a ||| b = 0) : a = 0 ∧ b = 0 := by
  constructor
  · apply Nat.eq_of_testBit_eq
    intro i
    have := congrArg (fun z => z.testBit i) h
    simp at this
    simp [this.1]
  · apply Nat.eq_of_testBit_eq
    intro i
    have := congrArg (fun z => z.testBit i) h
    simp at this
    simp [this.2]
theorem xor_0 {a b : Nat} (h : a ^^^ b = 0) : a = b := by
  apply Nat.eq_of_testBit_eq
  intro i
  have := congrArg (fun z => z.testBit i) h
  simpa using this
theorem dfr_0 {x g : Nat → Nat} : ∀ i, dfr x g i = 0 ↔ ∀ j, j < i → x j = g j
  | 0 => ⟨fun _ j hj => absurd hj (by omega), fun _ => rfl⟩
  | i + 1 => by
    constructor
    · intro h j hj
      obtain ⟨h1, h2⟩ := or_0 h
      rcases Nat.lt_or_ge j i with q | q
      · exact (dfr_0 i).mp h1 j q
      · rw [show j = i by omega]
        exact xor_0 h2
    · intro h
      show dfr x g i ||| (x i ^^^ g i) = 0
      rw [(dfr_0 i).mpr (fun j hj => h j (by omega)), h i (by omega), Nat.xor_self]
      rfl
/-- the maker's words behind finish, before close -/
def fT (r : Nat → Nat) (S : TS) (n m : Nat) : TS := tks r (tks r (fl1 r S) (dg n) 8) (dg m) 8
theorem tk1_t (r : Nat → Nat) (S : TS) (v : Nat) : (tk1 r S v).2.2 = if S.2.2 + 1 = 16 then 0 else S.2.2 + 1 := by
  unfold tk1
  split <;> rfl
theorem tks_t {r : Nat → Nat} {S : TS} {f : Nat → Nat} : ∀ k, S.2.2 + k < 16 → (tks r S f k).2.2 = S.2.2 + k
  | 0, _ => rfl
  | k + 1, h => by
    show (tk1 r (tks r S f k) (f k)).2.2 = _
    rw [tk1_t, tks_t k (by omega), if_neg (by omega)]
    omega
theorem tks_succ (r : Nat → Nat) (S : TS) (f : Nat → Nat) (k : Nat) : tks r S f (k + 1) = tk1 r (tks r S f k) (f k) := rfl
theorem tks8_t {r : Nat → Nat} {S : TS} {f : Nat → Nat} (h : S.2.2 = 8) : (tks r S f 8).2.2 = 0 := by
  have h2 : (tks r S f 7).2.2 = 15 := by rw [tks_t 7 (by omega), h]
  have e : tks r S f 8 = tk1 r (tks r S f 7) (f 7) := tks_succ r S f 7
  rw [e, tk1_t, h2]
  rfl
theorem fT_0 (r : Nat → Nat) (S : TS) (n m : Nat) : (fT r S n m).2.2 = 0 := by
  have h0 : (fl1 r S).2.2 = 0 := fl1_0
  have h1 : (tks r (fl1 r S) (dg n) 8).2.2 = 8 := by rw [tks_t 8 (by omega), h0]
  unfold fT
  exact tks8_t (S := tks r (fl1 r S) (dg n) 8) h1
theorem hF_fT (r : Nat → Nat) (S : TS) (n m : Nat) : ∀ j, hF (fT r S n m) j = nI (dg (fT r S n m).1 j) := by
  intro j
  show nI (hsh _ _ _ j) = _
  rw [fT_0, hsh_0]
theorem fT_def (r : Nat → Nat) (S : TS) (n m : Nat) : tks r (tks r (fl1 r S) (dg n) 8) (dg m) 8 = fT r S n m := by unfold fT; rfl
