/-! what ties the box's numbers to the reference's -/
theorem EC_lt {a r : Nat → Nat} (ha : ∀ j, j < 17 → a j ≤ 509 + (if j = 16 then 0 else 1)) (hr : ∀ j, j < 17 → r j ≤ 255) : EC a r < 2 ^ 130 + 2 ^ 31 := by
  have h := vl_lt (n := 17) (b := 707472000) (a := prd (bump a) r) (fun j hj => prd_le hj (bump_le ha) hr)
  rw [p256_17] at h
  unfold EC red
  omega
theorem vl_bump (a : Nat → Nat) : vl 17 (bump a) = vl 17 a + 2 ^ 128 := by
  have e1 : vl 17 (bump a) = vl 16 (bump a) + bump a 16 * 256 ^ 16 := vl_succ 16 _
  have e2 : vl 17 a = vl 16 a + a 16 * 256 ^ 16 := vl_succ 16 _
  have e3 : vl 16 (bump a) = vl 16 a := vl_cong (fun j hj => by rw [bump, if_neg (by omega)])
  rw [e1, e2, e3, bump, if_pos rfl, Nat.add_mul, Nat.one_mul, p256_16, Nat.add_assoc]
theorem ec_val {V t : Nat} {bs : Nat → Nat} (hV : V < 2 ^ 136) (ht : t ≤ 16) : vl 17 (bump (hsh V bs t)) = tV V (fun j => if j < t then bs j else 0) := by
  rw [vl_bump]
  have e : vl 17 (hsh V bs t) = vl 17 (dg V) + vl 17 (fun j => if j < t then bs j else 0) := vl_add 17 (dg V) (fun j => if j < t then bs j else 0)
  have e2 : vl 17 (fun j => if j < t then bs j else 0) = vl 16 (fun j => if j < t then bs j else 0) := by
    rw [show (17 : Nat) = 16 + 1 from rfl, vl_succ, if_neg (by omega), Nat.zero_mul, Nat.add_zero]
  rw [e, e2, vl_dg, p256_17, Nat.mod_eq_of_lt hV]
  rfl
theorem vl_17_16 {r : Nat → Nat} (h : r 16 = 0) : vl 17 r = vl 16 r := by
  rw [show (17 : Nat) = 16 + 1 from rfl, vl_succ, h, Nat.zero_mul, Nat.add_zero]
theorem EC_mod {V t : Nat} {bs r : Nat → Nat} (hV : V < 2 ^ 136) (ht : t ≤ 16) (h16 : r 16 = 0) : EC (hsh V bs t) r % pP = tV V (fun j => if j < t then bs j else 0) * vl 16 r % pP := by
  unfold EC
  rw [red_mod, prd_mod, ec_val hV ht, vl_17_16 h16]
theorem tV_mod (V R : Nat) (b : Nat → Nat) : tV V b * R % pP = tV (V % pP) b * R % pP := by
  unfold tV
  rw [Nat.mul_mod, Nat.add_assoc, ← Nat.mod_add_mod, ← Nat.add_assoc, ← Nat.mul_mod]
theorem tV_cong {H : Nat} {b c : Nat → Nat} (h : ∀ j, j < 16 → b j = c j) : tV H b = tV H c := by
  unfold tV
  rw [vl_cong h]
theorem tV_congM {H R : Nat} {b c : Nat → Nat} (h : ∀ j, j < 16 → b j = c j) : tV H b * R % pP = tV H c * R % pP := by rw [tV_cong h]
theorem pol_cong {R H0 k k2 : Nat} {f g : Nat → Nat} : ∀ q, (∀ i, i < 16 * q → f i = g i) → 16 * q ≤ k → 16 * q ≤ k2 → pol R f k H0 q = pol R g k2 H0 q
  | 0, _, _, _ => rfl
  | q + 1, h, h1, h2 => by
    show tV (pol R f k H0 q) (cb f k q) * R % pP = tV (pol R g k2 H0 q) (cb g k2 q) * R % pP
    rw [pol_cong (k := k) (k2 := k2) q (fun i hi => h i (by omega)) (by omega) (by omega)]
    rw [tV_cong (b := cb f k q) (c := cb g k2 q) (fun j hj => by rw [cb, cb, if_pos (by omega), if_pos (by omega), h _ (by omega)])]
/-- k bytes of f have been taken since the hash was H0 -/
def relC (R : Nat) (f : Nat → Nat) (k H0 : Nat) (T : TS) : Prop := T.2.2 = k % 16 ∧ T.1 % pP = pol R f k H0 (k / 16) ∧ (∀ j, j < k % 16 → T.2.1 j = f (16 * (k / 16) + j)) ∧ T.1 < 2 ^ 130 + 2 ^ 31
theorem relC_cong {R k H0 : Nat} {f g : Nat → Nat} {T : TS} (h : ∀ i, i < k → f i = g i) (hr : relC R f k H0 T) : relC R g k H0 T := by
  obtain ⟨h1, h2, h3, h4⟩ := hr
  refine ⟨h1, ?_, fun j hj => ?_, h4⟩
  · rw [h2]
    exact pol_cong _ (fun i hi => h i (by omega)) (by omega) (by omega)
  · rw [h3 j hj]
    exact h _ (by omega)
theorem relC_step {r f : Nat → Nat} {k H0 v : Nat} {T : TS} (hr : ∀ j, j < 17 → r j ≤ 255) (h16 : r 16 = 0) (hok : okT T) (hv : v < 256) (h : relC (vl 16 r) f k H0 T) : relC (vl 16 r) (updN f k v) (k + 1) H0 (tk1 r T v) := by
  obtain ⟨h1, h2, h3, h4⟩ := h
  by_cases q : T.2.2 + 1 = 16
  · rw [tk1_yes q]
    refine ⟨by show 0 = (k + 1) % 16; omega, ?_, fun j hj => absurd hj (by omega), EC_lt (hsh_ec (updN_lt hok.2 hv) (by omega)) hr⟩
    show EC (hsh T.1 (updN T.2.1 T.2.2 v) (T.2.2 + 1)) r % pP = _
    rw [EC_mod (by omega) (by omega) h16, tV_mod, h2, show (k + 1) / 16 = k / 16 + 1 by omega]
    show _ = tV (pol (vl 16 r) (updN f k v) (k + 1) H0 (k / 16)) (cb (updN f k v) (k + 1) (k / 16)) * vl 16 r % pP
    rw [pol_cong (f := f) (g := updN f k v) (k := k) (k2 := k + 1) (k / 16) (fun i hi => by rw [updN, if_neg (by omega)]) (by omega) (by omega)]
    refine tV_congM (fun j hj => ?_)
    rw [if_pos (by omega), cb, if_pos (by omega)]
    unfold updN
    by_cases e : j = T.2.2
    · rw [if_pos e, if_pos (by omega)]
    · rw [if_neg e, if_neg (by omega)]
      exact h3 j (by omega)
  · rw [tk1_no q]
    have e1 : (k + 1) % 16 = k % 16 + 1 := by have := hok.1; omega
    have e2 : (k + 1) / 16 = k / 16 := by have := hok.1; omega
    refine ⟨by show T.2.2 + 1 = _; omega, ?_, fun j hj => ?_, h4⟩
    · show T.1 % pP = _
      rw [h2, e2]
      exact pol_cong _ (fun i hi => by rw [updN, if_neg (by omega)]) (by omega) (by omega)
    · show updN T.2.1 T.2.2 v j = _
      rw [e2]
      unfold updN
      by_cases e : j = T.2.2
      · rw [if_pos e, if_pos (by omega)]
      · rw [if_neg e, if_neg (by omega)]
        exact h3 j (by omega)
theorem relC_fill {r f : Nat → Nat} {k H0 : Nat} {T : TS} (hr : ∀ j, j < 17 → r j ≤ 255) (h16 : r 16 = 0) (hok : okT T) (h : relC (vl 16 r) f k H0 T) (g : Nat → Nat) : relC (vl 16 r) g 0 (pol (vl 16 r) f k H0 ((k + 15) / 16)) (fl1 r T) := by
  obtain ⟨h1, h2, h3, h4⟩ := h
  by_cases q : T.2.2 ≤ 0
  · rw [fl1_no q]
    refine ⟨by show T.2.2 = 0; omega, ?_, fun j hj => absurd hj (by omega), h4⟩
    show T.1 % pP = pol (vl 16 r) f k H0 ((k + 15) / 16)
    rw [h2, show (k + 15) / 16 = k / 16 by omega]
  · rw [fl1_yes q]
    have ht := hok.1
    refine ⟨rfl, ?_, fun j hj => absurd hj (by omega), EC_lt (hsh_ec hok.2 (by omega)) hr⟩
    show EC (hsh T.1 T.2.1 T.2.2) r % pP = pol (vl 16 r) f k H0 ((k + 15) / 16)
    rw [EC_mod (by omega) (by omega) h16, tV_mod, h2, show (k + 15) / 16 = k / 16 + 1 by omega]
    show _ = tV (pol (vl 16 r) f k H0 (k / 16)) (cb f k (k / 16)) * vl 16 r % pP
    refine tV_congM (fun j hj => ?_)
    unfold cb
    by_cases e : j < T.2.2
    · rw [if_pos e, if_pos (by omega)]
      exact h3 j (by omega)
    · rw [if_neg e, if_neg (by omega)]
theorem relC_tks {r f g : Nat → Nat} {k H0 : Nat} {S : TS} (hr : ∀ j, j < 17 → r j ≤ 255) (h16 : r 16 = 0) (hok : okT S) (hf : ∀ j, f j < 256) (h : relC (vl 16 r) g k H0 S) : ∀ c, relC (vl 16 r) (fun j => if j < k then g j else f (j - k)) (k + c) H0 (tks r S f c)
  | 0 => relC_cong (fun i hi => by rw [if_pos (show i < k by omega)]) h
  | c + 1 => by
    have := relC_step hr h16 (tks_ok hok hf c) (hf c) (relC_tks hr h16 hok hf h c)
    refine relC_cong (fun i hi => ?_) this
    unfold updN
    by_cases e : i = k + c
    · rw [if_pos e, if_neg (by omega), show i - k = c by omega]
    · rw [if_neg e]
theorem fin_rel {r d : Nat → Nat} {n m H2 : Nat} {T g0 : TS} (hr : ∀ j, j < 17 → r j ≤ 255) (h16 : r 16 = 0) (hok : okT (fl1 r T)) (h : relC (vl 16 r) d 0 H2 (fl1 r T)) : (fT r T n m).1 % pP = tV H2 (lenb n m) * vl 16 r % pP ∧ (fT r T n m).1 < 2 ^ 130 + 2 ^ 31 := by
  have a1 := relC_tks (f := dg n) hr h16 hok (fun j => dg_lt n j) h 8
  have o1 := tks_ok (r := r) (f := dg n) hok (fun j => dg_lt n j) 8
  have a2 := relC_tks (f := dg m) hr h16 o1 (fun j => dg_lt m j) a1 8
  rw [fT_def] at a2
  obtain ⟨-, h2, -, h4⟩ := a2
  refine ⟨?_, h4⟩
  rw [h2, show (0 + 8 + 8) / 16 = 0 + 1 from rfl]
  show tV H2 (cb _ _ 0) * vl 16 r % pP = _
  refine tV_congM (fun j hj => ?_)
  rw [cb, if_pos (by omega)]
  unfold lenb
  by_cases e : j < 8
  · rw [if_pos e, if_pos (by omega), if_neg (by omega)]
    exact congrArg (dg n) (by omega)
  · rw [if_neg e, if_neg (by omega)]
    exact congrArg (dg m) (by omega)
theorem clV_mod {V : Nat} (h : V < 2 ^ 130 + 2 ^ 31) : clV V % 2 ^ 128 = V % pP % 2 ^ 128 := by
  have hp : pP = 2 ^ 130 - 5 := rfl
  unfold clV
  by_cases q : 2 ^ 130 ≤ V + 5
  · have e : V % pP = V - pP := by rw [Nat.mod_eq_sub_mod (by omega), Nat.mod_eq_of_lt (by omega)]
    rw [if_pos q, e, hp]
    omega
  · rw [if_neg q, Nat.mod_eq_of_lt (a := V) (b := pP) (by omega)]
theorem xS_xM {V : Nat} {sd : Nat → Nat} (h : V < 2 ^ 130 + 2 ^ 31) : vl 16 (xS V sd) = vl 16 (xM (V % pP) sd) := by
  have e1 : vl 16 (xS V sd) = vl 16 (dg (clV V)) + vl 16 sd := vl_add 16 (dg (clV V)) sd
  have e2 : vl 16 (xM (V % pP) sd) = vl 16 (dg (V % pP)) + vl 16 sd := vl_add 16 (dg (V % pP)) sd
  rw [e1, e2, vl_dg, vl_dg, p256_16, clV_mod h]
