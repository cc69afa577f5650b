set_option maxHeartbeats 4000000 in
set_option maxRecDepth 100000 in
theorem kX3_tag_ok (l : Launch) (D : va_G) (cA : ClassId) (o : Nat → Nat) (cd : Int32) (p0 op0 n m0 cap0 : Nat) (a b t x : Nat → Nat) (fk fn ft fw fh ff fp fg fr fx : Nat → Int32) (i : Nat) (hp0 : p0 ≤ 4) (hop : op0 ≤ 1) (hn : n ≤ 1000) (hm : m0 ≤ cap0) (hcap : cap0 ≤ 400) (ha : ∀ j, a j < 256) (hb : ∀ j, b j < 256) (ht : ∀ j, t j < 256) (hi : i < 16) (hph : p0 = 3) (ho : op0 = 0) : CI l D cA yX3_tag wsX3_tag { frames := 4, cells := 0, slots := 0, locals := 90 } [.ref (o 0), .int (nI i)] (wX3 o cA cd (nI cap0) (nI p0) (nI op0) (nI n) (nI m0) fk fn (fun j => nI (a j)) (fun j => nI (b j)) (fun j => nI (t j)) (fun j => nI (x j)) ft fw fh ff fp fg fr fx) (fun r _ => r = nI ((TG (MB (stF fk fn (nI 0)) fw) a n (dD op0 b t) m0) i)) (fun u : (Nat → Int32) × (Nat → Int32) × (Nat → Int32) × (Nat → Int32) × (Nat → Int32) × (Nat → Int32) => wX3 o cA (nI 0) (nI cap0) (nI p0) (nI op0) (nI n) (nI m0) fk fn (fun j => nI (a j)) (fun j => nI (b j)) (fun j => nI (t j)) (fun j => nI (x j)) (stF fk fn (nI 0)) (MB (stF fk fn (nI 0)) fw) u.1 u.2.1 u.2.2.1 u.2.2.2.1 u.2.2.2.2.1 u.2.2.2.2.2) := by
  refine ci_of (by decide) rfl (Nat.le_of_ble_eq_true rfl) ?_
  intro p e s m below meth c ls A ar Q S hK hw hA hr hlk hl hQ
  have hl : lv_has ls 2 [(0, .ref (o 0)), (1, .int (nI i))] := hl
  have hiX3 : ∀ w ∈ wsX30, w ∈ wsX3_tag := fun _ h => List.mem_cons_of_mem _ (List.mem_append_right _ h)
  refine lv_aload_n S.1 S.2.1 dX3_tag_0 rfl (lv_at hl 0 rfl) ?_
  refine lv_iconst (v := nI 0) S.1 S.2.1 dX3_tag_1 (by decide) ?_
  refine mp S hK hw 0 rfl rfl hiX3 tyX3_ok nmX3 0 (by decide) (List.mem_of_getElem? (i := 1) rfl) rfl rfl rfl (Nat.le_of_ble_eq_true rfl) dX3_tag_2 (fun H locs hw => ?_)
  have hw : Wd D A s.heap H locs (wX3 o cA (nI 0) (nI cap0) (nI p0) (nI op0) (nI n) (nI m0) fk fn (fun j => nI (a j)) (fun j => nI (b j)) (fun j => nI (t j)) (fun j => nI (x j)) ft fw fh ff fp fg fr fx) := hw
  refine lv_aload_n S.1 S.2.1 dX3_tag_5 rfl (lv_at hl 0 rfl) ?_
  refine mg S hK hw 0 rfl rfl hiX3 4 (by decide) (List.mem_of_getElem? (i := 2) rfl) rfl dX3_tag_6 ?_
  refine lv_iconst (v := nI 3) S.1 S.2.1 dX3_tag_9 (by decide) ?_
  refine lv_icmp_ne (tgt := 27) S.1 S.2.1 dX3_tag_10 (by decide) (fun c10 => ?_) (fun c10 => ?_)
  · rw [nI_eq (by omega) (by omega)] at c10
    exfalso; omega
  · rw [nI_eq (by omega) (by omega)] at c10
    refine lv_aload_n S.1 S.2.1 dX3_tag_13 rfl (lv_at hl 0 rfl) ?_
    refine mg S hK hw 0 rfl rfl hiX3 5 (by decide) (List.mem_of_getElem? (i := 3) rfl) rfl dX3_tag_14 ?_
    refine lv_if_ne (tgt := 27) S.1 S.2.1 dX3_tag_17 (by decide) (fun c17 => ?_) (fun c17 => ?_)
    · rw [← nI_0, nI_eq (by omega) (by omega)] at c17
      exfalso; omega
    · rw [← nI_0, nI_eq (by omega) (by omega)] at c17
      refine lv_iload_n S.1 S.2.1 dX3_tag_20 rfl (lv_at hl 1 rfl) ?_
      refine callSI (rest := []) S hK hw hA (kX3_isPlace l D cA o (nI i)) gX3_tag_X3_isPlace rfl 1 rfl (by decide +kernel) ⟨rfl, rfl⟩ ⟨by decide, by decide⟩ ⟨Nat.zero_le _, Nat.zero_le _⟩ hl.1 (Nat.le_of_ble_eq_true rfl) dX3_tag_21 rfl (fun r H locs hp hw => ?_)
      refine lv_if_ne (tgt := 29) S.1 S.2.1 dX3_tag_24 (by decide) (fun c24 => ?_) (fun c24 => ?_)
      · skip
        refine lv_aload_n S.1 S.2.1 dX3_tag_29 rfl (lv_at hl 0 rfl) ?_
        refine callVV (rest := []) S hK hw hA (kX3_tag0 l D cA o (nI 0) (nI cap0) (nI p0) fk fn (fun j => nI (x j)) ft fw fh ff fp fg fr fx n m0 op0 a b t (by omega) (by omega) (by omega) ha hb ht) gX3_tag_X3_tag0 rfl 0 rfl (by decide +kernel) ⟨rfl, rfl⟩ ⟨by decide, by decide⟩ ⟨Nat.zero_le _, Nat.zero_le _⟩ [0, 1, 2, 3, 4, 5, 6, 7, 8, 9, 10, 11, 12, 13, 14] rfl (by decide) (fun _ => rfl) 0 rfl rfl rfl hl.1 (Nat.le_of_ble_eq_true rfl) dX3_tag_30 rfl (fun u30 H locs hp hw => ?_)
        have hw : Wd D A s.heap H locs (wX3 o cA (nI 0) (nI cap0) (nI p0) (nI op0) (nI n) (nI m0) fk fn (fun j => nI (a j)) (fun j => nI (b j)) (fun j => nI (t j)) (fun j => nI (x j)) (stF fk fn (nI 0)) (MB (stF fk fn (nI 0)) fw) (fun j => nI (dg (hAll (MB (stF fk fn (nI 0)) fw) a n (dD op0 b t) m0) j)) (fun j => nI (rF (MB (stF fk fn (nI 0)) fw) j)) u30.1 u30.2.1 (fun j => nI (TG (MB (stF fk fn (nI 0)) fw) a n (dD op0 b t) m0 j)) u30.2.2) := hw
        obtain ⟨fh1, efh1⟩ : ∃ f : Nat → Int32, f = fun j => nI (dg (hAll (MB (stF fk fn (nI 0)) fw) a n (dD op0 b t) m0) j) := ⟨_, rfl⟩
        rw [← efh1] at hw
        obtain ⟨ff1, eff1⟩ : ∃ f : Nat → Int32, f = fun j => nI (rF (MB (stF fk fn (nI 0)) fw) j) := ⟨_, rfl⟩
        rw [← eff1] at hw
        obtain ⟨fr1, efr1⟩ : ∃ f : Nat → Int32, f = fun j => nI (TG (MB (stF fk fn (nI 0)) fw) a n (dD op0 b t) m0 j) := ⟨_, rfl⟩
        rw [← efr1] at hw
        refine lv_aload_n S.1 S.2.1 dX3_tag_33 rfl (lv_at hl 0 rfl) ?_
        refine mg S hK hw 0 rfl rfl hiX3 18 (by decide) (List.mem_of_getElem? (i := 4) rfl) rfl dX3_tag_34 ?_
        refine lv_iload_n S.1 S.2.1 dX3_tag_37 rfl (lv_at hl 1 rfl) ?_
        refine ag S hK hw 13 rfl i rfl (by omega) (by decide) dX3_tag_38 ?_
        refine te (y := nI ((TG (MB (stF fk fn (nI 0)) fw) a n (dD op0 b t) m0) i)) (by rw [efr1]) ?_
        exact ci_ret S hr hlk hQ hw rfl (fh1, ff1, u30.1, u30.2.1, fr1, u30.2.2) rfl rfl dX3_tag_39
      · skip
        exact absurd c24 (by01_ok hp hi)

set_option maxHeartbeats 4000000 in
set_option maxRecDepth 100000 in
theorem kX3_verify_yes (l : Launch) (D : va_G) (cA : ClassId) (o : Nat → Nat) (cd : Int32) (p0 op0 n m0 cap0 : Nat) (a b t x : Nat → Nat) (fk fn ft fw fh ff fp fg fr fx : Nat → Int32)  (hp0 : p0 ≤ 4) (hop : op0 ≤ 1) (hn : n ≤ 1000) (hm : m0 ≤ cap0) (hcap : cap0 ≤ 400) (ha : ∀ j, a j < 256) (hb : ∀ j, b j < 256) (ht : ∀ j, t j < 256) (hx : ∀ j, x j < 256) (hph : p0 = 3) (ho : op0 = 1) (hall : ∀ j, j < 16 → (TG (MB (stF fk fn (nI 0)) fw) a n (dD op0 b t) m0) j = x j) : CI l D cA yX3_verify wsX3_verify { frames := 4, cells := 0, slots := 0, locals := 90 } [.ref (o 0)] (wX3 o cA cd (nI cap0) (nI p0) (nI op0) (nI n) (nI m0) fk fn (fun j => nI (a j)) (fun j => nI (b j)) (fun j => nI (t j)) (fun j => nI (x j)) ft fw fh ff fp fg fr fx) (fun r _ => r = nI 1) (fun u : (Nat → Int32) × (Nat → Int32) × (Nat → Int32) × (Nat → Int32) × (Nat → Int32) × (Nat → Int32) => wX3 o cA (nI 0) (nI cap0) (nI 4) (nI op0) (nI n) (nI m0) fk fn (fun j => nI (a j)) (fun j => nI (b j)) (fun j => nI (t j)) (fun j => nI (x j)) (stF fk fn (nI 0)) (MB (stF fk fn (nI 0)) fw) u.1 u.2.1 u.2.2.1 u.2.2.2.1 u.2.2.2.2.1 u.2.2.2.2.2) := by
  refine ci_of (by decide) rfl (Nat.le_of_ble_eq_true rfl) ?_
  intro p e s m below meth c ls A ar Q S hK hw hA hr hlk hl hQ
  have hl : lv_has ls 2 [(0, .ref (o 0))] := hl
  have hiX3 : ∀ w ∈ wsX30, w ∈ wsX3_verify := fun _ h => List.mem_cons_of_mem _ (List.mem_append_right _ h)
  refine lv_aload_n S.1 S.2.1 dX3_verify_0 rfl (lv_at hl 0 rfl) ?_
  refine lv_iconst (v := nI 0) S.1 S.2.1 dX3_verify_1 (by decide) ?_
  refine mp S hK hw 0 rfl rfl hiX3 tyX3_ok nmX3 0 (by decide) (List.mem_of_getElem? (i := 1) rfl) rfl rfl rfl (Nat.le_of_ble_eq_true rfl) dX3_verify_2 (fun H locs hw => ?_)
  have hw : Wd D A s.heap H locs (wX3 o cA (nI 0) (nI cap0) (nI p0) (nI op0) (nI n) (nI m0) fk fn (fun j => nI (a j)) (fun j => nI (b j)) (fun j => nI (t j)) (fun j => nI (x j)) ft fw fh ff fp fg fr fx) := hw
  refine lv_aload_n S.1 S.2.1 dX3_verify_5 rfl (lv_at hl 0 rfl) ?_
  refine mg S hK hw 0 rfl rfl hiX3 4 (by decide) (List.mem_of_getElem? (i := 2) rfl) rfl dX3_verify_6 ?_
  refine lv_iconst (v := nI 3) S.1 S.2.1 dX3_verify_9 (by decide) ?_
  refine lv_icmp_ne (tgt := 20) S.1 S.2.1 dX3_verify_10 (by decide) (fun c10 => ?_) (fun c10 => ?_)
  · rw [nI_eq (by omega) (by omega)] at c10
    exfalso; omega
  · rw [nI_eq (by omega) (by omega)] at c10
    refine lv_aload_n S.1 S.2.1 dX3_verify_13 rfl (lv_at hl 0 rfl) ?_
    refine mg S hK hw 0 rfl rfl hiX3 5 (by decide) (List.mem_of_getElem? (i := 3) rfl) rfl dX3_verify_14 ?_
    refine lv_if_ne (tgt := 22) S.1 S.2.1 dX3_verify_17 (by decide) (fun c17 => ?_) (fun c17 => ?_)
    · rw [← nI_0, nI_eq (by omega) (by omega)] at c17
      refine lv_aload_n S.1 S.2.1 dX3_verify_22 rfl (lv_at hl 0 rfl) ?_
      refine callVV (rest := []) S hK hw hA (kX3_tag0 l D cA o (nI 0) (nI cap0) (nI p0) fk fn (fun j => nI (x j)) ft fw fh ff fp fg fr fx n m0 op0 a b t (by omega) (by omega) (by omega) ha hb ht) gX3_verify_X3_tag0 rfl 0 rfl (by decide +kernel) ⟨rfl, rfl⟩ ⟨by decide, by decide⟩ ⟨Nat.zero_le _, Nat.zero_le _⟩ [0, 1, 2, 3, 4, 5, 6, 7, 8, 9, 10, 11, 12, 13, 14] rfl (by decide) (fun _ => rfl) 0 rfl rfl rfl hl.1 (Nat.le_of_ble_eq_true rfl) dX3_verify_23 rfl (fun u23 H locs hp hw => ?_)
      have hw : Wd D A s.heap H locs (wX3 o cA (nI 0) (nI cap0) (nI p0) (nI op0) (nI n) (nI m0) fk fn (fun j => nI (a j)) (fun j => nI (b j)) (fun j => nI (t j)) (fun j => nI (x j)) (stF fk fn (nI 0)) (MB (stF fk fn (nI 0)) fw) (fun j => nI (dg (hAll (MB (stF fk fn (nI 0)) fw) a n (dD op0 b t) m0) j)) (fun j => nI (rF (MB (stF fk fn (nI 0)) fw) j)) u23.1 u23.2.1 (fun j => nI (TG (MB (stF fk fn (nI 0)) fw) a n (dD op0 b t) m0 j)) u23.2.2) := hw
      obtain ⟨fh1, efh1⟩ : ∃ f : Nat → Int32, f = fun j => nI (dg (hAll (MB (stF fk fn (nI 0)) fw) a n (dD op0 b t) m0) j) := ⟨_, rfl⟩
      rw [← efh1] at hw
      obtain ⟨ff1, eff1⟩ : ∃ f : Nat → Int32, f = fun j => nI (rF (MB (stF fk fn (nI 0)) fw) j) := ⟨_, rfl⟩
      rw [← eff1] at hw
      obtain ⟨fr1, efr1⟩ : ∃ f : Nat → Int32, f = fun j => nI (TG (MB (stF fk fn (nI 0)) fw) a n (dD op0 b t) m0 j) := ⟨_, rfl⟩
      rw [← efr1] at hw
      refine lv_iconst (v := nI 0) S.1 S.2.1 dX3_verify_26 (by decide) ?_
      refine lv_istore_n (lv' := [(1, .int (nI 0)), (0, .ref (o 0))]) S.1 S.2.1 dX3_verify_27 rfl hl (by decide) rfl (fun ls hl => ?_)
      have lp28 : ∀ (n0 k : Nat), k + n0 = 16 → (∀ j, j < k → (TG (MB (stF fk fn (nI 0)) fw) a n (dD op0 b t) m0) j = x j) → ∀ (H : Heap) (locs : List Loc), Wd D A s.heap H locs (wX3 o cA (nI 0) (nI cap0) (nI p0) (nI op0) (nI n) (nI m0) fk fn (fun j => nI (a j)) (fun j => nI (b j)) (fun j => nI (t j)) (fun j => nI (x j)) (stF fk fn (nI 0)) (MB (stF fk fn (nI 0)) fw) fh1 ff1 u23.1 u23.2.1 fr1 u23.2.2) → ∀ ls : Array Slot, lv_has ls 2 [(1, .int (nI k)), (0, .ref (o 0))] → W p l e { frames := 4, cells := 0, slots := 0, locals := 90 } s m ar below meth c H locs 0 0 Q (F0 m 28 ls []) := by
        intro n0
        induction n0 with
        | zero =>
          intro k hn0 hk H locs hw ls hl
          have hn0 : k = 16 := by omega
          subst hn0
          refine lv_iload_n S.1 S.2.1 dX3_verify_28 rfl (lv_at hl 0 rfl) ?_
          refine lv_bipush (v := nI 16) S.1 S.2.1 dX3_verify_29 (by decide) ?_
          refine lv_icmp_ge (tgt := 57) S.1 S.2.1 dX3_verify_31 (by decide) (fun c31 => ?_) (fun c31 => ?_)
          · rw [nI_leI (by omega) (by omega)] at c31
            refine lv_aload_n S.1 S.2.1 dX3_verify_57 rfl (lv_at hl 1 rfl) ?_
            refine lv_iconst (v := nI 4) S.1 S.2.1 dX3_verify_58 (by decide) ?_
            refine mp S hK hw 0 rfl rfl hiX3 tyX3_ok nmX3 4 (by decide) (List.mem_of_getElem? (i := 2) rfl) rfl rfl rfl (Nat.le_of_ble_eq_true rfl) dX3_verify_59 (fun H locs hw => ?_)
            have hw : Wd D A s.heap H locs (wX3 o cA (nI 0) (nI cap0) (nI 4) (nI op0) (nI n) (nI m0) fk fn (fun j => nI (a j)) (fun j => nI (b j)) (fun j => nI (t j)) (fun j => nI (x j)) (stF fk fn (nI 0)) (MB (stF fk fn (nI 0)) fw) fh1 ff1 u23.1 u23.2.1 fr1 u23.2.2) := hw
            refine lv_iconst (v := nI 1) S.1 S.2.1 dX3_verify_62 (by decide) ?_
            exact ci_ret S hr hlk hQ hw (by decide) (fh1, ff1, u23.1, u23.2.1, fr1, u23.2.2) rfl rfl dX3_verify_63
          · rw [nI_leI (by omega) (by omega)] at c31
            exfalso; omega
        | succ n0 ih =>
          intro k hn0 hk H locs hw ls hl
          have hlt : k < 16 := by omega
          have hT1 := TG_lt (MB (stF fk fn (nI 0)) fw) a n (dD op0 b t) m0 k
          have hx1 := hx k
          refine lv_iload_n S.1 S.2.1 dX3_verify_28 rfl (lv_at hl 0 rfl) ?_
          refine lv_bipush (v := nI 16) S.1 S.2.1 dX3_verify_29 (by decide) ?_
          refine lv_icmp_ge (tgt := 57) S.1 S.2.1 dX3_verify_31 (by decide) (fun c31 => ?_) (fun c31 => ?_)
          · rw [nI_leI (by omega) (by omega)] at c31
            exfalso; omega
          · rw [nI_leI (by omega) (by omega)] at c31
            refine lv_aload_n S.1 S.2.1 dX3_verify_34 rfl (lv_at hl 1 rfl) ?_
            refine mg S hK hw 0 rfl rfl hiX3 18 (by decide) (List.mem_of_getElem? (i := 4) rfl) rfl dX3_verify_35 ?_
            refine lv_iload_n S.1 S.2.1 dX3_verify_38 rfl (lv_at hl 0 rfl) ?_
            refine ag S hK hw 13 rfl k rfl (by omega) (by decide) dX3_verify_39 ?_
            refine te (y := nI ((TG (MB (stF fk fn (nI 0)) fw) a n (dD op0 b t) m0) k)) (by rw [efr1]) ?_
            refine lv_aload_n S.1 S.2.1 dX3_verify_40 rfl (lv_at hl 1 rfl) ?_
            refine mg S hK hw 0 rfl rfl hiX3 11 (by decide) (List.mem_of_getElem? (i := 5) rfl) rfl dX3_verify_41 ?_
            refine lv_iload_n S.1 S.2.1 dX3_verify_44 rfl (lv_at hl 0 rfl) ?_
            refine ag S hK hw 6 rfl k rfl (by omega) (by decide) dX3_verify_45 ?_
            refine te (y := nI (x k)) rfl ?_
            refine lv_icmp_eq (tgt := 51) S.1 S.2.1 dX3_verify_46 (by decide) (fun c46 => ?_) (fun c46 => ?_)
            · rw [nI_eq (by omega) (by omega)] at c46
              refine lv_iinc (v := nI (k + 1)) (lv' := [(1, .int (nI (k + 1))), (0, .ref (o 0))]) S.1 S.2.1 dX3_verify_51 hl (k := 0) rfl (nI_add k 1) (by decide) rfl (fun ls hl => ?_)
              refine lv_goto (tgt := 28) S.1 S.2.1 dX3_verify_54 (by decide) ?_
              exact ih (k + 1)  (by omega) (fun j hj => by rcases Nat.lt_or_ge j k with q | q; exact hk j q; rw [show j = k by omega]; exact c46) _ _ hw _ hl
            · rw [nI_eq (by omega) (by omega)] at c46
              exact absurd (hall k hlt) c46
      exact lp28 16 0  (by omega) (fun j hj => absurd hj (by omega)) _ _ hw _ hl
    · rw [← nI_0, nI_eq (by omega) (by omega)] at c17
      exfalso; omega

set_option maxHeartbeats 4000000 in
set_option maxRecDepth 100000 in
theorem kX3_verify_wrong (l : Launch) (D : va_G) (cA : ClassId) (o : Nat → Nat) (cd : Int32) (p0 op0 n m0 cap0 : Nat) (a b t x : Nat → Nat) (fk fn ft fw fh ff fp fg fr fx : Nat → Int32)  (hp0 : p0 ≤ 4) (hop : op0 ≤ 1) (hn : n ≤ 1000) (hm : m0 ≤ cap0) (hcap : cap0 ≤ 400) (ha : ∀ j, a j < 256) (hb : ∀ j, b j < 256) (ht : ∀ j, t j < 256) (hx : ∀ j, x j < 256) (hph : p0 = 3) (ho : op0 = 1) (hall : ¬ ∀ j, j < 16 → (TG (MB (stF fk fn (nI 0)) fw) a n (dD op0 b t) m0) j = x j) : CI l D cA yX3_verify wsX3_verify { frames := 4, cells := 0, slots := 0, locals := 90 } [.ref (o 0)] (wX3 o cA cd (nI cap0) (nI p0) (nI op0) (nI n) (nI m0) fk fn (fun j => nI (a j)) (fun j => nI (b j)) (fun j => nI (t j)) (fun j => nI (x j)) ft fw fh ff fp fg fr fx) (fun r _ => r = nI 0) (fun u : (Nat → Int32) × (Nat → Int32) × (Nat → Int32) × (Nat → Int32) × (Nat → Int32) × (Nat → Int32) => wX3 o cA (nI 0) (nI cap0) (nI p0) (nI op0) (nI n) (nI m0) fk fn (fun j => nI (a j)) (fun j => nI (b j)) (fun j => nI (t j)) (fun j => nI (x j)) (stF fk fn (nI 0)) (MB (stF fk fn (nI 0)) fw) u.1 u.2.1 u.2.2.1 u.2.2.2.1 u.2.2.2.2.1 u.2.2.2.2.2) := by
  refine ci_of (by decide) rfl (Nat.le_of_ble_eq_true rfl) ?_
  intro p e s m below meth c ls A ar Q S hK hw hA hr hlk hl hQ
  have hl : lv_has ls 2 [(0, .ref (o 0))] := hl
  have hiX3 : ∀ w ∈ wsX30, w ∈ wsX3_verify := fun _ h => List.mem_cons_of_mem _ (List.mem_append_right _ h)
  refine lv_aload_n S.1 S.2.1 dX3_verify_0 rfl (lv_at hl 0 rfl) ?_
  refine lv_iconst (v := nI 0) S.1 S.2.1 dX3_verify_1 (by decide) ?_
  refine mp S hK hw 0 rfl rfl hiX3 tyX3_ok nmX3 0 (by decide) (List.mem_of_getElem? (i := 1) rfl) rfl rfl rfl (Nat.le_of_ble_eq_true rfl) dX3_verify_2 (fun H locs hw => ?_)
  have hw : Wd D A s.heap H locs (wX3 o cA (nI 0) (nI cap0) (nI p0) (nI op0) (nI n) (nI m0) fk fn (fun j => nI (a j)) (fun j => nI (b j)) (fun j => nI (t j)) (fun j => nI (x j)) ft fw fh ff fp fg fr fx) := hw
  refine lv_aload_n S.1 S.2.1 dX3_verify_5 rfl (lv_at hl 0 rfl) ?_
  refine mg S hK hw 0 rfl rfl hiX3 4 (by decide) (List.mem_of_getElem? (i := 2) rfl) rfl dX3_verify_6 ?_
  refine lv_iconst (v := nI 3) S.1 S.2.1 dX3_verify_9 (by decide) ?_
  refine lv_icmp_ne (tgt := 20) S.1 S.2.1 dX3_verify_10 (by decide) (fun c10 => ?_) (fun c10 => ?_)
  · rw [nI_eq (by omega) (by omega)] at c10
    exfalso; omega
  · rw [nI_eq (by omega) (by omega)] at c10
    refine lv_aload_n S.1 S.2.1 dX3_verify_13 rfl (lv_at hl 0 rfl) ?_
    refine mg S hK hw 0 rfl rfl hiX3 5 (by decide) (List.mem_of_getElem? (i := 3) rfl) rfl dX3_verify_14 ?_
    refine lv_if_ne (tgt := 22) S.1 S.2.1 dX3_verify_17 (by decide) (fun c17 => ?_) (fun c17 => ?_)
    · rw [← nI_0, nI_eq (by omega) (by omega)] at c17
      refine lv_aload_n S.1 S.2.1 dX3_verify_22 rfl (lv_at hl 0 rfl) ?_
      refine callVV (rest := []) S hK hw hA (kX3_tag0 l D cA o (nI 0) (nI cap0) (nI p0) fk fn (fun j => nI (x j)) ft fw fh ff fp fg fr fx n m0 op0 a b t (by omega) (by omega) (by omega) ha hb ht) gX3_verify_X3_tag0 rfl 0 rfl (by decide +kernel) ⟨rfl, rfl⟩ ⟨by decide, by decide⟩ ⟨Nat.zero_le _, Nat.zero_le _⟩ [0, 1, 2, 3, 4, 5, 6, 7, 8, 9, 10, 11, 12, 13, 14] rfl (by decide) (fun _ => rfl) 0 rfl rfl rfl hl.1 (Nat.le_of_ble_eq_true rfl) dX3_verify_23 rfl (fun u23 H locs hp hw => ?_)
      have hw : Wd D A s.heap H locs (wX3 o cA (nI 0) (nI cap0) (nI p0) (nI op0) (nI n) (nI m0) fk fn (fun j => nI (a j)) (fun j => nI (b j)) (fun j => nI (t j)) (fun j => nI (x j)) (stF fk fn (nI 0)) (MB (stF fk fn (nI 0)) fw) (fun j => nI (dg (hAll (MB (stF fk fn (nI 0)) fw) a n (dD op0 b t) m0) j)) (fun j => nI (rF (MB (stF fk fn (nI 0)) fw) j)) u23.1 u23.2.1 (fun j => nI (TG (MB (stF fk fn (nI 0)) fw) a n (dD op0 b t) m0 j)) u23.2.2) := hw
      obtain ⟨fh1, efh1⟩ : ∃ f : Nat → Int32, f = fun j => nI (dg (hAll (MB (stF fk fn (nI 0)) fw) a n (dD op0 b t) m0) j) := ⟨_, rfl⟩
      rw [← efh1] at hw
      obtain ⟨ff1, eff1⟩ : ∃ f : Nat → Int32, f = fun j => nI (rF (MB (stF fk fn (nI 0)) fw) j) := ⟨_, rfl⟩
      rw [← eff1] at hw
      obtain ⟨fr1, efr1⟩ : ∃ f : Nat → Int32, f = fun j => nI (TG (MB (stF fk fn (nI 0)) fw) a n (dD op0 b t) m0 j) := ⟨_, rfl⟩
      rw [← efr1] at hw
      refine lv_iconst (v := nI 0) S.1 S.2.1 dX3_verify_26 (by decide) ?_
      refine lv_istore_n (lv' := [(1, .int (nI 0)), (0, .ref (o 0))]) S.1 S.2.1 dX3_verify_27 rfl hl (by decide) rfl (fun ls hl => ?_)
      have lp28 : ∀ (n0 k : Nat), k + n0 = 16 → (∀ j, j < k → (TG (MB (stF fk fn (nI 0)) fw) a n (dD op0 b t) m0) j = x j) → ∀ (H : Heap) (locs : List Loc), Wd D A s.heap H locs (wX3 o cA (nI 0) (nI cap0) (nI p0) (nI op0) (nI n) (nI m0) fk fn (fun j => nI (a j)) (fun j => nI (b j)) (fun j => nI (t j)) (fun j => nI (x j)) (stF fk fn (nI 0)) (MB (stF fk fn (nI 0)) fw) fh1 ff1 u23.1 u23.2.1 fr1 u23.2.2) → ∀ ls : Array Slot, lv_has ls 2 [(1, .int (nI k)), (0, .ref (o 0))] → W p l e { frames := 4, cells := 0, slots := 0, locals := 90 } s m ar below meth c H locs 0 0 Q (F0 m 28 ls []) := by
        intro n0
        induction n0 with
        | zero =>
          intro k hn0 hk H locs hw ls hl
          have hn0 : k = 16 := by omega
          subst hn0
          refine lv_iload_n S.1 S.2.1 dX3_verify_28 rfl (lv_at hl 0 rfl) ?_
          refine lv_bipush (v := nI 16) S.1 S.2.1 dX3_verify_29 (by decide) ?_
          refine lv_icmp_ge (tgt := 57) S.1 S.2.1 dX3_verify_31 (by decide) (fun c31 => ?_) (fun c31 => ?_)
          · rw [nI_leI (by omega) (by omega)] at c31
            exact absurd hk hall
          · rw [nI_leI (by omega) (by omega)] at c31
            exfalso; omega
        | succ n0 ih =>
          intro k hn0 hk H locs hw ls hl
          have hlt : k < 16 := by omega
          have hT1 := TG_lt (MB (stF fk fn (nI 0)) fw) a n (dD op0 b t) m0 k
          have hx1 := hx k
          refine lv_iload_n S.1 S.2.1 dX3_verify_28 rfl (lv_at hl 0 rfl) ?_
          refine lv_bipush (v := nI 16) S.1 S.2.1 dX3_verify_29 (by decide) ?_
          refine lv_icmp_ge (tgt := 57) S.1 S.2.1 dX3_verify_31 (by decide) (fun c31 => ?_) (fun c31 => ?_)
          · rw [nI_leI (by omega) (by omega)] at c31
            exfalso; omega
          · rw [nI_leI (by omega) (by omega)] at c31
            refine lv_aload_n S.1 S.2.1 dX3_verify_34 rfl (lv_at hl 1 rfl) ?_
            refine mg S hK hw 0 rfl rfl hiX3 18 (by decide) (List.mem_of_getElem? (i := 4) rfl) rfl dX3_verify_35 ?_
            refine lv_iload_n S.1 S.2.1 dX3_verify_38 rfl (lv_at hl 0 rfl) ?_
            refine ag S hK hw 13 rfl k rfl (by omega) (by decide) dX3_verify_39 ?_
            refine te (y := nI ((TG (MB (stF fk fn (nI 0)) fw) a n (dD op0 b t) m0) k)) (by rw [efr1]) ?_
            refine lv_aload_n S.1 S.2.1 dX3_verify_40 rfl (lv_at hl 1 rfl) ?_
            refine mg S hK hw 0 rfl rfl hiX3 11 (by decide) (List.mem_of_getElem? (i := 5) rfl) rfl dX3_verify_41 ?_
            refine lv_iload_n S.1 S.2.1 dX3_verify_44 rfl (lv_at hl 0 rfl) ?_
            refine ag S hK hw 6 rfl k rfl (by omega) (by decide) dX3_verify_45 ?_
            refine te (y := nI (x k)) rfl ?_
            refine lv_icmp_eq (tgt := 51) S.1 S.2.1 dX3_verify_46 (by decide) (fun c46 => ?_) (fun c46 => ?_)
            · rw [nI_eq (by omega) (by omega)] at c46
              refine lv_iinc (v := nI (k + 1)) (lv' := [(1, .int (nI (k + 1))), (0, .ref (o 0))]) S.1 S.2.1 dX3_verify_51 hl (k := 0) rfl (nI_add k 1) (by decide) rfl (fun ls hl => ?_)
              refine lv_goto (tgt := 28) S.1 S.2.1 dX3_verify_54 (by decide) ?_
              exact ih (k + 1)  (by omega) (fun j hj => by rcases Nat.lt_or_ge j k with q | q; exact hk j q; rw [show j = k by omega]; exact c46) _ _ hw _ hl
            · rw [nI_eq (by omega) (by omega)] at c46
              refine lv_iconst (v := nI 0) S.1 S.2.1 dX3_verify_49 (by decide) ?_
              exact ci_ret S hr hlk hQ hw (by decide) (fh1, ff1, u23.1, u23.2.1, fr1, u23.2.2) rfl rfl dX3_verify_50
      exact lp28 16 0  (by omega) (fun j hj => absurd hj (by omega)) _ _ hw _ hl
    · rw [← nI_0, nI_eq (by omega) (by omega)] at c17
      exfalso; omega
