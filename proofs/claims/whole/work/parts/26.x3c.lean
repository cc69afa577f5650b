set_option maxHeartbeats 4000000 in
set_option maxRecDepth 100000 in
theorem kX3_isByte (l : Launch) (D : va_G) (cA : ClassId) (o : Nat → Nat) (b : Int32) : CI l D cA yX3_isByte wsX3_isByte { frames := 0, cells := 0, slots := 0, locals := 0 } [.int b] (wE o cA ) (fun r _ => by01 256 b r) (fun _ : Unit => wE o cA ) := by
  refine ci_of (by decide) rfl (Nat.le_of_ble_eq_true rfl) ?_
  intro p e s m below meth c ls A ar Q S hK hw hA hr hlk hl hQ
  have hl : lv_has ls 1 [(0, .int b)] := hl
  refine lv_iload_n S.1 S.2.1 dX3_isByte_0 rfl (lv_at hl 0 rfl) ?_
  refine lv_if_lt (tgt := 15) S.1 S.2.1 dX3_isByte_1 (by decide) (fun c1 => ?_) (fun c1 => ?_)
  · skip
    refine lv_iconst (v := nI 0) S.1 S.2.1 dX3_isByte_15 (by decide) ?_
    exact ci_ret S hr hlk hQ hw (by decide) () rfl (by first | exact by01_lt (by decide) c1 | exact by01_ge (by decide) c8 | exact by01_in (by decide) c1 c8) dX3_isByte_16
  · skip
    refine lv_iload_n S.1 S.2.1 dX3_isByte_4 rfl (lv_at hl 0 rfl) ?_
    refine lv_sipush (v := nI 256) S.1 S.2.1 dX3_isByte_5 (by decide) ?_
    refine lv_icmp_ge (tgt := 15) S.1 S.2.1 dX3_isByte_8 (by decide) (fun c8 => ?_) (fun c8 => ?_)
    · skip
      refine lv_iconst (v := nI 0) S.1 S.2.1 dX3_isByte_15 (by decide) ?_
      exact ci_ret S hr hlk hQ hw (by decide) () rfl (by first | exact by01_lt (by decide) c1 | exact by01_ge (by decide) c8 | exact by01_in (by decide) c1 c8) dX3_isByte_16
    · skip
      refine lv_iconst (v := nI 1) S.1 S.2.1 dX3_isByte_11 (by decide) ?_
      refine lv_goto (tgt := 16) S.1 S.2.1 dX3_isByte_12 (by decide) ?_
      exact ci_ret S hr hlk hQ hw (by decide) () rfl (by first | exact by01_lt (by decide) c1 | exact by01_ge (by decide) c8 | exact by01_in (by decide) c1 c8) dX3_isByte_16

set_option maxHeartbeats 4000000 in
set_option maxRecDepth 100000 in
theorem kX3_isPlace (l : Launch) (D : va_G) (cA : ClassId) (o : Nat → Nat) (b : Int32) : CI l D cA yX3_isPlace wsX3_isPlace { frames := 0, cells := 0, slots := 0, locals := 0 } [.int b] (wE o cA ) (fun r _ => by01 16 b r) (fun _ : Unit => wE o cA ) := by
  refine ci_of (by decide) rfl (Nat.le_of_ble_eq_true rfl) ?_
  intro p e s m below meth c ls A ar Q S hK hw hA hr hlk hl hQ
  have hl : lv_has ls 1 [(0, .int b)] := hl
  refine lv_iload_n S.1 S.2.1 dX3_isPlace_0 rfl (lv_at hl 0 rfl) ?_
  refine lv_if_lt (tgt := 14) S.1 S.2.1 dX3_isPlace_1 (by decide) (fun c1 => ?_) (fun c1 => ?_)
  · skip
    refine lv_iconst (v := nI 0) S.1 S.2.1 dX3_isPlace_14 (by decide) ?_
    exact ci_ret S hr hlk hQ hw (by decide) () rfl (by first | exact by01_lt (by decide) c1 | exact by01_ge (by decide) c7 | exact by01_in (by decide) c1 c7) dX3_isPlace_15
  · skip
    refine lv_iload_n S.1 S.2.1 dX3_isPlace_4 rfl (lv_at hl 0 rfl) ?_
    refine lv_bipush (v := nI 16) S.1 S.2.1 dX3_isPlace_5 (by decide) ?_
    refine lv_icmp_ge (tgt := 14) S.1 S.2.1 dX3_isPlace_7 (by decide) (fun c7 => ?_) (fun c7 => ?_)
    · skip
      refine lv_iconst (v := nI 0) S.1 S.2.1 dX3_isPlace_14 (by decide) ?_
      exact ci_ret S hr hlk hQ hw (by decide) () rfl (by first | exact by01_lt (by decide) c1 | exact by01_ge (by decide) c7 | exact by01_in (by decide) c1 c7) dX3_isPlace_15
    · skip
      refine lv_iconst (v := nI 1) S.1 S.2.1 dX3_isPlace_10 (by decide) ?_
      refine lv_goto (tgt := 15) S.1 S.2.1 dX3_isPlace_11 (by decide) ?_
      exact ci_ret S hr hlk hQ hw (by decide) () rfl (by first | exact by01_lt (by decide) c1 | exact by01_ge (by decide) c7 | exact by01_in (by decide) c1 c7) dX3_isPlace_15

set_option maxHeartbeats 4000000 in
set_option maxRecDepth 100000 in
theorem kX3_setKeyWord_ok (l : Launch) (D : va_G) (cA : ClassId) (o : Nat → Nat) (cd : Int32) (p0 op0 n m0 cap0 : Nat) (a b t x : Nat → Nat) (fk fn ft fw fh ff fp fg fr fx : Nat → Int32) (i : Nat) (w : Int32) (hp0 : p0 ≤ 4) (hop : op0 ≤ 1) (hn : n ≤ 1000) (hm : m0 ≤ cap0) (hcap : cap0 ≤ 400) (hi : i < 8) (hph : p0 = 0) : CI l D cA yX3_setKeyWord wsX3_setKeyWord { frames := 0, cells := 0, slots := 0, locals := 0 } [.ref (o 0), .int (nI i), .int w] (wX3 o cA cd (nI cap0) (nI p0) (nI op0) (nI n) (nI m0) fk fn (fun j => nI (a j)) (fun j => nI (b j)) (fun j => nI (t j)) (fun j => nI (x j)) ft fw fh ff fp fg fr fx) (fun r _ => r = nI 1) (fun _ : Unit => wX3 o cA (nI 0) (nI cap0) (nI p0) (nI op0) (nI n) (nI m0) (upd fk i w) fn (fun j => nI (a j)) (fun j => nI (b j)) (fun j => nI (t j)) (fun j => nI (x j)) ft fw fh ff fp fg fr fx) := by
  refine ci_of (by decide) rfl (Nat.le_of_ble_eq_true rfl) ?_
  intro p e s m below meth c ls A ar Q S hK hw hA hr hlk hl hQ
  have hl : lv_has ls 3 [(0, .ref (o 0)), (1, .int (nI i)), (2, .int w)] := hl
  have hiX3 : ∀ w ∈ wsX30, w ∈ wsX3_setKeyWord := fun _ h => List.mem_cons_of_mem _ (List.mem_append_right _ h)
  refine lv_aload_n S.1 S.2.1 dX3_setKeyWord_0 rfl (lv_at hl 0 rfl) ?_
  refine lv_iconst (v := nI 0) S.1 S.2.1 dX3_setKeyWord_1 (by decide) ?_
  refine mp S hK hw 0 rfl rfl hiX3 tyX3_ok nmX3 0 (by decide) (List.mem_of_getElem? (i := 1) rfl) rfl rfl rfl (Nat.le_of_ble_eq_true rfl) dX3_setKeyWord_2 (fun H locs hw => ?_)
  have hw : Wd D A s.heap H locs (wX3 o cA (nI 0) (nI cap0) (nI p0) (nI op0) (nI n) (nI m0) fk fn (fun j => nI (a j)) (fun j => nI (b j)) (fun j => nI (t j)) (fun j => nI (x j)) ft fw fh ff fp fg fr fx) := hw
  refine lv_aload_n S.1 S.2.1 dX3_setKeyWord_5 rfl (lv_at hl 0 rfl) ?_
  refine mg S hK hw 0 rfl rfl hiX3 4 (by decide) (List.mem_of_getElem? (i := 2) rfl) rfl dX3_setKeyWord_6 ?_
  refine lv_if_ne (tgt := 22) S.1 S.2.1 dX3_setKeyWord_9 (by decide) (fun c9 => ?_) (fun c9 => ?_)
  · rw [← nI_0, nI_eq (by omega) (by omega)] at c9
    exfalso; omega
  · rw [← nI_0, nI_eq (by omega) (by omega)] at c9
    refine lv_iload_n S.1 S.2.1 dX3_setKeyWord_12 rfl (lv_at hl 1 rfl) ?_
    refine lv_if_lt (tgt := 22) S.1 S.2.1 dX3_setKeyWord_13 (by decide) (fun c13 => ?_) (fun c13 => ?_)
    · rw [← nI_0, nI_ltI (by omega) (by omega)] at c13
      exfalso; omega
    · rw [← nI_0, nI_ltI (by omega) (by omega)] at c13
      refine lv_iload_n S.1 S.2.1 dX3_setKeyWord_16 rfl (lv_at hl 1 rfl) ?_
      refine lv_bipush (v := nI 7) S.1 S.2.1 dX3_setKeyWord_17 (by decide) ?_
      refine lv_icmp_le (tgt := 24) S.1 S.2.1 dX3_setKeyWord_19 (by decide) (fun c19 => ?_) (fun c19 => ?_)
      · rw [nI_leI (by omega) (by omega)] at c19
        refine lv_aload_n S.1 S.2.1 dX3_setKeyWord_24 rfl (lv_at hl 0 rfl) ?_
        refine mg S hK hw 0 rfl rfl hiX3 2 (by decide) (List.mem_of_getElem? (i := 3) rfl) rfl dX3_setKeyWord_25 ?_
        refine lv_iload_n S.1 S.2.1 dX3_setKeyWord_28 rfl (lv_at hl 1 rfl) ?_
        refine lv_iload_n S.1 S.2.1 dX3_setKeyWord_29 rfl (lv_at hl 2 rfl) ?_
        refine ap S hK hw 1 rfl i rfl (by omega) (by decide) dX3_setKeyWord_30 (fun H locs hw => ?_)
        have hw : Wd D A s.heap H locs (wX3 o cA (nI 0) (nI cap0) (nI p0) (nI op0) (nI n) (nI m0) (upd fk i w) fn (fun j => nI (a j)) (fun j => nI (b j)) (fun j => nI (t j)) (fun j => nI (x j)) ft fw fh ff fp fg fr fx) := hw
        refine lv_iconst (v := nI 1) S.1 S.2.1 dX3_setKeyWord_31 (by decide) ?_
        exact ci_ret S hr hlk hQ hw (by decide) () rfl rfl dX3_setKeyWord_32
      · rw [nI_leI (by omega) (by omega)] at c19
        exfalso; omega

set_option maxHeartbeats 4000000 in
set_option maxRecDepth 100000 in
theorem kX3_setKeyWord_no (l : Launch) (D : va_G) (cA : ClassId) (o : Nat → Nat) (cd : Int32) (p0 op0 n m0 cap0 : Nat) (a b t x : Nat → Nat) (fk fn ft fw fh ff fp fg fr fx : Nat → Int32) (i w : Int32) (hp0 : p0 ≤ 4) (hop : op0 ≤ 1) (hn : n ≤ 1000) (hm : m0 ≤ cap0) (hcap : cap0 ≤ 400) (hno : ¬ (p0 = 0 ∧ ∃ k, k < 8 ∧ i = nI k)) : CI l D cA yX3_setKeyWord wsX3_setKeyWord { frames := 0, cells := 0, slots := 0, locals := 0 } [.ref (o 0), .int i, .int w] (wX3 o cA cd (nI cap0) (nI p0) (nI op0) (nI n) (nI m0) fk fn (fun j => nI (a j)) (fun j => nI (b j)) (fun j => nI (t j)) (fun j => nI (x j)) ft fw fh ff fp fg fr fx) (fun r _ => r = nI 0) (fun _ : Unit => wX3 o cA (nI 0) (nI cap0) (nI p0) (nI op0) (nI n) (nI m0) fk fn (fun j => nI (a j)) (fun j => nI (b j)) (fun j => nI (t j)) (fun j => nI (x j)) ft fw fh ff fp fg fr fx) := by
  refine ci_of (by decide) rfl (Nat.le_of_ble_eq_true rfl) ?_
  intro p e s m below meth c ls A ar Q S hK hw hA hr hlk hl hQ
  have hl : lv_has ls 3 [(0, .ref (o 0)), (1, .int i), (2, .int w)] := hl
  have hiX3 : ∀ w ∈ wsX30, w ∈ wsX3_setKeyWord := fun _ h => List.mem_cons_of_mem _ (List.mem_append_right _ h)
  refine lv_aload_n S.1 S.2.1 dX3_setKeyWord_0 rfl (lv_at hl 0 rfl) ?_
  refine lv_iconst (v := nI 0) S.1 S.2.1 dX3_setKeyWord_1 (by decide) ?_
  refine mp S hK hw 0 rfl rfl hiX3 tyX3_ok nmX3 0 (by decide) (List.mem_of_getElem? (i := 1) rfl) rfl rfl rfl (Nat.le_of_ble_eq_true rfl) dX3_setKeyWord_2 (fun H locs hw => ?_)
  have hw : Wd D A s.heap H locs (wX3 o cA (nI 0) (nI cap0) (nI p0) (nI op0) (nI n) (nI m0) fk fn (fun j => nI (a j)) (fun j => nI (b j)) (fun j => nI (t j)) (fun j => nI (x j)) ft fw fh ff fp fg fr fx) := hw
  refine lv_aload_n S.1 S.2.1 dX3_setKeyWord_5 rfl (lv_at hl 0 rfl) ?_
  refine mg S hK hw 0 rfl rfl hiX3 4 (by decide) (List.mem_of_getElem? (i := 2) rfl) rfl dX3_setKeyWord_6 ?_
  refine lv_if_ne (tgt := 22) S.1 S.2.1 dX3_setKeyWord_9 (by decide) (fun c9 => ?_) (fun c9 => ?_)
  · rw [← nI_0, nI_eq (by omega) (by omega)] at c9
    refine lv_iconst (v := nI 0) S.1 S.2.1 dX3_setKeyWord_22 (by decide) ?_
    exact ci_ret S hr hlk hQ hw (by decide) () rfl rfl dX3_setKeyWord_23
  · rw [← nI_0, nI_eq (by omega) (by omega)] at c9
    refine lv_iload_n S.1 S.2.1 dX3_setKeyWord_12 rfl (lv_at hl 1 rfl) ?_
    refine lv_if_lt (tgt := 22) S.1 S.2.1 dX3_setKeyWord_13 (by decide) (fun c13 => ?_) (fun c13 => ?_)
    · skip
      refine lv_iconst (v := nI 0) S.1 S.2.1 dX3_setKeyWord_22 (by decide) ?_
      exact ci_ret S hr hlk hQ hw (by decide) () rfl rfl dX3_setKeyWord_23
    · skip
      refine lv_iload_n S.1 S.2.1 dX3_setKeyWord_16 rfl (lv_at hl 1 rfl) ?_
      refine lv_bipush (v := nI 7) S.1 S.2.1 dX3_setKeyWord_17 (by decide) ?_
      refine lv_icmp_le (tgt := 24) S.1 S.2.1 dX3_setKeyWord_19 (by decide) (fun c19 => ?_) (fun c19 => ?_)
      · skip
        obtain ⟨k, hk, rfl⟩ := in_le (n := 7) (by decide) c13 c19
        exact absurd ⟨by omega, k, by omega, rfl⟩ hno
      · skip
        refine lv_iconst (v := nI 0) S.1 S.2.1 dX3_setKeyWord_22 (by decide) ?_
        exact ci_ret S hr hlk hQ hw (by decide) () rfl rfl dX3_setKeyWord_23

set_option maxHeartbeats 4000000 in
set_option maxRecDepth 100000 in
theorem kX3_setNonceWord_ok (l : Launch) (D : va_G) (cA : ClassId) (o : Nat → Nat) (cd : Int32) (p0 op0 n m0 cap0 : Nat) (a b t x : Nat → Nat) (fk fn ft fw fh ff fp fg fr fx : Nat → Int32) (i : Nat) (w : Int32) (hp0 : p0 ≤ 4) (hop : op0 ≤ 1) (hn : n ≤ 1000) (hm : m0 ≤ cap0) (hcap : cap0 ≤ 400) (hi : i < 3) (hph : p0 = 0) : CI l D cA yX3_setNonceWord wsX3_setNonceWord { frames := 0, cells := 0, slots := 0, locals := 0 } [.ref (o 0), .int (nI i), .int w] (wX3 o cA cd (nI cap0) (nI p0) (nI op0) (nI n) (nI m0) fk fn (fun j => nI (a j)) (fun j => nI (b j)) (fun j => nI (t j)) (fun j => nI (x j)) ft fw fh ff fp fg fr fx) (fun r _ => r = nI 1) (fun _ : Unit => wX3 o cA (nI 0) (nI cap0) (nI p0) (nI op0) (nI n) (nI m0) fk (upd fn i w) (fun j => nI (a j)) (fun j => nI (b j)) (fun j => nI (t j)) (fun j => nI (x j)) ft fw fh ff fp fg fr fx) := by
  refine ci_of (by decide) rfl (Nat.le_of_ble_eq_true rfl) ?_
  intro p e s m below meth c ls A ar Q S hK hw hA hr hlk hl hQ
  have hl : lv_has ls 3 [(0, .ref (o 0)), (1, .int (nI i)), (2, .int w)] := hl
  have hiX3 : ∀ w ∈ wsX30, w ∈ wsX3_setNonceWord := fun _ h => List.mem_cons_of_mem _ (List.mem_append_right _ h)
  refine lv_aload_n S.1 S.2.1 dX3_setNonceWord_0 rfl (lv_at hl 0 rfl) ?_
  refine lv_iconst (v := nI 0) S.1 S.2.1 dX3_setNonceWord_1 (by decide) ?_
  refine mp S hK hw 0 rfl rfl hiX3 tyX3_ok nmX3 0 (by decide) (List.mem_of_getElem? (i := 1) rfl) rfl rfl rfl (Nat.le_of_ble_eq_true rfl) dX3_setNonceWord_2 (fun H locs hw => ?_)
  have hw : Wd D A s.heap H locs (wX3 o cA (nI 0) (nI cap0) (nI p0) (nI op0) (nI n) (nI m0) fk fn (fun j => nI (a j)) (fun j => nI (b j)) (fun j => nI (t j)) (fun j => nI (x j)) ft fw fh ff fp fg fr fx) := hw
  refine lv_aload_n S.1 S.2.1 dX3_setNonceWord_5 rfl (lv_at hl 0 rfl) ?_
  refine mg S hK hw 0 rfl rfl hiX3 4 (by decide) (List.mem_of_getElem? (i := 2) rfl) rfl dX3_setNonceWord_6 ?_
  refine lv_if_ne (tgt := 21) S.1 S.2.1 dX3_setNonceWord_9 (by decide) (fun c9 => ?_) (fun c9 => ?_)
  · rw [← nI_0, nI_eq (by omega) (by omega)] at c9
    exfalso; omega
  · rw [← nI_0, nI_eq (by omega) (by omega)] at c9
    refine lv_iload_n S.1 S.2.1 dX3_setNonceWord_12 rfl (lv_at hl 1 rfl) ?_
    refine lv_if_lt (tgt := 21) S.1 S.2.1 dX3_setNonceWord_13 (by decide) (fun c13 => ?_) (fun c13 => ?_)
    · rw [← nI_0, nI_ltI (by omega) (by omega)] at c13
      exfalso; omega
    · rw [← nI_0, nI_ltI (by omega) (by omega)] at c13
      refine lv_iload_n S.1 S.2.1 dX3_setNonceWord_16 rfl (lv_at hl 1 rfl) ?_
      refine lv_iconst (v := nI 2) S.1 S.2.1 dX3_setNonceWord_17 (by decide) ?_
      refine lv_icmp_le (tgt := 23) S.1 S.2.1 dX3_setNonceWord_18 (by decide) (fun c18 => ?_) (fun c18 => ?_)
      · rw [nI_leI (by omega) (by omega)] at c18
        refine lv_aload_n S.1 S.2.1 dX3_setNonceWord_23 rfl (lv_at hl 0 rfl) ?_
        refine mg S hK hw 0 rfl rfl hiX3 3 (by decide) (List.mem_of_getElem? (i := 3) rfl) rfl dX3_setNonceWord_24 ?_
        refine lv_iload_n S.1 S.2.1 dX3_setNonceWord_27 rfl (lv_at hl 1 rfl) ?_
        refine lv_iload_n S.1 S.2.1 dX3_setNonceWord_28 rfl (lv_at hl 2 rfl) ?_
        refine ap S hK hw 2 rfl i rfl (by omega) (by decide) dX3_setNonceWord_29 (fun H locs hw => ?_)
        have hw : Wd D A s.heap H locs (wX3 o cA (nI 0) (nI cap0) (nI p0) (nI op0) (nI n) (nI m0) fk (upd fn i w) (fun j => nI (a j)) (fun j => nI (b j)) (fun j => nI (t j)) (fun j => nI (x j)) ft fw fh ff fp fg fr fx) := hw
        refine lv_iconst (v := nI 1) S.1 S.2.1 dX3_setNonceWord_30 (by decide) ?_
        exact ci_ret S hr hlk hQ hw (by decide) () rfl rfl dX3_setNonceWord_31
      · rw [nI_leI (by omega) (by omega)] at c18
        exfalso; omega

set_option maxHeartbeats 4000000 in
set_option maxRecDepth 100000 in
theorem kX3_setNonceWord_no (l : Launch) (D : va_G) (cA : ClassId) (o : Nat → Nat) (cd : Int32) (p0 op0 n m0 cap0 : Nat) (a b t x : Nat → Nat) (fk fn ft fw fh ff fp fg fr fx : Nat → Int32) (i w : Int32) (hp0 : p0 ≤ 4) (hop : op0 ≤ 1) (hn : n ≤ 1000) (hm : m0 ≤ cap0) (hcap : cap0 ≤ 400) (hno : ¬ (p0 = 0 ∧ ∃ k, k < 3 ∧ i = nI k)) : CI l D cA yX3_setNonceWord wsX3_setNonceWord { frames := 0, cells := 0, slots := 0, locals := 0 } [.ref (o 0), .int i, .int w] (wX3 o cA cd (nI cap0) (nI p0) (nI op0) (nI n) (nI m0) fk fn (fun j => nI (a j)) (fun j => nI (b j)) (fun j => nI (t j)) (fun j => nI (x j)) ft fw fh ff fp fg fr fx) (fun r _ => r = nI 0) (fun _ : Unit => wX3 o cA (nI 0) (nI cap0) (nI p0) (nI op0) (nI n) (nI m0) fk fn (fun j => nI (a j)) (fun j => nI (b j)) (fun j => nI (t j)) (fun j => nI (x j)) ft fw fh ff fp fg fr fx) := by
  refine ci_of (by decide) rfl (Nat.le_of_ble_eq_true rfl) ?_
  intro p e s m below meth c ls A ar Q S hK hw hA hr hlk hl hQ
  have hl : lv_has ls 3 [(0, .ref (o 0)), (1, .int i), (2, .int w)] := hl
  have hiX3 : ∀ w ∈ wsX30, w ∈ wsX3_setNonceWord := fun _ h => List.mem_cons_of_mem _ (List.mem_append_right _ h)
  refine lv_aload_n S.1 S.2.1 dX3_setNonceWord_0 rfl (lv_at hl 0 rfl) ?_
  refine lv_iconst (v := nI 0) S.1 S.2.1 dX3_setNonceWord_1 (by decide) ?_
  refine mp S hK hw 0 rfl rfl hiX3 tyX3_ok nmX3 0 (by decide) (List.mem_of_getElem? (i := 1) rfl) rfl rfl rfl (Nat.le_of_ble_eq_true rfl) dX3_setNonceWord_2 (fun H locs hw => ?_)
  have hw : Wd D A s.heap H locs (wX3 o cA (nI 0) (nI cap0) (nI p0) (nI op0) (nI n) (nI m0) fk fn (fun j => nI (a j)) (fun j => nI (b j)) (fun j => nI (t j)) (fun j => nI (x j)) ft fw fh ff fp fg fr fx) := hw
  refine lv_aload_n S.1 S.2.1 dX3_setNonceWord_5 rfl (lv_at hl 0 rfl) ?_
  refine mg S hK hw 0 rfl rfl hiX3 4 (by decide) (List.mem_of_getElem? (i := 2) rfl) rfl dX3_setNonceWord_6 ?_
  refine lv_if_ne (tgt := 21) S.1 S.2.1 dX3_setNonceWord_9 (by decide) (fun c9 => ?_) (fun c9 => ?_)
  · rw [← nI_0, nI_eq (by omega) (by omega)] at c9
    refine lv_iconst (v := nI 0) S.1 S.2.1 dX3_setNonceWord_21 (by decide) ?_
    exact ci_ret S hr hlk hQ hw (by decide) () rfl rfl dX3_setNonceWord_22
  · rw [← nI_0, nI_eq (by omega) (by omega)] at c9
    refine lv_iload_n S.1 S.2.1 dX3_setNonceWord_12 rfl (lv_at hl 1 rfl) ?_
    refine lv_if_lt (tgt := 21) S.1 S.2.1 dX3_setNonceWord_13 (by decide) (fun c13 => ?_) (fun c13 => ?_)
    · skip
      refine lv_iconst (v := nI 0) S.1 S.2.1 dX3_setNonceWord_21 (by decide) ?_
      exact ci_ret S hr hlk hQ hw (by decide) () rfl rfl dX3_setNonceWord_22
    · skip
      refine lv_iload_n S.1 S.2.1 dX3_setNonceWord_16 rfl (lv_at hl 1 rfl) ?_
      refine lv_iconst (v := nI 2) S.1 S.2.1 dX3_setNonceWord_17 (by decide) ?_
      refine lv_icmp_le (tgt := 23) S.1 S.2.1 dX3_setNonceWord_18 (by decide) (fun c18 => ?_) (fun c18 => ?_)
      · skip
        obtain ⟨k, hk, rfl⟩ := in_le (n := 2) (by decide) c13 c18
        exact absurd ⟨by omega, k, by omega, rfl⟩ hno
      · skip
        refine lv_iconst (v := nI 0) S.1 S.2.1 dX3_setNonceWord_21 (by decide) ?_
        exact ci_ret S hr hlk hQ hw (by decide) () rfl rfl dX3_setNonceWord_22

set_option maxHeartbeats 4000000 in
set_option maxRecDepth 100000 in
theorem kX3_begin_ok (l : Launch) (D : va_G) (cA : ClassId) (o : Nat → Nat) (cd : Int32) (p0 op0 n m0 cap0 : Nat) (a b t x : Nat → Nat) (fk fn ft fw fh ff fp fg fr fx : Nat → Int32) (d : Nat) (hp0 : p0 ≤ 4) (hop : op0 ≤ 1) (hn : n ≤ 1000) (hm : m0 ≤ cap0) (hcap : cap0 ≤ 400) (hd : d ≤ 1) (hph : p0 = 0) : CI l D cA yX3_begin wsX3_begin { frames := 0, cells := 0, slots := 0, locals := 0 } [.ref (o 0), .int (nI d)] (wX3 o cA cd (nI cap0) (nI p0) (nI op0) (nI n) (nI m0) fk fn (fun j => nI (a j)) (fun j => nI (b j)) (fun j => nI (t j)) (fun j => nI (x j)) ft fw fh ff fp fg fr fx) (fun r _ => r = nI 1) (fun _ : Unit => wX3 o cA (nI 0) (nI cap0) (nI 1) (nI d) (nI 0) (nI 0) fk fn (fun j => nI (a j)) (fun j => nI (b j)) (fun j => nI (t j)) (fun j => nI ((fun _ => 0) j)) ft fw fh ff fp fg fr fx) := by
  refine ci_of (by decide) rfl (Nat.le_of_ble_eq_true rfl) ?_
  intro p e s m below meth c ls A ar Q S hK hw hA hr hlk hl hQ
  have hl : lv_has ls 3 [(0, .ref (o 0)), (1, .int (nI d))] := hl
  have hiX3 : ∀ w ∈ wsX30, w ∈ wsX3_begin := fun _ h => List.mem_cons_of_mem _ (List.mem_append_right _ h)
  refine lv_aload_n S.1 S.2.1 dX3_begin_0 rfl (lv_at hl 0 rfl) ?_
  refine lv_iconst (v := nI 0) S.1 S.2.1 dX3_begin_1 (by decide) ?_
  refine mp S hK hw 0 rfl rfl hiX3 tyX3_ok nmX3 0 (by decide) (List.mem_of_getElem? (i := 1) rfl) rfl rfl rfl (Nat.le_of_ble_eq_true rfl) dX3_begin_2 (fun H locs hw => ?_)
  have hw : Wd D A s.heap H locs (wX3 o cA (nI 0) (nI cap0) (nI p0) (nI op0) (nI n) (nI m0) fk fn (fun j => nI (a j)) (fun j => nI (b j)) (fun j => nI (t j)) (fun j => nI (x j)) ft fw fh ff fp fg fr fx) := hw
  refine lv_aload_n S.1 S.2.1 dX3_begin_5 rfl (lv_at hl 0 rfl) ?_
  refine mg S hK hw 0 rfl rfl hiX3 4 (by decide) (List.mem_of_getElem? (i := 2) rfl) rfl dX3_begin_6 ?_
  refine lv_if_ne (tgt := 21) S.1 S.2.1 dX3_begin_9 (by decide) (fun c9 => ?_) (fun c9 => ?_)
  · rw [← nI_0, nI_eq (by omega) (by omega)] at c9
    exfalso; omega
  · rw [← nI_0, nI_eq (by omega) (by omega)] at c9
    refine lv_iload_n S.1 S.2.1 dX3_begin_12 rfl (lv_at hl 1 rfl) ?_
    refine lv_if_lt (tgt := 21) S.1 S.2.1 dX3_begin_13 (by decide) (fun c13 => ?_) (fun c13 => ?_)
    · rw [← nI_0, nI_ltI (by omega) (by omega)] at c13
      exfalso; omega
    · rw [← nI_0, nI_ltI (by omega) (by omega)] at c13
      refine lv_iload_n S.1 S.2.1 dX3_begin_16 rfl (lv_at hl 1 rfl) ?_
      refine lv_iconst (v := nI 1) S.1 S.2.1 dX3_begin_17 (by decide) ?_
      refine lv_icmp_le (tgt := 23) S.1 S.2.1 dX3_begin_18 (by decide) (fun c18 => ?_) (fun c18 => ?_)
      · rw [nI_leI (by omega) (by omega)] at c18
        refine lv_aload_n S.1 S.2.1 dX3_begin_23 rfl (lv_at hl 0 rfl) ?_
        refine lv_iconst (v := nI 1) S.1 S.2.1 dX3_begin_24 (by decide) ?_
        refine mp S hK hw 0 rfl rfl hiX3 tyX3_ok nmX3 4 (by decide) (List.mem_of_getElem? (i := 2) rfl) rfl rfl rfl (Nat.le_of_ble_eq_true rfl) dX3_begin_25 (fun H locs hw => ?_)
        have hw : Wd D A s.heap H locs (wX3 o cA (nI 0) (nI cap0) (nI 1) (nI op0) (nI n) (nI m0) fk fn (fun j => nI (a j)) (fun j => nI (b j)) (fun j => nI (t j)) (fun j => nI (x j)) ft fw fh ff fp fg fr fx) := hw
        refine lv_aload_n S.1 S.2.1 dX3_begin_28 rfl (lv_at hl 0 rfl) ?_
        refine lv_iload_n S.1 S.2.1 dX3_begin_29 rfl (lv_at hl 1 rfl) ?_
        refine lv_iconst (v := nI 1) S.1 S.2.1 dX3_begin_30 (by decide) ?_
        refine lv_icmp_ne (tgt := 38) S.1 S.2.1 dX3_begin_31 (by decide) (fun c31 => ?_) (fun c31 => ?_)
        · rw [nI_eq (by omega) (by omega)] at c31
          refine lv_iconst (v := nI 0) S.1 S.2.1 dX3_begin_38 (by decide) ?_
          refine mp S hK hw 0 rfl rfl hiX3 tyX3_ok nmX3 5 (by decide) (List.mem_of_getElem? (i := 3) rfl) rfl (by decide) rfl (Nat.le_of_ble_eq_true rfl) dX3_begin_39 (fun H locs hw => ?_)
          have hw : Wd D A s.heap H locs (wX3 o cA (nI 0) (nI cap0) (nI 1) (nI 0) (nI n) (nI m0) fk fn (fun j => nI (a j)) (fun j => nI (b j)) (fun j => nI (t j)) (fun j => nI (x j)) ft fw fh ff fp fg fr fx) := hw
          refine lv_aload_n S.1 S.2.1 dX3_begin_42 rfl (lv_at hl 0 rfl) ?_
          refine lv_iconst (v := nI 0) S.1 S.2.1 dX3_begin_43 (by decide) ?_
          refine mp S hK hw 0 rfl rfl hiX3 tyX3_ok nmX3 7 (by decide) (List.mem_of_getElem? (i := 4) rfl) rfl rfl rfl (Nat.le_of_ble_eq_true rfl) dX3_begin_44 (fun H locs hw => ?_)
          have hw : Wd D A s.heap H locs (wX3 o cA (nI 0) (nI cap0) (nI 1) (nI 0) (nI 0) (nI m0) fk fn (fun j => nI (a j)) (fun j => nI (b j)) (fun j => nI (t j)) (fun j => nI (x j)) ft fw fh ff fp fg fr fx) := hw
          refine lv_aload_n S.1 S.2.1 dX3_begin_47 rfl (lv_at hl 0 rfl) ?_
          refine lv_iconst (v := nI 0) S.1 S.2.1 dX3_begin_48 (by decide) ?_
          refine mp S hK hw 0 rfl rfl hiX3 tyX3_ok nmX3 10 (by decide) (List.mem_of_getElem? (i := 5) rfl) rfl rfl rfl (Nat.le_of_ble_eq_true rfl) dX3_begin_49 (fun H locs hw => ?_)
          have hw : Wd D A s.heap H locs (wX3 o cA (nI 0) (nI cap0) (nI 1) (nI 0) (nI 0) (nI 0) fk fn (fun j => nI (a j)) (fun j => nI (b j)) (fun j => nI (t j)) (fun j => nI (x j)) ft fw fh ff fp fg fr fx) := hw
          refine lv_iconst (v := nI 0) S.1 S.2.1 dX3_begin_52 (by decide) ?_
          refine lv_istore_n (lv' := [(2, .int (nI 0)), (0, .ref (o 0)), (1, .int (nI d))]) S.1 S.2.1 dX3_begin_53 rfl hl (by decide) rfl (fun ls hl => ?_)
          have lp54 : ∀ (n0 k : Nat), k + n0 = 16 → ∀ (H : Heap) (locs : List Loc), Wd D A s.heap H locs (wX3 o cA (nI 0) (nI cap0) (nI 1) (nI 0) (nI 0) (nI 0) fk fn (fun j => nI (a j)) (fun j => nI (b j)) (fun j => nI (t j)) (mixf k (fun j => nI 0) (fun j => nI (x j))) ft fw fh ff fp fg fr fx) → ∀ ls : Array Slot, lv_has ls 3 [(2, .int (nI k)), (0, .ref (o 0)), (1, .int (nI d))] → W p l e { frames := 0, cells := 0, slots := 0, locals := 0 } s m ar below meth c H locs 0 0 Q (F0 m 54 ls []) := by
            intro n0
            induction n0 with
            | zero =>
              intro k hn0 H locs hw ls hl
              have hn0 : k = 16 := by omega
              subst hn0
              have hw := hw.cong 6 (g := fun j => nI ((fun _ => 0) j)) rfl (fun j hj => mixf_n hj)
              have hw : Wd D A s.heap H locs (wX3 o cA (nI 0) (nI cap0) (nI 1) (nI 0) (nI 0) (nI 0) fk fn (fun j => nI (a j)) (fun j => nI (b j)) (fun j => nI (t j)) (fun j => nI ((fun _ => 0) j)) ft fw fh ff fp fg fr fx) := hw
              refine lv_iload_n S.1 S.2.1 dX3_begin_54 rfl (lv_at hl 0 rfl) ?_
              refine lv_bipush (v := nI 16) S.1 S.2.1 dX3_begin_55 (by decide) ?_
              refine lv_icmp_ge (tgt := 73) S.1 S.2.1 dX3_begin_57 (by decide) (fun c57 => ?_) (fun c57 => ?_)
              · rw [nI_leI (by omega) (by omega)] at c57
                refine lv_iconst (v := nI 1) S.1 S.2.1 dX3_begin_73 (by decide) ?_
                exact ci_ret S hr hlk hQ hw (by decide) () (by first | rw [show d = 1 by omega] | rw [show d = 0 by omega]) rfl dX3_begin_74
              · rw [nI_leI (by omega) (by omega)] at c57
                exfalso; omega
            | succ n0 ih =>
              intro k hn0 H locs hw ls hl
              have hlt : k < 16 := by omega
              refine lv_iload_n S.1 S.2.1 dX3_begin_54 rfl (lv_at hl 0 rfl) ?_
              refine lv_bipush (v := nI 16) S.1 S.2.1 dX3_begin_55 (by decide) ?_
              refine lv_icmp_ge (tgt := 73) S.1 S.2.1 dX3_begin_57 (by decide) (fun c57 => ?_) (fun c57 => ?_)
              · rw [nI_leI (by omega) (by omega)] at c57
                exfalso; omega
              · rw [nI_leI (by omega) (by omega)] at c57
                refine lv_aload_n S.1 S.2.1 dX3_begin_60 rfl (lv_at hl 1 rfl) ?_
                refine mg S hK hw 0 rfl rfl hiX3 11 (by decide) (List.mem_of_getElem? (i := 6) rfl) rfl dX3_begin_61 ?_
                refine lv_iload_n S.1 S.2.1 dX3_begin_64 rfl (lv_at hl 0 rfl) ?_
                refine lv_iconst (v := nI 0) S.1 S.2.1 dX3_begin_65 (by decide) ?_
                refine ap S hK hw 6 rfl k rfl (by omega) (by decide) dX3_begin_66 (fun H locs hw => ?_)
                have hw : Wd D A s.heap H locs (wX3 o cA (nI 0) (nI cap0) (nI 1) (nI 0) (nI 0) (nI 0) fk fn (fun j => nI (a j)) (fun j => nI (b j)) (fun j => nI (t j)) (upd (mixf k (fun j => nI 0) (fun j => nI (x j))) k (nI 0)) ft fw fh ff fp fg fr fx) := hw
                have hw := hw.cong 6 (g := mixf (k + 1) (fun j => nI 0) (fun j => nI (x j))) rfl (fun j _ => mixf_put (by exact rfl) j)
                have hw : Wd D A s.heap H locs (wX3 o cA (nI 0) (nI cap0) (nI 1) (nI 0) (nI 0) (nI 0) fk fn (fun j => nI (a j)) (fun j => nI (b j)) (fun j => nI (t j)) (mixf (k + 1) (fun j => nI 0) (fun j => nI (x j))) ft fw fh ff fp fg fr fx) := hw
                refine lv_iinc (v := nI (k + 1)) (lv' := [(2, .int (nI (k + 1))), (0, .ref (o 0)), (1, .int (nI d))]) S.1 S.2.1 dX3_begin_67 hl (k := 0) rfl (nI_add k 1) (by decide) rfl (fun ls hl => ?_)
                refine lv_goto (tgt := 54) S.1 S.2.1 dX3_begin_70 (by decide) ?_
                exact ih (k + 1)  (by omega)  _ _ hw _ hl
          have hw := hw.cong 6 (g := mixf 0 (fun j => nI 0) (fun j => nI (x j))) rfl (fun j _ => mixf_0 (fun j => nI 0) (fun j => nI (x j)) j)
          exact lp54 16 0  (by omega)  _ _ hw _ hl
        · rw [nI_eq (by omega) (by omega)] at c31
          refine lv_iconst (v := nI 1) S.1 S.2.1 dX3_begin_34 (by decide) ?_
          refine lv_goto (tgt := 39) S.1 S.2.1 dX3_begin_35 (by decide) ?_
          refine mp S hK hw 0 rfl rfl hiX3 tyX3_ok nmX3 5 (by decide) (List.mem_of_getElem? (i := 3) rfl) rfl (by decide) rfl (Nat.le_of_ble_eq_true rfl) dX3_begin_39 (fun H locs hw => ?_)
          have hw : Wd D A s.heap H locs (wX3 o cA (nI 0) (nI cap0) (nI 1) (nI 1) (nI n) (nI m0) fk fn (fun j => nI (a j)) (fun j => nI (b j)) (fun j => nI (t j)) (fun j => nI (x j)) ft fw fh ff fp fg fr fx) := hw
          refine lv_aload_n S.1 S.2.1 dX3_begin_42 rfl (lv_at hl 0 rfl) ?_
          refine lv_iconst (v := nI 0) S.1 S.2.1 dX3_begin_43 (by decide) ?_
          refine mp S hK hw 0 rfl rfl hiX3 tyX3_ok nmX3 7 (by decide) (List.mem_of_getElem? (i := 4) rfl) rfl rfl rfl (Nat.le_of_ble_eq_true rfl) dX3_begin_44 (fun H locs hw => ?_)
          have hw : Wd D A s.heap H locs (wX3 o cA (nI 0) (nI cap0) (nI 1) (nI 1) (nI 0) (nI m0) fk fn (fun j => nI (a j)) (fun j => nI (b j)) (fun j => nI (t j)) (fun j => nI (x j)) ft fw fh ff fp fg fr fx) := hw
          refine lv_aload_n S.1 S.2.1 dX3_begin_47 rfl (lv_at hl 0 rfl) ?_
          refine lv_iconst (v := nI 0) S.1 S.2.1 dX3_begin_48 (by decide) ?_
          refine mp S hK hw 0 rfl rfl hiX3 tyX3_ok nmX3 10 (by decide) (List.mem_of_getElem? (i := 5) rfl) rfl rfl rfl (Nat.le_of_ble_eq_true rfl) dX3_begin_49 (fun H locs hw => ?_)
          have hw : Wd D A s.heap H locs (wX3 o cA (nI 0) (nI cap0) (nI 1) (nI 1) (nI 0) (nI 0) fk fn (fun j => nI (a j)) (fun j => nI (b j)) (fun j => nI (t j)) (fun j => nI (x j)) ft fw fh ff fp fg fr fx) := hw
          refine lv_iconst (v := nI 0) S.1 S.2.1 dX3_begin_52 (by decide) ?_
          refine lv_istore_n (lv' := [(2, .int (nI 0)), (0, .ref (o 0)), (1, .int (nI d))]) S.1 S.2.1 dX3_begin_53 rfl hl (by decide) rfl (fun ls hl => ?_)
          have lp54 : ∀ (n0 k : Nat), k + n0 = 16 → ∀ (H : Heap) (locs : List Loc), Wd D A s.heap H locs (wX3 o cA (nI 0) (nI cap0) (nI 1) (nI 1) (nI 0) (nI 0) fk fn (fun j => nI (a j)) (fun j => nI (b j)) (fun j => nI (t j)) (mixf k (fun j => nI 0) (fun j => nI (x j))) ft fw fh ff fp fg fr fx) → ∀ ls : Array Slot, lv_has ls 3 [(2, .int (nI k)), (0, .ref (o 0)), (1, .int (nI d))] → W p l e { frames := 0, cells := 0, slots := 0, locals := 0 } s m ar below meth c H locs 0 0 Q (F0 m 54 ls []) := by
            intro n0
            induction n0 with
            | zero =>
              intro k hn0 H locs hw ls hl
              have hn0 : k = 16 := by omega
              subst hn0
              have hw := hw.cong 6 (g := fun j => nI ((fun _ => 0) j)) rfl (fun j hj => mixf_n hj)
              have hw : Wd D A s.heap H locs (wX3 o cA (nI 0) (nI cap0) (nI 1) (nI 1) (nI 0) (nI 0) fk fn (fun j => nI (a j)) (fun j => nI (b j)) (fun j => nI (t j)) (fun j => nI ((fun _ => 0) j)) ft fw fh ff fp fg fr fx) := hw
              refine lv_iload_n S.1 S.2.1 dX3_begin_54 rfl (lv_at hl 0 rfl) ?_
              refine lv_bipush (v := nI 16) S.1 S.2.1 dX3_begin_55 (by decide) ?_
              refine lv_icmp_ge (tgt := 73) S.1 S.2.1 dX3_begin_57 (by decide) (fun c57 => ?_) (fun c57 => ?_)
              · rw [nI_leI (by omega) (by omega)] at c57
                refine lv_iconst (v := nI 1) S.1 S.2.1 dX3_begin_73 (by decide) ?_
                exact ci_ret S hr hlk hQ hw (by decide) () (by first | rw [show d = 1 by omega] | rw [show d = 0 by omega]) rfl dX3_begin_74
              · rw [nI_leI (by omega) (by omega)] at c57
                exfalso; omega
            | succ n0 ih =>
              intro k hn0 H locs hw ls hl
              have hlt : k < 16 := by omega
              refine lv_iload_n S.1 S.2.1 dX3_begin_54 rfl (lv_at hl 0 rfl) ?_
              refine lv_bipush (v := nI 16) S.1 S.2.1 dX3_begin_55 (by decide) ?_
              refine lv_icmp_ge (tgt := 73) S.1 S.2.1 dX3_begin_57 (by decide) (fun c57 => ?_) (fun c57 => ?_)
              · rw [nI_leI (by omega) (by omega)] at c57
                exfalso; omega
              · rw [nI_leI (by omega) (by omega)] at c57
                refine lv_aload_n S.1 S.2.1 dX3_begin_60 rfl (lv_at hl 1 rfl) ?_
                refine mg S hK hw 0 rfl rfl hiX3 11 (by decide) (List.mem_of_getElem? (i := 6) rfl) rfl dX3_begin_61 ?_
                refine lv_iload_n S.1 S.2.1 dX3_begin_64 rfl (lv_at hl 0 rfl) ?_
                refine lv_iconst (v := nI 0) S.1 S.2.1 dX3_begin_65 (by decide) ?_
                refine ap S hK hw 6 rfl k rfl (by omega) (by decide) dX3_begin_66 (fun H locs hw => ?_)
                have hw : Wd D A s.heap H locs (wX3 o cA (nI 0) (nI cap0) (nI 1) (nI 1) (nI 0) (nI 0) fk fn (fun j => nI (a j)) (fun j => nI (b j)) (fun j => nI (t j)) (upd (mixf k (fun j => nI 0) (fun j => nI (x j))) k (nI 0)) ft fw fh ff fp fg fr fx) := hw
                have hw := hw.cong 6 (g := mixf (k + 1) (fun j => nI 0) (fun j => nI (x j))) rfl (fun j _ => mixf_put (by exact rfl) j)
                have hw : Wd D A s.heap H locs (wX3 o cA (nI 0) (nI cap0) (nI 1) (nI 1) (nI 0) (nI 0) fk fn (fun j => nI (a j)) (fun j => nI (b j)) (fun j => nI (t j)) (mixf (k + 1) (fun j => nI 0) (fun j => nI (x j))) ft fw fh ff fp fg fr fx) := hw
                refine lv_iinc (v := nI (k + 1)) (lv' := [(2, .int (nI (k + 1))), (0, .ref (o 0)), (1, .int (nI d))]) S.1 S.2.1 dX3_begin_67 hl (k := 0) rfl (nI_add k 1) (by decide) rfl (fun ls hl => ?_)
                refine lv_goto (tgt := 54) S.1 S.2.1 dX3_begin_70 (by decide) ?_
                exact ih (k + 1)  (by omega)  _ _ hw _ hl
          have hw := hw.cong 6 (g := mixf 0 (fun j => nI 0) (fun j => nI (x j))) rfl (fun j _ => mixf_0 (fun j => nI 0) (fun j => nI (x j)) j)
          exact lp54 16 0  (by omega)  _ _ hw _ hl
      · rw [nI_leI (by omega) (by omega)] at c18
        exfalso; omega

set_option maxHeartbeats 4000000 in
set_option maxRecDepth 100000 in
theorem kX3_begin_no (l : Launch) (D : va_G) (cA : ClassId) (o : Nat → Nat) (cd : Int32) (p0 op0 n m0 cap0 : Nat) (a b t x : Nat → Nat) (fk fn ft fw fh ff fp fg fr fx : Nat → Int32) (d : Int32) (hp0 : p0 ≤ 4) (hop : op0 ≤ 1) (hn : n ≤ 1000) (hm : m0 ≤ cap0) (hcap : cap0 ≤ 400) (hno : ¬ (p0 = 0 ∧ ∃ k, k < 2 ∧ d = nI k)) : CI l D cA yX3_begin wsX3_begin { frames := 0, cells := 0, slots := 0, locals := 0 } [.ref (o 0), .int d] (wX3 o cA cd (nI cap0) (nI p0) (nI op0) (nI n) (nI m0) fk fn (fun j => nI (a j)) (fun j => nI (b j)) (fun j => nI (t j)) (fun j => nI (x j)) ft fw fh ff fp fg fr fx) (fun r _ => r = nI 0) (fun _ : Unit => wX3 o cA (nI 0) (nI cap0) (nI p0) (nI op0) (nI n) (nI m0) fk fn (fun j => nI (a j)) (fun j => nI (b j)) (fun j => nI (t j)) (fun j => nI (x j)) ft fw fh ff fp fg fr fx) := by
  refine ci_of (by decide) rfl (Nat.le_of_ble_eq_true rfl) ?_
  intro p e s m below meth c ls A ar Q S hK hw hA hr hlk hl hQ
  have hl : lv_has ls 3 [(0, .ref (o 0)), (1, .int d)] := hl
  have hiX3 : ∀ w ∈ wsX30, w ∈ wsX3_begin := fun _ h => List.mem_cons_of_mem _ (List.mem_append_right _ h)
  refine lv_aload_n S.1 S.2.1 dX3_begin_0 rfl (lv_at hl 0 rfl) ?_
  refine lv_iconst (v := nI 0) S.1 S.2.1 dX3_begin_1 (by decide) ?_
  refine mp S hK hw 0 rfl rfl hiX3 tyX3_ok nmX3 0 (by decide) (List.mem_of_getElem? (i := 1) rfl) rfl rfl rfl (Nat.le_of_ble_eq_true rfl) dX3_begin_2 (fun H locs hw => ?_)
  have hw : Wd D A s.heap H locs (wX3 o cA (nI 0) (nI cap0) (nI p0) (nI op0) (nI n) (nI m0) fk fn (fun j => nI (a j)) (fun j => nI (b j)) (fun j => nI (t j)) (fun j => nI (x j)) ft fw fh ff fp fg fr fx) := hw
  refine lv_aload_n S.1 S.2.1 dX3_begin_5 rfl (lv_at hl 0 rfl) ?_
  refine mg S hK hw 0 rfl rfl hiX3 4 (by decide) (List.mem_of_getElem? (i := 2) rfl) rfl dX3_begin_6 ?_
  refine lv_if_ne (tgt := 21) S.1 S.2.1 dX3_begin_9 (by decide) (fun c9 => ?_) (fun c9 => ?_)
  · rw [← nI_0, nI_eq (by omega) (by omega)] at c9
    refine lv_iconst (v := nI 0) S.1 S.2.1 dX3_begin_21 (by decide) ?_
    exact ci_ret S hr hlk hQ hw (by decide) () rfl rfl dX3_begin_22
  · rw [← nI_0, nI_eq (by omega) (by omega)] at c9
    refine lv_iload_n S.1 S.2.1 dX3_begin_12 rfl (lv_at hl 1 rfl) ?_
    refine lv_if_lt (tgt := 21) S.1 S.2.1 dX3_begin_13 (by decide) (fun c13 => ?_) (fun c13 => ?_)
    · skip
      refine lv_iconst (v := nI 0) S.1 S.2.1 dX3_begin_21 (by decide) ?_
      exact ci_ret S hr hlk hQ hw (by decide) () rfl rfl dX3_begin_22
    · skip
      refine lv_iload_n S.1 S.2.1 dX3_begin_16 rfl (lv_at hl 1 rfl) ?_
      refine lv_iconst (v := nI 1) S.1 S.2.1 dX3_begin_17 (by decide) ?_
      refine lv_icmp_le (tgt := 23) S.1 S.2.1 dX3_begin_18 (by decide) (fun c18 => ?_) (fun c18 => ?_)
      · skip
        obtain ⟨k, hk, rfl⟩ := in_le (n := 1) (by decide) c13 c18
        exact absurd ⟨by omega, k, by omega, rfl⟩ hno
      · skip
        refine lv_iconst (v := nI 0) S.1 S.2.1 dX3_begin_21 (by decide) ?_
        exact ci_ret S hr hlk hQ hw (by decide) () rfl rfl dX3_begin_22

set_option maxHeartbeats 4000000 in
set_option maxRecDepth 100000 in
theorem kX3_aad_ok (l : Launch) (D : va_G) (cA : ClassId) (o : Nat → Nat) (cd : Int32) (p0 op0 n m0 cap0 : Nat) (a b t x : Nat → Nat) (fk fn ft fw fh ff fp fg fr fx : Nat → Int32) (v : Nat) (hp0 : p0 ≤ 4) (hop : op0 ≤ 1) (hn : n ≤ 1000) (hm : m0 ≤ cap0) (hcap : cap0 ≤ 400) (hv : v < 256) (hph : p0 = 1) (hn2 : n < 1000) : CI l D cA yX3_aad wsX3_aad { frames := 1, cells := 0, slots := 0, locals := 20 } [.ref (o 0), .int (nI v)] (wX3 o cA cd (nI cap0) (nI p0) (nI op0) (nI n) (nI m0) fk fn (fun j => nI (a j)) (fun j => nI (b j)) (fun j => nI (t j)) (fun j => nI (x j)) ft fw fh ff fp fg fr fx) (fun r _ => r = nI 1) (fun _ : Unit => wX3 o cA (nI 0) (nI cap0) (nI p0) (nI op0) (nI (n + 1)) (nI m0) fk fn (fun j => nI (updN a n v j)) (fun j => nI (b j)) (fun j => nI (t j)) (fun j => nI (x j)) ft fw fh ff fp fg fr fx) := by
  refine ci_of (by decide) rfl (Nat.le_of_ble_eq_true rfl) ?_
  intro p e s m below meth c ls A ar Q S hK hw hA hr hlk hl hQ
  have hl : lv_has ls 2 [(0, .ref (o 0)), (1, .int (nI v))] := hl
  have hiX3 : ∀ w ∈ wsX30, w ∈ wsX3_aad := fun _ h => List.mem_cons_of_mem _ (List.mem_append_right _ h)
  refine lv_aload_n S.1 S.2.1 dX3_aad_0 rfl (lv_at hl 0 rfl) ?_
  refine lv_iconst (v := nI 0) S.1 S.2.1 dX3_aad_1 (by decide) ?_
  refine mp S hK hw 0 rfl rfl hiX3 tyX3_ok nmX3 0 (by decide) (List.mem_of_getElem? (i := 1) rfl) rfl rfl rfl (Nat.le_of_ble_eq_true rfl) dX3_aad_2 (fun H locs hw => ?_)
  have hw : Wd D A s.heap H locs (wX3 o cA (nI 0) (nI cap0) (nI p0) (nI op0) (nI n) (nI m0) fk fn (fun j => nI (a j)) (fun j => nI (b j)) (fun j => nI (t j)) (fun j => nI (x j)) ft fw fh ff fp fg fr fx) := hw
  refine lv_aload_n S.1 S.2.1 dX3_aad_5 rfl (lv_at hl 0 rfl) ?_
  refine mg S hK hw 0 rfl rfl hiX3 4 (by decide) (List.mem_of_getElem? (i := 2) rfl) rfl dX3_aad_6 ?_
  refine lv_iconst (v := nI 1) S.1 S.2.1 dX3_aad_9 (by decide) ?_
  refine lv_icmp_ne (tgt := 30) S.1 S.2.1 dX3_aad_10 (by decide) (fun c10 => ?_) (fun c10 => ?_)
  · rw [nI_eq (by omega) (by omega)] at c10
    exfalso; omega
  · rw [nI_eq (by omega) (by omega)] at c10
    refine lv_iload_n S.1 S.2.1 dX3_aad_13 rfl (lv_at hl 1 rfl) ?_
    refine callSI (rest := []) S hK hw hA (kX3_isByte l D cA o (nI v)) gX3_aad_X3_isByte rfl 1 rfl (by decide +kernel) ⟨rfl, rfl⟩ ⟨by decide, by decide⟩ ⟨Nat.zero_le _, Nat.zero_le _⟩ hl.1 (Nat.le_of_ble_eq_true rfl) dX3_aad_14 rfl (fun r H locs hp hw => ?_)
    refine lv_if_eq (tgt := 30) S.1 S.2.1 dX3_aad_17 (by decide) (fun c17 => ?_) (fun c17 => ?_)
    · skip
      exact absurd c17 (by01_ok hp hv)
    · skip
      refine lv_aload_n S.1 S.2.1 dX3_aad_20 rfl (lv_at hl 0 rfl) ?_
      refine mg S hK hw 0 rfl rfl hiX3 7 (by decide) (List.mem_of_getElem? (i := 3) rfl) rfl dX3_aad_21 ?_
      refine lv_sipush (v := nI 1000) S.1 S.2.1 dX3_aad_24 (by decide) ?_
      refine lv_icmp_ne (tgt := 32) S.1 S.2.1 dX3_aad_27 (by decide) (fun c27 => ?_) (fun c27 => ?_)
      · rw [nI_eq (by omega) (by omega)] at c27
        refine lv_aload_n S.1 S.2.1 dX3_aad_32 rfl (lv_at hl 0 rfl) ?_
        refine mg S hK hw 0 rfl rfl hiX3 6 (by decide) (List.mem_of_getElem? (i := 4) rfl) rfl dX3_aad_33 ?_
        refine lv_aload_n S.1 S.2.1 dX3_aad_36 rfl (lv_at hl 0 rfl) ?_
        refine mg S hK hw 0 rfl rfl hiX3 7 (by decide) (List.mem_of_getElem? (i := 3) rfl) rfl dX3_aad_37 ?_
        refine lv_iload_n S.1 S.2.1 dX3_aad_40 rfl (lv_at hl 1 rfl) ?_
        refine ap S hK hw 3 rfl n rfl (by omega) (by decide) dX3_aad_41 (fun H locs hw => ?_)
        have hw : Wd D A s.heap H locs (wX3 o cA (nI 0) (nI cap0) (nI p0) (nI op0) (nI n) (nI m0) fk fn (upd (fun j => nI (a j)) n (nI v)) (fun j => nI (b j)) (fun j => nI (t j)) (fun j => nI (x j)) ft fw fh ff fp fg fr fx) := hw
        have hw := hw.cong 3 (g := fun j => nI (updN a n v j)) rfl (fun j _ => upd_nI _ _ j)
        have hw : Wd D A s.heap H locs (wX3 o cA (nI 0) (nI cap0) (nI p0) (nI op0) (nI n) (nI m0) fk fn (fun j => nI (updN a n v j)) (fun j => nI (b j)) (fun j => nI (t j)) (fun j => nI (x j)) ft fw fh ff fp fg fr fx) := hw
        refine lv_aload_n S.1 S.2.1 dX3_aad_42 rfl (lv_at hl 0 rfl) ?_
        refine lv_dup S.1 S.2.1 dX3_aad_43 rfl ?_
        refine mg S hK hw 0 rfl rfl hiX3 7 (by decide) (List.mem_of_getElem? (i := 3) rfl) rfl dX3_aad_44 ?_
        refine lv_iconst (v := nI 1) S.1 S.2.1 dX3_aad_47 (by decide) ?_
        refine lv_iadd S.1 S.2.1 dX3_aad_48 ?_
        refine te (nI_add _ _) ?_
        refine mp S hK hw 0 rfl rfl hiX3 tyX3_ok nmX3 7 (by decide) (List.mem_of_getElem? (i := 3) rfl) rfl rfl rfl (Nat.le_of_ble_eq_true rfl) dX3_aad_49 (fun H locs hw => ?_)
        have hw : Wd D A s.heap H locs (wX3 o cA (nI 0) (nI cap0) (nI p0) (nI op0) (nI (n + 1)) (nI m0) fk fn (fun j => nI (updN a n v j)) (fun j => nI (b j)) (fun j => nI (t j)) (fun j => nI (x j)) ft fw fh ff fp fg fr fx) := hw
        refine lv_iconst (v := nI 1) S.1 S.2.1 dX3_aad_52 (by decide) ?_
        exact ci_ret S hr hlk hQ hw (by decide) () rfl rfl dX3_aad_53
      · rw [nI_eq (by omega) (by omega)] at c27
        exfalso; omega

set_option maxHeartbeats 4000000 in
set_option maxRecDepth 100000 in
theorem kX3_aad_no (l : Launch) (D : va_G) (cA : ClassId) (o : Nat → Nat) (cd : Int32) (p0 op0 n m0 cap0 : Nat) (a b t x : Nat → Nat) (fk fn ft fw fh ff fp fg fr fx : Nat → Int32) (v : Int32) (hp0 : p0 ≤ 4) (hop : op0 ≤ 1) (hn : n ≤ 1000) (hm : m0 ≤ cap0) (hcap : cap0 ≤ 400) (hno : ¬ (p0 = 1 ∧ (∃ k, k < 256 ∧ v = nI k) ∧ n < 1000)) : CI l D cA yX3_aad wsX3_aad { frames := 1, cells := 0, slots := 0, locals := 20 } [.ref (o 0), .int v] (wX3 o cA cd (nI cap0) (nI p0) (nI op0) (nI n) (nI m0) fk fn (fun j => nI (a j)) (fun j => nI (b j)) (fun j => nI (t j)) (fun j => nI (x j)) ft fw fh ff fp fg fr fx) (fun r _ => r = nI 0) (fun _ : Unit => wX3 o cA (nI 0) (nI cap0) (nI p0) (nI op0) (nI n) (nI m0) fk fn (fun j => nI (a j)) (fun j => nI (b j)) (fun j => nI (t j)) (fun j => nI (x j)) ft fw fh ff fp fg fr fx) := by
  refine ci_of (by decide) rfl (Nat.le_of_ble_eq_true rfl) ?_
  intro p e s m below meth c ls A ar Q S hK hw hA hr hlk hl hQ
  have hl : lv_has ls 2 [(0, .ref (o 0)), (1, .int v)] := hl
  have hiX3 : ∀ w ∈ wsX30, w ∈ wsX3_aad := fun _ h => List.mem_cons_of_mem _ (List.mem_append_right _ h)
  refine lv_aload_n S.1 S.2.1 dX3_aad_0 rfl (lv_at hl 0 rfl) ?_
  refine lv_iconst (v := nI 0) S.1 S.2.1 dX3_aad_1 (by decide) ?_
  refine mp S hK hw 0 rfl rfl hiX3 tyX3_ok nmX3 0 (by decide) (List.mem_of_getElem? (i := 1) rfl) rfl rfl rfl (Nat.le_of_ble_eq_true rfl) dX3_aad_2 (fun H locs hw => ?_)
  have hw : Wd D A s.heap H locs (wX3 o cA (nI 0) (nI cap0) (nI p0) (nI op0) (nI n) (nI m0) fk fn (fun j => nI (a j)) (fun j => nI (b j)) (fun j => nI (t j)) (fun j => nI (x j)) ft fw fh ff fp fg fr fx) := hw
  refine lv_aload_n S.1 S.2.1 dX3_aad_5 rfl (lv_at hl 0 rfl) ?_
  refine mg S hK hw 0 rfl rfl hiX3 4 (by decide) (List.mem_of_getElem? (i := 2) rfl) rfl dX3_aad_6 ?_
  refine lv_iconst (v := nI 1) S.1 S.2.1 dX3_aad_9 (by decide) ?_
  refine lv_icmp_ne (tgt := 30) S.1 S.2.1 dX3_aad_10 (by decide) (fun c10 => ?_) (fun c10 => ?_)
  · rw [nI_eq (by omega) (by omega)] at c10
    refine lv_iconst (v := nI 0) S.1 S.2.1 dX3_aad_30 (by decide) ?_
    exact ci_ret S hr hlk hQ hw (by decide) () rfl rfl dX3_aad_31
  · rw [nI_eq (by omega) (by omega)] at c10
    refine lv_iload_n S.1 S.2.1 dX3_aad_13 rfl (lv_at hl 1 rfl) ?_
    refine callSI (rest := []) S hK hw hA (kX3_isByte l D cA o v) gX3_aad_X3_isByte rfl 1 rfl (by decide +kernel) ⟨rfl, rfl⟩ ⟨by decide, by decide⟩ ⟨Nat.zero_le _, Nat.zero_le _⟩ hl.1 (Nat.le_of_ble_eq_true rfl) dX3_aad_14 rfl (fun r H locs hp hw => ?_)
    refine lv_if_eq (tgt := 30) S.1 S.2.1 dX3_aad_17 (by decide) (fun c17 => ?_) (fun c17 => ?_)
    · skip
      refine lv_iconst (v := nI 0) S.1 S.2.1 dX3_aad_30 (by decide) ?_
      exact ci_ret S hr hlk hQ hw (by decide) () rfl rfl dX3_aad_31
    · skip
      refine lv_aload_n S.1 S.2.1 dX3_aad_20 rfl (lv_at hl 0 rfl) ?_
      refine mg S hK hw 0 rfl rfl hiX3 7 (by decide) (List.mem_of_getElem? (i := 3) rfl) rfl dX3_aad_21 ?_
      refine lv_sipush (v := nI 1000) S.1 S.2.1 dX3_aad_24 (by decide) ?_
      refine lv_icmp_ne (tgt := 32) S.1 S.2.1 dX3_aad_27 (by decide) (fun c27 => ?_) (fun c27 => ?_)
      · rw [nI_eq (by omega) (by omega)] at c27
        exact absurd ⟨by omega, by01_1 hp c17, by omega⟩ hno
      · rw [nI_eq (by omega) (by omega)] at c27
        refine lv_iconst (v := nI 0) S.1 S.2.1 dX3_aad_30 (by decide) ?_
        exact ci_ret S hr hlk hQ hw (by decide) () rfl rfl dX3_aad_31

set_option maxHeartbeats 4000000 in
set_option maxRecDepth 100000 in
theorem kX3_data_ok (l : Launch) (D : va_G) (cA : ClassId) (o : Nat → Nat) (cd : Int32) (p0 op0 n m0 cap0 : Nat) (a b t x : Nat → Nat) (fk fn ft fw fh ff fp fg fr fx : Nat → Int32) (v : Nat) (hp0 : p0 ≤ 4) (hop : op0 ≤ 1) (hn : n ≤ 1000) (hm : m0 ≤ cap0) (hcap : cap0 ≤ 400) (hv : v < 256) (hph : p0 = 1 ∨ p0 = 2) (hm2 : m0 < cap0) : CI l D cA yX3_data wsX3_data { frames := 3, cells := 0, slots := 0, locals := 68 } [.ref (o 0), .int (nI v)] (wX3 o cA cd (nI cap0) (nI p0) (nI op0) (nI n) (nI m0) fk fn (fun j => nI (a j)) (fun j => nI (b j)) (fun j => nI (t j)) (fun j => nI (x j)) ft fw fh ff fp fg fr fx) (fun r _ => r = if op0 = 0 then nI (v ^^^ bbn (MB (stF fk fn (nI (1 + m0 / 64))) fw) (m0 % 64)) else nI 0) (fun _ : Unit => wX3 o cA (nI 0) (nI cap0) (nI 2) (nI op0) (nI n) (nI (m0 + 1)) fk fn (fun j => nI (a j)) (fun j => nI (updN b m0 v j)) (fun j => nI (updN t m0 (v ^^^ bbn (MB (stF fk fn (nI (1 + m0 / 64))) fw) (m0 % 64)) j)) (fun j => nI (x j)) (stF fk fn (nI (1 + m0 / 64))) (MB (stF fk fn (nI (1 + m0 / 64))) fw) fh ff fp fg fr fx) := by
  refine ci_of (by decide) rfl (Nat.le_of_ble_eq_true rfl) ?_
  intro p e s m below meth c ls A ar Q S hK hw hA hr hlk hl hQ
  have hl : lv_has ls 2 [(0, .ref (o 0)), (1, .int (nI v))] := hl
  have hiX3 : ∀ w ∈ wsX30, w ∈ wsX3_data := fun _ h => List.mem_cons_of_mem _ (List.mem_append_right _ h)
  refine lv_aload_n S.1 S.2.1 dX3_data_0 rfl (lv_at hl 0 rfl) ?_
  refine lv_iconst (v := nI 0) S.1 S.2.1 dX3_data_1 (by decide) ?_
  refine mp S hK hw 0 rfl rfl hiX3 tyX3_ok nmX3 0 (by decide) (List.mem_of_getElem? (i := 1) rfl) rfl rfl rfl (Nat.le_of_ble_eq_true rfl) dX3_data_2 (fun H locs hw => ?_)
  have hw : Wd D A s.heap H locs (wX3 o cA (nI 0) (nI cap0) (nI p0) (nI op0) (nI n) (nI m0) fk fn (fun j => nI (a j)) (fun j => nI (b j)) (fun j => nI (t j)) (fun j => nI (x j)) ft fw fh ff fp fg fr fx) := hw
  refine lv_aload_n S.1 S.2.1 dX3_data_5 rfl (lv_at hl 0 rfl) ?_
  refine mg S hK hw 0 rfl rfl hiX3 4 (by decide) (List.mem_of_getElem? (i := 2) rfl) rfl dX3_data_6 ?_
  refine lv_iconst (v := nI 1) S.1 S.2.1 dX3_data_9 (by decide) ?_
  refine lv_icmp_eq (tgt := 21) S.1 S.2.1 dX3_data_10 (by decide) (fun c10 => ?_) (fun c10 => ?_)
  · rw [nI_eq (by omega) (by omega)] at c10
    refine lv_iload_n S.1 S.2.1 dX3_data_21 rfl (lv_at hl 1 rfl) ?_
    refine callSI (rest := []) S hK hw hA (kX3_isByte l D cA o (nI v)) gX3_data_X3_isByte rfl 1 rfl (by decide +kernel) ⟨rfl, rfl⟩ ⟨by decide, by decide⟩ ⟨Nat.zero_le _, Nat.zero_le _⟩ hl.1 (Nat.le_of_ble_eq_true rfl) dX3_data_22 rfl (fun r H locs hp hw => ?_)
    refine lv_if_ne (tgt := 30) S.1 S.2.1 dX3_data_25 (by decide) (fun c25 => ?_) (fun c25 => ?_)
    · skip
      refine lv_aload_n S.1 S.2.1 dX3_data_30 rfl (lv_at hl 0 rfl) ?_
      refine mg S hK hw 0 rfl rfl hiX3 10 (by decide) (List.mem_of_getElem? (i := 3) rfl) rfl dX3_data_31 ?_
      refine lv_aload_n S.1 S.2.1 dX3_data_34 rfl (lv_at hl 0 rfl) ?_
      refine mg S hK hw 0 rfl rfl hiX3 1 (by decide) (List.mem_of_getElem? (i := 4) rfl) rfl dX3_data_35 ?_
      refine lv_icmp_ne (tgt := 44) S.1 S.2.1 dX3_data_38 (by decide) (fun c38 => ?_) (fun c38 => ?_)
      · rw [nI_eq (by omega) (by omega)] at c38
        refine lv_aload_n S.1 S.2.1 dX3_data_44 rfl (lv_at hl 0 rfl) ?_
        refine lv_iconst (v := nI 1) S.1 S.2.1 dX3_data_45 (by decide) ?_
        refine lv_aload_n S.1 S.2.1 dX3_data_46 rfl (lv_at hl 0 rfl) ?_
        refine mg S hK hw 0 rfl rfl hiX3 10 (by decide) (List.mem_of_getElem? (i := 3) rfl) rfl dX3_data_47 ?_
        refine lv_bipush (v := nI 64) S.1 S.2.1 dX3_data_50 (by decide) ?_
        refine lv_idiv S.1 S.2.1 dX3_data_52 (by decide) ?_
        refine te (pk_div (by omega) (by decide) (by decide)) ?_
        refine lv_iadd S.1 S.2.1 dX3_data_53 ?_
        refine te (nI_add _ _) ?_
        refine callVV (rest := []) S hK hw hA (kX3_block l D cA o (nI 0) (nI cap0) (nI p0) (nI op0) (nI n) (nI m0) fk fn (fun j => nI (a j)) (fun j => nI (b j)) (fun j => nI (t j)) (fun j => nI (x j)) ft fw fh ff fp fg fr fx (nI (1 + (m0 / 64)))) gX3_data_X3_block rfl 1 rfl (by decide +kernel) ⟨rfl, rfl⟩ ⟨by decide, by decide⟩ ⟨Nat.zero_le _, Nat.zero_le _⟩ [0, 1, 2, 3, 4, 5, 6, 7, 8, 9, 10, 11, 12, 13, 14] rfl (by decide) (fun _ => rfl) 0 rfl rfl rfl hl.1 (Nat.le_of_ble_eq_true rfl) dX3_data_54 rfl (fun u54 H locs hp hw => ?_)
        have hw : Wd D A s.heap H locs (wX3 o cA (nI 0) (nI cap0) (nI p0) (nI op0) (nI n) (nI m0) fk fn (fun j => nI (a j)) (fun j => nI (b j)) (fun j => nI (t j)) (fun j => nI (x j)) (stF fk fn (nI (1 + (m0 / 64)))) (MB (stF fk fn (nI (1 + (m0 / 64)))) fw) fh ff fp fg fr fx) := hw
        refine lv_aload_n S.1 S.2.1 dX3_data_57 rfl (lv_at hl 0 rfl) ?_
        refine lv_iconst (v := nI 2) S.1 S.2.1 dX3_data_58 (by decide) ?_
        refine mp S hK hw 0 rfl rfl hiX3 tyX3_ok nmX3 4 (by decide) (List.mem_of_getElem? (i := 2) rfl) rfl rfl rfl (Nat.le_of_ble_eq_true rfl) dX3_data_59 (fun H locs hw => ?_)
        have hw : Wd D A s.heap H locs (wX3 o cA (nI 0) (nI cap0) (nI 2) (nI op0) (nI n) (nI m0) fk fn (fun j => nI (a j)) (fun j => nI (b j)) (fun j => nI (t j)) (fun j => nI (x j)) (stF fk fn (nI (1 + (m0 / 64)))) (MB (stF fk fn (nI (1 + (m0 / 64)))) fw) fh ff fp fg fr fx) := hw
        refine lv_aload_n S.1 S.2.1 dX3_data_62 rfl (lv_at hl 0 rfl) ?_
        refine mg S hK hw 0 rfl rfl hiX3 8 (by decide) (List.mem_of_getElem? (i := 5) rfl) rfl dX3_data_63 ?_
        refine lv_aload_n S.1 S.2.1 dX3_data_66 rfl (lv_at hl 0 rfl) ?_
        refine mg S hK hw 0 rfl rfl hiX3 10 (by decide) (List.mem_of_getElem? (i := 3) rfl) rfl dX3_data_67 ?_
        refine lv_iload_n S.1 S.2.1 dX3_data_70 rfl (lv_at hl 1 rfl) ?_
        refine ap S hK hw 4 rfl m0 rfl (by omega) (by decide) dX3_data_71 (fun H locs hw => ?_)
        have hw : Wd D A s.heap H locs (wX3 o cA (nI 0) (nI cap0) (nI 2) (nI op0) (nI n) (nI m0) fk fn (fun j => nI (a j)) (upd (fun j => nI (b j)) m0 (nI v)) (fun j => nI (t j)) (fun j => nI (x j)) (stF fk fn (nI (1 + (m0 / 64)))) (MB (stF fk fn (nI (1 + (m0 / 64)))) fw) fh ff fp fg fr fx) := hw
        have hw := hw.cong 4 (g := fun j => nI (updN b m0 v j)) rfl (fun j _ => upd_nI _ _ j)
        have hw : Wd D A s.heap H locs (wX3 o cA (nI 0) (nI cap0) (nI 2) (nI op0) (nI n) (nI m0) fk fn (fun j => nI (a j)) (fun j => nI (updN b m0 v j)) (fun j => nI (t j)) (fun j => nI (x j)) (stF fk fn (nI (1 + (m0 / 64)))) (MB (stF fk fn (nI (1 + (m0 / 64)))) fw) fh ff fp fg fr fx) := hw
        refine lv_aload_n S.1 S.2.1 dX3_data_72 rfl (lv_at hl 0 rfl) ?_
        refine mg S hK hw 0 rfl rfl hiX3 9 (by decide) (List.mem_of_getElem? (i := 6) rfl) rfl dX3_data_73 ?_
        refine lv_aload_n S.1 S.2.1 dX3_data_76 rfl (lv_at hl 0 rfl) ?_
        refine mg S hK hw 0 rfl rfl hiX3 10 (by decide) (List.mem_of_getElem? (i := 3) rfl) rfl dX3_data_77 ?_
        refine lv_iload_n S.1 S.2.1 dX3_data_80 rfl (lv_at hl 1 rfl) ?_
        refine lv_aload_n S.1 S.2.1 dX3_data_81 rfl (lv_at hl 0 rfl) ?_
        refine lv_aload_n S.1 S.2.1 dX3_data_82 rfl (lv_at hl 0 rfl) ?_
        refine mg S hK hw 0 rfl rfl hiX3 10 (by decide) (List.mem_of_getElem? (i := 3) rfl) rfl dX3_data_83 ?_
        refine lv_bipush (v := nI 64) S.1 S.2.1 dX3_data_86 (by decide) ?_
        refine lv_irem S.1 S.2.1 dX3_data_88 (by decide) ?_
        refine te (pk_rem (by omega) (by decide) (by decide)) ?_
        refine callVI (rest := [.int (nI v), .int (nI m0), .ref (o 5)]) S hK hw hA (kX3_byteOf l D cA o (nI 0) (nI cap0) (nI 2) (nI op0) (nI n) (nI m0) fk fn (fun j => nI (a j)) (fun j => nI (updN b m0 v j)) (fun j => nI (t j)) (fun j => nI (x j)) (stF fk fn (nI (1 + (m0 / 64)))) (MB (stF fk fn (nI (1 + (m0 / 64)))) fw) fh ff fp fg fr fx (m0 % 64) (by omega)) gX3_data_X3_byteOf rfl 1 rfl (by decide +kernel) ⟨rfl, rfl⟩ ⟨by decide, by decide⟩ ⟨Nat.zero_le _, Nat.zero_le _⟩ [0, 1, 2, 3, 4, 5, 6, 7, 8, 9, 10, 11, 12, 13, 14] rfl (by decide) (fun _ => rfl) 0 rfl rfl rfl hl.1 (Nat.le_of_ble_eq_true rfl) dX3_data_89 rfl (fun r u89 H locs hp hw => ?_)
        have hw : Wd D A s.heap H locs (wX3 o cA (nI 0) (nI cap0) (nI 2) (nI op0) (nI n) (nI m0) fk fn (fun j => nI (a j)) (fun j => nI (updN b m0 v j)) (fun j => nI (t j)) (fun j => nI (x j)) (stF fk fn (nI (1 + (m0 / 64)))) (MB (stF fk fn (nI (1 + (m0 / 64)))) fw) fh ff fp fg fr fx) := hw
        subst hp
        refine lv_ixor S.1 S.2.1 dX3_data_92 ?_
        refine te (y := nI (v ^^^ bbn (MB (stF fk fn (nI (1 + m0 / 64))) fw) (m0 % 64))) (nI_xor _ _) ?_
        refine ap S hK hw 5 rfl m0 rfl (by omega) (by decide) dX3_data_93 (fun H locs hw => ?_)
        have hw : Wd D A s.heap H locs (wX3 o cA (nI 0) (nI cap0) (nI 2) (nI op0) (nI n) (nI m0) fk fn (fun j => nI (a j)) (fun j => nI (updN b m0 v j)) (upd (fun j => nI (t j)) m0 (nI (v ^^^ bbn (MB (stF fk fn (nI (1 + m0 / 64))) fw) (m0 % 64)))) (fun j => nI (x j)) (stF fk fn (nI (1 + (m0 / 64)))) (MB (stF fk fn (nI (1 + (m0 / 64)))) fw) fh ff fp fg fr fx) := hw
        have hw := hw.cong 5 (g := fun j => nI (updN t m0 (v ^^^ bbn (MB (stF fk fn (nI (1 + m0 / 64))) fw) (m0 % 64)) j)) rfl (fun j _ => upd_nI _ _ j)
        have hw : Wd D A s.heap H locs (wX3 o cA (nI 0) (nI cap0) (nI 2) (nI op0) (nI n) (nI m0) fk fn (fun j => nI (a j)) (fun j => nI (updN b m0 v j)) (fun j => nI (updN t m0 (v ^^^ bbn (MB (stF fk fn (nI (1 + m0 / 64))) fw) (m0 % 64)) j)) (fun j => nI (x j)) (stF fk fn (nI (1 + (m0 / 64)))) (MB (stF fk fn (nI (1 + (m0 / 64)))) fw) fh ff fp fg fr fx) := hw
        refine lv_aload_n S.1 S.2.1 dX3_data_94 rfl (lv_at hl 0 rfl) ?_
        refine lv_dup S.1 S.2.1 dX3_data_95 rfl ?_
        refine mg S hK hw 0 rfl rfl hiX3 10 (by decide) (List.mem_of_getElem? (i := 3) rfl) rfl dX3_data_96 ?_
        refine lv_iconst (v := nI 1) S.1 S.2.1 dX3_data_99 (by decide) ?_
        refine lv_iadd S.1 S.2.1 dX3_data_100 ?_
        refine te (nI_add _ _) ?_
        refine mp S hK hw 0 rfl rfl hiX3 tyX3_ok nmX3 10 (by decide) (List.mem_of_getElem? (i := 3) rfl) rfl rfl rfl (Nat.le_of_ble_eq_true rfl) dX3_data_101 (fun H locs hw => ?_)
        have hw : Wd D A s.heap H locs (wX3 o cA (nI 0) (nI cap0) (nI 2) (nI op0) (nI n) (nI (m0 + 1)) fk fn (fun j => nI (a j)) (fun j => nI (updN b m0 v j)) (fun j => nI (updN t m0 (v ^^^ bbn (MB (stF fk fn (nI (1 + m0 / 64))) fw) (m0 % 64)) j)) (fun j => nI (x j)) (stF fk fn (nI (1 + (m0 / 64)))) (MB (stF fk fn (nI (1 + (m0 / 64)))) fw) fh ff fp fg fr fx) := hw
        refine lv_aload_n S.1 S.2.1 dX3_data_104 rfl (lv_at hl 0 rfl) ?_
        refine mg S hK hw 0 rfl rfl hiX3 5 (by decide) (List.mem_of_getElem? (i := 7) rfl) rfl dX3_data_105 ?_
        refine lv_if_eq (tgt := 115) S.1 S.2.1 dX3_data_108 (by decide) (fun c108 => ?_) (fun c108 => ?_)
        · rw [← nI_0, nI_eq (by omega) (by omega)] at c108
          refine lv_aload_n S.1 S.2.1 dX3_data_115 rfl (lv_at hl 0 rfl) ?_
          refine mg S hK hw 0 rfl rfl hiX3 9 (by decide) (List.mem_of_getElem? (i := 6) rfl) rfl dX3_data_116 ?_
          refine lv_aload_n S.1 S.2.1 dX3_data_119 rfl (lv_at hl 0 rfl) ?_
          refine mg S hK hw 0 rfl rfl hiX3 10 (by decide) (List.mem_of_getElem? (i := 3) rfl) rfl dX3_data_120 ?_
          refine lv_iconst (v := nI 1) S.1 S.2.1 dX3_data_123 (by decide) ?_
          refine lv_isub S.1 S.2.1 dX3_data_124 ?_
          refine te (pk_sub (by omega)) ?_
          refine ag S hK hw 5 rfl ((m0 + 1) - 1) rfl (by omega) (by decide) dX3_data_125 ?_
          refine te (y := nI (v ^^^ bbn (MB (stF fk fn (nI (1 + m0 / 64))) fw) (m0 % 64))) (by rw [show m0 + 1 - 1 = m0 by omega]; unfold updN; rw [if_pos rfl]) ?_
          exact ci_ret S hr hlk hQ hw rfl () rfl (by first | (rw [if_pos c108]; done) | (rw [if_neg c108]; done)) dX3_data_126
        · rw [← nI_0, nI_eq (by omega) (by omega)] at c108
          refine lv_iconst (v := nI 0) S.1 S.2.1 dX3_data_111 (by decide) ?_
          refine lv_goto (tgt := 126) S.1 S.2.1 dX3_data_112 (by decide) ?_
          exact ci_ret S hr hlk hQ hw rfl () rfl (by first | (rw [if_pos c108]; done) | (rw [if_neg c108]; done)) dX3_data_126
      · rw [nI_eq (by omega) (by omega)] at c38
        exfalso; omega
    · skip
      exact absurd c25 (by01_ok hp hv)
  · rw [nI_eq (by omega) (by omega)] at c10
    refine lv_aload_n S.1 S.2.1 dX3_data_13 rfl (lv_at hl 0 rfl) ?_
    refine mg S hK hw 0 rfl rfl hiX3 4 (by decide) (List.mem_of_getElem? (i := 2) rfl) rfl dX3_data_14 ?_
    refine lv_iconst (v := nI 2) S.1 S.2.1 dX3_data_17 (by decide) ?_
    refine lv_icmp_ne (tgt := 28) S.1 S.2.1 dX3_data_18 (by decide) (fun c18 => ?_) (fun c18 => ?_)
    · rw [nI_eq (by omega) (by omega)] at c18
      exfalso; omega
    · rw [nI_eq (by omega) (by omega)] at c18
      refine lv_iload_n S.1 S.2.1 dX3_data_21 rfl (lv_at hl 1 rfl) ?_
      refine callSI (rest := []) S hK hw hA (kX3_isByte l D cA o (nI v)) gX3_data_X3_isByte rfl 1 rfl (by decide +kernel) ⟨rfl, rfl⟩ ⟨by decide, by decide⟩ ⟨Nat.zero_le _, Nat.zero_le _⟩ hl.1 (Nat.le_of_ble_eq_true rfl) dX3_data_22 rfl (fun r H locs hp hw => ?_)
      refine lv_if_ne (tgt := 30) S.1 S.2.1 dX3_data_25 (by decide) (fun c25 => ?_) (fun c25 => ?_)
      · skip
        refine lv_aload_n S.1 S.2.1 dX3_data_30 rfl (lv_at hl 0 rfl) ?_
        refine mg S hK hw 0 rfl rfl hiX3 10 (by decide) (List.mem_of_getElem? (i := 3) rfl) rfl dX3_data_31 ?_
        refine lv_aload_n S.1 S.2.1 dX3_data_34 rfl (lv_at hl 0 rfl) ?_
        refine mg S hK hw 0 rfl rfl hiX3 1 (by decide) (List.mem_of_getElem? (i := 4) rfl) rfl dX3_data_35 ?_
        refine lv_icmp_ne (tgt := 44) S.1 S.2.1 dX3_data_38 (by decide) (fun c38 => ?_) (fun c38 => ?_)
        · rw [nI_eq (by omega) (by omega)] at c38
          refine lv_aload_n S.1 S.2.1 dX3_data_44 rfl (lv_at hl 0 rfl) ?_
          refine lv_iconst (v := nI 1) S.1 S.2.1 dX3_data_45 (by decide) ?_
          refine lv_aload_n S.1 S.2.1 dX3_data_46 rfl (lv_at hl 0 rfl) ?_
          refine mg S hK hw 0 rfl rfl hiX3 10 (by decide) (List.mem_of_getElem? (i := 3) rfl) rfl dX3_data_47 ?_
          refine lv_bipush (v := nI 64) S.1 S.2.1 dX3_data_50 (by decide) ?_
          refine lv_idiv S.1 S.2.1 dX3_data_52 (by decide) ?_
          refine te (pk_div (by omega) (by decide) (by decide)) ?_
          refine lv_iadd S.1 S.2.1 dX3_data_53 ?_
          refine te (nI_add _ _) ?_
          refine callVV (rest := []) S hK hw hA (kX3_block l D cA o (nI 0) (nI cap0) (nI p0) (nI op0) (nI n) (nI m0) fk fn (fun j => nI (a j)) (fun j => nI (b j)) (fun j => nI (t j)) (fun j => nI (x j)) ft fw fh ff fp fg fr fx (nI (1 + (m0 / 64)))) gX3_data_X3_block rfl 1 rfl (by decide +kernel) ⟨rfl, rfl⟩ ⟨by decide, by decide⟩ ⟨Nat.zero_le _, Nat.zero_le _⟩ [0, 1, 2, 3, 4, 5, 6, 7, 8, 9, 10, 11, 12, 13, 14] rfl (by decide) (fun _ => rfl) 0 rfl rfl rfl hl.1 (Nat.le_of_ble_eq_true rfl) dX3_data_54 rfl (fun u54 H locs hp hw => ?_)
          have hw : Wd D A s.heap H locs (wX3 o cA (nI 0) (nI cap0) (nI p0) (nI op0) (nI n) (nI m0) fk fn (fun j => nI (a j)) (fun j => nI (b j)) (fun j => nI (t j)) (fun j => nI (x j)) (stF fk fn (nI (1 + (m0 / 64)))) (MB (stF fk fn (nI (1 + (m0 / 64)))) fw) fh ff fp fg fr fx) := hw
          refine lv_aload_n S.1 S.2.1 dX3_data_57 rfl (lv_at hl 0 rfl) ?_
          refine lv_iconst (v := nI 2) S.1 S.2.1 dX3_data_58 (by decide) ?_
          refine mp S hK hw 0 rfl rfl hiX3 tyX3_ok nmX3 4 (by decide) (List.mem_of_getElem? (i := 2) rfl) rfl rfl rfl (Nat.le_of_ble_eq_true rfl) dX3_data_59 (fun H locs hw => ?_)
          have hw : Wd D A s.heap H locs (wX3 o cA (nI 0) (nI cap0) (nI 2) (nI op0) (nI n) (nI m0) fk fn (fun j => nI (a j)) (fun j => nI (b j)) (fun j => nI (t j)) (fun j => nI (x j)) (stF fk fn (nI (1 + (m0 / 64)))) (MB (stF fk fn (nI (1 + (m0 / 64)))) fw) fh ff fp fg fr fx) := hw
          refine lv_aload_n S.1 S.2.1 dX3_data_62 rfl (lv_at hl 0 rfl) ?_
          refine mg S hK hw 0 rfl rfl hiX3 8 (by decide) (List.mem_of_getElem? (i := 5) rfl) rfl dX3_data_63 ?_
          refine lv_aload_n S.1 S.2.1 dX3_data_66 rfl (lv_at hl 0 rfl) ?_
          refine mg S hK hw 0 rfl rfl hiX3 10 (by decide) (List.mem_of_getElem? (i := 3) rfl) rfl dX3_data_67 ?_
          refine lv_iload_n S.1 S.2.1 dX3_data_70 rfl (lv_at hl 1 rfl) ?_
          refine ap S hK hw 4 rfl m0 rfl (by omega) (by decide) dX3_data_71 (fun H locs hw => ?_)
          have hw : Wd D A s.heap H locs (wX3 o cA (nI 0) (nI cap0) (nI 2) (nI op0) (nI n) (nI m0) fk fn (fun j => nI (a j)) (upd (fun j => nI (b j)) m0 (nI v)) (fun j => nI (t j)) (fun j => nI (x j)) (stF fk fn (nI (1 + (m0 / 64)))) (MB (stF fk fn (nI (1 + (m0 / 64)))) fw) fh ff fp fg fr fx) := hw
          have hw := hw.cong 4 (g := fun j => nI (updN b m0 v j)) rfl (fun j _ => upd_nI _ _ j)
          have hw : Wd D A s.heap H locs (wX3 o cA (nI 0) (nI cap0) (nI 2) (nI op0) (nI n) (nI m0) fk fn (fun j => nI (a j)) (fun j => nI (updN b m0 v j)) (fun j => nI (t j)) (fun j => nI (x j)) (stF fk fn (nI (1 + (m0 / 64)))) (MB (stF fk fn (nI (1 + (m0 / 64)))) fw) fh ff fp fg fr fx) := hw
          refine lv_aload_n S.1 S.2.1 dX3_data_72 rfl (lv_at hl 0 rfl) ?_
          refine mg S hK hw 0 rfl rfl hiX3 9 (by decide) (List.mem_of_getElem? (i := 6) rfl) rfl dX3_data_73 ?_
          refine lv_aload_n S.1 S.2.1 dX3_data_76 rfl (lv_at hl 0 rfl) ?_
          refine mg S hK hw 0 rfl rfl hiX3 10 (by decide) (List.mem_of_getElem? (i := 3) rfl) rfl dX3_data_77 ?_
          refine lv_iload_n S.1 S.2.1 dX3_data_80 rfl (lv_at hl 1 rfl) ?_
          refine lv_aload_n S.1 S.2.1 dX3_data_81 rfl (lv_at hl 0 rfl) ?_
          refine lv_aload_n S.1 S.2.1 dX3_data_82 rfl (lv_at hl 0 rfl) ?_
          refine mg S hK hw 0 rfl rfl hiX3 10 (by decide) (List.mem_of_getElem? (i := 3) rfl) rfl dX3_data_83 ?_
          refine lv_bipush (v := nI 64) S.1 S.2.1 dX3_data_86 (by decide) ?_
          refine lv_irem S.1 S.2.1 dX3_data_88 (by decide) ?_
          refine te (pk_rem (by omega) (by decide) (by decide)) ?_
          refine callVI (rest := [.int (nI v), .int (nI m0), .ref (o 5)]) S hK hw hA (kX3_byteOf l D cA o (nI 0) (nI cap0) (nI 2) (nI op0) (nI n) (nI m0) fk fn (fun j => nI (a j)) (fun j => nI (updN b m0 v j)) (fun j => nI (t j)) (fun j => nI (x j)) (stF fk fn (nI (1 + (m0 / 64)))) (MB (stF fk fn (nI (1 + (m0 / 64)))) fw) fh ff fp fg fr fx (m0 % 64) (by omega)) gX3_data_X3_byteOf rfl 1 rfl (by decide +kernel) ⟨rfl, rfl⟩ ⟨by decide, by decide⟩ ⟨Nat.zero_le _, Nat.zero_le _⟩ [0, 1, 2, 3, 4, 5, 6, 7, 8, 9, 10, 11, 12, 13, 14] rfl (by decide) (fun _ => rfl) 0 rfl rfl rfl hl.1 (Nat.le_of_ble_eq_true rfl) dX3_data_89 rfl (fun r u89 H locs hp hw => ?_)
          have hw : Wd D A s.heap H locs (wX3 o cA (nI 0) (nI cap0) (nI 2) (nI op0) (nI n) (nI m0) fk fn (fun j => nI (a j)) (fun j => nI (updN b m0 v j)) (fun j => nI (t j)) (fun j => nI (x j)) (stF fk fn (nI (1 + (m0 / 64)))) (MB (stF fk fn (nI (1 + (m0 / 64)))) fw) fh ff fp fg fr fx) := hw
          subst hp
          refine lv_ixor S.1 S.2.1 dX3_data_92 ?_
          refine te (y := nI (v ^^^ bbn (MB (stF fk fn (nI (1 + m0 / 64))) fw) (m0 % 64))) (nI_xor _ _) ?_
          refine ap S hK hw 5 rfl m0 rfl (by omega) (by decide) dX3_data_93 (fun H locs hw => ?_)
          have hw : Wd D A s.heap H locs (wX3 o cA (nI 0) (nI cap0) (nI 2) (nI op0) (nI n) (nI m0) fk fn (fun j => nI (a j)) (fun j => nI (updN b m0 v j)) (upd (fun j => nI (t j)) m0 (nI (v ^^^ bbn (MB (stF fk fn (nI (1 + m0 / 64))) fw) (m0 % 64)))) (fun j => nI (x j)) (stF fk fn (nI (1 + (m0 / 64)))) (MB (stF fk fn (nI (1 + (m0 / 64)))) fw) fh ff fp fg fr fx) := hw
          have hw := hw.cong 5 (g := fun j => nI (updN t m0 (v ^^^ bbn (MB (stF fk fn (nI (1 + m0 / 64))) fw) (m0 % 64)) j)) rfl (fun j _ => upd_nI _ _ j)
          have hw : Wd D A s.heap H locs (wX3 o cA (nI 0) (nI cap0) (nI 2) (nI op0) (nI n) (nI m0) fk fn (fun j => nI (a j)) (fun j => nI (updN b m0 v j)) (fun j => nI (updN t m0 (v ^^^ bbn (MB (stF fk fn (nI (1 + m0 / 64))) fw) (m0 % 64)) j)) (fun j => nI (x j)) (stF fk fn (nI (1 + (m0 / 64)))) (MB (stF fk fn (nI (1 + (m0 / 64)))) fw) fh ff fp fg fr fx) := hw
          refine lv_aload_n S.1 S.2.1 dX3_data_94 rfl (lv_at hl 0 rfl) ?_
          refine lv_dup S.1 S.2.1 dX3_data_95 rfl ?_
          refine mg S hK hw 0 rfl rfl hiX3 10 (by decide) (List.mem_of_getElem? (i := 3) rfl) rfl dX3_data_96 ?_
          refine lv_iconst (v := nI 1) S.1 S.2.1 dX3_data_99 (by decide) ?_
          refine lv_iadd S.1 S.2.1 dX3_data_100 ?_
          refine te (nI_add _ _) ?_
          refine mp S hK hw 0 rfl rfl hiX3 tyX3_ok nmX3 10 (by decide) (List.mem_of_getElem? (i := 3) rfl) rfl rfl rfl (Nat.le_of_ble_eq_true rfl) dX3_data_101 (fun H locs hw => ?_)
          have hw : Wd D A s.heap H locs (wX3 o cA (nI 0) (nI cap0) (nI 2) (nI op0) (nI n) (nI (m0 + 1)) fk fn (fun j => nI (a j)) (fun j => nI (updN b m0 v j)) (fun j => nI (updN t m0 (v ^^^ bbn (MB (stF fk fn (nI (1 + m0 / 64))) fw) (m0 % 64)) j)) (fun j => nI (x j)) (stF fk fn (nI (1 + (m0 / 64)))) (MB (stF fk fn (nI (1 + (m0 / 64)))) fw) fh ff fp fg fr fx) := hw
          refine lv_aload_n S.1 S.2.1 dX3_data_104 rfl (lv_at hl 0 rfl) ?_
          refine mg S hK hw 0 rfl rfl hiX3 5 (by decide) (List.mem_of_getElem? (i := 7) rfl) rfl dX3_data_105 ?_
          refine lv_if_eq (tgt := 115) S.1 S.2.1 dX3_data_108 (by decide) (fun c108 => ?_) (fun c108 => ?_)
          · rw [← nI_0, nI_eq (by omega) (by omega)] at c108
            refine lv_aload_n S.1 S.2.1 dX3_data_115 rfl (lv_at hl 0 rfl) ?_
            refine mg S hK hw 0 rfl rfl hiX3 9 (by decide) (List.mem_of_getElem? (i := 6) rfl) rfl dX3_data_116 ?_
            refine lv_aload_n S.1 S.2.1 dX3_data_119 rfl (lv_at hl 0 rfl) ?_
            refine mg S hK hw 0 rfl rfl hiX3 10 (by decide) (List.mem_of_getElem? (i := 3) rfl) rfl dX3_data_120 ?_
            refine lv_iconst (v := nI 1) S.1 S.2.1 dX3_data_123 (by decide) ?_
            refine lv_isub S.1 S.2.1 dX3_data_124 ?_
            refine te (pk_sub (by omega)) ?_
            refine ag S hK hw 5 rfl ((m0 + 1) - 1) rfl (by omega) (by decide) dX3_data_125 ?_
            refine te (y := nI (v ^^^ bbn (MB (stF fk fn (nI (1 + m0 / 64))) fw) (m0 % 64))) (by rw [show m0 + 1 - 1 = m0 by omega]; unfold updN; rw [if_pos rfl]) ?_
            exact ci_ret S hr hlk hQ hw rfl () rfl (by first | (rw [if_pos c108]; done) | (rw [if_neg c108]; done)) dX3_data_126
          · rw [← nI_0, nI_eq (by omega) (by omega)] at c108
            refine lv_iconst (v := nI 0) S.1 S.2.1 dX3_data_111 (by decide) ?_
            refine lv_goto (tgt := 126) S.1 S.2.1 dX3_data_112 (by decide) ?_
            exact ci_ret S hr hlk hQ hw rfl () rfl (by first | (rw [if_pos c108]; done) | (rw [if_neg c108]; done)) dX3_data_126
        · rw [nI_eq (by omega) (by omega)] at c38
          exfalso; omega
      · skip
        exact absurd c25 (by01_ok hp hv)

set_option maxHeartbeats 4000000 in
set_option maxRecDepth 100000 in
theorem kX3_data_no (l : Launch) (D : va_G) (cA : ClassId) (o : Nat → Nat) (cd : Int32) (p0 op0 n m0 cap0 : Nat) (a b t x : Nat → Nat) (fk fn ft fw fh ff fp fg fr fx : Nat → Int32) (v : Int32) (hp0 : p0 ≤ 4) (hop : op0 ≤ 1) (hn : n ≤ 1000) (hm : m0 ≤ cap0) (hcap : cap0 ≤ 400) (hno : ¬ ((p0 = 1 ∨ p0 = 2) ∧ ∃ k, k < 256 ∧ v = nI k)) : CI l D cA yX3_data wsX3_data { frames := 3, cells := 0, slots := 0, locals := 68 } [.ref (o 0), .int v] (wX3 o cA cd (nI cap0) (nI p0) (nI op0) (nI n) (nI m0) fk fn (fun j => nI (a j)) (fun j => nI (b j)) (fun j => nI (t j)) (fun j => nI (x j)) ft fw fh ff fp fg fr fx) (fun r _ => r = -1) (fun _ : Unit => wX3 o cA (nI 0) (nI cap0) (nI p0) (nI op0) (nI n) (nI m0) fk fn (fun j => nI (a j)) (fun j => nI (b j)) (fun j => nI (t j)) (fun j => nI (x j)) ft fw fh ff fp fg fr fx) := by
  refine ci_of (by decide) rfl (Nat.le_of_ble_eq_true rfl) ?_
  intro p e s m below meth c ls A ar Q S hK hw hA hr hlk hl hQ
  have hl : lv_has ls 2 [(0, .ref (o 0)), (1, .int v)] := hl
  have hiX3 : ∀ w ∈ wsX30, w ∈ wsX3_data := fun _ h => List.mem_cons_of_mem _ (List.mem_append_right _ h)
  refine lv_aload_n S.1 S.2.1 dX3_data_0 rfl (lv_at hl 0 rfl) ?_
  refine lv_iconst (v := nI 0) S.1 S.2.1 dX3_data_1 (by decide) ?_
  refine mp S hK hw 0 rfl rfl hiX3 tyX3_ok nmX3 0 (by decide) (List.mem_of_getElem? (i := 1) rfl) rfl rfl rfl (Nat.le_of_ble_eq_true rfl) dX3_data_2 (fun H locs hw => ?_)
  have hw : Wd D A s.heap H locs (wX3 o cA (nI 0) (nI cap0) (nI p0) (nI op0) (nI n) (nI m0) fk fn (fun j => nI (a j)) (fun j => nI (b j)) (fun j => nI (t j)) (fun j => nI (x j)) ft fw fh ff fp fg fr fx) := hw
  refine lv_aload_n S.1 S.2.1 dX3_data_5 rfl (lv_at hl 0 rfl) ?_
  refine mg S hK hw 0 rfl rfl hiX3 4 (by decide) (List.mem_of_getElem? (i := 2) rfl) rfl dX3_data_6 ?_
  refine lv_iconst (v := nI 1) S.1 S.2.1 dX3_data_9 (by decide) ?_
  refine lv_icmp_eq (tgt := 21) S.1 S.2.1 dX3_data_10 (by decide) (fun c10 => ?_) (fun c10 => ?_)
  · rw [nI_eq (by omega) (by omega)] at c10
    refine lv_iload_n S.1 S.2.1 dX3_data_21 rfl (lv_at hl 1 rfl) ?_
    refine callSI (rest := []) S hK hw hA (kX3_isByte l D cA o v) gX3_data_X3_isByte rfl 1 rfl (by decide +kernel) ⟨rfl, rfl⟩ ⟨by decide, by decide⟩ ⟨Nat.zero_le _, Nat.zero_le _⟩ hl.1 (Nat.le_of_ble_eq_true rfl) dX3_data_22 rfl (fun r H locs hp hw => ?_)
    refine lv_if_ne (tgt := 30) S.1 S.2.1 dX3_data_25 (by decide) (fun c25 => ?_) (fun c25 => ?_)
    · skip
      exact absurd ⟨by omega, by01_1 hp c25⟩ hno
    · skip
      refine lv_iconst (v := -1) S.1 S.2.1 dX3_data_28 (by decide) ?_
      exact ci_ret S hr hlk hQ hw rfl () rfl rfl dX3_data_29
  · rw [nI_eq (by omega) (by omega)] at c10
    refine lv_aload_n S.1 S.2.1 dX3_data_13 rfl (lv_at hl 0 rfl) ?_
    refine mg S hK hw 0 rfl rfl hiX3 4 (by decide) (List.mem_of_getElem? (i := 2) rfl) rfl dX3_data_14 ?_
    refine lv_iconst (v := nI 2) S.1 S.2.1 dX3_data_17 (by decide) ?_
    refine lv_icmp_ne (tgt := 28) S.1 S.2.1 dX3_data_18 (by decide) (fun c18 => ?_) (fun c18 => ?_)
    · rw [nI_eq (by omega) (by omega)] at c18
      refine lv_iconst (v := -1) S.1 S.2.1 dX3_data_28 (by decide) ?_
      exact ci_ret S hr hlk hQ hw rfl () rfl rfl dX3_data_29
    · rw [nI_eq (by omega) (by omega)] at c18
      refine lv_iload_n S.1 S.2.1 dX3_data_21 rfl (lv_at hl 1 rfl) ?_
      refine callSI (rest := []) S hK hw hA (kX3_isByte l D cA o v) gX3_data_X3_isByte rfl 1 rfl (by decide +kernel) ⟨rfl, rfl⟩ ⟨by decide, by decide⟩ ⟨Nat.zero_le _, Nat.zero_le _⟩ hl.1 (Nat.le_of_ble_eq_true rfl) dX3_data_22 rfl (fun r H locs hp hw => ?_)
      refine lv_if_ne (tgt := 30) S.1 S.2.1 dX3_data_25 (by decide) (fun c25 => ?_) (fun c25 => ?_)
      · skip
        exact absurd ⟨by omega, by01_1 hp c25⟩ hno
      · skip
        refine lv_iconst (v := -1) S.1 S.2.1 dX3_data_28 (by decide) ?_
        exact ci_ret S hr hlk hQ hw rfl () rfl rfl dX3_data_29

set_option maxHeartbeats 4000000 in
set_option maxRecDepth 100000 in
theorem kX3_data_full (l : Launch) (D : va_G) (cA : ClassId) (o : Nat → Nat) (cd : Int32) (p0 op0 n m0 cap0 : Nat) (a b t x : Nat → Nat) (fk fn ft fw fh ff fp fg fr fx : Nat → Int32) (v : Nat) (hp0 : p0 ≤ 4) (hop : op0 ≤ 1) (hn : n ≤ 1000) (hm : m0 ≤ cap0) (hcap : cap0 ≤ 400) (hv : v < 256) (hph : p0 = 1 ∨ p0 = 2) (hm2 : m0 = cap0) : CI l D cA yX3_data wsX3_data { frames := 3, cells := 0, slots := 0, locals := 68 } [.ref (o 0), .int (nI v)] (wX3 o cA cd (nI cap0) (nI p0) (nI op0) (nI n) (nI m0) fk fn (fun j => nI (a j)) (fun j => nI (b j)) (fun j => nI (t j)) (fun j => nI (x j)) ft fw fh ff fp fg fr fx) (fun r _ => r = -2) (fun _ : Unit => wX3 o cA (nI 0) (nI cap0) (nI p0) (nI op0) (nI n) (nI m0) fk fn (fun j => nI (a j)) (fun j => nI (b j)) (fun j => nI (t j)) (fun j => nI (x j)) ft fw fh ff fp fg fr fx) := by
  refine ci_of (by decide) rfl (Nat.le_of_ble_eq_true rfl) ?_
  intro p e s m below meth c ls A ar Q S hK hw hA hr hlk hl hQ
  have hl : lv_has ls 2 [(0, .ref (o 0)), (1, .int (nI v))] := hl
  have hiX3 : ∀ w ∈ wsX30, w ∈ wsX3_data := fun _ h => List.mem_cons_of_mem _ (List.mem_append_right _ h)
  refine lv_aload_n S.1 S.2.1 dX3_data_0 rfl (lv_at hl 0 rfl) ?_
  refine lv_iconst (v := nI 0) S.1 S.2.1 dX3_data_1 (by decide) ?_
  refine mp S hK hw 0 rfl rfl hiX3 tyX3_ok nmX3 0 (by decide) (List.mem_of_getElem? (i := 1) rfl) rfl rfl rfl (Nat.le_of_ble_eq_true rfl) dX3_data_2 (fun H locs hw => ?_)
  have hw : Wd D A s.heap H locs (wX3 o cA (nI 0) (nI cap0) (nI p0) (nI op0) (nI n) (nI m0) fk fn (fun j => nI (a j)) (fun j => nI (b j)) (fun j => nI (t j)) (fun j => nI (x j)) ft fw fh ff fp fg fr fx) := hw
  refine lv_aload_n S.1 S.2.1 dX3_data_5 rfl (lv_at hl 0 rfl) ?_
  refine mg S hK hw 0 rfl rfl hiX3 4 (by decide) (List.mem_of_getElem? (i := 2) rfl) rfl dX3_data_6 ?_
  refine lv_iconst (v := nI 1) S.1 S.2.1 dX3_data_9 (by decide) ?_
  refine lv_icmp_eq (tgt := 21) S.1 S.2.1 dX3_data_10 (by decide) (fun c10 => ?_) (fun c10 => ?_)
  · rw [nI_eq (by omega) (by omega)] at c10
    refine lv_iload_n S.1 S.2.1 dX3_data_21 rfl (lv_at hl 1 rfl) ?_
    refine callSI (rest := []) S hK hw hA (kX3_isByte l D cA o (nI v)) gX3_data_X3_isByte rfl 1 rfl (by decide +kernel) ⟨rfl, rfl⟩ ⟨by decide, by decide⟩ ⟨Nat.zero_le _, Nat.zero_le _⟩ hl.1 (Nat.le_of_ble_eq_true rfl) dX3_data_22 rfl (fun r H locs hp hw => ?_)
    refine lv_if_ne (tgt := 30) S.1 S.2.1 dX3_data_25 (by decide) (fun c25 => ?_) (fun c25 => ?_)
    · skip
      refine lv_aload_n S.1 S.2.1 dX3_data_30 rfl (lv_at hl 0 rfl) ?_
      refine mg S hK hw 0 rfl rfl hiX3 10 (by decide) (List.mem_of_getElem? (i := 3) rfl) rfl dX3_data_31 ?_
      refine lv_aload_n S.1 S.2.1 dX3_data_34 rfl (lv_at hl 0 rfl) ?_
      refine mg S hK hw 0 rfl rfl hiX3 1 (by decide) (List.mem_of_getElem? (i := 4) rfl) rfl dX3_data_35 ?_
      refine lv_icmp_ne (tgt := 44) S.1 S.2.1 dX3_data_38 (by decide) (fun c38 => ?_) (fun c38 => ?_)
      · rw [nI_eq (by omega) (by omega)] at c38
        exfalso; omega
      · rw [nI_eq (by omega) (by omega)] at c38
        refine lv_bipush (v := -2) S.1 S.2.1 dX3_data_41 (by decide) ?_
        exact ci_ret S hr hlk hQ hw rfl () rfl rfl dX3_data_43
    · skip
      exact absurd c25 (by01_ok hp hv)
  · rw [nI_eq (by omega) (by omega)] at c10
    refine lv_aload_n S.1 S.2.1 dX3_data_13 rfl (lv_at hl 0 rfl) ?_
    refine mg S hK hw 0 rfl rfl hiX3 4 (by decide) (List.mem_of_getElem? (i := 2) rfl) rfl dX3_data_14 ?_
    refine lv_iconst (v := nI 2) S.1 S.2.1 dX3_data_17 (by decide) ?_
    refine lv_icmp_ne (tgt := 28) S.1 S.2.1 dX3_data_18 (by decide) (fun c18 => ?_) (fun c18 => ?_)
    · rw [nI_eq (by omega) (by omega)] at c18
      exfalso; omega
    · rw [nI_eq (by omega) (by omega)] at c18
      refine lv_iload_n S.1 S.2.1 dX3_data_21 rfl (lv_at hl 1 rfl) ?_
      refine callSI (rest := []) S hK hw hA (kX3_isByte l D cA o (nI v)) gX3_data_X3_isByte rfl 1 rfl (by decide +kernel) ⟨rfl, rfl⟩ ⟨by decide, by decide⟩ ⟨Nat.zero_le _, Nat.zero_le _⟩ hl.1 (Nat.le_of_ble_eq_true rfl) dX3_data_22 rfl (fun r H locs hp hw => ?_)
      refine lv_if_ne (tgt := 30) S.1 S.2.1 dX3_data_25 (by decide) (fun c25 => ?_) (fun c25 => ?_)
      · skip
        refine lv_aload_n S.1 S.2.1 dX3_data_30 rfl (lv_at hl 0 rfl) ?_
        refine mg S hK hw 0 rfl rfl hiX3 10 (by decide) (List.mem_of_getElem? (i := 3) rfl) rfl dX3_data_31 ?_
        refine lv_aload_n S.1 S.2.1 dX3_data_34 rfl (lv_at hl 0 rfl) ?_
        refine mg S hK hw 0 rfl rfl hiX3 1 (by decide) (List.mem_of_getElem? (i := 4) rfl) rfl dX3_data_35 ?_
        refine lv_icmp_ne (tgt := 44) S.1 S.2.1 dX3_data_38 (by decide) (fun c38 => ?_) (fun c38 => ?_)
        · rw [nI_eq (by omega) (by omega)] at c38
          exfalso; omega
        · rw [nI_eq (by omega) (by omega)] at c38
          refine lv_bipush (v := -2) S.1 S.2.1 dX3_data_41 (by decide) ?_
          exact ci_ret S hr hlk hQ hw rfl () rfl rfl dX3_data_43
      · skip
        exact absurd c25 (by01_ok hp hv)

set_option maxHeartbeats 4000000 in
set_option maxRecDepth 100000 in
theorem kX3_finish_ok (l : Launch) (D : va_G) (cA : ClassId) (o : Nat → Nat) (cd : Int32) (p0 op0 n m0 cap0 : Nat) (a b t x : Nat → Nat) (fk fn ft fw fh ff fp fg fr fx : Nat → Int32)  (hp0 : p0 ≤ 4) (hop : op0 ≤ 1) (hn : n ≤ 1000) (hm : m0 ≤ cap0) (hcap : cap0 ≤ 400) (hph : p0 = 1 ∨ p0 = 2) : CI l D cA yX3_finish wsX3_finish { frames := 0, cells := 0, slots := 0, locals := 0 } [.ref (o 0)] (wX3 o cA cd (nI cap0) (nI p0) (nI op0) (nI n) (nI m0) fk fn (fun j => nI (a j)) (fun j => nI (b j)) (fun j => nI (t j)) (fun j => nI (x j)) ft fw fh ff fp fg fr fx) (fun r _ => r = nI 1) (fun _ : Unit => wX3 o cA (nI 0) (nI cap0) (nI 3) (nI op0) (nI n) (nI m0) fk fn (fun j => nI (a j)) (fun j => nI (b j)) (fun j => nI (t j)) (fun j => nI (x j)) ft fw fh ff fp fg fr fx) := by
  refine ci_of (by decide) rfl (Nat.le_of_ble_eq_true rfl) ?_
  intro p e s m below meth c ls A ar Q S hK hw hA hr hlk hl hQ
  have hl : lv_has ls 1 [(0, .ref (o 0))] := hl
  have hiX3 : ∀ w ∈ wsX30, w ∈ wsX3_finish := fun _ h => List.mem_cons_of_mem _ (List.mem_append_right _ h)
  refine lv_aload_n S.1 S.2.1 dX3_finish_0 rfl (lv_at hl 0 rfl) ?_
  refine lv_iconst (v := nI 0) S.1 S.2.1 dX3_finish_1 (by decide) ?_
  refine mp S hK hw 0 rfl rfl hiX3 tyX3_ok nmX3 0 (by decide) (List.mem_of_getElem? (i := 1) rfl) rfl rfl rfl (Nat.le_of_ble_eq_true rfl) dX3_finish_2 (fun H locs hw => ?_)
  have hw : Wd D A s.heap H locs (wX3 o cA (nI 0) (nI cap0) (nI p0) (nI op0) (nI n) (nI m0) fk fn (fun j => nI (a j)) (fun j => nI (b j)) (fun j => nI (t j)) (fun j => nI (x j)) ft fw fh ff fp fg fr fx) := hw
  refine lv_aload_n S.1 S.2.1 dX3_finish_5 rfl (lv_at hl 0 rfl) ?_
  refine mg S hK hw 0 rfl rfl hiX3 4 (by decide) (List.mem_of_getElem? (i := 2) rfl) rfl dX3_finish_6 ?_
  refine lv_iconst (v := nI 1) S.1 S.2.1 dX3_finish_9 (by decide) ?_
  refine lv_icmp_eq (tgt := 23) S.1 S.2.1 dX3_finish_10 (by decide) (fun c10 => ?_) (fun c10 => ?_)
  · rw [nI_eq (by omega) (by omega)] at c10
    refine lv_aload_n S.1 S.2.1 dX3_finish_23 rfl (lv_at hl 0 rfl) ?_
    refine lv_iconst (v := nI 3) S.1 S.2.1 dX3_finish_24 (by decide) ?_
    refine mp S hK hw 0 rfl rfl hiX3 tyX3_ok nmX3 4 (by decide) (List.mem_of_getElem? (i := 2) rfl) rfl rfl rfl (Nat.le_of_ble_eq_true rfl) dX3_finish_25 (fun H locs hw => ?_)
    have hw : Wd D A s.heap H locs (wX3 o cA (nI 0) (nI cap0) (nI 3) (nI op0) (nI n) (nI m0) fk fn (fun j => nI (a j)) (fun j => nI (b j)) (fun j => nI (t j)) (fun j => nI (x j)) ft fw fh ff fp fg fr fx) := hw
    refine lv_iconst (v := nI 1) S.1 S.2.1 dX3_finish_28 (by decide) ?_
    exact ci_ret S hr hlk hQ hw (by decide) () rfl rfl dX3_finish_29
  · rw [nI_eq (by omega) (by omega)] at c10
    refine lv_aload_n S.1 S.2.1 dX3_finish_13 rfl (lv_at hl 0 rfl) ?_
    refine mg S hK hw 0 rfl rfl hiX3 4 (by decide) (List.mem_of_getElem? (i := 2) rfl) rfl dX3_finish_14 ?_
    refine lv_iconst (v := nI 2) S.1 S.2.1 dX3_finish_17 (by decide) ?_
    refine lv_icmp_eq (tgt := 23) S.1 S.2.1 dX3_finish_18 (by decide) (fun c18 => ?_) (fun c18 => ?_)
    · rw [nI_eq (by omega) (by omega)] at c18
      refine lv_aload_n S.1 S.2.1 dX3_finish_23 rfl (lv_at hl 0 rfl) ?_
      refine lv_iconst (v := nI 3) S.1 S.2.1 dX3_finish_24 (by decide) ?_
      refine mp S hK hw 0 rfl rfl hiX3 tyX3_ok nmX3 4 (by decide) (List.mem_of_getElem? (i := 2) rfl) rfl rfl rfl (Nat.le_of_ble_eq_true rfl) dX3_finish_25 (fun H locs hw => ?_)
      have hw : Wd D A s.heap H locs (wX3 o cA (nI 0) (nI cap0) (nI 3) (nI op0) (nI n) (nI m0) fk fn (fun j => nI (a j)) (fun j => nI (b j)) (fun j => nI (t j)) (fun j => nI (x j)) ft fw fh ff fp fg fr fx) := hw
      refine lv_iconst (v := nI 1) S.1 S.2.1 dX3_finish_28 (by decide) ?_
      exact ci_ret S hr hlk hQ hw (by decide) () rfl rfl dX3_finish_29
    · rw [nI_eq (by omega) (by omega)] at c18
      exfalso; omega

set_option maxHeartbeats 4000000 in
set_option maxRecDepth 100000 in
theorem kX3_finish_no (l : Launch) (D : va_G) (cA : ClassId) (o : Nat → Nat) (cd : Int32) (p0 op0 n m0 cap0 : Nat) (a b t x : Nat → Nat) (fk fn ft fw fh ff fp fg fr fx : Nat → Int32)  (hp0 : p0 ≤ 4) (hop : op0 ≤ 1) (hn : n ≤ 1000) (hm : m0 ≤ cap0) (hcap : cap0 ≤ 400) (hno : ¬ (p0 = 1 ∨ p0 = 2)) : CI l D cA yX3_finish wsX3_finish { frames := 0, cells := 0, slots := 0, locals := 0 } [.ref (o 0)] (wX3 o cA cd (nI cap0) (nI p0) (nI op0) (nI n) (nI m0) fk fn (fun j => nI (a j)) (fun j => nI (b j)) (fun j => nI (t j)) (fun j => nI (x j)) ft fw fh ff fp fg fr fx) (fun r _ => r = nI 0) (fun _ : Unit => wX3 o cA (nI 0) (nI cap0) (nI p0) (nI op0) (nI n) (nI m0) fk fn (fun j => nI (a j)) (fun j => nI (b j)) (fun j => nI (t j)) (fun j => nI (x j)) ft fw fh ff fp fg fr fx) := by
  refine ci_of (by decide) rfl (Nat.le_of_ble_eq_true rfl) ?_
  intro p e s m below meth c ls A ar Q S hK hw hA hr hlk hl hQ
  have hl : lv_has ls 1 [(0, .ref (o 0))] := hl
  have hiX3 : ∀ w ∈ wsX30, w ∈ wsX3_finish := fun _ h => List.mem_cons_of_mem _ (List.mem_append_right _ h)
  refine lv_aload_n S.1 S.2.1 dX3_finish_0 rfl (lv_at hl 0 rfl) ?_
  refine lv_iconst (v := nI 0) S.1 S.2.1 dX3_finish_1 (by decide) ?_
  refine mp S hK hw 0 rfl rfl hiX3 tyX3_ok nmX3 0 (by decide) (List.mem_of_getElem? (i := 1) rfl) rfl rfl rfl (Nat.le_of_ble_eq_true rfl) dX3_finish_2 (fun H locs hw => ?_)
  have hw : Wd D A s.heap H locs (wX3 o cA (nI 0) (nI cap0) (nI p0) (nI op0) (nI n) (nI m0) fk fn (fun j => nI (a j)) (fun j => nI (b j)) (fun j => nI (t j)) (fun j => nI (x j)) ft fw fh ff fp fg fr fx) := hw
  refine lv_aload_n S.1 S.2.1 dX3_finish_5 rfl (lv_at hl 0 rfl) ?_
  refine mg S hK hw 0 rfl rfl hiX3 4 (by decide) (List.mem_of_getElem? (i := 2) rfl) rfl dX3_finish_6 ?_
  refine lv_iconst (v := nI 1) S.1 S.2.1 dX3_finish_9 (by decide) ?_
  refine lv_icmp_eq (tgt := 23) S.1 S.2.1 dX3_finish_10 (by decide) (fun c10 => ?_) (fun c10 => ?_)
  · rw [nI_eq (by omega) (by omega)] at c10
    exfalso; omega
  · rw [nI_eq (by omega) (by omega)] at c10
    refine lv_aload_n S.1 S.2.1 dX3_finish_13 rfl (lv_at hl 0 rfl) ?_
    refine mg S hK hw 0 rfl rfl hiX3 4 (by decide) (List.mem_of_getElem? (i := 2) rfl) rfl dX3_finish_14 ?_
    refine lv_iconst (v := nI 2) S.1 S.2.1 dX3_finish_17 (by decide) ?_
    refine lv_icmp_eq (tgt := 23) S.1 S.2.1 dX3_finish_18 (by decide) (fun c18 => ?_) (fun c18 => ?_)
    · rw [nI_eq (by omega) (by omega)] at c18
      exfalso; omega
    · rw [nI_eq (by omega) (by omega)] at c18
      refine lv_iconst (v := nI 0) S.1 S.2.1 dX3_finish_21 (by decide) ?_
      exact ci_ret S hr hlk hQ hw (by decide) () rfl rfl dX3_finish_22

set_option maxHeartbeats 4000000 in
set_option maxRecDepth 100000 in
theorem kX3_expectTag_ok (l : Launch) (D : va_G) (cA : ClassId) (o : Nat → Nat) (cd : Int32) (p0 op0 n m0 cap0 : Nat) (a b t x : Nat → Nat) (fk fn ft fw fh ff fp fg fr fx : Nat → Int32) (i v : Nat) (hp0 : p0 ≤ 4) (hop : op0 ≤ 1) (hn : n ≤ 1000) (hm : m0 ≤ cap0) (hcap : cap0 ≤ 400) (hi : i < 16) (hv : v < 256) (hph : p0 = 3) (ho : op0 = 1) : CI l D cA yX3_expectTag wsX3_expectTag { frames := 1, cells := 0, slots := 0, locals := 20 } [.ref (o 0), .int (nI i), .int (nI v)] (wX3 o cA cd (nI cap0) (nI p0) (nI op0) (nI n) (nI m0) fk fn (fun j => nI (a j)) (fun j => nI (b j)) (fun j => nI (t j)) (fun j => nI (x j)) ft fw fh ff fp fg fr fx) (fun r _ => r = nI 1) (fun _ : Unit => wX3 o cA (nI 0) (nI cap0) (nI p0) (nI op0) (nI n) (nI m0) fk fn (fun j => nI (a j)) (fun j => nI (b j)) (fun j => nI (t j)) (fun j => nI (updN x i v j)) ft fw fh ff fp fg fr fx) := by
  refine ci_of (by decide) rfl (Nat.le_of_ble_eq_true rfl) ?_
  intro p e s m below meth c ls A ar Q S hK hw hA hr hlk hl hQ
  have hl : lv_has ls 3 [(0, .ref (o 0)), (1, .int (nI i)), (2, .int (nI v))] := hl
  have hiX3 : ∀ w ∈ wsX30, w ∈ wsX3_expectTag := fun _ h => List.mem_cons_of_mem _ (List.mem_append_right _ h)
  refine lv_aload_n S.1 S.2.1 dX3_expectTag_0 rfl (lv_at hl 0 rfl) ?_
  refine lv_iconst (v := nI 0) S.1 S.2.1 dX3_expectTag_1 (by decide) ?_
  refine mp S hK hw 0 rfl rfl hiX3 tyX3_ok nmX3 0 (by decide) (List.mem_of_getElem? (i := 1) rfl) rfl rfl rfl (Nat.le_of_ble_eq_true rfl) dX3_expectTag_2 (fun H locs hw => ?_)
  have hw : Wd D A s.heap H locs (wX3 o cA (nI 0) (nI cap0) (nI p0) (nI op0) (nI n) (nI m0) fk fn (fun j => nI (a j)) (fun j => nI (b j)) (fun j => nI (t j)) (fun j => nI (x j)) ft fw fh ff fp fg fr fx) := hw
  refine lv_aload_n S.1 S.2.1 dX3_expectTag_5 rfl (lv_at hl 0 rfl) ?_
  refine mg S hK hw 0 rfl rfl hiX3 4 (by decide) (List.mem_of_getElem? (i := 2) rfl) rfl dX3_expectTag_6 ?_
  refine lv_iconst (v := nI 3) S.1 S.2.1 dX3_expectTag_9 (by decide) ?_
  refine lv_icmp_ne (tgt := 34) S.1 S.2.1 dX3_expectTag_10 (by decide) (fun c10 => ?_) (fun c10 => ?_)
  · rw [nI_eq (by omega) (by omega)] at c10
    exfalso; omega
  · rw [nI_eq (by omega) (by omega)] at c10
    refine lv_aload_n S.1 S.2.1 dX3_expectTag_13 rfl (lv_at hl 0 rfl) ?_
    refine mg S hK hw 0 rfl rfl hiX3 5 (by decide) (List.mem_of_getElem? (i := 3) rfl) rfl dX3_expectTag_14 ?_
    refine lv_if_eq (tgt := 34) S.1 S.2.1 dX3_expectTag_17 (by decide) (fun c17 => ?_) (fun c17 => ?_)
    · rw [← nI_0, nI_eq (by omega) (by omega)] at c17
      exfalso; omega
    · rw [← nI_0, nI_eq (by omega) (by omega)] at c17
      refine lv_iload_n S.1 S.2.1 dX3_expectTag_20 rfl (lv_at hl 1 rfl) ?_
      refine callSI (rest := []) S hK hw hA (kX3_isPlace l D cA o (nI i)) gX3_expectTag_X3_isPlace rfl 1 rfl (by decide +kernel) ⟨rfl, rfl⟩ ⟨by decide, by decide⟩ ⟨Nat.zero_le _, Nat.zero_le _⟩ hl.1 (Nat.le_of_ble_eq_true rfl) dX3_expectTag_21 rfl (fun r H locs hp hw => ?_)
      have hp1 := hp
      refine lv_if_eq (tgt := 34) S.1 S.2.1 dX3_expectTag_24 (by decide) (fun c24 => ?_) (fun c24 => ?_)
      · skip
        exact absurd c24 (by01_ok hp1 hi)
      · skip
        refine lv_iload_n S.1 S.2.1 dX3_expectTag_27 rfl (lv_at hl 2 rfl) ?_
        refine callSI (rest := []) S hK hw hA (kX3_isByte l D cA o (nI v)) gX3_expectTag_X3_isByte rfl 1 rfl (by decide +kernel) ⟨rfl, rfl⟩ ⟨by decide, by decide⟩ ⟨Nat.zero_le _, Nat.zero_le _⟩ hl.1 (Nat.le_of_ble_eq_true rfl) dX3_expectTag_28 rfl (fun r H locs hp hw => ?_)
        refine lv_if_ne (tgt := 36) S.1 S.2.1 dX3_expectTag_31 (by decide) (fun c31 => ?_) (fun c31 => ?_)
        · skip
          refine lv_aload_n S.1 S.2.1 dX3_expectTag_36 rfl (lv_at hl 0 rfl) ?_
          refine mg S hK hw 0 rfl rfl hiX3 11 (by decide) (List.mem_of_getElem? (i := 4) rfl) rfl dX3_expectTag_37 ?_
          refine lv_iload_n S.1 S.2.1 dX3_expectTag_40 rfl (lv_at hl 1 rfl) ?_
          refine lv_iload_n S.1 S.2.1 dX3_expectTag_41 rfl (lv_at hl 2 rfl) ?_
          refine ap S hK hw 6 rfl i rfl (by omega) (by decide) dX3_expectTag_42 (fun H locs hw => ?_)
          have hw : Wd D A s.heap H locs (wX3 o cA (nI 0) (nI cap0) (nI p0) (nI op0) (nI n) (nI m0) fk fn (fun j => nI (a j)) (fun j => nI (b j)) (fun j => nI (t j)) (upd (fun j => nI (x j)) i (nI v)) ft fw fh ff fp fg fr fx) := hw
          have hw := hw.cong 6 (g := fun j => nI (updN x i v j)) rfl (fun j _ => upd_nI _ _ j)
          have hw : Wd D A s.heap H locs (wX3 o cA (nI 0) (nI cap0) (nI p0) (nI op0) (nI n) (nI m0) fk fn (fun j => nI (a j)) (fun j => nI (b j)) (fun j => nI (t j)) (fun j => nI (updN x i v j)) ft fw fh ff fp fg fr fx) := hw
          refine lv_iconst (v := nI 1) S.1 S.2.1 dX3_expectTag_43 (by decide) ?_
          exact ci_ret S hr hlk hQ hw (by decide) () rfl rfl dX3_expectTag_44
        · skip
          exact absurd c31 (by01_ok hp hv)

set_option maxHeartbeats 4000000 in
set_option maxRecDepth 100000 in
theorem kX3_expectTag_no (l : Launch) (D : va_G) (cA : ClassId) (o : Nat → Nat) (cd : Int32) (p0 op0 n m0 cap0 : Nat) (a b t x : Nat → Nat) (fk fn ft fw fh ff fp fg fr fx : Nat → Int32) (i v : Int32) (hp0 : p0 ≤ 4) (hop : op0 ≤ 1) (hn : n ≤ 1000) (hm : m0 ≤ cap0) (hcap : cap0 ≤ 400) (hno : ¬ (p0 = 3 ∧ op0 = 1 ∧ (∃ k, k < 16 ∧ i = nI k) ∧ ∃ k, k < 256 ∧ v = nI k)) : CI l D cA yX3_expectTag wsX3_expectTag { frames := 1, cells := 0, slots := 0, locals := 20 } [.ref (o 0), .int i, .int v] (wX3 o cA cd (nI cap0) (nI p0) (nI op0) (nI n) (nI m0) fk fn (fun j => nI (a j)) (fun j => nI (b j)) (fun j => nI (t j)) (fun j => nI (x j)) ft fw fh ff fp fg fr fx) (fun r _ => r = nI 0) (fun _ : Unit => wX3 o cA (nI 0) (nI cap0) (nI p0) (nI op0) (nI n) (nI m0) fk fn (fun j => nI (a j)) (fun j => nI (b j)) (fun j => nI (t j)) (fun j => nI (x j)) ft fw fh ff fp fg fr fx) := by
  refine ci_of (by decide) rfl (Nat.le_of_ble_eq_true rfl) ?_
  intro p e s m below meth c ls A ar Q S hK hw hA hr hlk hl hQ
  have hl : lv_has ls 3 [(0, .ref (o 0)), (1, .int i), (2, .int v)] := hl
  have hiX3 : ∀ w ∈ wsX30, w ∈ wsX3_expectTag := fun _ h => List.mem_cons_of_mem _ (List.mem_append_right _ h)
  refine lv_aload_n S.1 S.2.1 dX3_expectTag_0 rfl (lv_at hl 0 rfl) ?_
  refine lv_iconst (v := nI 0) S.1 S.2.1 dX3_expectTag_1 (by decide) ?_
  refine mp S hK hw 0 rfl rfl hiX3 tyX3_ok nmX3 0 (by decide) (List.mem_of_getElem? (i := 1) rfl) rfl rfl rfl (Nat.le_of_ble_eq_true rfl) dX3_expectTag_2 (fun H locs hw => ?_)
  have hw : Wd D A s.heap H locs (wX3 o cA (nI 0) (nI cap0) (nI p0) (nI op0) (nI n) (nI m0) fk fn (fun j => nI (a j)) (fun j => nI (b j)) (fun j => nI (t j)) (fun j => nI (x j)) ft fw fh ff fp fg fr fx) := hw
  refine lv_aload_n S.1 S.2.1 dX3_expectTag_5 rfl (lv_at hl 0 rfl) ?_
  refine mg S hK hw 0 rfl rfl hiX3 4 (by decide) (List.mem_of_getElem? (i := 2) rfl) rfl dX3_expectTag_6 ?_
  refine lv_iconst (v := nI 3) S.1 S.2.1 dX3_expectTag_9 (by decide) ?_
  refine lv_icmp_ne (tgt := 34) S.1 S.2.1 dX3_expectTag_10 (by decide) (fun c10 => ?_) (fun c10 => ?_)
  · rw [nI_eq (by omega) (by omega)] at c10
    refine lv_iconst (v := nI 0) S.1 S.2.1 dX3_expectTag_34 (by decide) ?_
    exact ci_ret S hr hlk hQ hw (by decide) () rfl rfl dX3_expectTag_35
  · rw [nI_eq (by omega) (by omega)] at c10
    refine lv_aload_n S.1 S.2.1 dX3_expectTag_13 rfl (lv_at hl 0 rfl) ?_
    refine mg S hK hw 0 rfl rfl hiX3 5 (by decide) (List.mem_of_getElem? (i := 3) rfl) rfl dX3_expectTag_14 ?_
    refine lv_if_eq (tgt := 34) S.1 S.2.1 dX3_expectTag_17 (by decide) (fun c17 => ?_) (fun c17 => ?_)
    · rw [← nI_0, nI_eq (by omega) (by omega)] at c17
      refine lv_iconst (v := nI 0) S.1 S.2.1 dX3_expectTag_34 (by decide) ?_
      exact ci_ret S hr hlk hQ hw (by decide) () rfl rfl dX3_expectTag_35
    · rw [← nI_0, nI_eq (by omega) (by omega)] at c17
      refine lv_iload_n S.1 S.2.1 dX3_expectTag_20 rfl (lv_at hl 1 rfl) ?_
      refine callSI (rest := []) S hK hw hA (kX3_isPlace l D cA o i) gX3_expectTag_X3_isPlace rfl 1 rfl (by decide +kernel) ⟨rfl, rfl⟩ ⟨by decide, by decide⟩ ⟨Nat.zero_le _, Nat.zero_le _⟩ hl.1 (Nat.le_of_ble_eq_true rfl) dX3_expectTag_21 rfl (fun r H locs hp hw => ?_)
      have hp1 := hp
      refine lv_if_eq (tgt := 34) S.1 S.2.1 dX3_expectTag_24 (by decide) (fun c24 => ?_) (fun c24 => ?_)
      · skip
        refine lv_iconst (v := nI 0) S.1 S.2.1 dX3_expectTag_34 (by decide) ?_
        exact ci_ret S hr hlk hQ hw (by decide) () rfl rfl dX3_expectTag_35
      · skip
        refine lv_iload_n S.1 S.2.1 dX3_expectTag_27 rfl (lv_at hl 2 rfl) ?_
        refine callSI (rest := []) S hK hw hA (kX3_isByte l D cA o v) gX3_expectTag_X3_isByte rfl 1 rfl (by decide +kernel) ⟨rfl, rfl⟩ ⟨by decide, by decide⟩ ⟨Nat.zero_le _, Nat.zero_le _⟩ hl.1 (Nat.le_of_ble_eq_true rfl) dX3_expectTag_28 rfl (fun r H locs hp hw => ?_)
        refine lv_if_ne (tgt := 36) S.1 S.2.1 dX3_expectTag_31 (by decide) (fun c31 => ?_) (fun c31 => ?_)
        · skip
          exact absurd ⟨by omega, by omega, by01_1 hp1 c24, by01_1 hp c31⟩ hno
        · skip
          refine lv_iconst (v := nI 0) S.1 S.2.1 dX3_expectTag_34 (by decide) ?_
          exact ci_ret S hr hlk hQ hw (by decide) () rfl rfl dX3_expectTag_35

set_option maxHeartbeats 4000000 in
set_option maxRecDepth 100000 in
theorem kX3_tag_no (l : Launch) (D : va_G) (cA : ClassId) (o : Nat → Nat) (cd : Int32) (p0 op0 n m0 cap0 : Nat) (a b t x : Nat → Nat) (fk fn ft fw fh ff fp fg fr fx : Nat → Int32) (i : Int32) (hp0 : p0 ≤ 4) (hop : op0 ≤ 1) (hn : n ≤ 1000) (hm : m0 ≤ cap0) (hcap : cap0 ≤ 400) (hno : ¬ (p0 = 3 ∧ op0 = 0 ∧ ∃ k, k < 16 ∧ i = nI k)) : CI l D cA yX3_tag wsX3_tag { frames := 4, cells := 0, slots := 0, locals := 90 } [.ref (o 0), .int i] (wX3 o cA cd (nI cap0) (nI p0) (nI op0) (nI n) (nI m0) fk fn (fun j => nI (a j)) (fun j => nI (b j)) (fun j => nI (t j)) (fun j => nI (x j)) ft fw fh ff fp fg fr fx) (fun r _ => r = -1) (fun _ : Unit => wX3 o cA (nI 0) (nI cap0) (nI p0) (nI op0) (nI n) (nI m0) fk fn (fun j => nI (a j)) (fun j => nI (b j)) (fun j => nI (t j)) (fun j => nI (x j)) ft fw fh ff fp fg fr fx) := by
  refine ci_of (by decide) rfl (Nat.le_of_ble_eq_true rfl) ?_
  intro p e s m below meth c ls A ar Q S hK hw hA hr hlk hl hQ
  have hl : lv_has ls 2 [(0, .ref (o 0)), (1, .int i)] := hl
  have hiX3 : ∀ w ∈ wsX30, w ∈ wsX3_tag := fun _ h => List.mem_cons_of_mem _ (List.mem_append_right _ h)
  refine lv_aload_n S.1 S.2.1 dX3_tag_0 rfl (lv_at hl 0 rfl) ?_
  refine lv_iconst (v := nI 0) S.1 S.2.1 dX3_tag_1 (by decide) ?_
  refine mp S hK hw 0 rfl rfl hiX3 tyX3_ok nmX3 0 (by decide) (List.mem_of_getElem? (i := 1) rfl) rfl rfl rfl (Nat.le_of_ble_eq_true rfl) dX3_tag_2 (fun H locs hw => ?_)
  have hw : Wd D A s.heap H locs (wX3 o cA (nI 0) (nI cap0) (nI p0) (nI op0) (nI n) (nI m0) fk fn (fun j => nI (a j)) (fun j => nI (b j)) (fun j => nI (t j)) (fun j => nI (x j)) ft fw fh ff fp fg fr fx) := hw
  refine lv_aload_n S.1 S.2.1 dX3_tag_5 rfl (lv_at hl 0 rfl) ?_
  refine mg S hK hw 0 rfl rfl hiX3 4 (by decide) (List.mem_of_getElem? (i := 2) rfl) rfl dX3_tag_6 ?_
  refine lv_iconst (v := nI 3) S.1 S.2.1 dX3_tag_9 (by decide) ?_
  refine lv_icmp_ne (tgt := 27) S.1 S.2.1 dX3_tag_10 (by decide) (fun c10 => ?_) (fun c10 => ?_)
  · rw [nI_eq (by omega) (by omega)] at c10
    refine lv_iconst (v := -1) S.1 S.2.1 dX3_tag_27 (by decide) ?_
    exact ci_ret S hr hlk hQ hw rfl () rfl rfl dX3_tag_28
  · rw [nI_eq (by omega) (by omega)] at c10
    refine lv_aload_n S.1 S.2.1 dX3_tag_13 rfl (lv_at hl 0 rfl) ?_
    refine mg S hK hw 0 rfl rfl hiX3 5 (by decide) (List.mem_of_getElem? (i := 3) rfl) rfl dX3_tag_14 ?_
    refine lv_if_ne (tgt := 27) S.1 S.2.1 dX3_tag_17 (by decide) (fun c17 => ?_) (fun c17 => ?_)
    · rw [← nI_0, nI_eq (by omega) (by omega)] at c17
      refine lv_iconst (v := -1) S.1 S.2.1 dX3_tag_27 (by decide) ?_
      exact ci_ret S hr hlk hQ hw rfl () rfl rfl dX3_tag_28
    · rw [← nI_0, nI_eq (by omega) (by omega)] at c17
      refine lv_iload_n S.1 S.2.1 dX3_tag_20 rfl (lv_at hl 1 rfl) ?_
      refine callSI (rest := []) S hK hw hA (kX3_isPlace l D cA o i) gX3_tag_X3_isPlace rfl 1 rfl (by decide +kernel) ⟨rfl, rfl⟩ ⟨by decide, by decide⟩ ⟨Nat.zero_le _, Nat.zero_le _⟩ hl.1 (Nat.le_of_ble_eq_true rfl) dX3_tag_21 rfl (fun r H locs hp hw => ?_)
      refine lv_if_ne (tgt := 29) S.1 S.2.1 dX3_tag_24 (by decide) (fun c24 => ?_) (fun c24 => ?_)
      · skip
        exact absurd ⟨by omega, by omega, by01_1 hp c24⟩ hno
      · skip
        refine lv_iconst (v := -1) S.1 S.2.1 dX3_tag_27 (by decide) ?_
        exact ci_ret S hr hlk hQ hw rfl () rfl rfl dX3_tag_28

set_option maxHeartbeats 4000000 in
set_option maxRecDepth 100000 in
theorem kX3_verify_no (l : Launch) (D : va_G) (cA : ClassId) (o : Nat → Nat) (cd : Int32) (p0 op0 n m0 cap0 : Nat) (a b t x : Nat → Nat) (fk fn ft fw fh ff fp fg fr fx : Nat → Int32)  (hp0 : p0 ≤ 4) (hop : op0 ≤ 1) (hn : n ≤ 1000) (hm : m0 ≤ cap0) (hcap : cap0 ≤ 400) (hno : ¬ (p0 = 3 ∧ op0 = 1)) : CI l D cA yX3_verify wsX3_verify { frames := 4, cells := 0, slots := 0, locals := 90 } [.ref (o 0)] (wX3 o cA cd (nI cap0) (nI p0) (nI op0) (nI n) (nI m0) fk fn (fun j => nI (a j)) (fun j => nI (b j)) (fun j => nI (t j)) (fun j => nI (x j)) ft fw fh ff fp fg fr fx) (fun r _ => r = nI 0) (fun _ : Unit => wX3 o cA (nI 0) (nI cap0) (nI p0) (nI op0) (nI n) (nI m0) fk fn (fun j => nI (a j)) (fun j => nI (b j)) (fun j => nI (t j)) (fun j => nI (x j)) ft fw fh ff fp fg fr fx) := by
  refine ci_of (by decide) rfl (Nat.le_of_ble_eq_true rfl) ?_
  intro p e s m below meth c ls A ar Q S hK hw hA hr hlk hl hQ
  have hl : lv_has ls 2 [(0, .ref (o 0))] := hl
  have hiX3 : ∀ w ∈ wsX30, w ∈ wsX3_verify := fun _ h => List.mem_cons_of_mem _ (List.mem_append_right _ h)
  refine lv_aload_n S.1 S.2.1 dX3_verify_0 rfl (lv_at hl 0 rfl) ?_
  refine lv_iconst (v := nI 0) S.1 S.2.1 dX3_verify_1 (by decide) ?_
  refine mp S hK hw 0 rfl rfl hiX3 tyX3_ok nmX3 0 (by decide) (List.mem_of_getElem? (i := 1) rfl) rfl rfl rfl (Nat.le_of_ble_eq_true rfl) dX3_verify_2 (fun H locs hw => ?_)
  have hw : Wd D A s.heap H locs (wX3 o cA (nI 0) (nI cap0) (nI p0) (nI op0) (nI n) (nI m0) fk fn (fun j => nI (a j)) (fun j => nI (b j)) (fun j => nI (t j)) (fun j => nI (x j)) ft fw fh ff fp fg fr fx) := hw
  refine lv_aload_n S.1 S.2.1 dX3_verify_5 rfl (lv_at hl 0 rfl) ?_
  refine mg S hK hw 0 rfl rfl hiX3 4 (by decide) (List.mem_of_getElem? (i := 2) rfl) rfl dX3_verify_6 ?_
  refine lv_iconst (v := nI 3) S.1 S.2.1 dX3_verify_9 (by decide) ?_
  refine lv_icmp_ne (tgt := 20) S.1 S.2.1 dX3_verify_10 (by decide) (fun c10 => ?_) (fun c10 => ?_)
  · rw [nI_eq (by omega) (by omega)] at c10
    refine lv_iconst (v := nI 0) S.1 S.2.1 dX3_verify_20 (by decide) ?_
    exact ci_ret S hr hlk hQ hw (by decide) () rfl rfl dX3_verify_21
  · rw [nI_eq (by omega) (by omega)] at c10
    refine lv_aload_n S.1 S.2.1 dX3_verify_13 rfl (lv_at hl 0 rfl) ?_
    refine mg S hK hw 0 rfl rfl hiX3 5 (by decide) (List.mem_of_getElem? (i := 3) rfl) rfl dX3_verify_14 ?_
    refine lv_if_ne (tgt := 22) S.1 S.2.1 dX3_verify_17 (by decide) (fun c17 => ?_) (fun c17 => ?_)
    · rw [← nI_0, nI_eq (by omega) (by omega)] at c17
      exact absurd ⟨by omega, by omega⟩ hno
    · rw [← nI_0, nI_eq (by omega) (by omega)] at c17
      refine lv_iconst (v := nI 0) S.1 S.2.1 dX3_verify_20 (by decide) ?_
      exact ci_ret S hr hlk hQ hw (by decide) () rfl rfl dX3_verify_21

set_option maxHeartbeats 4000000 in
set_option maxRecDepth 100000 in
theorem kX3_out_ok (l : Launch) (D : va_G) (cA : ClassId) (o : Nat → Nat) (cd : Int32) (p0 op0 n m0 cap0 : Nat) (a b t x : Nat → Nat) (fk fn ft fw fh ff fp fg fr fx : Nat → Int32) (i : Nat) (hp0 : p0 ≤ 4) (hop : op0 ≤ 1) (hn : n ≤ 1000) (hm : m0 ≤ cap0) (hcap : cap0 ≤ 400) (hc : p0 = 3 ∧ op0 = 0 ∨ p0 = 4) (hi : i < m0) : CI l D cA yX3_out wsX3_out { frames := 0, cells := 0, slots := 0, locals := 0 } [.ref (o 0), .int (nI i)] (wX3 o cA cd (nI cap0) (nI p0) (nI op0) (nI n) (nI m0) fk fn (fun j => nI (a j)) (fun j => nI (b j)) (fun j => nI (t j)) (fun j => nI (x j)) ft fw fh ff fp fg fr fx) (fun r _ => r = nI (t i)) (fun _ : Unit => wX3 o cA (nI 0) (nI cap0) (nI p0) (nI op0) (nI n) (nI m0) fk fn (fun j => nI (a j)) (fun j => nI (b j)) (fun j => nI (t j)) (fun j => nI (x j)) ft fw fh ff fp fg fr fx) := by
  refine ci_of (by decide) rfl (Nat.le_of_ble_eq_true rfl) ?_
  intro p e s m below meth c ls A ar Q S hK hw hA hr hlk hl hQ
  have hl : lv_has ls 3 [(0, .ref (o 0)), (1, .int (nI i))] := hl
  have hiX3 : ∀ w ∈ wsX30, w ∈ wsX3_out := fun _ h => List.mem_cons_of_mem _ (List.mem_append_right _ h)
  refine lv_aload_n S.1 S.2.1 dX3_out_0 rfl (lv_at hl 0 rfl) ?_
  refine lv_iconst (v := nI 0) S.1 S.2.1 dX3_out_1 (by decide) ?_
  refine mp S hK hw 0 rfl rfl hiX3 tyX3_ok nmX3 0 (by decide) (List.mem_of_getElem? (i := 1) rfl) rfl rfl rfl (Nat.le_of_ble_eq_true rfl) dX3_out_2 (fun H locs hw => ?_)
  have hw : Wd D A s.heap H locs (wX3 o cA (nI 0) (nI cap0) (nI p0) (nI op0) (nI n) (nI m0) fk fn (fun j => nI (a j)) (fun j => nI (b j)) (fun j => nI (t j)) (fun j => nI (x j)) ft fw fh ff fp fg fr fx) := hw
  refine lv_aload_n S.1 S.2.1 dX3_out_5 rfl (lv_at hl 0 rfl) ?_
  refine mg S hK hw 0 rfl rfl hiX3 4 (by decide) (List.mem_of_getElem? (i := 2) rfl) rfl dX3_out_6 ?_
  refine lv_iconst (v := nI 3) S.1 S.2.1 dX3_out_9 (by decide) ?_
  refine lv_icmp_ne (tgt := 20) S.1 S.2.1 dX3_out_10 (by decide) (fun c10 => ?_) (fun c10 => ?_)
  · rw [nI_eq (by omega) (by omega)] at c10
    refine lv_aload_n S.1 S.2.1 dX3_out_20 rfl (lv_at hl 0 rfl) ?_
    refine mg S hK hw 0 rfl rfl hiX3 4 (by decide) (List.mem_of_getElem? (i := 2) rfl) rfl dX3_out_21 ?_
    refine lv_iconst (v := nI 4) S.1 S.2.1 dX3_out_24 (by decide) ?_
    refine lv_icmp_ne (tgt := 32) S.1 S.2.1 dX3_out_25 (by decide) (fun c25 => ?_) (fun c25 => ?_)
    · rw [nI_eq (by omega) (by omega)] at c25
      exfalso; omega
    · rw [nI_eq (by omega) (by omega)] at c25
      refine lv_iconst (v := nI 1) S.1 S.2.1 dX3_out_28 (by decide) ?_
      refine lv_goto (tgt := 33) S.1 S.2.1 dX3_out_29 (by decide) ?_
      refine lv_istore_n (lv' := [(2, .int (nI 1)), (0, .ref (o 0)), (1, .int (nI i))]) S.1 S.2.1 dX3_out_33 rfl hl (by decide) rfl (fun ls hl => ?_)
      refine lv_iload_n S.1 S.2.1 dX3_out_34 rfl (lv_at hl 0 rfl) ?_
      refine lv_if_eq (tgt := 59) S.1 S.2.1 dX3_out_35 (by decide) (fun c35 => ?_) (fun c35 => ?_)
      · rw [← nI_0, nI_eq (by omega) (by omega)] at c35
        exfalso; omega
      · rw [← nI_0, nI_eq (by omega) (by omega)] at c35
        refine lv_iload_n S.1 S.2.1 dX3_out_38 rfl (lv_at hl 2 rfl) ?_
        refine lv_if_lt (tgt := 59) S.1 S.2.1 dX3_out_39 (by decide) (fun c39 => ?_) (fun c39 => ?_)
        · rw [← nI_0, nI_ltI (by omega) (by omega)] at c39
          exfalso; omega
        · rw [← nI_0, nI_ltI (by omega) (by omega)] at c39
          refine lv_iload_n S.1 S.2.1 dX3_out_42 rfl (lv_at hl 2 rfl) ?_
          refine lv_aload_n S.1 S.2.1 dX3_out_43 rfl (lv_at hl 1 rfl) ?_
          refine mg S hK hw 0 rfl rfl hiX3 10 (by decide) (List.mem_of_getElem? (i := 4) rfl) rfl dX3_out_44 ?_
          refine lv_icmp_ge (tgt := 59) S.1 S.2.1 dX3_out_47 (by decide) (fun c47 => ?_) (fun c47 => ?_)
          · rw [nI_leI (by omega) (by omega)] at c47
            exfalso; omega
          · rw [nI_leI (by omega) (by omega)] at c47
            refine lv_aload_n S.1 S.2.1 dX3_out_50 rfl (lv_at hl 1 rfl) ?_
            refine mg S hK hw 0 rfl rfl hiX3 9 (by decide) (List.mem_of_getElem? (i := 5) rfl) rfl dX3_out_51 ?_
            refine lv_iload_n S.1 S.2.1 dX3_out_54 rfl (lv_at hl 2 rfl) ?_
            refine ag S hK hw 5 rfl i rfl (by omega) (by decide) dX3_out_55 ?_
            refine te (y := nI (t i)) rfl ?_
            refine lv_goto (tgt := 60) S.1 S.2.1 dX3_out_56 (by decide) ?_
            exact ci_ret S hr hlk hQ hw rfl () rfl rfl dX3_out_60
  · rw [nI_eq (by omega) (by omega)] at c10
    refine lv_aload_n S.1 S.2.1 dX3_out_13 rfl (lv_at hl 0 rfl) ?_
    refine mg S hK hw 0 rfl rfl hiX3 5 (by decide) (List.mem_of_getElem? (i := 3) rfl) rfl dX3_out_14 ?_
    refine lv_if_eq (tgt := 28) S.1 S.2.1 dX3_out_17 (by decide) (fun c17 => ?_) (fun c17 => ?_)
    · rw [← nI_0, nI_eq (by omega) (by omega)] at c17
      refine lv_iconst (v := nI 1) S.1 S.2.1 dX3_out_28 (by decide) ?_
      refine lv_goto (tgt := 33) S.1 S.2.1 dX3_out_29 (by decide) ?_
      refine lv_istore_n (lv' := [(2, .int (nI 1)), (0, .ref (o 0)), (1, .int (nI i))]) S.1 S.2.1 dX3_out_33 rfl hl (by decide) rfl (fun ls hl => ?_)
      refine lv_iload_n S.1 S.2.1 dX3_out_34 rfl (lv_at hl 0 rfl) ?_
      refine lv_if_eq (tgt := 59) S.1 S.2.1 dX3_out_35 (by decide) (fun c35 => ?_) (fun c35 => ?_)
      · rw [← nI_0, nI_eq (by omega) (by omega)] at c35
        exfalso; omega
      · rw [← nI_0, nI_eq (by omega) (by omega)] at c35
        refine lv_iload_n S.1 S.2.1 dX3_out_38 rfl (lv_at hl 2 rfl) ?_
        refine lv_if_lt (tgt := 59) S.1 S.2.1 dX3_out_39 (by decide) (fun c39 => ?_) (fun c39 => ?_)
        · rw [← nI_0, nI_ltI (by omega) (by omega)] at c39
          exfalso; omega
        · rw [← nI_0, nI_ltI (by omega) (by omega)] at c39
          refine lv_iload_n S.1 S.2.1 dX3_out_42 rfl (lv_at hl 2 rfl) ?_
          refine lv_aload_n S.1 S.2.1 dX3_out_43 rfl (lv_at hl 1 rfl) ?_
          refine mg S hK hw 0 rfl rfl hiX3 10 (by decide) (List.mem_of_getElem? (i := 4) rfl) rfl dX3_out_44 ?_
          refine lv_icmp_ge (tgt := 59) S.1 S.2.1 dX3_out_47 (by decide) (fun c47 => ?_) (fun c47 => ?_)
          · rw [nI_leI (by omega) (by omega)] at c47
            exfalso; omega
          · rw [nI_leI (by omega) (by omega)] at c47
            refine lv_aload_n S.1 S.2.1 dX3_out_50 rfl (lv_at hl 1 rfl) ?_
            refine mg S hK hw 0 rfl rfl hiX3 9 (by decide) (List.mem_of_getElem? (i := 5) rfl) rfl dX3_out_51 ?_
            refine lv_iload_n S.1 S.2.1 dX3_out_54 rfl (lv_at hl 2 rfl) ?_
            refine ag S hK hw 5 rfl i rfl (by omega) (by decide) dX3_out_55 ?_
            refine te (y := nI (t i)) rfl ?_
            refine lv_goto (tgt := 60) S.1 S.2.1 dX3_out_56 (by decide) ?_
            exact ci_ret S hr hlk hQ hw rfl () rfl rfl dX3_out_60
    · rw [← nI_0, nI_eq (by omega) (by omega)] at c17
      refine lv_aload_n S.1 S.2.1 dX3_out_20 rfl (lv_at hl 0 rfl) ?_
      refine mg S hK hw 0 rfl rfl hiX3 4 (by decide) (List.mem_of_getElem? (i := 2) rfl) rfl dX3_out_21 ?_
      refine lv_iconst (v := nI 4) S.1 S.2.1 dX3_out_24 (by decide) ?_
      refine lv_icmp_ne (tgt := 32) S.1 S.2.1 dX3_out_25 (by decide) (fun c25 => ?_) (fun c25 => ?_)
      · rw [nI_eq (by omega) (by omega)] at c25
        exfalso; omega
      · rw [nI_eq (by omega) (by omega)] at c25
        refine lv_iconst (v := nI 1) S.1 S.2.1 dX3_out_28 (by decide) ?_
        refine lv_goto (tgt := 33) S.1 S.2.1 dX3_out_29 (by decide) ?_
        refine lv_istore_n (lv' := [(2, .int (nI 1)), (0, .ref (o 0)), (1, .int (nI i))]) S.1 S.2.1 dX3_out_33 rfl hl (by decide) rfl (fun ls hl => ?_)
        refine lv_iload_n S.1 S.2.1 dX3_out_34 rfl (lv_at hl 0 rfl) ?_
        refine lv_if_eq (tgt := 59) S.1 S.2.1 dX3_out_35 (by decide) (fun c35 => ?_) (fun c35 => ?_)
        · rw [← nI_0, nI_eq (by omega) (by omega)] at c35
          exfalso; omega
        · rw [← nI_0, nI_eq (by omega) (by omega)] at c35
          refine lv_iload_n S.1 S.2.1 dX3_out_38 rfl (lv_at hl 2 rfl) ?_
          refine lv_if_lt (tgt := 59) S.1 S.2.1 dX3_out_39 (by decide) (fun c39 => ?_) (fun c39 => ?_)
          · rw [← nI_0, nI_ltI (by omega) (by omega)] at c39
            exfalso; omega
          · rw [← nI_0, nI_ltI (by omega) (by omega)] at c39
            refine lv_iload_n S.1 S.2.1 dX3_out_42 rfl (lv_at hl 2 rfl) ?_
            refine lv_aload_n S.1 S.2.1 dX3_out_43 rfl (lv_at hl 1 rfl) ?_
            refine mg S hK hw 0 rfl rfl hiX3 10 (by decide) (List.mem_of_getElem? (i := 4) rfl) rfl dX3_out_44 ?_
            refine lv_icmp_ge (tgt := 59) S.1 S.2.1 dX3_out_47 (by decide) (fun c47 => ?_) (fun c47 => ?_)
            · rw [nI_leI (by omega) (by omega)] at c47
              exfalso; omega
            · rw [nI_leI (by omega) (by omega)] at c47
              refine lv_aload_n S.1 S.2.1 dX3_out_50 rfl (lv_at hl 1 rfl) ?_
              refine mg S hK hw 0 rfl rfl hiX3 9 (by decide) (List.mem_of_getElem? (i := 5) rfl) rfl dX3_out_51 ?_
              refine lv_iload_n S.1 S.2.1 dX3_out_54 rfl (lv_at hl 2 rfl) ?_
              refine ag S hK hw 5 rfl i rfl (by omega) (by decide) dX3_out_55 ?_
              refine te (y := nI (t i)) rfl ?_
              refine lv_goto (tgt := 60) S.1 S.2.1 dX3_out_56 (by decide) ?_
              exact ci_ret S hr hlk hQ hw rfl () rfl rfl dX3_out_60

set_option maxHeartbeats 4000000 in
set_option maxRecDepth 100000 in
theorem kX3_out_no (l : Launch) (D : va_G) (cA : ClassId) (o : Nat → Nat) (cd : Int32) (p0 op0 n m0 cap0 : Nat) (a b t x : Nat → Nat) (fk fn ft fw fh ff fp fg fr fx : Nat → Int32) (i : Int32) (hp0 : p0 ≤ 4) (hop : op0 ≤ 1) (hn : n ≤ 1000) (hm : m0 ≤ cap0) (hcap : cap0 ≤ 400) (hno : ¬ ((p0 = 3 ∧ op0 = 0 ∨ p0 = 4) ∧ ∃ k, k < m0 ∧ i = nI k)) : CI l D cA yX3_out wsX3_out { frames := 0, cells := 0, slots := 0, locals := 0 } [.ref (o 0), .int i] (wX3 o cA cd (nI cap0) (nI p0) (nI op0) (nI n) (nI m0) fk fn (fun j => nI (a j)) (fun j => nI (b j)) (fun j => nI (t j)) (fun j => nI (x j)) ft fw fh ff fp fg fr fx) (fun r _ => r = -1) (fun _ : Unit => wX3 o cA (nI 0) (nI cap0) (nI p0) (nI op0) (nI n) (nI m0) fk fn (fun j => nI (a j)) (fun j => nI (b j)) (fun j => nI (t j)) (fun j => nI (x j)) ft fw fh ff fp fg fr fx) := by
  refine ci_of (by decide) rfl (Nat.le_of_ble_eq_true rfl) ?_
  intro p e s m below meth c ls A ar Q S hK hw hA hr hlk hl hQ
  have hl : lv_has ls 3 [(0, .ref (o 0)), (1, .int i)] := hl
  have hiX3 : ∀ w ∈ wsX30, w ∈ wsX3_out := fun _ h => List.mem_cons_of_mem _ (List.mem_append_right _ h)
  refine lv_aload_n S.1 S.2.1 dX3_out_0 rfl (lv_at hl 0 rfl) ?_
  refine lv_iconst (v := nI 0) S.1 S.2.1 dX3_out_1 (by decide) ?_
  refine mp S hK hw 0 rfl rfl hiX3 tyX3_ok nmX3 0 (by decide) (List.mem_of_getElem? (i := 1) rfl) rfl rfl rfl (Nat.le_of_ble_eq_true rfl) dX3_out_2 (fun H locs hw => ?_)
  have hw : Wd D A s.heap H locs (wX3 o cA (nI 0) (nI cap0) (nI p0) (nI op0) (nI n) (nI m0) fk fn (fun j => nI (a j)) (fun j => nI (b j)) (fun j => nI (t j)) (fun j => nI (x j)) ft fw fh ff fp fg fr fx) := hw
  refine lv_aload_n S.1 S.2.1 dX3_out_5 rfl (lv_at hl 0 rfl) ?_
  refine mg S hK hw 0 rfl rfl hiX3 4 (by decide) (List.mem_of_getElem? (i := 2) rfl) rfl dX3_out_6 ?_
  refine lv_iconst (v := nI 3) S.1 S.2.1 dX3_out_9 (by decide) ?_
  refine lv_icmp_ne (tgt := 20) S.1 S.2.1 dX3_out_10 (by decide) (fun c10 => ?_) (fun c10 => ?_)
  · rw [nI_eq (by omega) (by omega)] at c10
    refine lv_aload_n S.1 S.2.1 dX3_out_20 rfl (lv_at hl 0 rfl) ?_
    refine mg S hK hw 0 rfl rfl hiX3 4 (by decide) (List.mem_of_getElem? (i := 2) rfl) rfl dX3_out_21 ?_
    refine lv_iconst (v := nI 4) S.1 S.2.1 dX3_out_24 (by decide) ?_
    refine lv_icmp_ne (tgt := 32) S.1 S.2.1 dX3_out_25 (by decide) (fun c25 => ?_) (fun c25 => ?_)
    · rw [nI_eq (by omega) (by omega)] at c25
      refine lv_iconst (v := nI 0) S.1 S.2.1 dX3_out_32 (by decide) ?_
      refine lv_istore_n (lv' := [(2, .int (nI 0)), (0, .ref (o 0)), (1, .int i)]) S.1 S.2.1 dX3_out_33 rfl hl (by decide) rfl (fun ls hl => ?_)
      refine lv_iload_n S.1 S.2.1 dX3_out_34 rfl (lv_at hl 0 rfl) ?_
      refine lv_if_eq (tgt := 59) S.1 S.2.1 dX3_out_35 (by decide) (fun c35 => ?_) (fun c35 => ?_)
      · rw [← nI_0, nI_eq (by omega) (by omega)] at c35
        refine lv_iconst (v := -1) S.1 S.2.1 dX3_out_59 (by decide) ?_
        exact ci_ret S hr hlk hQ hw rfl () rfl rfl dX3_out_60
      · rw [← nI_0, nI_eq (by omega) (by omega)] at c35
        refine lv_iload_n S.1 S.2.1 dX3_out_38 rfl (lv_at hl 2 rfl) ?_
        refine lv_if_lt (tgt := 59) S.1 S.2.1 dX3_out_39 (by decide) (fun c39 => ?_) (fun c39 => ?_)
        · skip
          refine lv_iconst (v := -1) S.1 S.2.1 dX3_out_59 (by decide) ?_
          exact ci_ret S hr hlk hQ hw rfl () rfl rfl dX3_out_60
        · skip
          refine lv_iload_n S.1 S.2.1 dX3_out_42 rfl (lv_at hl 2 rfl) ?_
          refine lv_aload_n S.1 S.2.1 dX3_out_43 rfl (lv_at hl 1 rfl) ?_
          refine mg S hK hw 0 rfl rfl hiX3 10 (by decide) (List.mem_of_getElem? (i := 4) rfl) rfl dX3_out_44 ?_
          refine lv_icmp_ge (tgt := 59) S.1 S.2.1 dX3_out_47 (by decide) (fun c47 => ?_) (fun c47 => ?_)
          · skip
            refine lv_iconst (v := -1) S.1 S.2.1 dX3_out_59 (by decide) ?_
            exact ci_ret S hr hlk hQ hw rfl () rfl rfl dX3_out_60
          · skip
            exact absurd ⟨by omega, in_nle (by omega) c39 c47⟩ hno
    · rw [nI_eq (by omega) (by omega)] at c25
      refine lv_iconst (v := nI 1) S.1 S.2.1 dX3_out_28 (by decide) ?_
      refine lv_goto (tgt := 33) S.1 S.2.1 dX3_out_29 (by decide) ?_
      refine lv_istore_n (lv' := [(2, .int (nI 1)), (0, .ref (o 0)), (1, .int i)]) S.1 S.2.1 dX3_out_33 rfl hl (by decide) rfl (fun ls hl => ?_)
      refine lv_iload_n S.1 S.2.1 dX3_out_34 rfl (lv_at hl 0 rfl) ?_
      refine lv_if_eq (tgt := 59) S.1 S.2.1 dX3_out_35 (by decide) (fun c35 => ?_) (fun c35 => ?_)
      · rw [← nI_0, nI_eq (by omega) (by omega)] at c35
        refine lv_iconst (v := -1) S.1 S.2.1 dX3_out_59 (by decide) ?_
        exact ci_ret S hr hlk hQ hw rfl () rfl rfl dX3_out_60
      · rw [← nI_0, nI_eq (by omega) (by omega)] at c35
        refine lv_iload_n S.1 S.2.1 dX3_out_38 rfl (lv_at hl 2 rfl) ?_
        refine lv_if_lt (tgt := 59) S.1 S.2.1 dX3_out_39 (by decide) (fun c39 => ?_) (fun c39 => ?_)
        · skip
          refine lv_iconst (v := -1) S.1 S.2.1 dX3_out_59 (by decide) ?_
          exact ci_ret S hr hlk hQ hw rfl () rfl rfl dX3_out_60
        · skip
          refine lv_iload_n S.1 S.2.1 dX3_out_42 rfl (lv_at hl 2 rfl) ?_
          refine lv_aload_n S.1 S.2.1 dX3_out_43 rfl (lv_at hl 1 rfl) ?_
          refine mg S hK hw 0 rfl rfl hiX3 10 (by decide) (List.mem_of_getElem? (i := 4) rfl) rfl dX3_out_44 ?_
          refine lv_icmp_ge (tgt := 59) S.1 S.2.1 dX3_out_47 (by decide) (fun c47 => ?_) (fun c47 => ?_)
          · skip
            refine lv_iconst (v := -1) S.1 S.2.1 dX3_out_59 (by decide) ?_
            exact ci_ret S hr hlk hQ hw rfl () rfl rfl dX3_out_60
          · skip
            exact absurd ⟨by omega, in_nle (by omega) c39 c47⟩ hno
  · rw [nI_eq (by omega) (by omega)] at c10
    refine lv_aload_n S.1 S.2.1 dX3_out_13 rfl (lv_at hl 0 rfl) ?_
    refine mg S hK hw 0 rfl rfl hiX3 5 (by decide) (List.mem_of_getElem? (i := 3) rfl) rfl dX3_out_14 ?_
    refine lv_if_eq (tgt := 28) S.1 S.2.1 dX3_out_17 (by decide) (fun c17 => ?_) (fun c17 => ?_)
    · rw [← nI_0, nI_eq (by omega) (by omega)] at c17
      refine lv_iconst (v := nI 1) S.1 S.2.1 dX3_out_28 (by decide) ?_
      refine lv_goto (tgt := 33) S.1 S.2.1 dX3_out_29 (by decide) ?_
      refine lv_istore_n (lv' := [(2, .int (nI 1)), (0, .ref (o 0)), (1, .int i)]) S.1 S.2.1 dX3_out_33 rfl hl (by decide) rfl (fun ls hl => ?_)
      refine lv_iload_n S.1 S.2.1 dX3_out_34 rfl (lv_at hl 0 rfl) ?_
      refine lv_if_eq (tgt := 59) S.1 S.2.1 dX3_out_35 (by decide) (fun c35 => ?_) (fun c35 => ?_)
      · rw [← nI_0, nI_eq (by omega) (by omega)] at c35
        refine lv_iconst (v := -1) S.1 S.2.1 dX3_out_59 (by decide) ?_
        exact ci_ret S hr hlk hQ hw rfl () rfl rfl dX3_out_60
      · rw [← nI_0, nI_eq (by omega) (by omega)] at c35
        refine lv_iload_n S.1 S.2.1 dX3_out_38 rfl (lv_at hl 2 rfl) ?_
        refine lv_if_lt (tgt := 59) S.1 S.2.1 dX3_out_39 (by decide) (fun c39 => ?_) (fun c39 => ?_)
        · skip
          refine lv_iconst (v := -1) S.1 S.2.1 dX3_out_59 (by decide) ?_
          exact ci_ret S hr hlk hQ hw rfl () rfl rfl dX3_out_60
        · skip
          refine lv_iload_n S.1 S.2.1 dX3_out_42 rfl (lv_at hl 2 rfl) ?_
          refine lv_aload_n S.1 S.2.1 dX3_out_43 rfl (lv_at hl 1 rfl) ?_
          refine mg S hK hw 0 rfl rfl hiX3 10 (by decide) (List.mem_of_getElem? (i := 4) rfl) rfl dX3_out_44 ?_
          refine lv_icmp_ge (tgt := 59) S.1 S.2.1 dX3_out_47 (by decide) (fun c47 => ?_) (fun c47 => ?_)
          · skip
            refine lv_iconst (v := -1) S.1 S.2.1 dX3_out_59 (by decide) ?_
            exact ci_ret S hr hlk hQ hw rfl () rfl rfl dX3_out_60
          · skip
            exact absurd ⟨by omega, in_nle (by omega) c39 c47⟩ hno
    · rw [← nI_0, nI_eq (by omega) (by omega)] at c17
      refine lv_aload_n S.1 S.2.1 dX3_out_20 rfl (lv_at hl 0 rfl) ?_
      refine mg S hK hw 0 rfl rfl hiX3 4 (by decide) (List.mem_of_getElem? (i := 2) rfl) rfl dX3_out_21 ?_
      refine lv_iconst (v := nI 4) S.1 S.2.1 dX3_out_24 (by decide) ?_
      refine lv_icmp_ne (tgt := 32) S.1 S.2.1 dX3_out_25 (by decide) (fun c25 => ?_) (fun c25 => ?_)
      · rw [nI_eq (by omega) (by omega)] at c25
        refine lv_iconst (v := nI 0) S.1 S.2.1 dX3_out_32 (by decide) ?_
        refine lv_istore_n (lv' := [(2, .int (nI 0)), (0, .ref (o 0)), (1, .int i)]) S.1 S.2.1 dX3_out_33 rfl hl (by decide) rfl (fun ls hl => ?_)
        refine lv_iload_n S.1 S.2.1 dX3_out_34 rfl (lv_at hl 0 rfl) ?_
        refine lv_if_eq (tgt := 59) S.1 S.2.1 dX3_out_35 (by decide) (fun c35 => ?_) (fun c35 => ?_)
        · rw [← nI_0, nI_eq (by omega) (by omega)] at c35
          refine lv_iconst (v := -1) S.1 S.2.1 dX3_out_59 (by decide) ?_
          exact ci_ret S hr hlk hQ hw rfl () rfl rfl dX3_out_60
        · rw [← nI_0, nI_eq (by omega) (by omega)] at c35
          refine lv_iload_n S.1 S.2.1 dX3_out_38 rfl (lv_at hl 2 rfl) ?_
          refine lv_if_lt (tgt := 59) S.1 S.2.1 dX3_out_39 (by decide) (fun c39 => ?_) (fun c39 => ?_)
          · skip
            refine lv_iconst (v := -1) S.1 S.2.1 dX3_out_59 (by decide) ?_
            exact ci_ret S hr hlk hQ hw rfl () rfl rfl dX3_out_60
          · skip
            refine lv_iload_n S.1 S.2.1 dX3_out_42 rfl (lv_at hl 2 rfl) ?_
            refine lv_aload_n S.1 S.2.1 dX3_out_43 rfl (lv_at hl 1 rfl) ?_
            refine mg S hK hw 0 rfl rfl hiX3 10 (by decide) (List.mem_of_getElem? (i := 4) rfl) rfl dX3_out_44 ?_
            refine lv_icmp_ge (tgt := 59) S.1 S.2.1 dX3_out_47 (by decide) (fun c47 => ?_) (fun c47 => ?_)
            · skip
              refine lv_iconst (v := -1) S.1 S.2.1 dX3_out_59 (by decide) ?_
              exact ci_ret S hr hlk hQ hw rfl () rfl rfl dX3_out_60
            · skip
              exact absurd ⟨by omega, in_nle (by omega) c39 c47⟩ hno
      · rw [nI_eq (by omega) (by omega)] at c25
        refine lv_iconst (v := nI 1) S.1 S.2.1 dX3_out_28 (by decide) ?_
        refine lv_goto (tgt := 33) S.1 S.2.1 dX3_out_29 (by decide) ?_
        refine lv_istore_n (lv' := [(2, .int (nI 1)), (0, .ref (o 0)), (1, .int i)]) S.1 S.2.1 dX3_out_33 rfl hl (by decide) rfl (fun ls hl => ?_)
        refine lv_iload_n S.1 S.2.1 dX3_out_34 rfl (lv_at hl 0 rfl) ?_
        refine lv_if_eq (tgt := 59) S.1 S.2.1 dX3_out_35 (by decide) (fun c35 => ?_) (fun c35 => ?_)
        · rw [← nI_0, nI_eq (by omega) (by omega)] at c35
          refine lv_iconst (v := -1) S.1 S.2.1 dX3_out_59 (by decide) ?_
          exact ci_ret S hr hlk hQ hw rfl () rfl rfl dX3_out_60
        · rw [← nI_0, nI_eq (by omega) (by omega)] at c35
          refine lv_iload_n S.1 S.2.1 dX3_out_38 rfl (lv_at hl 2 rfl) ?_
          refine lv_if_lt (tgt := 59) S.1 S.2.1 dX3_out_39 (by decide) (fun c39 => ?_) (fun c39 => ?_)
          · skip
            refine lv_iconst (v := -1) S.1 S.2.1 dX3_out_59 (by decide) ?_
            exact ci_ret S hr hlk hQ hw rfl () rfl rfl dX3_out_60
          · skip
            refine lv_iload_n S.1 S.2.1 dX3_out_42 rfl (lv_at hl 2 rfl) ?_
            refine lv_aload_n S.1 S.2.1 dX3_out_43 rfl (lv_at hl 1 rfl) ?_
            refine mg S hK hw 0 rfl rfl hiX3 10 (by decide) (List.mem_of_getElem? (i := 4) rfl) rfl dX3_out_44 ?_
            refine lv_icmp_ge (tgt := 59) S.1 S.2.1 dX3_out_47 (by decide) (fun c47 => ?_) (fun c47 => ?_)
            · skip
              refine lv_iconst (v := -1) S.1 S.2.1 dX3_out_59 (by decide) ?_
              exact ci_ret S hr hlk hQ hw rfl () rfl rfl dX3_out_60
            · skip
              exact absurd ⟨by omega, in_nle (by omega) c39 c47⟩ hno

set_option maxHeartbeats 4000000 in
set_option maxRecDepth 100000 in
theorem kX3_length (l : Launch) (D : va_G) (cA : ClassId) (o : Nat → Nat) (cd : Int32) (p0 op0 n m0 cap0 : Nat) (a b t x : Nat → Nat) (fk fn ft fw fh ff fp fg fr fx : Nat → Int32)  (hp0 : p0 ≤ 4) (hop : op0 ≤ 1) (hn : n ≤ 1000) (hm : m0 ≤ cap0) (hcap : cap0 ≤ 400)  : CI l D cA yX3_length wsX3_length { frames := 0, cells := 0, slots := 0, locals := 0 } [.ref (o 0)] (wX3 o cA cd (nI cap0) (nI p0) (nI op0) (nI n) (nI m0) fk fn (fun j => nI (a j)) (fun j => nI (b j)) (fun j => nI (t j)) (fun j => nI (x j)) ft fw fh ff fp fg fr fx) (fun r _ => r = nI m0) (fun _ : Unit => wX3 o cA (nI 0) (nI cap0) (nI p0) (nI op0) (nI n) (nI m0) fk fn (fun j => nI (a j)) (fun j => nI (b j)) (fun j => nI (t j)) (fun j => nI (x j)) ft fw fh ff fp fg fr fx) := by
  refine ci_of (by decide) rfl (Nat.le_of_ble_eq_true rfl) ?_
  intro p e s m below meth c ls A ar Q S hK hw hA hr hlk hl hQ
  have hl : lv_has ls 1 [(0, .ref (o 0))] := hl
  have hiX3 : ∀ w ∈ wsX30, w ∈ wsX3_length := fun _ h => List.mem_cons_of_mem _ (List.mem_append_right _ h)
  refine lv_aload_n S.1 S.2.1 dX3_length_0 rfl (lv_at hl 0 rfl) ?_
  refine lv_iconst (v := nI 0) S.1 S.2.1 dX3_length_1 (by decide) ?_
  refine mp S hK hw 0 rfl rfl hiX3 tyX3_ok nmX3 0 (by decide) (List.mem_of_getElem? (i := 1) rfl) rfl rfl rfl (Nat.le_of_ble_eq_true rfl) dX3_length_2 (fun H locs hw => ?_)
  have hw : Wd D A s.heap H locs (wX3 o cA (nI 0) (nI cap0) (nI p0) (nI op0) (nI n) (nI m0) fk fn (fun j => nI (a j)) (fun j => nI (b j)) (fun j => nI (t j)) (fun j => nI (x j)) ft fw fh ff fp fg fr fx) := hw
  refine lv_aload_n S.1 S.2.1 dX3_length_5 rfl (lv_at hl 0 rfl) ?_
  refine mg S hK hw 0 rfl rfl hiX3 10 (by decide) (List.mem_of_getElem? (i := 2) rfl) rfl dX3_length_6 ?_
  exact ci_ret S hr hlk hQ hw rfl () rfl rfl dX3_length_9

set_option maxHeartbeats 4000000 in
set_option maxRecDepth 100000 in
theorem kX3_added (l : Launch) (D : va_G) (cA : ClassId) (o : Nat → Nat) (cd : Int32) (p0 op0 n m0 cap0 : Nat) (a b t x : Nat → Nat) (fk fn ft fw fh ff fp fg fr fx : Nat → Int32)  (hp0 : p0 ≤ 4) (hop : op0 ≤ 1) (hn : n ≤ 1000) (hm : m0 ≤ cap0) (hcap : cap0 ≤ 400)  : CI l D cA yX3_added wsX3_added { frames := 0, cells := 0, slots := 0, locals := 0 } [.ref (o 0)] (wX3 o cA cd (nI cap0) (nI p0) (nI op0) (nI n) (nI m0) fk fn (fun j => nI (a j)) (fun j => nI (b j)) (fun j => nI (t j)) (fun j => nI (x j)) ft fw fh ff fp fg fr fx) (fun r _ => r = nI n) (fun _ : Unit => wX3 o cA (nI 0) (nI cap0) (nI p0) (nI op0) (nI n) (nI m0) fk fn (fun j => nI (a j)) (fun j => nI (b j)) (fun j => nI (t j)) (fun j => nI (x j)) ft fw fh ff fp fg fr fx) := by
  refine ci_of (by decide) rfl (Nat.le_of_ble_eq_true rfl) ?_
  intro p e s m below meth c ls A ar Q S hK hw hA hr hlk hl hQ
  have hl : lv_has ls 1 [(0, .ref (o 0))] := hl
  have hiX3 : ∀ w ∈ wsX30, w ∈ wsX3_added := fun _ h => List.mem_cons_of_mem _ (List.mem_append_right _ h)
  refine lv_aload_n S.1 S.2.1 dX3_added_0 rfl (lv_at hl 0 rfl) ?_
  refine lv_iconst (v := nI 0) S.1 S.2.1 dX3_added_1 (by decide) ?_
  refine mp S hK hw 0 rfl rfl hiX3 tyX3_ok nmX3 0 (by decide) (List.mem_of_getElem? (i := 1) rfl) rfl rfl rfl (Nat.le_of_ble_eq_true rfl) dX3_added_2 (fun H locs hw => ?_)
  have hw : Wd D A s.heap H locs (wX3 o cA (nI 0) (nI cap0) (nI p0) (nI op0) (nI n) (nI m0) fk fn (fun j => nI (a j)) (fun j => nI (b j)) (fun j => nI (t j)) (fun j => nI (x j)) ft fw fh ff fp fg fr fx) := hw
  refine lv_aload_n S.1 S.2.1 dX3_added_5 rfl (lv_at hl 0 rfl) ?_
  refine mg S hK hw 0 rfl rfl hiX3 7 (by decide) (List.mem_of_getElem? (i := 2) rfl) rfl dX3_added_6 ?_
  exact ci_ret S hr hlk hQ hw rfl () rfl rfl dX3_added_9

set_option maxHeartbeats 4000000 in
set_option maxRecDepth 100000 in
theorem kX3_phase (l : Launch) (D : va_G) (cA : ClassId) (o : Nat → Nat) (cd : Int32) (p0 op0 n m0 cap0 : Nat) (a b t x : Nat → Nat) (fk fn ft fw fh ff fp fg fr fx : Nat → Int32)  (hp0 : p0 ≤ 4) (hop : op0 ≤ 1) (hn : n ≤ 1000) (hm : m0 ≤ cap0) (hcap : cap0 ≤ 400)  : CI l D cA yX3_phase wsX3_phase { frames := 0, cells := 0, slots := 0, locals := 0 } [.ref (o 0)] (wX3 o cA cd (nI cap0) (nI p0) (nI op0) (nI n) (nI m0) fk fn (fun j => nI (a j)) (fun j => nI (b j)) (fun j => nI (t j)) (fun j => nI (x j)) ft fw fh ff fp fg fr fx) (fun r _ => r = nI p0) (fun _ : Unit => wX3 o cA (nI 0) (nI cap0) (nI p0) (nI op0) (nI n) (nI m0) fk fn (fun j => nI (a j)) (fun j => nI (b j)) (fun j => nI (t j)) (fun j => nI (x j)) ft fw fh ff fp fg fr fx) := by
  refine ci_of (by decide) rfl (Nat.le_of_ble_eq_true rfl) ?_
  intro p e s m below meth c ls A ar Q S hK hw hA hr hlk hl hQ
  have hl : lv_has ls 1 [(0, .ref (o 0))] := hl
  have hiX3 : ∀ w ∈ wsX30, w ∈ wsX3_phase := fun _ h => List.mem_cons_of_mem _ (List.mem_append_right _ h)
  refine lv_aload_n S.1 S.2.1 dX3_phase_0 rfl (lv_at hl 0 rfl) ?_
  refine lv_iconst (v := nI 0) S.1 S.2.1 dX3_phase_1 (by decide) ?_
  refine mp S hK hw 0 rfl rfl hiX3 tyX3_ok nmX3 0 (by decide) (List.mem_of_getElem? (i := 1) rfl) rfl rfl rfl (Nat.le_of_ble_eq_true rfl) dX3_phase_2 (fun H locs hw => ?_)
  have hw : Wd D A s.heap H locs (wX3 o cA (nI 0) (nI cap0) (nI p0) (nI op0) (nI n) (nI m0) fk fn (fun j => nI (a j)) (fun j => nI (b j)) (fun j => nI (t j)) (fun j => nI (x j)) ft fw fh ff fp fg fr fx) := hw
  refine lv_aload_n S.1 S.2.1 dX3_phase_5 rfl (lv_at hl 0 rfl) ?_
  refine mg S hK hw 0 rfl rfl hiX3 4 (by decide) (List.mem_of_getElem? (i := 2) rfl) rfl dX3_phase_6 ?_
  exact ci_ret S hr hlk hQ hw rfl () rfl rfl dX3_phase_9

set_option maxHeartbeats 4000000 in
set_option maxRecDepth 100000 in
theorem kX3_reset (l : Launch) (D : va_G) (cA : ClassId) (o : Nat → Nat) (cd : Int32) (p0 op0 n m0 cap0 : Nat) (a b t x : Nat → Nat) (fk fn ft fw fh ff fp fg fr fx : Nat → Int32)  (hp0 : p0 ≤ 4) (hop : op0 ≤ 1) (hn : n ≤ 1000) (hm : m0 ≤ cap0) (hcap : cap0 ≤ 400)  : CV l D cA yX3_reset wsX3_reset { frames := 0, cells := 0, slots := 0, locals := 0 } [.ref (o 0)] (wX3 o cA cd (nI cap0) (nI p0) (nI op0) (nI n) (nI m0) fk fn (fun j => nI (a j)) (fun j => nI (b j)) (fun j => nI (t j)) (fun j => nI (x j)) ft fw fh ff fp fg fr fx) (fun _ => True) (fun _ : Unit => wX3 o cA (nI 0) (nI cap0) (nI 0) (nI op0) (nI n) (nI m0) fk fn (fun j => nI (a j)) (fun j => nI (b j)) (fun j => nI (t j)) (fun j => nI (x j)) ft fw fh ff fp fg fr fx) := by
  refine cv_of (by decide) rfl (Nat.le_of_ble_eq_true rfl) ?_
  intro p e s m below meth c ls A ar Q S hK hw hA hr hlk hl hQ
  have hl : lv_has ls 1 [(0, .ref (o 0))] := hl
  have hiX3 : ∀ w ∈ wsX30, w ∈ wsX3_reset := fun _ h => List.mem_cons_of_mem _ (List.mem_append_right _ h)
  refine lv_aload_n S.1 S.2.1 dX3_reset_0 rfl (lv_at hl 0 rfl) ?_
  refine lv_iconst (v := nI 0) S.1 S.2.1 dX3_reset_1 (by decide) ?_
  refine mp S hK hw 0 rfl rfl hiX3 tyX3_ok nmX3 0 (by decide) (List.mem_of_getElem? (i := 1) rfl) rfl rfl rfl (Nat.le_of_ble_eq_true rfl) dX3_reset_2 (fun H locs hw => ?_)
  have hw : Wd D A s.heap H locs (wX3 o cA (nI 0) (nI cap0) (nI p0) (nI op0) (nI n) (nI m0) fk fn (fun j => nI (a j)) (fun j => nI (b j)) (fun j => nI (t j)) (fun j => nI (x j)) ft fw fh ff fp fg fr fx) := hw
  refine lv_aload_n S.1 S.2.1 dX3_reset_5 rfl (lv_at hl 0 rfl) ?_
  refine lv_iconst (v := nI 0) S.1 S.2.1 dX3_reset_6 (by decide) ?_
  refine mp S hK hw 0 rfl rfl hiX3 tyX3_ok nmX3 4 (by decide) (List.mem_of_getElem? (i := 2) rfl) rfl rfl rfl (Nat.le_of_ble_eq_true rfl) dX3_reset_7 (fun H locs hw => ?_)
  have hw : Wd D A s.heap H locs (wX3 o cA (nI 0) (nI cap0) (nI 0) (nI op0) (nI n) (nI m0) fk fn (fun j => nI (a j)) (fun j => nI (b j)) (fun j => nI (t j)) (fun j => nI (x j)) ft fw fh ff fp fg fr fx) := hw
  exact cv_ret S hr hlk hQ hw () rfl trivial dX3_reset_10
