set_option maxHeartbeats 4000000 in
set_option maxRecDepth 100000 in
theorem kX2_setKeyWord_ok (l : Launch) (D : va_G) (cA : ClassId) (o : Nat → Nat) (p0 op0 n m0 cap0 : Nat) (t x : Nat → Nat) (tk : Int32) (fi fb ff fa fh fp ft : Nat → Int32) (i : Nat) (w : Int32) (hp0 : p0 ≤ 4) (hop : op0 ≤ 1) (hn : n ≤ 1000) (hm : m0 ≤ cap0) (hcap : cap0 ≤ 400) (hi : i < 8) (hph : p0 = 0) : CI l D cA yX2_setKeyWord wsX2_setKeyWord { frames := 1, cells := 0, slots := 0, locals := 22 } [.ref (o 0), .int (nI i), .int w] (wX2 o cA cap0 (fun j => nI (t j)) (fun j => nI (x j)) fi fb ff fa fh fp ft tk (nI p0) (nI op0) (nI m0) (nI n)) (fun r _ => r = nI 1) (fun _ : Unit => wX2 o cA cap0 (fun j => nI (t j)) (fun j => nI (x j)) (upd fi (4 + i) w) fb ff fa fh fp ft tk (nI p0) (nI op0) (nI m0) (nI n)) := by
  refine ci_of (by decide) rfl (Nat.le_of_ble_eq_true rfl) ?_
  intro p e s m below meth c ls A ar Q S hK hw hA hr hlk hl hQ
  have hl : lv_has ls 3 [(0, .ref (o 0)), (1, .int (nI i)), (2, .int w)] := hl
  have hiX2 : ∀ w ∈ wsX20, w ∈ wsX2_setKeyWord := fun _ h => List.mem_cons_of_mem _ (List.mem_append_left _ (List.mem_append_right _ h))
  refine lv_aload_n S.1 S.2.1 dX2_setKeyWord_0 rfl (lv_at hl 0 rfl) ?_
  refine mg S hK hw 0 rfl rfl hiX2 4 (by decide) (List.mem_of_getElem? (i := 1) rfl) rfl dX2_setKeyWord_1 ?_
  refine lv_if_ne (tgt := 17) S.1 S.2.1 dX2_setKeyWord_4 (by decide) (fun c4 => ?_) (fun c4 => ?_)
  · rw [← nI_0, nI_eq (by omega) (by omega)] at c4
    exfalso; omega
  · rw [← nI_0, nI_eq (by omega) (by omega)] at c4
    refine lv_iload_n S.1 S.2.1 dX2_setKeyWord_7 rfl (lv_at hl 1 rfl) ?_
    refine lv_if_lt (tgt := 17) S.1 S.2.1 dX2_setKeyWord_8 (by decide) (fun c8 => ?_) (fun c8 => ?_)
    · rw [← nI_0, nI_ltI (by omega) (by omega)] at c8
      exfalso; omega
    · rw [← nI_0, nI_ltI (by omega) (by omega)] at c8
      refine lv_iload_n S.1 S.2.1 dX2_setKeyWord_11 rfl (lv_at hl 1 rfl) ?_
      refine lv_bipush (v := nI 8) S.1 S.2.1 dX2_setKeyWord_12 (by decide) ?_
      refine lv_icmp_lt (tgt := 19) S.1 S.2.1 dX2_setKeyWord_14 (by decide) (fun c14 => ?_) (fun c14 => ?_)
      · rw [nI_ltI (by omega) (by omega)] at c14
        refine lv_aload_n S.1 S.2.1 dX2_setKeyWord_19 rfl (lv_at hl 0 rfl) ?_
        refine mg S hK hw 0 rfl rfl hiX2 0 (by decide) (List.mem_of_getElem? (i := 2) rfl) rfl dX2_setKeyWord_20 ?_
        refine lv_iload_n S.1 S.2.1 dX2_setKeyWord_23 rfl (lv_at hl 1 rfl) ?_
        refine lv_iload_n S.1 S.2.1 dX2_setKeyWord_24 rfl (lv_at hl 2 rfl) ?_
        refine callVV (rest := []) S hK hw hA (kX0_putKeyWord l D cA (fun k => o (9 + k)) fi fb i w (by omega)) gX2_setKeyWord_X0_putKeyWord rfl 2 rfl (by decide +kernel) ⟨rfl, rfl⟩ ⟨by decide, by decide⟩ ⟨Nat.zero_le _, Nat.zero_le _⟩ [9, 10, 11] rfl (by decide) (fun _ => rfl) 9 rfl rfl rfl hl.1 (Nat.le_of_ble_eq_true rfl) dX2_setKeyWord_25 rfl (fun u25 H locs hp hw => ?_)
        have hw : Wd D A s.heap H locs (wX2 o cA cap0 (fun j => nI (t j)) (fun j => nI (x j)) (upd fi (4 + i) w) fb ff fa fh fp ft tk (nI p0) (nI op0) (nI m0) (nI n)) := hw
        refine lv_iconst (v := nI 1) S.1 S.2.1 dX2_setKeyWord_28 (by decide) ?_
        exact ci_ret S hr hlk hQ hw (by decide) () rfl rfl dX2_setKeyWord_29
      · rw [nI_ltI (by omega) (by omega)] at c14
        exfalso; omega

set_option maxHeartbeats 4000000 in
set_option maxRecDepth 100000 in
theorem kX2_setKeyWord_no (l : Launch) (D : va_G) (cA : ClassId) (o : Nat → Nat) (p0 op0 n m0 cap0 : Nat) (t x : Nat → Nat) (tk : Int32) (fi fb ff fa fh fp ft : Nat → Int32) (i w : Int32) (hp0 : p0 ≤ 4) (hop : op0 ≤ 1) (hn : n ≤ 1000) (hm : m0 ≤ cap0) (hcap : cap0 ≤ 400) (hno : ¬ (p0 = 0 ∧ ∃ k, k < 8 ∧ i = nI k)) : CI l D cA yX2_setKeyWord wsX2_setKeyWord { frames := 1, cells := 0, slots := 0, locals := 22 } [.ref (o 0), .int i, .int w] (wX2 o cA cap0 (fun j => nI (t j)) (fun j => nI (x j)) fi fb ff fa fh fp ft tk (nI p0) (nI op0) (nI m0) (nI n)) (fun r _ => r = nI 0) (fun _ : Unit => wX2 o cA cap0 (fun j => nI (t j)) (fun j => nI (x j)) fi fb ff fa fh fp ft tk (nI p0) (nI op0) (nI m0) (nI n)) := by
  refine ci_of (by decide) rfl (Nat.le_of_ble_eq_true rfl) ?_
  intro p e s m below meth c ls A ar Q S hK hw hA hr hlk hl hQ
  have hl : lv_has ls 3 [(0, .ref (o 0)), (1, .int i), (2, .int w)] := hl
  have hiX2 : ∀ w ∈ wsX20, w ∈ wsX2_setKeyWord := fun _ h => List.mem_cons_of_mem _ (List.mem_append_left _ (List.mem_append_right _ h))
  refine lv_aload_n S.1 S.2.1 dX2_setKeyWord_0 rfl (lv_at hl 0 rfl) ?_
  refine mg S hK hw 0 rfl rfl hiX2 4 (by decide) (List.mem_of_getElem? (i := 1) rfl) rfl dX2_setKeyWord_1 ?_
  refine lv_if_ne (tgt := 17) S.1 S.2.1 dX2_setKeyWord_4 (by decide) (fun c4 => ?_) (fun c4 => ?_)
  · rw [← nI_0, nI_eq (by omega) (by omega)] at c4
    refine lv_iconst (v := nI 0) S.1 S.2.1 dX2_setKeyWord_17 (by decide) ?_
    exact ci_ret S hr hlk hQ hw (by decide) () rfl rfl dX2_setKeyWord_18
  · rw [← nI_0, nI_eq (by omega) (by omega)] at c4
    refine lv_iload_n S.1 S.2.1 dX2_setKeyWord_7 rfl (lv_at hl 1 rfl) ?_
    refine lv_if_lt (tgt := 17) S.1 S.2.1 dX2_setKeyWord_8 (by decide) (fun c8 => ?_) (fun c8 => ?_)
    · skip
      refine lv_iconst (v := nI 0) S.1 S.2.1 dX2_setKeyWord_17 (by decide) ?_
      exact ci_ret S hr hlk hQ hw (by decide) () rfl rfl dX2_setKeyWord_18
    · skip
      refine lv_iload_n S.1 S.2.1 dX2_setKeyWord_11 rfl (lv_at hl 1 rfl) ?_
      refine lv_bipush (v := nI 8) S.1 S.2.1 dX2_setKeyWord_12 (by decide) ?_
      refine lv_icmp_lt (tgt := 19) S.1 S.2.1 dX2_setKeyWord_14 (by decide) (fun c14 => ?_) (fun c14 => ?_)
      · skip
        exact absurd ⟨by omega, in_lt (by decide) c8 c14⟩ hno
      · skip
        refine lv_iconst (v := nI 0) S.1 S.2.1 dX2_setKeyWord_17 (by decide) ?_
        exact ci_ret S hr hlk hQ hw (by decide) () rfl rfl dX2_setKeyWord_18

set_option maxHeartbeats 4000000 in
set_option maxRecDepth 100000 in
theorem kX2_setNonceWord_ok (l : Launch) (D : va_G) (cA : ClassId) (o : Nat → Nat) (p0 op0 n m0 cap0 : Nat) (t x : Nat → Nat) (tk : Int32) (fi fb ff fa fh fp ft : Nat → Int32) (i : Nat) (w : Int32) (hp0 : p0 ≤ 4) (hop : op0 ≤ 1) (hn : n ≤ 1000) (hm : m0 ≤ cap0) (hcap : cap0 ≤ 400) (hi : i < 3) (hph : p0 = 0) : CI l D cA yX2_setNonceWord wsX2_setNonceWord { frames := 1, cells := 0, slots := 0, locals := 22 } [.ref (o 0), .int (nI i), .int w] (wX2 o cA cap0 (fun j => nI (t j)) (fun j => nI (x j)) fi fb ff fa fh fp ft tk (nI p0) (nI op0) (nI m0) (nI n)) (fun r _ => r = nI 1) (fun _ : Unit => wX2 o cA cap0 (fun j => nI (t j)) (fun j => nI (x j)) (upd fi (13 + i) w) fb ff fa fh fp ft tk (nI p0) (nI op0) (nI m0) (nI n)) := by
  refine ci_of (by decide) rfl (Nat.le_of_ble_eq_true rfl) ?_
  intro p e s m below meth c ls A ar Q S hK hw hA hr hlk hl hQ
  have hl : lv_has ls 3 [(0, .ref (o 0)), (1, .int (nI i)), (2, .int w)] := hl
  have hiX2 : ∀ w ∈ wsX20, w ∈ wsX2_setNonceWord := fun _ h => List.mem_cons_of_mem _ (List.mem_append_left _ (List.mem_append_right _ h))
  refine lv_aload_n S.1 S.2.1 dX2_setNonceWord_0 rfl (lv_at hl 0 rfl) ?_
  refine mg S hK hw 0 rfl rfl hiX2 4 (by decide) (List.mem_of_getElem? (i := 1) rfl) rfl dX2_setNonceWord_1 ?_
  refine lv_if_ne (tgt := 16) S.1 S.2.1 dX2_setNonceWord_4 (by decide) (fun c4 => ?_) (fun c4 => ?_)
  · rw [← nI_0, nI_eq (by omega) (by omega)] at c4
    exfalso; omega
  · rw [← nI_0, nI_eq (by omega) (by omega)] at c4
    refine lv_iload_n S.1 S.2.1 dX2_setNonceWord_7 rfl (lv_at hl 1 rfl) ?_
    refine lv_if_lt (tgt := 16) S.1 S.2.1 dX2_setNonceWord_8 (by decide) (fun c8 => ?_) (fun c8 => ?_)
    · rw [← nI_0, nI_ltI (by omega) (by omega)] at c8
      exfalso; omega
    · rw [← nI_0, nI_ltI (by omega) (by omega)] at c8
      refine lv_iload_n S.1 S.2.1 dX2_setNonceWord_11 rfl (lv_at hl 1 rfl) ?_
      refine lv_iconst (v := nI 3) S.1 S.2.1 dX2_setNonceWord_12 (by decide) ?_
      refine lv_icmp_lt (tgt := 18) S.1 S.2.1 dX2_setNonceWord_13 (by decide) (fun c13 => ?_) (fun c13 => ?_)
      · rw [nI_ltI (by omega) (by omega)] at c13
        refine lv_aload_n S.1 S.2.1 dX2_setNonceWord_18 rfl (lv_at hl 0 rfl) ?_
        refine mg S hK hw 0 rfl rfl hiX2 0 (by decide) (List.mem_of_getElem? (i := 2) rfl) rfl dX2_setNonceWord_19 ?_
        refine lv_iload_n S.1 S.2.1 dX2_setNonceWord_22 rfl (lv_at hl 1 rfl) ?_
        refine lv_iload_n S.1 S.2.1 dX2_setNonceWord_23 rfl (lv_at hl 2 rfl) ?_
        refine callVV (rest := []) S hK hw hA (kX0_putNonceWord l D cA (fun k => o (9 + k)) fi fb i w (by omega)) gX2_setNonceWord_X0_putNonceWord rfl 2 rfl (by decide +kernel) ⟨rfl, rfl⟩ ⟨by decide, by decide⟩ ⟨Nat.zero_le _, Nat.zero_le _⟩ [9, 10, 11] rfl (by decide) (fun _ => rfl) 9 rfl rfl rfl hl.1 (Nat.le_of_ble_eq_true rfl) dX2_setNonceWord_24 rfl (fun u24 H locs hp hw => ?_)
        have hw : Wd D A s.heap H locs (wX2 o cA cap0 (fun j => nI (t j)) (fun j => nI (x j)) (upd fi (13 + i) w) fb ff fa fh fp ft tk (nI p0) (nI op0) (nI m0) (nI n)) := hw
        refine lv_iconst (v := nI 1) S.1 S.2.1 dX2_setNonceWord_27 (by decide) ?_
        exact ci_ret S hr hlk hQ hw (by decide) () rfl rfl dX2_setNonceWord_28
      · rw [nI_ltI (by omega) (by omega)] at c13
        exfalso; omega

set_option maxHeartbeats 4000000 in
set_option maxRecDepth 100000 in
theorem kX2_setNonceWord_no (l : Launch) (D : va_G) (cA : ClassId) (o : Nat → Nat) (p0 op0 n m0 cap0 : Nat) (t x : Nat → Nat) (tk : Int32) (fi fb ff fa fh fp ft : Nat → Int32) (i w : Int32) (hp0 : p0 ≤ 4) (hop : op0 ≤ 1) (hn : n ≤ 1000) (hm : m0 ≤ cap0) (hcap : cap0 ≤ 400) (hno : ¬ (p0 = 0 ∧ ∃ k, k < 3 ∧ i = nI k)) : CI l D cA yX2_setNonceWord wsX2_setNonceWord { frames := 1, cells := 0, slots := 0, locals := 22 } [.ref (o 0), .int i, .int w] (wX2 o cA cap0 (fun j => nI (t j)) (fun j => nI (x j)) fi fb ff fa fh fp ft tk (nI p0) (nI op0) (nI m0) (nI n)) (fun r _ => r = nI 0) (fun _ : Unit => wX2 o cA cap0 (fun j => nI (t j)) (fun j => nI (x j)) fi fb ff fa fh fp ft tk (nI p0) (nI op0) (nI m0) (nI n)) := by
  refine ci_of (by decide) rfl (Nat.le_of_ble_eq_true rfl) ?_
  intro p e s m below meth c ls A ar Q S hK hw hA hr hlk hl hQ
  have hl : lv_has ls 3 [(0, .ref (o 0)), (1, .int i), (2, .int w)] := hl
  have hiX2 : ∀ w ∈ wsX20, w ∈ wsX2_setNonceWord := fun _ h => List.mem_cons_of_mem _ (List.mem_append_left _ (List.mem_append_right _ h))
  refine lv_aload_n S.1 S.2.1 dX2_setNonceWord_0 rfl (lv_at hl 0 rfl) ?_
  refine mg S hK hw 0 rfl rfl hiX2 4 (by decide) (List.mem_of_getElem? (i := 1) rfl) rfl dX2_setNonceWord_1 ?_
  refine lv_if_ne (tgt := 16) S.1 S.2.1 dX2_setNonceWord_4 (by decide) (fun c4 => ?_) (fun c4 => ?_)
  · rw [← nI_0, nI_eq (by omega) (by omega)] at c4
    refine lv_iconst (v := nI 0) S.1 S.2.1 dX2_setNonceWord_16 (by decide) ?_
    exact ci_ret S hr hlk hQ hw (by decide) () rfl rfl dX2_setNonceWord_17
  · rw [← nI_0, nI_eq (by omega) (by omega)] at c4
    refine lv_iload_n S.1 S.2.1 dX2_setNonceWord_7 rfl (lv_at hl 1 rfl) ?_
    refine lv_if_lt (tgt := 16) S.1 S.2.1 dX2_setNonceWord_8 (by decide) (fun c8 => ?_) (fun c8 => ?_)
    · skip
      refine lv_iconst (v := nI 0) S.1 S.2.1 dX2_setNonceWord_16 (by decide) ?_
      exact ci_ret S hr hlk hQ hw (by decide) () rfl rfl dX2_setNonceWord_17
    · skip
      refine lv_iload_n S.1 S.2.1 dX2_setNonceWord_11 rfl (lv_at hl 1 rfl) ?_
      refine lv_iconst (v := nI 3) S.1 S.2.1 dX2_setNonceWord_12 (by decide) ?_
      refine lv_icmp_lt (tgt := 18) S.1 S.2.1 dX2_setNonceWord_13 (by decide) (fun c13 => ?_) (fun c13 => ?_)
      · skip
        exact absurd ⟨by omega, in_lt (by decide) c8 c13⟩ hno
      · skip
        refine lv_iconst (v := nI 0) S.1 S.2.1 dX2_setNonceWord_16 (by decide) ?_
        exact ci_ret S hr hlk hQ hw (by decide) () rfl rfl dX2_setNonceWord_17

set_option maxHeartbeats 4000000 in
set_option maxRecDepth 100000 in
theorem kX2_begin_ok (l : Launch) (D : va_G) (cA : ClassId) (o : Nat → Nat) (p0 op0 n m0 cap0 : Nat) (t x : Nat → Nat) (tk : Int32) (fi fb ff fa fh fp ft : Nat → Int32) (d : Nat) (hp0 : p0 ≤ 4) (hop : op0 ≤ 1) (hn : n ≤ 1000) (hm : m0 ≤ cap0) (hcap : cap0 ≤ 400) (hd : d ≤ 1) (hph : p0 = 0) (h16 : ff 16 = nI 0) : CI l D cA yX2_begin wsX2_begin { frames := 4, cells := 0, slots := 0, locals := 91 } [.ref (o 0), .int (nI d)] (wX2 o cA cap0 (fun j => nI (t j)) (fun j => nI (x j)) fi fb ff fa fh fp ft tk (nI p0) (nI op0) (nI m0) (nI n)) (fun r _ => r = nI 1) (fun _ : Unit => wX2 o cA cap0 (fun j => nI (t j)) (fun j => nI ((fun _ => 0) j)) (upd fi 12 (nI 0)) (MB (upd fi 12 (nI 0)) fb) (fun j => nI (rF (MB (upd fi 12 (nI 0)) fb) j)) (fun j => nI (bbn (MB (upd fi 12 (nI 0)) fb) (16 + j))) (hF (0, (fun _ => 0), 0)) fp ft (nI 0) (nI 1) (nI d) (nI 0) (nI 0)) := by
  refine ci_of (by decide) rfl (Nat.le_of_ble_eq_true rfl) ?_
  intro p e s m below meth c ls A ar Q S hK hw hA hr hlk hl hQ
  have hl : lv_has ls 2 [(0, .ref (o 0)), (1, .int (nI d))] := hl
  have hiX2 : ∀ w ∈ wsX20, w ∈ wsX2_begin := fun _ h => List.mem_cons_of_mem _ (List.mem_append_left _ (List.mem_append_left _ (List.mem_append_right _ h)))
  refine lv_aload_n S.1 S.2.1 dX2_begin_0 rfl (lv_at hl 0 rfl) ?_
  refine mg S hK hw 0 rfl rfl hiX2 4 (by decide) (List.mem_of_getElem? (i := 1) rfl) rfl dX2_begin_1 ?_
  refine lv_if_ne (tgt := 16) S.1 S.2.1 dX2_begin_4 (by decide) (fun c4 => ?_) (fun c4 => ?_)
  · rw [← nI_0, nI_eq (by omega) (by omega)] at c4
    exfalso; omega
  · rw [← nI_0, nI_eq (by omega) (by omega)] at c4
    refine lv_iload_n S.1 S.2.1 dX2_begin_7 rfl (lv_at hl 1 rfl) ?_
    refine lv_if_eq (tgt := 18) S.1 S.2.1 dX2_begin_8 (by decide) (fun c8 => ?_) (fun c8 => ?_)
    · rw [← nI_0, nI_eq (by omega) (by omega)] at c8
      refine lv_aload_n S.1 S.2.1 dX2_begin_18 rfl (lv_at hl 0 rfl) ?_
      refine lv_iconst (v := nI 1) S.1 S.2.1 dX2_begin_19 (by decide) ?_
      refine mp S hK hw 0 rfl rfl hiX2 tyX2_ok nmX2 4 (by decide) (List.mem_of_getElem? (i := 1) rfl) rfl rfl rfl (Nat.le_of_ble_eq_true rfl) dX2_begin_20 (fun H locs hw => ?_)
      have hw : Wd D A s.heap H locs (wX2 o cA cap0 (fun j => nI (t j)) (fun j => nI (x j)) fi fb ff fa fh fp ft tk (nI 1) (nI op0) (nI m0) (nI n)) := hw
      refine lv_aload_n S.1 S.2.1 dX2_begin_23 rfl (lv_at hl 0 rfl) ?_
      refine lv_iload_n S.1 S.2.1 dX2_begin_24 rfl (lv_at hl 1 rfl) ?_
      refine mp S hK hw 0 rfl rfl hiX2 tyX2_ok nmX2 5 (by decide) (List.mem_of_getElem? (i := 2) rfl) rfl rfl rfl (Nat.le_of_ble_eq_true rfl) dX2_begin_25 (fun H locs hw => ?_)
      have hw : Wd D A s.heap H locs (wX2 o cA cap0 (fun j => nI (t j)) (fun j => nI (x j)) fi fb ff fa fh fp ft tk (nI 1) (nI d) (nI m0) (nI n)) := hw
      refine lv_aload_n S.1 S.2.1 dX2_begin_28 rfl (lv_at hl 0 rfl) ?_
      refine lv_iconst (v := nI 0) S.1 S.2.1 dX2_begin_29 (by decide) ?_
      refine mp S hK hw 0 rfl rfl hiX2 tyX2_ok nmX2 6 (by decide) (List.mem_of_getElem? (i := 3) rfl) rfl rfl rfl (Nat.le_of_ble_eq_true rfl) dX2_begin_30 (fun H locs hw => ?_)
      have hw : Wd D A s.heap H locs (wX2 o cA cap0 (fun j => nI (t j)) (fun j => nI (x j)) fi fb ff fa fh fp ft tk (nI 1) (nI d) (nI 0) (nI n)) := hw
      refine lv_aload_n S.1 S.2.1 dX2_begin_33 rfl (lv_at hl 0 rfl) ?_
      refine lv_iconst (v := nI 0) S.1 S.2.1 dX2_begin_34 (by decide) ?_
      refine mp S hK hw 0 rfl rfl hiX2 tyX2_ok nmX2 7 (by decide) (List.mem_of_getElem? (i := 4) rfl) rfl rfl rfl (Nat.le_of_ble_eq_true rfl) dX2_begin_35 (fun H locs hw => ?_)
      have hw : Wd D A s.heap H locs (wX2 o cA cap0 (fun j => nI (t j)) (fun j => nI (x j)) fi fb ff fa fh fp ft tk (nI 1) (nI d) (nI 0) (nI 0)) := hw
      refine lv_aload_n S.1 S.2.1 dX2_begin_38 rfl (lv_at hl 0 rfl) ?_
      refine callVV (rest := []) S hK hw hA (kX2_clearExpectedTag l D cA o 1 d 0 0 cap0 t x tk fi fb ff fa fh fp ft (by omega) (by omega) (by omega) (by omega) (by omega)) gX2_begin_X2_clearExpectedTag rfl 0 rfl (by decide +kernel) ⟨rfl, rfl⟩ ⟨by decide, by decide⟩ ⟨Nat.zero_le _, Nat.zero_le _⟩ [0, 1, 2, 3, 4, 5, 6, 7, 8, 9, 10, 11] rfl (by decide) (fun _ => rfl) 0 rfl rfl rfl hl.1 (Nat.le_of_ble_eq_true rfl) dX2_begin_39 rfl (fun u39 H locs hp hw => ?_)
      have hw : Wd D A s.heap H locs (wX2 o cA cap0 (fun j => nI (t j)) (fun j => nI ((fun _ => 0) j)) fi fb ff fa fh fp ft tk (nI 1) (nI d) (nI 0) (nI 0)) := hw
      refine lv_aload_n S.1 S.2.1 dX2_begin_42 rfl (lv_at hl 0 rfl) ?_
      refine mg S hK hw 0 rfl rfl hiX2 0 (by decide) (List.mem_of_getElem? (i := 5) rfl) rfl dX2_begin_43 ?_
      refine lv_iconst (v := nI 0) S.1 S.2.1 dX2_begin_46 (by decide) ?_
      refine callVV (rest := []) S hK hw hA (kX0_makeBlock l D cA (fun k => o (9 + k)) fi fb (nI 0)) gX2_begin_X0_makeBlock rfl 1 rfl (by decide +kernel) ⟨rfl, rfl⟩ ⟨by decide, by decide⟩ ⟨Nat.zero_le _, Nat.zero_le _⟩ [9, 10, 11] rfl (by decide) (fun _ => rfl) 9 rfl rfl rfl hl.1 (Nat.le_of_ble_eq_true rfl) dX2_begin_47 rfl (fun u47 H locs hp hw => ?_)
      have hw : Wd D A s.heap H locs (wX2 o cA cap0 (fun j => nI (t j)) (fun j => nI ((fun _ => 0) j)) (upd fi 12 (nI 0)) (MB (upd fi 12 (nI 0)) fb) ff fa fh fp ft tk (nI 1) (nI d) (nI 0) (nI 0)) := hw
      refine lv_aload_n S.1 S.2.1 dX2_begin_50 rfl (lv_at hl 0 rfl) ?_
      refine mg S hK hw 0 rfl rfl hiX2 1 (by decide) (List.mem_of_getElem? (i := 6) rfl) rfl dX2_begin_51 ?_
      refine lv_aload_n S.1 S.2.1 dX2_begin_54 rfl (lv_at hl 0 rfl) ?_
      refine mg S hK hw 0 rfl rfl hiX2 0 (by decide) (List.mem_of_getElem? (i := 5) rfl) rfl dX2_begin_55 ?_
      refine callVV (rest := []) S hK hw hA (kX1_start l D cA (fun k => o (3 + k)) ff fa fh fp ft tk (upd fi 12 (nI 0)) (MB (upd fi 12 (nI 0)) fb) (by exact h16)) gX2_begin_X1_start rfl 1 rfl (by decide +kernel) ⟨rfl, rfl⟩ ⟨by decide, by decide⟩ ⟨Nat.zero_le _, Nat.zero_le _⟩ [3, 4, 5, 6, 7, 8, 9, 10, 11] rfl (by decide) (fun _ => rfl) 3 rfl rfl rfl hl.1 (Nat.le_of_ble_eq_true rfl) dX2_begin_58 rfl (fun u58 H locs hp hw => ?_)
      have hw : Wd D A s.heap H locs (wX2 o cA cap0 (fun j => nI (t j)) (fun j => nI ((fun _ => 0) j)) (upd fi 12 (nI 0)) (MB (upd fi 12 (nI 0)) fb) (fun j => nI (rF (MB (upd fi 12 (nI 0)) fb) j)) (fun j => nI (bbn (MB (upd fi 12 (nI 0)) fb) (16 + j))) (hF (0, (fun _ => 0), 0)) fp ft (nI 0) (nI 1) (nI d) (nI 0) (nI 0)) := hw
      refine lv_iconst (v := nI 1) S.1 S.2.1 dX2_begin_61 (by decide) ?_
      exact ci_ret S hr hlk hQ hw (by decide) () rfl rfl dX2_begin_62
    · rw [← nI_0, nI_eq (by omega) (by omega)] at c8
      refine lv_iload_n S.1 S.2.1 dX2_begin_11 rfl (lv_at hl 1 rfl) ?_
      refine lv_iconst (v := nI 1) S.1 S.2.1 dX2_begin_12 (by decide) ?_
      refine lv_icmp_eq (tgt := 18) S.1 S.2.1 dX2_begin_13 (by decide) (fun c13 => ?_) (fun c13 => ?_)
      · rw [nI_eq (by omega) (by omega)] at c13
        refine lv_aload_n S.1 S.2.1 dX2_begin_18 rfl (lv_at hl 0 rfl) ?_
        refine lv_iconst (v := nI 1) S.1 S.2.1 dX2_begin_19 (by decide) ?_
        refine mp S hK hw 0 rfl rfl hiX2 tyX2_ok nmX2 4 (by decide) (List.mem_of_getElem? (i := 1) rfl) rfl rfl rfl (Nat.le_of_ble_eq_true rfl) dX2_begin_20 (fun H locs hw => ?_)
        have hw : Wd D A s.heap H locs (wX2 o cA cap0 (fun j => nI (t j)) (fun j => nI (x j)) fi fb ff fa fh fp ft tk (nI 1) (nI op0) (nI m0) (nI n)) := hw
        refine lv_aload_n S.1 S.2.1 dX2_begin_23 rfl (lv_at hl 0 rfl) ?_
        refine lv_iload_n S.1 S.2.1 dX2_begin_24 rfl (lv_at hl 1 rfl) ?_
        refine mp S hK hw 0 rfl rfl hiX2 tyX2_ok nmX2 5 (by decide) (List.mem_of_getElem? (i := 2) rfl) rfl rfl rfl (Nat.le_of_ble_eq_true rfl) dX2_begin_25 (fun H locs hw => ?_)
        have hw : Wd D A s.heap H locs (wX2 o cA cap0 (fun j => nI (t j)) (fun j => nI (x j)) fi fb ff fa fh fp ft tk (nI 1) (nI d) (nI m0) (nI n)) := hw
        refine lv_aload_n S.1 S.2.1 dX2_begin_28 rfl (lv_at hl 0 rfl) ?_
        refine lv_iconst (v := nI 0) S.1 S.2.1 dX2_begin_29 (by decide) ?_
        refine mp S hK hw 0 rfl rfl hiX2 tyX2_ok nmX2 6 (by decide) (List.mem_of_getElem? (i := 3) rfl) rfl rfl rfl (Nat.le_of_ble_eq_true rfl) dX2_begin_30 (fun H locs hw => ?_)
        have hw : Wd D A s.heap H locs (wX2 o cA cap0 (fun j => nI (t j)) (fun j => nI (x j)) fi fb ff fa fh fp ft tk (nI 1) (nI d) (nI 0) (nI n)) := hw
        refine lv_aload_n S.1 S.2.1 dX2_begin_33 rfl (lv_at hl 0 rfl) ?_
        refine lv_iconst (v := nI 0) S.1 S.2.1 dX2_begin_34 (by decide) ?_
        refine mp S hK hw 0 rfl rfl hiX2 tyX2_ok nmX2 7 (by decide) (List.mem_of_getElem? (i := 4) rfl) rfl rfl rfl (Nat.le_of_ble_eq_true rfl) dX2_begin_35 (fun H locs hw => ?_)
        have hw : Wd D A s.heap H locs (wX2 o cA cap0 (fun j => nI (t j)) (fun j => nI (x j)) fi fb ff fa fh fp ft tk (nI 1) (nI d) (nI 0) (nI 0)) := hw
        refine lv_aload_n S.1 S.2.1 dX2_begin_38 rfl (lv_at hl 0 rfl) ?_
        refine callVV (rest := []) S hK hw hA (kX2_clearExpectedTag l D cA o 1 d 0 0 cap0 t x tk fi fb ff fa fh fp ft (by omega) (by omega) (by omega) (by omega) (by omega)) gX2_begin_X2_clearExpectedTag rfl 0 rfl (by decide +kernel) ⟨rfl, rfl⟩ ⟨by decide, by decide⟩ ⟨Nat.zero_le _, Nat.zero_le _⟩ [0, 1, 2, 3, 4, 5, 6, 7, 8, 9, 10, 11] rfl (by decide) (fun _ => rfl) 0 rfl rfl rfl hl.1 (Nat.le_of_ble_eq_true rfl) dX2_begin_39 rfl (fun u39 H locs hp hw => ?_)
        have hw : Wd D A s.heap H locs (wX2 o cA cap0 (fun j => nI (t j)) (fun j => nI ((fun _ => 0) j)) fi fb ff fa fh fp ft tk (nI 1) (nI d) (nI 0) (nI 0)) := hw
        refine lv_aload_n S.1 S.2.1 dX2_begin_42 rfl (lv_at hl 0 rfl) ?_
        refine mg S hK hw 0 rfl rfl hiX2 0 (by decide) (List.mem_of_getElem? (i := 5) rfl) rfl dX2_begin_43 ?_
        refine lv_iconst (v := nI 0) S.1 S.2.1 dX2_begin_46 (by decide) ?_
        refine callVV (rest := []) S hK hw hA (kX0_makeBlock l D cA (fun k => o (9 + k)) fi fb (nI 0)) gX2_begin_X0_makeBlock rfl 1 rfl (by decide +kernel) ⟨rfl, rfl⟩ ⟨by decide, by decide⟩ ⟨Nat.zero_le _, Nat.zero_le _⟩ [9, 10, 11] rfl (by decide) (fun _ => rfl) 9 rfl rfl rfl hl.1 (Nat.le_of_ble_eq_true rfl) dX2_begin_47 rfl (fun u47 H locs hp hw => ?_)
        have hw : Wd D A s.heap H locs (wX2 o cA cap0 (fun j => nI (t j)) (fun j => nI ((fun _ => 0) j)) (upd fi 12 (nI 0)) (MB (upd fi 12 (nI 0)) fb) ff fa fh fp ft tk (nI 1) (nI d) (nI 0) (nI 0)) := hw
        refine lv_aload_n S.1 S.2.1 dX2_begin_50 rfl (lv_at hl 0 rfl) ?_
        refine mg S hK hw 0 rfl rfl hiX2 1 (by decide) (List.mem_of_getElem? (i := 6) rfl) rfl dX2_begin_51 ?_
        refine lv_aload_n S.1 S.2.1 dX2_begin_54 rfl (lv_at hl 0 rfl) ?_
        refine mg S hK hw 0 rfl rfl hiX2 0 (by decide) (List.mem_of_getElem? (i := 5) rfl) rfl dX2_begin_55 ?_
        refine callVV (rest := []) S hK hw hA (kX1_start l D cA (fun k => o (3 + k)) ff fa fh fp ft tk (upd fi 12 (nI 0)) (MB (upd fi 12 (nI 0)) fb) (by exact h16)) gX2_begin_X1_start rfl 1 rfl (by decide +kernel) ⟨rfl, rfl⟩ ⟨by decide, by decide⟩ ⟨Nat.zero_le _, Nat.zero_le _⟩ [3, 4, 5, 6, 7, 8, 9, 10, 11] rfl (by decide) (fun _ => rfl) 3 rfl rfl rfl hl.1 (Nat.le_of_ble_eq_true rfl) dX2_begin_58 rfl (fun u58 H locs hp hw => ?_)
        have hw : Wd D A s.heap H locs (wX2 o cA cap0 (fun j => nI (t j)) (fun j => nI ((fun _ => 0) j)) (upd fi 12 (nI 0)) (MB (upd fi 12 (nI 0)) fb) (fun j => nI (rF (MB (upd fi 12 (nI 0)) fb) j)) (fun j => nI (bbn (MB (upd fi 12 (nI 0)) fb) (16 + j))) (hF (0, (fun _ => 0), 0)) fp ft (nI 0) (nI 1) (nI d) (nI 0) (nI 0)) := hw
        refine lv_iconst (v := nI 1) S.1 S.2.1 dX2_begin_61 (by decide) ?_
        exact ci_ret S hr hlk hQ hw (by decide) () rfl rfl dX2_begin_62
      · rw [nI_eq (by omega) (by omega)] at c13
        exfalso; omega

set_option maxHeartbeats 4000000 in
set_option maxRecDepth 100000 in
theorem kX2_begin_no (l : Launch) (D : va_G) (cA : ClassId) (o : Nat → Nat) (p0 op0 n m0 cap0 : Nat) (t x : Nat → Nat) (tk : Int32) (fi fb ff fa fh fp ft : Nat → Int32) (d : Int32) (hp0 : p0 ≤ 4) (hop : op0 ≤ 1) (hn : n ≤ 1000) (hm : m0 ≤ cap0) (hcap : cap0 ≤ 400) (hno : ¬ (p0 = 0 ∧ ∃ k, k < 2 ∧ d = nI k)) : CI l D cA yX2_begin wsX2_begin { frames := 4, cells := 0, slots := 0, locals := 91 } [.ref (o 0), .int d] (wX2 o cA cap0 (fun j => nI (t j)) (fun j => nI (x j)) fi fb ff fa fh fp ft tk (nI p0) (nI op0) (nI m0) (nI n)) (fun r _ => r = nI 0) (fun _ : Unit => wX2 o cA cap0 (fun j => nI (t j)) (fun j => nI (x j)) fi fb ff fa fh fp ft tk (nI p0) (nI op0) (nI m0) (nI n)) := by
  refine ci_of (by decide) rfl (Nat.le_of_ble_eq_true rfl) ?_
  intro p e s m below meth c ls A ar Q S hK hw hA hr hlk hl hQ
  have hl : lv_has ls 2 [(0, .ref (o 0)), (1, .int d)] := hl
  have hiX2 : ∀ w ∈ wsX20, w ∈ wsX2_begin := fun _ h => List.mem_cons_of_mem _ (List.mem_append_left _ (List.mem_append_left _ (List.mem_append_right _ h)))
  refine lv_aload_n S.1 S.2.1 dX2_begin_0 rfl (lv_at hl 0 rfl) ?_
  refine mg S hK hw 0 rfl rfl hiX2 4 (by decide) (List.mem_of_getElem? (i := 1) rfl) rfl dX2_begin_1 ?_
  refine lv_if_ne (tgt := 16) S.1 S.2.1 dX2_begin_4 (by decide) (fun c4 => ?_) (fun c4 => ?_)
  · rw [← nI_0, nI_eq (by omega) (by omega)] at c4
    refine lv_iconst (v := nI 0) S.1 S.2.1 dX2_begin_16 (by decide) ?_
    exact ci_ret S hr hlk hQ hw (by decide) () rfl rfl dX2_begin_17
  · rw [← nI_0, nI_eq (by omega) (by omega)] at c4
    refine lv_iload_n S.1 S.2.1 dX2_begin_7 rfl (lv_at hl 1 rfl) ?_
    refine lv_if_eq (tgt := 18) S.1 S.2.1 dX2_begin_8 (by decide) (fun c8 => ?_) (fun c8 => ?_)
    · skip
      exact absurd ⟨by omega, by first | exact ⟨0, by omega, c8⟩ | exact ⟨1, by omega, c13⟩⟩ hno
    · skip
      refine lv_iload_n S.1 S.2.1 dX2_begin_11 rfl (lv_at hl 1 rfl) ?_
      refine lv_iconst (v := nI 1) S.1 S.2.1 dX2_begin_12 (by decide) ?_
      refine lv_icmp_eq (tgt := 18) S.1 S.2.1 dX2_begin_13 (by decide) (fun c13 => ?_) (fun c13 => ?_)
      · skip
        exact absurd ⟨by omega, by first | exact ⟨0, by omega, c8⟩ | exact ⟨1, by omega, c13⟩⟩ hno
      · skip
        refine lv_iconst (v := nI 0) S.1 S.2.1 dX2_begin_16 (by decide) ?_
        exact ci_ret S hr hlk hQ hw (by decide) () rfl rfl dX2_begin_17

set_option maxHeartbeats 4000000 in
set_option maxRecDepth 100000 in
theorem kX2_aad_ok (l : Launch) (D : va_G) (cA : ClassId) (o : Nat → Nat) (p0 op0 n m0 cap0 : Nat) (t x : Nat → Nat) (rr sd : Nat → Nat) (T0 : TS) (fi fb fp ft : Nat → Int32) (v : Nat) (hp0 : p0 ≤ 4) (hop : op0 ≤ 1) (hn : n ≤ 1000) (hm : m0 ≤ cap0) (hcap : cap0 ≤ 400) (hT : okT T0) (hr0 : ∀ j, j < 17 → rr j ≤ 255) (hv : v < 256) (hph : p0 = 1) (hn2 : n < 1000) : CI l D cA yX2_aad wsX2_aad { frames := 4, cells := 0, slots := 0, locals := 86 } [.ref (o 0), .int (nI v)] (wX2 o cA cap0 (fun j => nI (t j)) (fun j => nI (x j)) fi fb (fun j => nI (rr j)) (fun j => nI (sd j)) (hF T0) fp ft (nI T0.2.2) (nI p0) (nI op0) (nI m0) (nI n)) (fun r _ => r = nI 1) (fun u : Nat → Int32 => wX2 o cA cap0 (fun j => nI (t j)) (fun j => nI (x j)) fi fb (fun j => nI (rr j)) (fun j => nI (sd j)) (hF (tk1 rr T0 v)) u ft (nI (tk1 rr T0 v).2.2) (nI p0) (nI op0) (nI m0) (nI (n + 1))) := by
  refine ci_of (by decide) rfl (Nat.le_of_ble_eq_true rfl) ?_
  intro p e s m below meth c ls A ar Q S hK hw hA hr hlk hl hQ
  have hl : lv_has ls 2 [(0, .ref (o 0)), (1, .int (nI v))] := hl
  have hiX2 : ∀ w ∈ wsX20, w ∈ wsX2_aad := fun _ h => List.mem_cons_of_mem _ (List.mem_append_left _ (List.mem_append_right _ h))
  refine lv_aload_n S.1 S.2.1 dX2_aad_0 rfl (lv_at hl 0 rfl) ?_
  refine mg S hK hw 0 rfl rfl hiX2 4 (by decide) (List.mem_of_getElem? (i := 1) rfl) rfl dX2_aad_1 ?_
  refine lv_iconst (v := nI 1) S.1 S.2.1 dX2_aad_4 (by decide) ?_
  refine lv_icmp_ne (tgt := 25) S.1 S.2.1 dX2_aad_5 (by decide) (fun c5 => ?_) (fun c5 => ?_)
  · rw [nI_eq (by omega) (by omega)] at c5
    exfalso; omega
  · rw [nI_eq (by omega) (by omega)] at c5
    refine lv_iload_n S.1 S.2.1 dX2_aad_8 rfl (lv_at hl 1 rfl) ?_
    refine callSI (rest := []) S hK hw hA (kX2_isByte l D cA o (nI v)) gX2_aad_X2_isByte rfl 1 rfl (by decide +kernel) ⟨rfl, rfl⟩ ⟨by decide, by decide⟩ ⟨Nat.zero_le _, Nat.zero_le _⟩ hl.1 (Nat.le_of_ble_eq_true rfl) dX2_aad_9 rfl (fun r H locs hp hw => ?_)
    refine lv_if_eq (tgt := 25) S.1 S.2.1 dX2_aad_12 (by decide) (fun c12 => ?_) (fun c12 => ?_)
    · skip
      exact absurd c12 (by01_ok hp hv)
    · skip
      refine lv_aload_n S.1 S.2.1 dX2_aad_15 rfl (lv_at hl 0 rfl) ?_
      refine mg S hK hw 0 rfl rfl hiX2 7 (by decide) (List.mem_of_getElem? (i := 2) rfl) rfl dX2_aad_16 ?_
      refine lv_sipush (v := nI 1000) S.1 S.2.1 dX2_aad_19 (by decide) ?_
      refine lv_icmp_lt (tgt := 27) S.1 S.2.1 dX2_aad_22 (by decide) (fun c22 => ?_) (fun c22 => ?_)
      · rw [nI_ltI (by omega) (by omega)] at c22
        refine lv_aload_n S.1 S.2.1 dX2_aad_27 rfl (lv_at hl 0 rfl) ?_
        refine mg S hK hw 0 rfl rfl hiX2 1 (by decide) (List.mem_of_getElem? (i := 3) rfl) rfl dX2_aad_28 ?_
        refine lv_iload_n S.1 S.2.1 dX2_aad_31 rfl (lv_at hl 1 rfl) ?_
        refine callVV (rest := []) S hK hw hA (kX1_take l D cA (fun k => o (3 + k)) (fun j => nI (sd j)) fp ft rr T0 v hT hv hr0) gX2_aad_X1_take rfl 1 rfl (by decide +kernel) ⟨rfl, rfl⟩ ⟨by decide, by decide⟩ ⟨Nat.zero_le _, Nat.zero_le _⟩ [3, 4, 5, 6, 7, 8] rfl (by decide) (fun _ => rfl) 3 rfl rfl rfl hl.1 (Nat.le_of_ble_eq_true rfl) dX2_aad_32 rfl (fun u32 H locs hp hw => ?_)
        have hw : Wd D A s.heap H locs (wX2 o cA cap0 (fun j => nI (t j)) (fun j => nI (x j)) fi fb (fun j => nI (rr j)) (fun j => nI (sd j)) (hF (tk1 rr T0 v)) u32 ft (nI (tk1 rr T0 v).2.2) (nI p0) (nI op0) (nI m0) (nI n)) := hw
        refine lv_aload_n S.1 S.2.1 dX2_aad_35 rfl (lv_at hl 0 rfl) ?_
        refine lv_dup S.1 S.2.1 dX2_aad_36 rfl ?_
        refine mg S hK hw 0 rfl rfl hiX2 7 (by decide) (List.mem_of_getElem? (i := 2) rfl) rfl dX2_aad_37 ?_
        refine lv_iconst (v := nI 1) S.1 S.2.1 dX2_aad_40 (by decide) ?_
        refine lv_iadd S.1 S.2.1 dX2_aad_41 ?_
        refine te (nI_add _ _) ?_
        refine mp S hK hw 0 rfl rfl hiX2 tyX2_ok nmX2 7 (by decide) (List.mem_of_getElem? (i := 2) rfl) rfl rfl rfl (Nat.le_of_ble_eq_true rfl) dX2_aad_42 (fun H locs hw => ?_)
        have hw : Wd D A s.heap H locs (wX2 o cA cap0 (fun j => nI (t j)) (fun j => nI (x j)) fi fb (fun j => nI (rr j)) (fun j => nI (sd j)) (hF (tk1 rr T0 v)) u32 ft (nI (tk1 rr T0 v).2.2) (nI p0) (nI op0) (nI m0) (nI (n + 1))) := hw
        refine lv_iconst (v := nI 1) S.1 S.2.1 dX2_aad_45 (by decide) ?_
        exact ci_ret S hr hlk hQ hw (by decide) u32 rfl rfl dX2_aad_46
      · rw [nI_ltI (by omega) (by omega)] at c22
        exfalso; omega

set_option maxHeartbeats 4000000 in
set_option maxRecDepth 100000 in
theorem kX2_aad_no (l : Launch) (D : va_G) (cA : ClassId) (o : Nat → Nat) (p0 op0 n m0 cap0 : Nat) (t x : Nat → Nat) (tk : Int32) (fi fb ff fa fh fp ft : Nat → Int32) (v : Int32) (hp0 : p0 ≤ 4) (hop : op0 ≤ 1) (hn : n ≤ 1000) (hm : m0 ≤ cap0) (hcap : cap0 ≤ 400) (hno : ¬ (p0 = 1 ∧ (∃ k, k < 256 ∧ v = nI k) ∧ n < 1000)) : CI l D cA yX2_aad wsX2_aad { frames := 4, cells := 0, slots := 0, locals := 86 } [.ref (o 0), .int v] (wX2 o cA cap0 (fun j => nI (t j)) (fun j => nI (x j)) fi fb ff fa fh fp ft tk (nI p0) (nI op0) (nI m0) (nI n)) (fun r _ => r = nI 0) (fun _ : Unit => wX2 o cA cap0 (fun j => nI (t j)) (fun j => nI (x j)) fi fb ff fa fh fp ft tk (nI p0) (nI op0) (nI m0) (nI n)) := by
  refine ci_of (by decide) rfl (Nat.le_of_ble_eq_true rfl) ?_
  intro p e s m below meth c ls A ar Q S hK hw hA hr hlk hl hQ
  have hl : lv_has ls 2 [(0, .ref (o 0)), (1, .int v)] := hl
  have hiX2 : ∀ w ∈ wsX20, w ∈ wsX2_aad := fun _ h => List.mem_cons_of_mem _ (List.mem_append_left _ (List.mem_append_right _ h))
  refine lv_aload_n S.1 S.2.1 dX2_aad_0 rfl (lv_at hl 0 rfl) ?_
  refine mg S hK hw 0 rfl rfl hiX2 4 (by decide) (List.mem_of_getElem? (i := 1) rfl) rfl dX2_aad_1 ?_
  refine lv_iconst (v := nI 1) S.1 S.2.1 dX2_aad_4 (by decide) ?_
  refine lv_icmp_ne (tgt := 25) S.1 S.2.1 dX2_aad_5 (by decide) (fun c5 => ?_) (fun c5 => ?_)
  · rw [nI_eq (by omega) (by omega)] at c5
    refine lv_iconst (v := nI 0) S.1 S.2.1 dX2_aad_25 (by decide) ?_
    exact ci_ret S hr hlk hQ hw (by decide) () rfl rfl dX2_aad_26
  · rw [nI_eq (by omega) (by omega)] at c5
    refine lv_iload_n S.1 S.2.1 dX2_aad_8 rfl (lv_at hl 1 rfl) ?_
    refine callSI (rest := []) S hK hw hA (kX2_isByte l D cA o v) gX2_aad_X2_isByte rfl 1 rfl (by decide +kernel) ⟨rfl, rfl⟩ ⟨by decide, by decide⟩ ⟨Nat.zero_le _, Nat.zero_le _⟩ hl.1 (Nat.le_of_ble_eq_true rfl) dX2_aad_9 rfl (fun r H locs hp hw => ?_)
    refine lv_if_eq (tgt := 25) S.1 S.2.1 dX2_aad_12 (by decide) (fun c12 => ?_) (fun c12 => ?_)
    · skip
      refine lv_iconst (v := nI 0) S.1 S.2.1 dX2_aad_25 (by decide) ?_
      exact ci_ret S hr hlk hQ hw (by decide) () rfl rfl dX2_aad_26
    · skip
      refine lv_aload_n S.1 S.2.1 dX2_aad_15 rfl (lv_at hl 0 rfl) ?_
      refine mg S hK hw 0 rfl rfl hiX2 7 (by decide) (List.mem_of_getElem? (i := 2) rfl) rfl dX2_aad_16 ?_
      refine lv_sipush (v := nI 1000) S.1 S.2.1 dX2_aad_19 (by decide) ?_
      refine lv_icmp_lt (tgt := 27) S.1 S.2.1 dX2_aad_22 (by decide) (fun c22 => ?_) (fun c22 => ?_)
      · rw [nI_ltI (by omega) (by omega)] at c22
        exact absurd ⟨by omega, by01_1 hp c12, by omega⟩ hno
      · rw [nI_ltI (by omega) (by omega)] at c22
        refine lv_iconst (v := nI 0) S.1 S.2.1 dX2_aad_25 (by decide) ?_
        exact ci_ret S hr hlk hQ hw (by decide) () rfl rfl dX2_aad_26

set_option maxHeartbeats 4000000 in
set_option maxRecDepth 100000 in
theorem kX2_data1_ok (l : Launch) (D : va_G) (cA : ClassId) (o : Nat → Nat) (p0 op0 n m0 cap0 : Nat) (t x : Nat → Nat) (rr sd : Nat → Nat) (T0 : TS) (fi fb fp ft : Nat → Int32) (v : Nat) (hp0 : p0 ≤ 4) (hop : op0 ≤ 1) (hn : n ≤ 1000) (hm : m0 ≤ cap0) (hcap : cap0 ≤ 400) (hT : okT T0) (hr0 : ∀ j, j < 17 → rr j ≤ 255) (hv : v < 256) (hph : p0 = 1) (hm2 : m0 < cap0) : CI l D cA yX2_data wsX2_data { frames := 5, cells := 0, slots := 0, locals := 112 } [.ref (o 0), .int (nI v)] (wX2 o cA cap0 (fun j => nI (t j)) (fun j => nI (x j)) fi fb (fun j => nI (rr j)) (fun j => nI (sd j)) (hF T0) fp ft (nI T0.2.2) (nI p0) (nI op0) (nI m0) (nI n)) (fun r _ => r = if op0 = 0 then nI (v ^^^ (bbn (nfb fi fb m0) (m0 % 64))) else nI 0) (fun u : Nat → Int32 => wX2 o cA cap0 (fun j => nI (updN t m0 (v ^^^ (bbn (nfb fi fb m0) (m0 % 64))) j)) (fun j => nI (x j)) (nfi fi m0) (nfb fi fb m0) (fun j => nI (rr j)) (fun j => nI (sd j)) (hF (tk1 rr (fl1 rr T0) (if op0 = 0 then (v ^^^ (bbn (nfb fi fb m0) (m0 % 64))) else v))) u ft (nI (tk1 rr (fl1 rr T0) (if op0 = 0 then (v ^^^ (bbn (nfb fi fb m0) (m0 % 64))) else v)).2.2) (nI 2) (nI op0) (nI (m0 + 1)) (nI n)) := by
  refine ci_of (by decide) rfl (Nat.le_of_ble_eq_true rfl) ?_
  intro p e s m below meth c ls A ar Q S hK hw hA hr hlk hl hQ
  have hl : lv_has ls 3 [(0, .ref (o 0)), (1, .int (nI v))] := hl
  have hiX2 : ∀ w ∈ wsX20, w ∈ wsX2_data := fun _ h => List.mem_cons_of_mem _ (List.mem_append_left _ (List.mem_append_left _ (List.mem_append_right _ h)))
  refine lv_aload_n S.1 S.2.1 dX2_data_0 rfl (lv_at hl 0 rfl) ?_
  refine callVI (rest := []) S hK hw hA (kX2_takesData l D cA o p0 op0 n m0 cap0 t x (nI T0.2.2) fi fb (fun j => nI (rr j)) (fun j => nI (sd j)) (hF T0) fp ft (by omega) (by omega) (by omega) (by omega) (by omega)) gX2_data_X2_takesData rfl 0 rfl (by decide +kernel) ⟨rfl, rfl⟩ ⟨by decide, by decide⟩ ⟨Nat.zero_le _, Nat.zero_le _⟩ [0, 1, 2, 3, 4, 5, 6, 7, 8, 9, 10, 11] rfl (by decide) (fun _ => rfl) 0 rfl rfl rfl hl.1 (Nat.le_of_ble_eq_true rfl) dX2_data_1 rfl (fun r u1 H locs hp hw => ?_)
  have hw : Wd D A s.heap H locs (wX2 o cA cap0 (fun j => nI (t j)) (fun j => nI (x j)) fi fb (fun j => nI (rr j)) (fun j => nI (sd j)) (hF T0) fp ft (nI T0.2.2) (nI p0) (nI op0) (nI m0) (nI n)) := hw
  subst hp
  refine lv_if_eq (tgt := 14) S.1 S.2.1 dX2_data_4 (by decide) (fun c4 => ?_) (fun c4 => ?_)
  · skip
    exact absurd (show p0 = 1 ∨ p0 = 2 by omega) (ifone_0 c4)
  · skip
    refine lv_iload_n S.1 S.2.1 dX2_data_7 rfl (lv_at hl 1 rfl) ?_
    refine callSI (rest := []) S hK hw hA (kX2_isByte l D cA o (nI v)) gX2_data_X2_isByte rfl 1 rfl (by decide +kernel) ⟨rfl, rfl⟩ ⟨by decide, by decide⟩ ⟨Nat.zero_le _, Nat.zero_le _⟩ hl.1 (Nat.le_of_ble_eq_true rfl) dX2_data_8 rfl (fun r H locs hp hw => ?_)
    refine lv_if_ne (tgt := 16) S.1 S.2.1 dX2_data_11 (by decide) (fun c11 => ?_) (fun c11 => ?_)
    · skip
      refine lv_aload_n S.1 S.2.1 dX2_data_16 rfl (lv_at hl 0 rfl) ?_
      refine mg S hK hw 0 rfl rfl hiX2 6 (by decide) (List.mem_of_getElem? (i := 1) rfl) rfl dX2_data_17 ?_
      refine lv_aload_n S.1 S.2.1 dX2_data_20 rfl (lv_at hl 0 rfl) ?_
      refine mg S hK hw 0 rfl rfl hiX2 2 (by decide) (List.mem_of_getElem? (i := 2) rfl) rfl dX2_data_21 ?_
      refine al S hK hw 1 rfl dX2_data_24 ?_
      refine lv_icmp_lt (tgt := 31) S.1 S.2.1 dX2_data_25 (by decide) (fun c25 => ?_) (fun c25 => ?_)
      · rw [nI_ltI (by omega) (by omega)] at c25
        refine lv_aload_n S.1 S.2.1 dX2_data_31 rfl (lv_at hl 0 rfl) ?_
        refine mg S hK hw 0 rfl rfl hiX2 4 (by decide) (List.mem_of_getElem? (i := 3) rfl) rfl dX2_data_32 ?_
        refine lv_iconst (v := nI 1) S.1 S.2.1 dX2_data_35 (by decide) ?_
        refine lv_icmp_ne (tgt := 51) S.1 S.2.1 dX2_data_36 (by decide) (fun c36 => ?_) (fun c36 => ?_)
        · rw [nI_eq (by omega) (by omega)] at c36
          exfalso; omega
        · rw [nI_eq (by omega) (by omega)] at c36
          refine lv_aload_n S.1 S.2.1 dX2_data_39 rfl (lv_at hl 0 rfl) ?_
          refine mg S hK hw 0 rfl rfl hiX2 1 (by decide) (List.mem_of_getElem? (i := 4) rfl) rfl dX2_data_40 ?_
          refine callVV (rest := []) S hK hw hA (kX1_fillUp l D cA (fun k => o (3 + k)) (fun j => nI (sd j)) fp ft rr T0 hT hr0) gX2_data_X1_fillUp rfl 0 rfl (by decide +kernel) ⟨rfl, rfl⟩ ⟨by decide, by decide⟩ ⟨Nat.zero_le _, Nat.zero_le _⟩ [3, 4, 5, 6, 7, 8] rfl (by decide) (fun _ => rfl) 3 rfl rfl rfl hl.1 (Nat.le_of_ble_eq_true rfl) dX2_data_43 rfl (fun u43 H locs hp hw => ?_)
          have hw : Wd D A s.heap H locs (wX2 o cA cap0 (fun j => nI (t j)) (fun j => nI (x j)) fi fb (fun j => nI (rr j)) (fun j => nI (sd j)) (hF (fl1 rr T0)) u43 ft (nI (fl1 rr T0).2.2) (nI p0) (nI op0) (nI m0) (nI n)) := hw
          refine lv_aload_n S.1 S.2.1 dX2_data_46 rfl (lv_at hl 0 rfl) ?_
          refine lv_iconst (v := nI 2) S.1 S.2.1 dX2_data_47 (by decide) ?_
          refine mp S hK hw 0 rfl rfl hiX2 tyX2_ok nmX2 4 (by decide) (List.mem_of_getElem? (i := 3) rfl) rfl rfl rfl (Nat.le_of_ble_eq_true rfl) dX2_data_48 (fun H locs hw => ?_)
          have hw : Wd D A s.heap H locs (wX2 o cA cap0 (fun j => nI (t j)) (fun j => nI (x j)) fi fb (fun j => nI (rr j)) (fun j => nI (sd j)) (hF (fl1 rr T0)) u43 ft (nI (fl1 rr T0).2.2) (nI 2) (nI op0) (nI m0) (nI n)) := hw
          refine lv_iload_n S.1 S.2.1 dX2_data_51 rfl (lv_at hl 1 rfl) ?_
          refine lv_aload_n S.1 S.2.1 dX2_data_52 rfl (lv_at hl 0 rfl) ?_
          refine callVI (rest := [.int (nI v)]) S hK hw hA (kX2_nextStreamByte l D cA o 2 op0 n m0 cap0 t x (nI (fl1 rr T0).2.2) fi fb (fun j => nI (rr j)) (fun j => nI (sd j)) (hF (fl1 rr T0)) u43 ft (by omega) (by omega) (by omega) (by omega) (by omega)) gX2_data_X2_nextStreamByte rfl 0 rfl (by decide +kernel) ⟨rfl, rfl⟩ ⟨by decide, by decide⟩ ⟨Nat.zero_le _, Nat.zero_le _⟩ [0, 1, 2, 3, 4, 5, 6, 7, 8, 9, 10, 11] rfl (by decide) (fun _ => rfl) 0 rfl rfl rfl hl.1 (Nat.le_of_ble_eq_true rfl) dX2_data_53 rfl (fun r u53 H locs hp hw => ?_)
          have hw : Wd D A s.heap H locs (wX2 o cA cap0 (fun j => nI (t j)) (fun j => nI (x j)) (nfi fi m0) (nfb fi fb m0) (fun j => nI (rr j)) (fun j => nI (sd j)) (hF (fl1 rr T0)) u43 ft (nI (fl1 rr T0).2.2) (nI 2) (nI op0) (nI m0) (nI n)) := hw
          subst hp
          refine lv_ixor S.1 S.2.1 dX2_data_56 ?_
          refine te (y := nI (v ^^^ (bbn (nfb fi fb m0) (m0 % 64)))) (nI_xor _ _) ?_
          refine lv_istore_n (lv' := [(2, .int (nI (v ^^^ (bbn (nfb fi fb m0) (m0 % 64))))), (0, .ref (o 0)), (1, .int (nI v))]) S.1 S.2.1 dX2_data_57 rfl hl (by decide) rfl (fun ls hl => ?_)
          refine lv_aload_n S.1 S.2.1 dX2_data_58 rfl (lv_at hl 1 rfl) ?_
          refine mg S hK hw 0 rfl rfl hiX2 2 (by decide) (List.mem_of_getElem? (i := 2) rfl) rfl dX2_data_59 ?_
          refine lv_aload_n S.1 S.2.1 dX2_data_62 rfl (lv_at hl 1 rfl) ?_
          refine mg S hK hw 0 rfl rfl hiX2 6 (by decide) (List.mem_of_getElem? (i := 1) rfl) rfl dX2_data_63 ?_
          refine lv_iload_n S.1 S.2.1 dX2_data_66 rfl (lv_at hl 0 rfl) ?_
          refine ap S hK hw 1 rfl m0 rfl (by omega) (by omega) dX2_data_67 (fun H locs hw => ?_)
          have hw : Wd D A s.heap H locs (wX2 o cA cap0 (upd (fun j => nI (t j)) m0 (nI (v ^^^ (bbn (nfb fi fb m0) (m0 % 64))))) (fun j => nI (x j)) (nfi fi m0) (nfb fi fb m0) (fun j => nI (rr j)) (fun j => nI (sd j)) (hF (fl1 rr T0)) u43 ft (nI (fl1 rr T0).2.2) (nI 2) (nI op0) (nI m0) (nI n)) := hw
          have hw := hw.cong 1 (g := fun j => nI (updN t m0 (v ^^^ (bbn (nfb fi fb m0) (m0 % 64))) j)) rfl (fun j _ => upd_nI _ _ j)
          have hw : Wd D A s.heap H locs (wX2 o cA cap0 (fun j => nI (updN t m0 (v ^^^ (bbn (nfb fi fb m0) (m0 % 64))) j)) (fun j => nI (x j)) (nfi fi m0) (nfb fi fb m0) (fun j => nI (rr j)) (fun j => nI (sd j)) (hF (fl1 rr T0)) u43 ft (nI (fl1 rr T0).2.2) (nI 2) (nI op0) (nI m0) (nI n)) := hw
          refine lv_aload_n S.1 S.2.1 dX2_data_68 rfl (lv_at hl 1 rfl) ?_
          refine lv_dup S.1 S.2.1 dX2_data_69 rfl ?_
          refine mg S hK hw 0 rfl rfl hiX2 6 (by decide) (List.mem_of_getElem? (i := 1) rfl) rfl dX2_data_70 ?_
          refine lv_iconst (v := nI 1) S.1 S.2.1 dX2_data_73 (by decide) ?_
          refine lv_iadd S.1 S.2.1 dX2_data_74 ?_
          refine te (nI_add _ _) ?_
          refine mp S hK hw 0 rfl rfl hiX2 tyX2_ok nmX2 6 (by decide) (List.mem_of_getElem? (i := 1) rfl) rfl rfl rfl (Nat.le_of_ble_eq_true rfl) dX2_data_75 (fun H locs hw => ?_)
          have hw : Wd D A s.heap H locs (wX2 o cA cap0 (fun j => nI (updN t m0 (v ^^^ (bbn (nfb fi fb m0) (m0 % 64))) j)) (fun j => nI (x j)) (nfi fi m0) (nfb fi fb m0) (fun j => nI (rr j)) (fun j => nI (sd j)) (hF (fl1 rr T0)) u43 ft (nI (fl1 rr T0).2.2) (nI 2) (nI op0) (nI (m0 + 1)) (nI n)) := hw
          refine lv_aload_n S.1 S.2.1 dX2_data_78 rfl (lv_at hl 1 rfl) ?_
          refine mg S hK hw 0 rfl rfl hiX2 1 (by decide) (List.mem_of_getElem? (i := 4) rfl) rfl dX2_data_79 ?_
          refine lv_aload_n S.1 S.2.1 dX2_data_82 rfl (lv_at hl 1 rfl) ?_
          refine callVI (rest := [.ref (o 3)]) S hK hw hA (kX2_isSealing l D cA o 2 op0 n (m0 + 1) cap0 (updN t m0 (v ^^^ (bbn (nfb fi fb m0) (m0 % 64)))) x (nI (fl1 rr T0).2.2) (nfi fi m0) (nfb fi fb m0) (fun j => nI (rr j)) (fun j => nI (sd j)) (hF (fl1 rr T0)) u43 ft (by omega) (by omega) (by omega) (by omega) (by omega)) gX2_data_X2_isSealing rfl 0 rfl (by decide +kernel) ⟨rfl, rfl⟩ ⟨by decide, by decide⟩ ⟨Nat.zero_le _, Nat.zero_le _⟩ [0, 1, 2, 3, 4, 5, 6, 7, 8, 9, 10, 11] rfl (by decide) (fun _ => rfl) 0 rfl rfl rfl hl.1 (Nat.le_of_ble_eq_true rfl) dX2_data_83 rfl (fun r u83 H locs hp hw => ?_)
          have hw : Wd D A s.heap H locs (wX2 o cA cap0 (fun j => nI (updN t m0 (v ^^^ (bbn (nfb fi fb m0) (m0 % 64))) j)) (fun j => nI (x j)) (nfi fi m0) (nfb fi fb m0) (fun j => nI (rr j)) (fun j => nI (sd j)) (hF (fl1 rr T0)) u43 ft (nI (fl1 rr T0).2.2) (nI 2) (nI op0) (nI (m0 + 1)) (nI n)) := hw
          subst hp
          refine lv_if_eq (tgt := 93) S.1 S.2.1 dX2_data_86 (by decide) (fun c86 => ?_) (fun c86 => ?_)
          · skip
            have h86 := ifone_0 c86
            refine lv_iload_n S.1 S.2.1 dX2_data_93 rfl (lv_at hl 2 rfl) ?_
            refine callVV (rest := []) S hK hw hA (kX1_take l D cA (fun k => o (3 + k)) (fun j => nI (sd j)) u43 ft rr (fl1 rr T0) v (fl1_ok hT) (by first | exact hv | exact xor_lt hv (bbn_lt _ _)) hr0) gX2_data_X1_take rfl 1 rfl (by decide +kernel) ⟨rfl, rfl⟩ ⟨by decide, by decide⟩ ⟨Nat.zero_le _, Nat.zero_le _⟩ [3, 4, 5, 6, 7, 8] rfl (by decide) (fun _ => rfl) 3 rfl rfl rfl hl.1 (Nat.le_of_ble_eq_true rfl) dX2_data_94 rfl (fun u94 H locs hp hw => ?_)
            have hw : Wd D A s.heap H locs (wX2 o cA cap0 (fun j => nI (updN t m0 (v ^^^ (bbn (nfb fi fb m0) (m0 % 64))) j)) (fun j => nI (x j)) (nfi fi m0) (nfb fi fb m0) (fun j => nI (rr j)) (fun j => nI (sd j)) (hF (tk1 rr (fl1 rr T0) v)) u94 ft (nI (tk1 rr (fl1 rr T0) v).2.2) (nI 2) (nI op0) (nI (m0 + 1)) (nI n)) := hw
            refine lv_aload_n S.1 S.2.1 dX2_data_97 rfl (lv_at hl 1 rfl) ?_
            refine callVI (rest := []) S hK hw hA (kX2_isSealing l D cA o 2 op0 n (m0 + 1) cap0 (updN t m0 (v ^^^ (bbn (nfb fi fb m0) (m0 % 64)))) x (nI (tk1 rr (fl1 rr T0) v).2.2) (nfi fi m0) (nfb fi fb m0) (fun j => nI (rr j)) (fun j => nI (sd j)) (hF (tk1 rr (fl1 rr T0) v)) u94 ft (by omega) (by omega) (by omega) (by omega) (by omega)) gX2_data_X2_isSealing rfl 0 rfl (by decide +kernel) ⟨rfl, rfl⟩ ⟨by decide, by decide⟩ ⟨Nat.zero_le _, Nat.zero_le _⟩ [0, 1, 2, 3, 4, 5, 6, 7, 8, 9, 10, 11] rfl (by decide) (fun _ => rfl) 0 rfl rfl rfl hl.1 (Nat.le_of_ble_eq_true rfl) dX2_data_98 rfl (fun r u98 H locs hp hw => ?_)
            have hw : Wd D A s.heap H locs (wX2 o cA cap0 (fun j => nI (updN t m0 (v ^^^ (bbn (nfb fi fb m0) (m0 % 64))) j)) (fun j => nI (x j)) (nfi fi m0) (nfb fi fb m0) (fun j => nI (rr j)) (fun j => nI (sd j)) (hF (tk1 rr (fl1 rr T0) v)) u94 ft (nI (tk1 rr (fl1 rr T0) v).2.2) (nI 2) (nI op0) (nI (m0 + 1)) (nI n)) := hw
            subst hp
            refine lv_if_eq (tgt := 108) S.1 S.2.1 dX2_data_101 (by decide) (fun c101 => ?_) (fun c101 => ?_)
            · skip
              have h101 := ifone_0 c101
              refine lv_iconst (v := nI 0) S.1 S.2.1 dX2_data_108 (by decide) ?_
              exact ci_ret S hr hlk hQ hw rfl u94 (by first | exact absurd h86 h101 | exact absurd h101 h86 | (rw [if_pos h86]; done) | (rw [if_neg h86]; done)) (by first | exact absurd h86 h101 | exact absurd h101 h86 | (rw [if_pos h86]; done) | (rw [if_neg h86]; done)) dX2_data_109
            · skip
              have h101 := ifone_1 c101
              refine lv_iload_n S.1 S.2.1 dX2_data_104 rfl (lv_at hl 0 rfl) ?_
              refine lv_goto (tgt := 109) S.1 S.2.1 dX2_data_105 (by decide) ?_
              exact ci_ret S hr hlk hQ hw rfl u94 (by first | exact absurd h86 h101 | exact absurd h101 h86 | (rw [if_pos h86]; done) | (rw [if_neg h86]; done)) (by first | exact absurd h86 h101 | exact absurd h101 h86 | (rw [if_pos h86]; done) | (rw [if_neg h86]; done)) dX2_data_109
          · skip
            have h86 := ifone_1 c86
            refine lv_iload_n S.1 S.2.1 dX2_data_89 rfl (lv_at hl 0 rfl) ?_
            refine lv_goto (tgt := 94) S.1 S.2.1 dX2_data_90 (by decide) ?_
            refine callVV (rest := []) S hK hw hA (kX1_take l D cA (fun k => o (3 + k)) (fun j => nI (sd j)) u43 ft rr (fl1 rr T0) (v ^^^ (bbn (nfb fi fb m0) (m0 % 64))) (fl1_ok hT) (by first | exact hv | exact xor_lt hv (bbn_lt _ _)) hr0) gX2_data_X1_take rfl 1 rfl (by decide +kernel) ⟨rfl, rfl⟩ ⟨by decide, by decide⟩ ⟨Nat.zero_le _, Nat.zero_le _⟩ [3, 4, 5, 6, 7, 8] rfl (by decide) (fun _ => rfl) 3 rfl rfl rfl hl.1 (Nat.le_of_ble_eq_true rfl) dX2_data_94 rfl (fun u94 H locs hp hw => ?_)
            have hw : Wd D A s.heap H locs (wX2 o cA cap0 (fun j => nI (updN t m0 (v ^^^ (bbn (nfb fi fb m0) (m0 % 64))) j)) (fun j => nI (x j)) (nfi fi m0) (nfb fi fb m0) (fun j => nI (rr j)) (fun j => nI (sd j)) (hF (tk1 rr (fl1 rr T0) (v ^^^ (bbn (nfb fi fb m0) (m0 % 64))))) u94 ft (nI (tk1 rr (fl1 rr T0) (v ^^^ (bbn (nfb fi fb m0) (m0 % 64)))).2.2) (nI 2) (nI op0) (nI (m0 + 1)) (nI n)) := hw
            refine lv_aload_n S.1 S.2.1 dX2_data_97 rfl (lv_at hl 1 rfl) ?_
            refine callVI (rest := []) S hK hw hA (kX2_isSealing l D cA o 2 op0 n (m0 + 1) cap0 (updN t m0 (v ^^^ (bbn (nfb fi fb m0) (m0 % 64)))) x (nI (tk1 rr (fl1 rr T0) (v ^^^ (bbn (nfb fi fb m0) (m0 % 64)))).2.2) (nfi fi m0) (nfb fi fb m0) (fun j => nI (rr j)) (fun j => nI (sd j)) (hF (tk1 rr (fl1 rr T0) (v ^^^ (bbn (nfb fi fb m0) (m0 % 64))))) u94 ft (by omega) (by omega) (by omega) (by omega) (by omega)) gX2_data_X2_isSealing rfl 0 rfl (by decide +kernel) ⟨rfl, rfl⟩ ⟨by decide, by decide⟩ ⟨Nat.zero_le _, Nat.zero_le _⟩ [0, 1, 2, 3, 4, 5, 6, 7, 8, 9, 10, 11] rfl (by decide) (fun _ => rfl) 0 rfl rfl rfl hl.1 (Nat.le_of_ble_eq_true rfl) dX2_data_98 rfl (fun r u98 H locs hp hw => ?_)
            have hw : Wd D A s.heap H locs (wX2 o cA cap0 (fun j => nI (updN t m0 (v ^^^ (bbn (nfb fi fb m0) (m0 % 64))) j)) (fun j => nI (x j)) (nfi fi m0) (nfb fi fb m0) (fun j => nI (rr j)) (fun j => nI (sd j)) (hF (tk1 rr (fl1 rr T0) (v ^^^ (bbn (nfb fi fb m0) (m0 % 64))))) u94 ft (nI (tk1 rr (fl1 rr T0) (v ^^^ (bbn (nfb fi fb m0) (m0 % 64)))).2.2) (nI 2) (nI op0) (nI (m0 + 1)) (nI n)) := hw
            subst hp
            refine lv_if_eq (tgt := 108) S.1 S.2.1 dX2_data_101 (by decide) (fun c101 => ?_) (fun c101 => ?_)
            · skip
              have h101 := ifone_0 c101
              refine lv_iconst (v := nI 0) S.1 S.2.1 dX2_data_108 (by decide) ?_
              exact ci_ret S hr hlk hQ hw rfl u94 (by first | exact absurd h86 h101 | exact absurd h101 h86 | (rw [if_pos h86]; done) | (rw [if_neg h86]; done)) (by first | exact absurd h86 h101 | exact absurd h101 h86 | (rw [if_pos h86]; done) | (rw [if_neg h86]; done)) dX2_data_109
            · skip
              have h101 := ifone_1 c101
              refine lv_iload_n S.1 S.2.1 dX2_data_104 rfl (lv_at hl 0 rfl) ?_
              refine lv_goto (tgt := 109) S.1 S.2.1 dX2_data_105 (by decide) ?_
              exact ci_ret S hr hlk hQ hw rfl u94 (by first | exact absurd h86 h101 | exact absurd h101 h86 | (rw [if_pos h86]; done) | (rw [if_neg h86]; done)) (by first | exact absurd h86 h101 | exact absurd h101 h86 | (rw [if_pos h86]; done) | (rw [if_neg h86]; done)) dX2_data_109
      · rw [nI_ltI (by omega) (by omega)] at c25
        exfalso; omega
    · skip
      exact absurd c11 (by01_ok hp hv)

set_option maxHeartbeats 4000000 in
set_option maxRecDepth 100000 in
theorem kX2_data2_ok (l : Launch) (D : va_G) (cA : ClassId) (o : Nat → Nat) (p0 op0 n m0 cap0 : Nat) (t x : Nat → Nat) (rr sd : Nat → Nat) (T0 : TS) (fi fb fp ft : Nat → Int32) (v : Nat) (hp0 : p0 ≤ 4) (hop : op0 ≤ 1) (hn : n ≤ 1000) (hm : m0 ≤ cap0) (hcap : cap0 ≤ 400) (hT : okT T0) (hr0 : ∀ j, j < 17 → rr j ≤ 255) (hv : v < 256) (hph : p0 = 2) (hm2 : m0 < cap0) : CI l D cA yX2_data wsX2_data { frames := 5, cells := 0, slots := 0, locals := 112 } [.ref (o 0), .int (nI v)] (wX2 o cA cap0 (fun j => nI (t j)) (fun j => nI (x j)) fi fb (fun j => nI (rr j)) (fun j => nI (sd j)) (hF T0) fp ft (nI T0.2.2) (nI p0) (nI op0) (nI m0) (nI n)) (fun r _ => r = if op0 = 0 then nI (v ^^^ (bbn (nfb fi fb m0) (m0 % 64))) else nI 0) (fun u : Nat → Int32 => wX2 o cA cap0 (fun j => nI (updN t m0 (v ^^^ (bbn (nfb fi fb m0) (m0 % 64))) j)) (fun j => nI (x j)) (nfi fi m0) (nfb fi fb m0) (fun j => nI (rr j)) (fun j => nI (sd j)) (hF (tk1 rr T0 (if op0 = 0 then (v ^^^ (bbn (nfb fi fb m0) (m0 % 64))) else v))) u ft (nI (tk1 rr T0 (if op0 = 0 then (v ^^^ (bbn (nfb fi fb m0) (m0 % 64))) else v)).2.2) (nI p0) (nI op0) (nI (m0 + 1)) (nI n)) := by
  refine ci_of (by decide) rfl (Nat.le_of_ble_eq_true rfl) ?_
  intro p e s m below meth c ls A ar Q S hK hw hA hr hlk hl hQ
  have hl : lv_has ls 3 [(0, .ref (o 0)), (1, .int (nI v))] := hl
  have hiX2 : ∀ w ∈ wsX20, w ∈ wsX2_data := fun _ h => List.mem_cons_of_mem _ (List.mem_append_left _ (List.mem_append_left _ (List.mem_append_right _ h)))
  refine lv_aload_n S.1 S.2.1 dX2_data_0 rfl (lv_at hl 0 rfl) ?_
  refine callVI (rest := []) S hK hw hA (kX2_takesData l D cA o p0 op0 n m0 cap0 t x (nI T0.2.2) fi fb (fun j => nI (rr j)) (fun j => nI (sd j)) (hF T0) fp ft (by omega) (by omega) (by omega) (by omega) (by omega)) gX2_data_X2_takesData rfl 0 rfl (by decide +kernel) ⟨rfl, rfl⟩ ⟨by decide, by decide⟩ ⟨Nat.zero_le _, Nat.zero_le _⟩ [0, 1, 2, 3, 4, 5, 6, 7, 8, 9, 10, 11] rfl (by decide) (fun _ => rfl) 0 rfl rfl rfl hl.1 (Nat.le_of_ble_eq_true rfl) dX2_data_1 rfl (fun r u1 H locs hp hw => ?_)
  have hw : Wd D A s.heap H locs (wX2 o cA cap0 (fun j => nI (t j)) (fun j => nI (x j)) fi fb (fun j => nI (rr j)) (fun j => nI (sd j)) (hF T0) fp ft (nI T0.2.2) (nI p0) (nI op0) (nI m0) (nI n)) := hw
  subst hp
  refine lv_if_eq (tgt := 14) S.1 S.2.1 dX2_data_4 (by decide) (fun c4 => ?_) (fun c4 => ?_)
  · skip
    exact absurd (show p0 = 1 ∨ p0 = 2 by omega) (ifone_0 c4)
  · skip
    refine lv_iload_n S.1 S.2.1 dX2_data_7 rfl (lv_at hl 1 rfl) ?_
    refine callSI (rest := []) S hK hw hA (kX2_isByte l D cA o (nI v)) gX2_data_X2_isByte rfl 1 rfl (by decide +kernel) ⟨rfl, rfl⟩ ⟨by decide, by decide⟩ ⟨Nat.zero_le _, Nat.zero_le _⟩ hl.1 (Nat.le_of_ble_eq_true rfl) dX2_data_8 rfl (fun r H locs hp hw => ?_)
    refine lv_if_ne (tgt := 16) S.1 S.2.1 dX2_data_11 (by decide) (fun c11 => ?_) (fun c11 => ?_)
    · skip
      refine lv_aload_n S.1 S.2.1 dX2_data_16 rfl (lv_at hl 0 rfl) ?_
      refine mg S hK hw 0 rfl rfl hiX2 6 (by decide) (List.mem_of_getElem? (i := 1) rfl) rfl dX2_data_17 ?_
      refine lv_aload_n S.1 S.2.1 dX2_data_20 rfl (lv_at hl 0 rfl) ?_
      refine mg S hK hw 0 rfl rfl hiX2 2 (by decide) (List.mem_of_getElem? (i := 2) rfl) rfl dX2_data_21 ?_
      refine al S hK hw 1 rfl dX2_data_24 ?_
      refine lv_icmp_lt (tgt := 31) S.1 S.2.1 dX2_data_25 (by decide) (fun c25 => ?_) (fun c25 => ?_)
      · rw [nI_ltI (by omega) (by omega)] at c25
        refine lv_aload_n S.1 S.2.1 dX2_data_31 rfl (lv_at hl 0 rfl) ?_
        refine mg S hK hw 0 rfl rfl hiX2 4 (by decide) (List.mem_of_getElem? (i := 3) rfl) rfl dX2_data_32 ?_
        refine lv_iconst (v := nI 1) S.1 S.2.1 dX2_data_35 (by decide) ?_
        refine lv_icmp_ne (tgt := 51) S.1 S.2.1 dX2_data_36 (by decide) (fun c36 => ?_) (fun c36 => ?_)
        · rw [nI_eq (by omega) (by omega)] at c36
          refine lv_iload_n S.1 S.2.1 dX2_data_51 rfl (lv_at hl 1 rfl) ?_
          refine lv_aload_n S.1 S.2.1 dX2_data_52 rfl (lv_at hl 0 rfl) ?_
          refine callVI (rest := [.int (nI v)]) S hK hw hA (kX2_nextStreamByte l D cA o p0 op0 n m0 cap0 t x (nI T0.2.2) fi fb (fun j => nI (rr j)) (fun j => nI (sd j)) (hF T0) fp ft (by omega) (by omega) (by omega) (by omega) (by omega)) gX2_data_X2_nextStreamByte rfl 0 rfl (by decide +kernel) ⟨rfl, rfl⟩ ⟨by decide, by decide⟩ ⟨Nat.zero_le _, Nat.zero_le _⟩ [0, 1, 2, 3, 4, 5, 6, 7, 8, 9, 10, 11] rfl (by decide) (fun _ => rfl) 0 rfl rfl rfl hl.1 (Nat.le_of_ble_eq_true rfl) dX2_data_53 rfl (fun r u53 H locs hp hw => ?_)
          have hw : Wd D A s.heap H locs (wX2 o cA cap0 (fun j => nI (t j)) (fun j => nI (x j)) (nfi fi m0) (nfb fi fb m0) (fun j => nI (rr j)) (fun j => nI (sd j)) (hF T0) fp ft (nI T0.2.2) (nI p0) (nI op0) (nI m0) (nI n)) := hw
          subst hp
          refine lv_ixor S.1 S.2.1 dX2_data_56 ?_
          refine te (y := nI (v ^^^ (bbn (nfb fi fb m0) (m0 % 64)))) (nI_xor _ _) ?_
          refine lv_istore_n (lv' := [(2, .int (nI (v ^^^ (bbn (nfb fi fb m0) (m0 % 64))))), (0, .ref (o 0)), (1, .int (nI v))]) S.1 S.2.1 dX2_data_57 rfl hl (by decide) rfl (fun ls hl => ?_)
          refine lv_aload_n S.1 S.2.1 dX2_data_58 rfl (lv_at hl 1 rfl) ?_
          refine mg S hK hw 0 rfl rfl hiX2 2 (by decide) (List.mem_of_getElem? (i := 2) rfl) rfl dX2_data_59 ?_
          refine lv_aload_n S.1 S.2.1 dX2_data_62 rfl (lv_at hl 1 rfl) ?_
          refine mg S hK hw 0 rfl rfl hiX2 6 (by decide) (List.mem_of_getElem? (i := 1) rfl) rfl dX2_data_63 ?_
          refine lv_iload_n S.1 S.2.1 dX2_data_66 rfl (lv_at hl 0 rfl) ?_
          refine ap S hK hw 1 rfl m0 rfl (by omega) (by omega) dX2_data_67 (fun H locs hw => ?_)
          have hw : Wd D A s.heap H locs (wX2 o cA cap0 (upd (fun j => nI (t j)) m0 (nI (v ^^^ (bbn (nfb fi fb m0) (m0 % 64))))) (fun j => nI (x j)) (nfi fi m0) (nfb fi fb m0) (fun j => nI (rr j)) (fun j => nI (sd j)) (hF T0) fp ft (nI T0.2.2) (nI p0) (nI op0) (nI m0) (nI n)) := hw
          have hw := hw.cong 1 (g := fun j => nI (updN t m0 (v ^^^ (bbn (nfb fi fb m0) (m0 % 64))) j)) rfl (fun j _ => upd_nI _ _ j)
          have hw : Wd D A s.heap H locs (wX2 o cA cap0 (fun j => nI (updN t m0 (v ^^^ (bbn (nfb fi fb m0) (m0 % 64))) j)) (fun j => nI (x j)) (nfi fi m0) (nfb fi fb m0) (fun j => nI (rr j)) (fun j => nI (sd j)) (hF T0) fp ft (nI T0.2.2) (nI p0) (nI op0) (nI m0) (nI n)) := hw
          refine lv_aload_n S.1 S.2.1 dX2_data_68 rfl (lv_at hl 1 rfl) ?_
          refine lv_dup S.1 S.2.1 dX2_data_69 rfl ?_
          refine mg S hK hw 0 rfl rfl hiX2 6 (by decide) (List.mem_of_getElem? (i := 1) rfl) rfl dX2_data_70 ?_
          refine lv_iconst (v := nI 1) S.1 S.2.1 dX2_data_73 (by decide) ?_
          refine lv_iadd S.1 S.2.1 dX2_data_74 ?_
          refine te (nI_add _ _) ?_
          refine mp S hK hw 0 rfl rfl hiX2 tyX2_ok nmX2 6 (by decide) (List.mem_of_getElem? (i := 1) rfl) rfl rfl rfl (Nat.le_of_ble_eq_true rfl) dX2_data_75 (fun H locs hw => ?_)
          have hw : Wd D A s.heap H locs (wX2 o cA cap0 (fun j => nI (updN t m0 (v ^^^ (bbn (nfb fi fb m0) (m0 % 64))) j)) (fun j => nI (x j)) (nfi fi m0) (nfb fi fb m0) (fun j => nI (rr j)) (fun j => nI (sd j)) (hF T0) fp ft (nI T0.2.2) (nI p0) (nI op0) (nI (m0 + 1)) (nI n)) := hw
          refine lv_aload_n S.1 S.2.1 dX2_data_78 rfl (lv_at hl 1 rfl) ?_
          refine mg S hK hw 0 rfl rfl hiX2 1 (by decide) (List.mem_of_getElem? (i := 4) rfl) rfl dX2_data_79 ?_
          refine lv_aload_n S.1 S.2.1 dX2_data_82 rfl (lv_at hl 1 rfl) ?_
          refine callVI (rest := [.ref (o 3)]) S hK hw hA (kX2_isSealing l D cA o p0 op0 n (m0 + 1) cap0 (updN t m0 (v ^^^ (bbn (nfb fi fb m0) (m0 % 64)))) x (nI T0.2.2) (nfi fi m0) (nfb fi fb m0) (fun j => nI (rr j)) (fun j => nI (sd j)) (hF T0) fp ft (by omega) (by omega) (by omega) (by omega) (by omega)) gX2_data_X2_isSealing rfl 0 rfl (by decide +kernel) ⟨rfl, rfl⟩ ⟨by decide, by decide⟩ ⟨Nat.zero_le _, Nat.zero_le _⟩ [0, 1, 2, 3, 4, 5, 6, 7, 8, 9, 10, 11] rfl (by decide) (fun _ => rfl) 0 rfl rfl rfl hl.1 (Nat.le_of_ble_eq_true rfl) dX2_data_83 rfl (fun r u83 H locs hp hw => ?_)
          have hw : Wd D A s.heap H locs (wX2 o cA cap0 (fun j => nI (updN t m0 (v ^^^ (bbn (nfb fi fb m0) (m0 % 64))) j)) (fun j => nI (x j)) (nfi fi m0) (nfb fi fb m0) (fun j => nI (rr j)) (fun j => nI (sd j)) (hF T0) fp ft (nI T0.2.2) (nI p0) (nI op0) (nI (m0 + 1)) (nI n)) := hw
          subst hp
          refine lv_if_eq (tgt := 93) S.1 S.2.1 dX2_data_86 (by decide) (fun c86 => ?_) (fun c86 => ?_)
          · skip
            have h86 := ifone_0 c86
            refine lv_iload_n S.1 S.2.1 dX2_data_93 rfl (lv_at hl 2 rfl) ?_
            refine callVV (rest := []) S hK hw hA (kX1_take l D cA (fun k => o (3 + k)) (fun j => nI (sd j)) fp ft rr T0 v hT (by first | exact hv | exact xor_lt hv (bbn_lt _ _)) hr0) gX2_data_X1_take rfl 1 rfl (by decide +kernel) ⟨rfl, rfl⟩ ⟨by decide, by decide⟩ ⟨Nat.zero_le _, Nat.zero_le _⟩ [3, 4, 5, 6, 7, 8] rfl (by decide) (fun _ => rfl) 3 rfl rfl rfl hl.1 (Nat.le_of_ble_eq_true rfl) dX2_data_94 rfl (fun u94 H locs hp hw => ?_)
            have hw : Wd D A s.heap H locs (wX2 o cA cap0 (fun j => nI (updN t m0 (v ^^^ (bbn (nfb fi fb m0) (m0 % 64))) j)) (fun j => nI (x j)) (nfi fi m0) (nfb fi fb m0) (fun j => nI (rr j)) (fun j => nI (sd j)) (hF (tk1 rr T0 v)) u94 ft (nI (tk1 rr T0 v).2.2) (nI p0) (nI op0) (nI (m0 + 1)) (nI n)) := hw
            refine lv_aload_n S.1 S.2.1 dX2_data_97 rfl (lv_at hl 1 rfl) ?_
            refine callVI (rest := []) S hK hw hA (kX2_isSealing l D cA o p0 op0 n (m0 + 1) cap0 (updN t m0 (v ^^^ (bbn (nfb fi fb m0) (m0 % 64)))) x (nI (tk1 rr T0 v).2.2) (nfi fi m0) (nfb fi fb m0) (fun j => nI (rr j)) (fun j => nI (sd j)) (hF (tk1 rr T0 v)) u94 ft (by omega) (by omega) (by omega) (by omega) (by omega)) gX2_data_X2_isSealing rfl 0 rfl (by decide +kernel) ⟨rfl, rfl⟩ ⟨by decide, by decide⟩ ⟨Nat.zero_le _, Nat.zero_le _⟩ [0, 1, 2, 3, 4, 5, 6, 7, 8, 9, 10, 11] rfl (by decide) (fun _ => rfl) 0 rfl rfl rfl hl.1 (Nat.le_of_ble_eq_true rfl) dX2_data_98 rfl (fun r u98 H locs hp hw => ?_)
            have hw : Wd D A s.heap H locs (wX2 o cA cap0 (fun j => nI (updN t m0 (v ^^^ (bbn (nfb fi fb m0) (m0 % 64))) j)) (fun j => nI (x j)) (nfi fi m0) (nfb fi fb m0) (fun j => nI (rr j)) (fun j => nI (sd j)) (hF (tk1 rr T0 v)) u94 ft (nI (tk1 rr T0 v).2.2) (nI p0) (nI op0) (nI (m0 + 1)) (nI n)) := hw
            subst hp
            refine lv_if_eq (tgt := 108) S.1 S.2.1 dX2_data_101 (by decide) (fun c101 => ?_) (fun c101 => ?_)
            · skip
              have h101 := ifone_0 c101
              refine lv_iconst (v := nI 0) S.1 S.2.1 dX2_data_108 (by decide) ?_
              exact ci_ret S hr hlk hQ hw rfl u94 (by first | exact absurd h86 h101 | exact absurd h101 h86 | (rw [if_pos h86]; done) | (rw [if_neg h86]; done)) (by first | exact absurd h86 h101 | exact absurd h101 h86 | (rw [if_pos h86]; done) | (rw [if_neg h86]; done)) dX2_data_109
            · skip
              have h101 := ifone_1 c101
              refine lv_iload_n S.1 S.2.1 dX2_data_104 rfl (lv_at hl 0 rfl) ?_
              refine lv_goto (tgt := 109) S.1 S.2.1 dX2_data_105 (by decide) ?_
              exact ci_ret S hr hlk hQ hw rfl u94 (by first | exact absurd h86 h101 | exact absurd h101 h86 | (rw [if_pos h86]; done) | (rw [if_neg h86]; done)) (by first | exact absurd h86 h101 | exact absurd h101 h86 | (rw [if_pos h86]; done) | (rw [if_neg h86]; done)) dX2_data_109
          · skip
            have h86 := ifone_1 c86
            refine lv_iload_n S.1 S.2.1 dX2_data_89 rfl (lv_at hl 0 rfl) ?_
            refine lv_goto (tgt := 94) S.1 S.2.1 dX2_data_90 (by decide) ?_
            refine callVV (rest := []) S hK hw hA (kX1_take l D cA (fun k => o (3 + k)) (fun j => nI (sd j)) fp ft rr T0 (v ^^^ (bbn (nfb fi fb m0) (m0 % 64))) hT (by first | exact hv | exact xor_lt hv (bbn_lt _ _)) hr0) gX2_data_X1_take rfl 1 rfl (by decide +kernel) ⟨rfl, rfl⟩ ⟨by decide, by decide⟩ ⟨Nat.zero_le _, Nat.zero_le _⟩ [3, 4, 5, 6, 7, 8] rfl (by decide) (fun _ => rfl) 3 rfl rfl rfl hl.1 (Nat.le_of_ble_eq_true rfl) dX2_data_94 rfl (fun u94 H locs hp hw => ?_)
            have hw : Wd D A s.heap H locs (wX2 o cA cap0 (fun j => nI (updN t m0 (v ^^^ (bbn (nfb fi fb m0) (m0 % 64))) j)) (fun j => nI (x j)) (nfi fi m0) (nfb fi fb m0) (fun j => nI (rr j)) (fun j => nI (sd j)) (hF (tk1 rr T0 (v ^^^ (bbn (nfb fi fb m0) (m0 % 64))))) u94 ft (nI (tk1 rr T0 (v ^^^ (bbn (nfb fi fb m0) (m0 % 64)))).2.2) (nI p0) (nI op0) (nI (m0 + 1)) (nI n)) := hw
            refine lv_aload_n S.1 S.2.1 dX2_data_97 rfl (lv_at hl 1 rfl) ?_
            refine callVI (rest := []) S hK hw hA (kX2_isSealing l D cA o p0 op0 n (m0 + 1) cap0 (updN t m0 (v ^^^ (bbn (nfb fi fb m0) (m0 % 64)))) x (nI (tk1 rr T0 (v ^^^ (bbn (nfb fi fb m0) (m0 % 64)))).2.2) (nfi fi m0) (nfb fi fb m0) (fun j => nI (rr j)) (fun j => nI (sd j)) (hF (tk1 rr T0 (v ^^^ (bbn (nfb fi fb m0) (m0 % 64))))) u94 ft (by omega) (by omega) (by omega) (by omega) (by omega)) gX2_data_X2_isSealing rfl 0 rfl (by decide +kernel) ⟨rfl, rfl⟩ ⟨by decide, by decide⟩ ⟨Nat.zero_le _, Nat.zero_le _⟩ [0, 1, 2, 3, 4, 5, 6, 7, 8, 9, 10, 11] rfl (by decide) (fun _ => rfl) 0 rfl rfl rfl hl.1 (Nat.le_of_ble_eq_true rfl) dX2_data_98 rfl (fun r u98 H locs hp hw => ?_)
            have hw : Wd D A s.heap H locs (wX2 o cA cap0 (fun j => nI (updN t m0 (v ^^^ (bbn (nfb fi fb m0) (m0 % 64))) j)) (fun j => nI (x j)) (nfi fi m0) (nfb fi fb m0) (fun j => nI (rr j)) (fun j => nI (sd j)) (hF (tk1 rr T0 (v ^^^ (bbn (nfb fi fb m0) (m0 % 64))))) u94 ft (nI (tk1 rr T0 (v ^^^ (bbn (nfb fi fb m0) (m0 % 64)))).2.2) (nI p0) (nI op0) (nI (m0 + 1)) (nI n)) := hw
            subst hp
            refine lv_if_eq (tgt := 108) S.1 S.2.1 dX2_data_101 (by decide) (fun c101 => ?_) (fun c101 => ?_)
            · skip
              have h101 := ifone_0 c101
              refine lv_iconst (v := nI 0) S.1 S.2.1 dX2_data_108 (by decide) ?_
              exact ci_ret S hr hlk hQ hw rfl u94 (by first | exact absurd h86 h101 | exact absurd h101 h86 | (rw [if_pos h86]; done) | (rw [if_neg h86]; done)) (by first | exact absurd h86 h101 | exact absurd h101 h86 | (rw [if_pos h86]; done) | (rw [if_neg h86]; done)) dX2_data_109
            · skip
              have h101 := ifone_1 c101
              refine lv_iload_n S.1 S.2.1 dX2_data_104 rfl (lv_at hl 0 rfl) ?_
              refine lv_goto (tgt := 109) S.1 S.2.1 dX2_data_105 (by decide) ?_
              exact ci_ret S hr hlk hQ hw rfl u94 (by first | exact absurd h86 h101 | exact absurd h101 h86 | (rw [if_pos h86]; done) | (rw [if_neg h86]; done)) (by first | exact absurd h86 h101 | exact absurd h101 h86 | (rw [if_pos h86]; done) | (rw [if_neg h86]; done)) dX2_data_109
        · rw [nI_eq (by omega) (by omega)] at c36
          exfalso; omega
      · rw [nI_ltI (by omega) (by omega)] at c25
        exfalso; omega
    · skip
      exact absurd c11 (by01_ok hp hv)

set_option maxHeartbeats 4000000 in
set_option maxRecDepth 100000 in
theorem kX2_data_no (l : Launch) (D : va_G) (cA : ClassId) (o : Nat → Nat) (p0 op0 n m0 cap0 : Nat) (t x : Nat → Nat) (tk : Int32) (fi fb ff fa fh fp ft : Nat → Int32) (v : Int32) (hp0 : p0 ≤ 4) (hop : op0 ≤ 1) (hn : n ≤ 1000) (hm : m0 ≤ cap0) (hcap : cap0 ≤ 400) (hno : ¬ ((p0 = 1 ∨ p0 = 2) ∧ ∃ k, k < 256 ∧ v = nI k)) : CI l D cA yX2_data wsX2_data { frames := 5, cells := 0, slots := 0, locals := 112 } [.ref (o 0), .int v] (wX2 o cA cap0 (fun j => nI (t j)) (fun j => nI (x j)) fi fb ff fa fh fp ft tk (nI p0) (nI op0) (nI m0) (nI n)) (fun r _ => r = -1) (fun _ : Unit => wX2 o cA cap0 (fun j => nI (t j)) (fun j => nI (x j)) fi fb ff fa fh fp ft tk (nI p0) (nI op0) (nI m0) (nI n)) := by
  refine ci_of (by decide) rfl (Nat.le_of_ble_eq_true rfl) ?_
  intro p e s m below meth c ls A ar Q S hK hw hA hr hlk hl hQ
  have hl : lv_has ls 3 [(0, .ref (o 0)), (1, .int v)] := hl
  refine lv_aload_n S.1 S.2.1 dX2_data_0 rfl (lv_at hl 0 rfl) ?_
  refine callVI (rest := []) S hK hw hA (kX2_takesData l D cA o p0 op0 n m0 cap0 t x tk fi fb ff fa fh fp ft (by omega) (by omega) (by omega) (by omega) (by omega)) gX2_data_X2_takesData rfl 0 rfl (by decide +kernel) ⟨rfl, rfl⟩ ⟨by decide, by decide⟩ ⟨Nat.zero_le _, Nat.zero_le _⟩ [0, 1, 2, 3, 4, 5, 6, 7, 8, 9, 10, 11] rfl (by decide) (fun _ => rfl) 0 rfl rfl rfl hl.1 (Nat.le_of_ble_eq_true rfl) dX2_data_1 rfl (fun r u1 H locs hp hw => ?_)
  have hw : Wd D A s.heap H locs (wX2 o cA cap0 (fun j => nI (t j)) (fun j => nI (x j)) fi fb ff fa fh fp ft tk (nI p0) (nI op0) (nI m0) (nI n)) := hw
  subst hp
  refine lv_if_eq (tgt := 14) S.1 S.2.1 dX2_data_4 (by decide) (fun c4 => ?_) (fun c4 => ?_)
  · skip
    refine lv_iconst (v := -1) S.1 S.2.1 dX2_data_14 (by decide) ?_
    exact ci_ret S hr hlk hQ hw rfl () rfl rfl dX2_data_15
  · skip
    refine lv_iload_n S.1 S.2.1 dX2_data_7 rfl (lv_at hl 1 rfl) ?_
    refine callSI (rest := []) S hK hw hA (kX2_isByte l D cA o v) gX2_data_X2_isByte rfl 1 rfl (by decide +kernel) ⟨rfl, rfl⟩ ⟨by decide, by decide⟩ ⟨Nat.zero_le _, Nat.zero_le _⟩ hl.1 (Nat.le_of_ble_eq_true rfl) dX2_data_8 rfl (fun r H locs hp hw => ?_)
    refine lv_if_ne (tgt := 16) S.1 S.2.1 dX2_data_11 (by decide) (fun c11 => ?_) (fun c11 => ?_)
    · skip
      exact absurd ⟨ifone_1 c4, by01_1 hp c11⟩ hno
    · skip
      refine lv_iconst (v := -1) S.1 S.2.1 dX2_data_14 (by decide) ?_
      exact ci_ret S hr hlk hQ hw rfl () rfl rfl dX2_data_15

set_option maxHeartbeats 4000000 in
set_option maxRecDepth 100000 in
theorem kX2_data_full (l : Launch) (D : va_G) (cA : ClassId) (o : Nat → Nat) (p0 op0 n m0 cap0 : Nat) (t x : Nat → Nat) (tk : Int32) (fi fb ff fa fh fp ft : Nat → Int32) (v : Nat) (hp0 : p0 ≤ 4) (hop : op0 ≤ 1) (hn : n ≤ 1000) (hm : m0 ≤ cap0) (hcap : cap0 ≤ 400) (hv : v < 256) (hph : p0 = 1 ∨ p0 = 2) (hm2 : m0 = cap0) : CI l D cA yX2_data wsX2_data { frames := 5, cells := 0, slots := 0, locals := 112 } [.ref (o 0), .int (nI v)] (wX2 o cA cap0 (fun j => nI (t j)) (fun j => nI (x j)) fi fb ff fa fh fp ft tk (nI p0) (nI op0) (nI m0) (nI n)) (fun r _ => r = -2) (fun _ : Unit => wX2 o cA cap0 (fun j => nI (t j)) (fun j => nI (x j)) fi fb ff fa fh fp ft tk (nI p0) (nI op0) (nI m0) (nI n)) := by
  refine ci_of (by decide) rfl (Nat.le_of_ble_eq_true rfl) ?_
  intro p e s m below meth c ls A ar Q S hK hw hA hr hlk hl hQ
  have hl : lv_has ls 3 [(0, .ref (o 0)), (1, .int (nI v))] := hl
  have hiX2 : ∀ w ∈ wsX20, w ∈ wsX2_data := fun _ h => List.mem_cons_of_mem _ (List.mem_append_left _ (List.mem_append_left _ (List.mem_append_right _ h)))
  refine lv_aload_n S.1 S.2.1 dX2_data_0 rfl (lv_at hl 0 rfl) ?_
  refine callVI (rest := []) S hK hw hA (kX2_takesData l D cA o p0 op0 n m0 cap0 t x tk fi fb ff fa fh fp ft (by omega) (by omega) (by omega) (by omega) (by omega)) gX2_data_X2_takesData rfl 0 rfl (by decide +kernel) ⟨rfl, rfl⟩ ⟨by decide, by decide⟩ ⟨Nat.zero_le _, Nat.zero_le _⟩ [0, 1, 2, 3, 4, 5, 6, 7, 8, 9, 10, 11] rfl (by decide) (fun _ => rfl) 0 rfl rfl rfl hl.1 (Nat.le_of_ble_eq_true rfl) dX2_data_1 rfl (fun r u1 H locs hp hw => ?_)
  have hw : Wd D A s.heap H locs (wX2 o cA cap0 (fun j => nI (t j)) (fun j => nI (x j)) fi fb ff fa fh fp ft tk (nI p0) (nI op0) (nI m0) (nI n)) := hw
  subst hp
  refine lv_if_eq (tgt := 14) S.1 S.2.1 dX2_data_4 (by decide) (fun c4 => ?_) (fun c4 => ?_)
  · skip
    exact absurd hph (ifone_0 c4)
  · skip
    refine lv_iload_n S.1 S.2.1 dX2_data_7 rfl (lv_at hl 1 rfl) ?_
    refine callSI (rest := []) S hK hw hA (kX2_isByte l D cA o (nI v)) gX2_data_X2_isByte rfl 1 rfl (by decide +kernel) ⟨rfl, rfl⟩ ⟨by decide, by decide⟩ ⟨Nat.zero_le _, Nat.zero_le _⟩ hl.1 (Nat.le_of_ble_eq_true rfl) dX2_data_8 rfl (fun r H locs hp hw => ?_)
    refine lv_if_ne (tgt := 16) S.1 S.2.1 dX2_data_11 (by decide) (fun c11 => ?_) (fun c11 => ?_)
    · skip
      refine lv_aload_n S.1 S.2.1 dX2_data_16 rfl (lv_at hl 0 rfl) ?_
      refine mg S hK hw 0 rfl rfl hiX2 6 (by decide) (List.mem_of_getElem? (i := 1) rfl) rfl dX2_data_17 ?_
      refine lv_aload_n S.1 S.2.1 dX2_data_20 rfl (lv_at hl 0 rfl) ?_
      refine mg S hK hw 0 rfl rfl hiX2 2 (by decide) (List.mem_of_getElem? (i := 2) rfl) rfl dX2_data_21 ?_
      refine al S hK hw 1 rfl dX2_data_24 ?_
      refine lv_icmp_lt (tgt := 31) S.1 S.2.1 dX2_data_25 (by decide) (fun c25 => ?_) (fun c25 => ?_)
      · rw [nI_ltI (by omega) (by omega)] at c25
        exfalso; omega
      · rw [nI_ltI (by omega) (by omega)] at c25
        refine lv_bipush (v := -2) S.1 S.2.1 dX2_data_28 (by decide) ?_
        exact ci_ret S hr hlk hQ hw rfl () rfl rfl dX2_data_30
    · skip
      exact absurd c11 (by01_ok hp hv)
