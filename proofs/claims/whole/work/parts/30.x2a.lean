set_option maxHeartbeats 4000000 in
set_option maxRecDepth 100000 in
theorem kX2_isByte (l : Launch) (D : va_G) (cA : ClassId) (o : Nat → Nat) (b : Int32) : CI l D cA yX2_isByte wsX2_isByte { frames := 0, cells := 0, slots := 0, locals := 0 } [.int b] (wE o cA ) (fun r _ => by01 256 b r) (fun _ : Unit => wE o cA ) := by
  refine ci_of (by decide) rfl (Nat.le_of_ble_eq_true rfl) ?_
  intro p e s m below meth c ls A ar Q S hK hw hA hr hlk hl hQ
  have hl : lv_has ls 1 [(0, .int b)] := hl
  refine lv_iload_n S.1 S.2.1 dX2_isByte_0 rfl (lv_at hl 0 rfl) ?_
  refine lv_if_lt (tgt := 15) S.1 S.2.1 dX2_isByte_1 (by decide) (fun c1 => ?_) (fun c1 => ?_)
  · skip
    refine lv_iconst (v := nI 0) S.1 S.2.1 dX2_isByte_15 (by decide) ?_
    exact ci_ret S hr hlk hQ hw (by decide) () rfl (by first | exact by01_lt (by decide) c1 | exact by01_gt (n := 255) (by decide) c8 | exact by01_in' (n := 255) (by decide) c1 c8) dX2_isByte_16
  · skip
    refine lv_iload_n S.1 S.2.1 dX2_isByte_4 rfl (lv_at hl 0 rfl) ?_
    refine lv_sipush (v := nI 255) S.1 S.2.1 dX2_isByte_5 (by decide) ?_
    refine lv_icmp_gt (tgt := 15) S.1 S.2.1 dX2_isByte_8 (by decide) (fun c8 => ?_) (fun c8 => ?_)
    · skip
      refine lv_iconst (v := nI 0) S.1 S.2.1 dX2_isByte_15 (by decide) ?_
      exact ci_ret S hr hlk hQ hw (by decide) () rfl (by first | exact by01_lt (by decide) c1 | exact by01_gt (n := 255) (by decide) c8 | exact by01_in' (n := 255) (by decide) c1 c8) dX2_isByte_16
    · skip
      refine lv_iconst (v := nI 1) S.1 S.2.1 dX2_isByte_11 (by decide) ?_
      refine lv_goto (tgt := 16) S.1 S.2.1 dX2_isByte_12 (by decide) ?_
      exact ci_ret S hr hlk hQ hw (by decide) () rfl (by first | exact by01_lt (by decide) c1 | exact by01_gt (n := 255) (by decide) c8 | exact by01_in' (n := 255) (by decide) c1 c8) dX2_isByte_16

set_option maxHeartbeats 4000000 in
set_option maxRecDepth 100000 in
theorem kX2_isTagIndex (l : Launch) (D : va_G) (cA : ClassId) (o : Nat → Nat) (b : Int32) : CI l D cA yX2_isTagIndex wsX2_isTagIndex { frames := 0, cells := 0, slots := 0, locals := 0 } [.int b] (wE o cA ) (fun r _ => by01 16 b r) (fun _ : Unit => wE o cA ) := by
  refine ci_of (by decide) rfl (Nat.le_of_ble_eq_true rfl) ?_
  intro p e s m below meth c ls A ar Q S hK hw hA hr hlk hl hQ
  have hl : lv_has ls 1 [(0, .int b)] := hl
  refine lv_iload_n S.1 S.2.1 dX2_isTagIndex_0 rfl (lv_at hl 0 rfl) ?_
  refine lv_if_lt (tgt := 14) S.1 S.2.1 dX2_isTagIndex_1 (by decide) (fun c1 => ?_) (fun c1 => ?_)
  · skip
    refine lv_iconst (v := nI 0) S.1 S.2.1 dX2_isTagIndex_14 (by decide) ?_
    exact ci_ret S hr hlk hQ hw (by decide) () rfl (by first | exact by01_lt (by decide) c1 | exact by01_ge (by decide) c7 | exact by01_in (by decide) c1 c7) dX2_isTagIndex_15
  · skip
    refine lv_iload_n S.1 S.2.1 dX2_isTagIndex_4 rfl (lv_at hl 0 rfl) ?_
    refine lv_bipush (v := nI 16) S.1 S.2.1 dX2_isTagIndex_5 (by decide) ?_
    refine lv_icmp_ge (tgt := 14) S.1 S.2.1 dX2_isTagIndex_7 (by decide) (fun c7 => ?_) (fun c7 => ?_)
    · skip
      refine lv_iconst (v := nI 0) S.1 S.2.1 dX2_isTagIndex_14 (by decide) ?_
      exact ci_ret S hr hlk hQ hw (by decide) () rfl (by first | exact by01_lt (by decide) c1 | exact by01_ge (by decide) c7 | exact by01_in (by decide) c1 c7) dX2_isTagIndex_15
    · skip
      refine lv_iconst (v := nI 1) S.1 S.2.1 dX2_isTagIndex_10 (by decide) ?_
      refine lv_goto (tgt := 15) S.1 S.2.1 dX2_isTagIndex_11 (by decide) ?_
      exact ci_ret S hr hlk hQ hw (by decide) () rfl (by first | exact by01_lt (by decide) c1 | exact by01_ge (by decide) c7 | exact by01_in (by decide) c1 c7) dX2_isTagIndex_15

set_option maxHeartbeats 4000000 in
set_option maxRecDepth 100000 in
theorem kX2_isSealing (l : Launch) (D : va_G) (cA : ClassId) (o : Nat → Nat) (p0 op0 n m0 cap0 : Nat) (t x : Nat → Nat) (tk : Int32) (fi fb ff fa fh fp ft : Nat → Int32)  (hp0 : p0 ≤ 4) (hop : op0 ≤ 1) (hn : n ≤ 1000) (hm : m0 ≤ cap0) (hcap : cap0 ≤ 400)  : CI l D cA yX2_isSealing wsX2_isSealing { frames := 0, cells := 0, slots := 0, locals := 0 } [.ref (o 0)] (wX2 o cA cap0 (fun j => nI (t j)) (fun j => nI (x j)) fi fb ff fa fh fp ft tk (nI p0) (nI op0) (nI m0) (nI n)) (fun r _ => r = nI (if op0 = 0 then 1 else 0)) (fun _ : Unit => wX2 o cA cap0 (fun j => nI (t j)) (fun j => nI (x j)) fi fb ff fa fh fp ft tk (nI p0) (nI op0) (nI m0) (nI n)) := by
  refine ci_of (by decide) rfl (Nat.le_of_ble_eq_true rfl) ?_
  intro p e s m below meth c ls A ar Q S hK hw hA hr hlk hl hQ
  have hl : lv_has ls 1 [(0, .ref (o 0))] := hl
  have hiX2 : ∀ w ∈ wsX20, w ∈ wsX2_isSealing := fun _ h => List.mem_cons_of_mem _ (List.mem_append_right _ h)
  refine lv_aload_n S.1 S.2.1 dX2_isSealing_0 rfl (lv_at hl 0 rfl) ?_
  refine mg S hK hw 0 rfl rfl hiX2 5 (by decide) (List.mem_of_getElem? (i := 1) rfl) rfl dX2_isSealing_1 ?_
  refine lv_if_ne (tgt := 11) S.1 S.2.1 dX2_isSealing_4 (by decide) (fun c4 => ?_) (fun c4 => ?_)
  · rw [← nI_0, nI_eq (by omega) (by omega)] at c4
    refine lv_iconst (v := nI 0) S.1 S.2.1 dX2_isSealing_11 (by decide) ?_
    exact ci_ret S hr hlk hQ hw (by decide) () rfl (by first | exact one_if c4 | exact zero_if c4) dX2_isSealing_12
  · rw [← nI_0, nI_eq (by omega) (by omega)] at c4
    refine lv_iconst (v := nI 1) S.1 S.2.1 dX2_isSealing_7 (by decide) ?_
    refine lv_goto (tgt := 12) S.1 S.2.1 dX2_isSealing_8 (by decide) ?_
    exact ci_ret S hr hlk hQ hw (by decide) () rfl (by first | exact one_if c4 | exact zero_if c4) dX2_isSealing_12

set_option maxHeartbeats 4000000 in
set_option maxRecDepth 100000 in
theorem kX2_takesData (l : Launch) (D : va_G) (cA : ClassId) (o : Nat → Nat) (p0 op0 n m0 cap0 : Nat) (t x : Nat → Nat) (tk : Int32) (fi fb ff fa fh fp ft : Nat → Int32)  (hp0 : p0 ≤ 4) (hop : op0 ≤ 1) (hn : n ≤ 1000) (hm : m0 ≤ cap0) (hcap : cap0 ≤ 400)  : CI l D cA yX2_takesData wsX2_takesData { frames := 0, cells := 0, slots := 0, locals := 0 } [.ref (o 0)] (wX2 o cA cap0 (fun j => nI (t j)) (fun j => nI (x j)) fi fb ff fa fh fp ft tk (nI p0) (nI op0) (nI m0) (nI n)) (fun r _ => r = nI (if p0 = 1 ∨ p0 = 2 then 1 else 0)) (fun _ : Unit => wX2 o cA cap0 (fun j => nI (t j)) (fun j => nI (x j)) fi fb ff fa fh fp ft tk (nI p0) (nI op0) (nI m0) (nI n)) := by
  refine ci_of (by decide) rfl (Nat.le_of_ble_eq_true rfl) ?_
  intro p e s m below meth c ls A ar Q S hK hw hA hr hlk hl hQ
  have hl : lv_has ls 1 [(0, .ref (o 0))] := hl
  have hiX2 : ∀ w ∈ wsX20, w ∈ wsX2_takesData := fun _ h => List.mem_cons_of_mem _ (List.mem_append_right _ h)
  refine lv_aload_n S.1 S.2.1 dX2_takesData_0 rfl (lv_at hl 0 rfl) ?_
  refine mg S hK hw 0 rfl rfl hiX2 4 (by decide) (List.mem_of_getElem? (i := 1) rfl) rfl dX2_takesData_1 ?_
  refine lv_iconst (v := nI 1) S.1 S.2.1 dX2_takesData_4 (by decide) ?_
  refine lv_icmp_eq (tgt := 16) S.1 S.2.1 dX2_takesData_5 (by decide) (fun c5 => ?_) (fun c5 => ?_)
  · rw [nI_eq (by omega) (by omega)] at c5
    refine lv_iconst (v := nI 1) S.1 S.2.1 dX2_takesData_16 (by decide) ?_
    refine lv_goto (tgt := 21) S.1 S.2.1 dX2_takesData_17 (by decide) ?_
    exact ci_ret S hr hlk hQ hw (by decide) () rfl (by first | exact one_if (by omega) | exact zero_if (by omega)) dX2_takesData_21
  · rw [nI_eq (by omega) (by omega)] at c5
    refine lv_aload_n S.1 S.2.1 dX2_takesData_8 rfl (lv_at hl 0 rfl) ?_
    refine mg S hK hw 0 rfl rfl hiX2 4 (by decide) (List.mem_of_getElem? (i := 1) rfl) rfl dX2_takesData_9 ?_
    refine lv_iconst (v := nI 2) S.1 S.2.1 dX2_takesData_12 (by decide) ?_
    refine lv_icmp_ne (tgt := 20) S.1 S.2.1 dX2_takesData_13 (by decide) (fun c13 => ?_) (fun c13 => ?_)
    · rw [nI_eq (by omega) (by omega)] at c13
      refine lv_iconst (v := nI 0) S.1 S.2.1 dX2_takesData_20 (by decide) ?_
      exact ci_ret S hr hlk hQ hw (by decide) () rfl (by first | exact one_if (by omega) | exact zero_if (by omega)) dX2_takesData_21
    · rw [nI_eq (by omega) (by omega)] at c13
      refine lv_iconst (v := nI 1) S.1 S.2.1 dX2_takesData_16 (by decide) ?_
      refine lv_goto (tgt := 21) S.1 S.2.1 dX2_takesData_17 (by decide) ?_
      exact ci_ret S hr hlk hQ hw (by decide) () rfl (by first | exact one_if (by omega) | exact zero_if (by omega)) dX2_takesData_21

set_option maxHeartbeats 4000000 in
set_option maxRecDepth 100000 in
theorem kX2_tellsResults (l : Launch) (D : va_G) (cA : ClassId) (o : Nat → Nat) (p0 op0 n m0 cap0 : Nat) (t x : Nat → Nat) (tk : Int32) (fi fb ff fa fh fp ft : Nat → Int32)  (hp0 : p0 ≤ 4) (hop : op0 ≤ 1) (hn : n ≤ 1000) (hm : m0 ≤ cap0) (hcap : cap0 ≤ 400)  : CI l D cA yX2_tellsResults wsX2_tellsResults { frames := 1, cells := 0, slots := 0, locals := 20 } [.ref (o 0)] (wX2 o cA cap0 (fun j => nI (t j)) (fun j => nI (x j)) fi fb ff fa fh fp ft tk (nI p0) (nI op0) (nI m0) (nI n)) (fun r _ => r = nI (if p0 = 3 ∧ op0 = 0 ∨ p0 = 4 then 1 else 0)) (fun _ : Unit => wX2 o cA cap0 (fun j => nI (t j)) (fun j => nI (x j)) fi fb ff fa fh fp ft tk (nI p0) (nI op0) (nI m0) (nI n)) := by
  refine ci_of (by decide) rfl (Nat.le_of_ble_eq_true rfl) ?_
  intro p e s m below meth c ls A ar Q S hK hw hA hr hlk hl hQ
  have hl : lv_has ls 1 [(0, .ref (o 0))] := hl
  have hiX2 : ∀ w ∈ wsX20, w ∈ wsX2_tellsResults := fun _ h => List.mem_cons_of_mem _ (List.mem_append_right _ h)
  refine lv_aload_n S.1 S.2.1 dX2_tellsResults_0 rfl (lv_at hl 0 rfl) ?_
  refine mg S hK hw 0 rfl rfl hiX2 4 (by decide) (List.mem_of_getElem? (i := 1) rfl) rfl dX2_tellsResults_1 ?_
  refine lv_iconst (v := nI 4) S.1 S.2.1 dX2_tellsResults_4 (by decide) ?_
  refine lv_icmp_eq (tgt := 23) S.1 S.2.1 dX2_tellsResults_5 (by decide) (fun c5 => ?_) (fun c5 => ?_)
  · rw [nI_eq (by omega) (by omega)] at c5
    refine lv_iconst (v := nI 1) S.1 S.2.1 dX2_tellsResults_23 (by decide) ?_
    refine lv_goto (tgt := 28) S.1 S.2.1 dX2_tellsResults_24 (by decide) ?_
    exact ci_ret S hr hlk hQ hw (by decide) () rfl (by first | exact one_if (by omega) | exact zero_if (by omega)) dX2_tellsResults_28
  · rw [nI_eq (by omega) (by omega)] at c5
    refine lv_aload_n S.1 S.2.1 dX2_tellsResults_8 rfl (lv_at hl 0 rfl) ?_
    refine mg S hK hw 0 rfl rfl hiX2 4 (by decide) (List.mem_of_getElem? (i := 1) rfl) rfl dX2_tellsResults_9 ?_
    refine lv_iconst (v := nI 3) S.1 S.2.1 dX2_tellsResults_12 (by decide) ?_
    refine lv_icmp_ne (tgt := 27) S.1 S.2.1 dX2_tellsResults_13 (by decide) (fun c13 => ?_) (fun c13 => ?_)
    · rw [nI_eq (by omega) (by omega)] at c13
      refine lv_iconst (v := nI 0) S.1 S.2.1 dX2_tellsResults_27 (by decide) ?_
      exact ci_ret S hr hlk hQ hw (by decide) () rfl (by first | exact one_if (by omega) | exact zero_if (by omega)) dX2_tellsResults_28
    · rw [nI_eq (by omega) (by omega)] at c13
      refine lv_aload_n S.1 S.2.1 dX2_tellsResults_16 rfl (lv_at hl 0 rfl) ?_
      refine callVI (rest := []) S hK hw hA (kX2_isSealing l D cA o p0 op0 n m0 cap0 t x tk fi fb ff fa fh fp ft (by omega) (by omega) (by omega) (by omega) (by omega)) gX2_tellsResults_X2_isSealing rfl 0 rfl (by decide +kernel) ⟨rfl, rfl⟩ ⟨by decide, by decide⟩ ⟨Nat.zero_le _, Nat.zero_le _⟩ [0, 1, 2, 3, 4, 5, 6, 7, 8, 9, 10, 11] rfl (by decide) (fun _ => rfl) 0 rfl rfl rfl hl.1 (Nat.le_of_ble_eq_true rfl) dX2_tellsResults_17 rfl (fun r u17 H locs hp hw => ?_)
      have hw : Wd D A s.heap H locs (wX2 o cA cap0 (fun j => nI (t j)) (fun j => nI (x j)) fi fb ff fa fh fp ft tk (nI p0) (nI op0) (nI m0) (nI n)) := hw
      subst hp
      refine lv_if_eq (tgt := 27) S.1 S.2.1 dX2_tellsResults_20 (by decide) (fun c20 => ?_) (fun c20 => ?_)
      · skip
        have h20 := ifone_0 c20
        refine lv_iconst (v := nI 0) S.1 S.2.1 dX2_tellsResults_27 (by decide) ?_
        exact ci_ret S hr hlk hQ hw (by decide) () rfl (by first | exact one_if (by omega) | exact zero_if (by omega)) dX2_tellsResults_28
      · skip
        have h20 := ifone_1 c20
        refine lv_iconst (v := nI 1) S.1 S.2.1 dX2_tellsResults_23 (by decide) ?_
        refine lv_goto (tgt := 28) S.1 S.2.1 dX2_tellsResults_24 (by decide) ?_
        exact ci_ret S hr hlk hQ hw (by decide) () rfl (by first | exact one_if (by omega) | exact zero_if (by omega)) dX2_tellsResults_28

set_option maxHeartbeats 4000000 in
set_option maxRecDepth 100000 in
theorem kX2_nextStreamByte (l : Launch) (D : va_G) (cA : ClassId) (o : Nat → Nat) (p0 op0 n m0 cap0 : Nat) (t x : Nat → Nat) (tk : Int32) (fi fb ff fa fh fp ft : Nat → Int32)  (hp0 : p0 ≤ 4) (hop : op0 ≤ 1) (hn : n ≤ 1000) (hm : m0 ≤ cap0) (hcap : cap0 ≤ 400)  : CI l D cA yX2_nextStreamByte wsX2_nextStreamByte { frames := 4, cells := 0, slots := 0, locals := 91 } [.ref (o 0)] (wX2 o cA cap0 (fun j => nI (t j)) (fun j => nI (x j)) fi fb ff fa fh fp ft tk (nI p0) (nI op0) (nI m0) (nI n)) (fun r _ => r = nI (bbn (nfb fi fb m0) (m0 % 64))) (fun _ : Unit => wX2 o cA cap0 (fun j => nI (t j)) (fun j => nI (x j)) (nfi fi m0) (nfb fi fb m0) ff fa fh fp ft tk (nI p0) (nI op0) (nI m0) (nI n)) := by
  refine ci_of (by decide) rfl (Nat.le_of_ble_eq_true rfl) ?_
  intro p e s m below meth c ls A ar Q S hK hw hA hr hlk hl hQ
  have hl : lv_has ls 2 [(0, .ref (o 0))] := hl
  have hiX2 : ∀ w ∈ wsX20, w ∈ wsX2_nextStreamByte := fun _ h => List.mem_cons_of_mem _ (List.mem_append_left _ (List.mem_append_right _ h))
  refine lv_aload_n S.1 S.2.1 dX2_nextStreamByte_0 rfl (lv_at hl 0 rfl) ?_
  refine mg S hK hw 0 rfl rfl hiX2 6 (by decide) (List.mem_of_getElem? (i := 1) rfl) rfl dX2_nextStreamByte_1 ?_
  refine lv_bipush (v := nI 64) S.1 S.2.1 dX2_nextStreamByte_4 (by decide) ?_
  refine lv_irem S.1 S.2.1 dX2_nextStreamByte_6 (by decide) ?_
  refine te (pk_rem (by omega) (by decide) (by decide)) ?_
  refine lv_istore_n (lv' := [(1, .int (nI (m0 % 64))), (0, .ref (o 0))]) S.1 S.2.1 dX2_nextStreamByte_7 rfl hl (by decide) rfl (fun ls hl => ?_)
  refine lv_iload_n S.1 S.2.1 dX2_nextStreamByte_8 rfl (lv_at hl 0 rfl) ?_
  refine lv_if_ne (tgt := 28) S.1 S.2.1 dX2_nextStreamByte_9 (by decide) (fun c9 => ?_) (fun c9 => ?_)
  · rw [← nI_0, nI_eq (by omega) (by omega)] at c9
    refine lv_aload_n S.1 S.2.1 dX2_nextStreamByte_28 rfl (lv_at hl 1 rfl) ?_
    refine mg S hK hw 0 rfl rfl hiX2 0 (by decide) (List.mem_of_getElem? (i := 2) rfl) rfl dX2_nextStreamByte_29 ?_
    refine lv_iload_n S.1 S.2.1 dX2_nextStreamByte_32 rfl (lv_at hl 0 rfl) ?_
    refine callVI (rest := []) S hK hw hA (kX0_blockByte l D cA (fun k => o (9 + k)) fi fb (m0 % 64) (by omega)) gX2_nextStreamByte_X0_blockByte rfl 1 rfl (by decide +kernel) ⟨rfl, rfl⟩ ⟨by decide, by decide⟩ ⟨Nat.zero_le _, Nat.zero_le _⟩ [9, 10, 11] rfl (by decide) (fun _ => rfl) 9 rfl rfl rfl hl.1 (Nat.le_of_ble_eq_true rfl) dX2_nextStreamByte_33 rfl (fun r u33 H locs hp hw => ?_)
    have hw : Wd D A s.heap H locs (wX2 o cA cap0 (fun j => nI (t j)) (fun j => nI (x j)) fi fb ff fa fh fp ft tk (nI p0) (nI op0) (nI m0) (nI n)) := hw
    rw [BB_n] at hp
    subst hp
    exact ci_ret S hr hlk hQ hw rfl () (by unfold nfi nfb; first | (rw [if_pos c9, if_pos c9]; done) | (rw [if_neg c9, if_neg c9]; done)) (by unfold nfb; first | (rw [if_pos c9]; done) | (rw [if_neg c9]; done)) dX2_nextStreamByte_36
  · rw [← nI_0, nI_eq (by omega) (by omega)] at c9
    refine lv_aload_n S.1 S.2.1 dX2_nextStreamByte_12 rfl (lv_at hl 1 rfl) ?_
    refine mg S hK hw 0 rfl rfl hiX2 0 (by decide) (List.mem_of_getElem? (i := 2) rfl) rfl dX2_nextStreamByte_13 ?_
    refine lv_iconst (v := nI 1) S.1 S.2.1 dX2_nextStreamByte_16 (by decide) ?_
    refine lv_aload_n S.1 S.2.1 dX2_nextStreamByte_17 rfl (lv_at hl 1 rfl) ?_
    refine mg S hK hw 0 rfl rfl hiX2 6 (by decide) (List.mem_of_getElem? (i := 1) rfl) rfl dX2_nextStreamByte_18 ?_
    refine lv_bipush (v := nI 64) S.1 S.2.1 dX2_nextStreamByte_21 (by decide) ?_
    refine lv_idiv S.1 S.2.1 dX2_nextStreamByte_23 (by decide) ?_
    refine te (pk_div (by omega) (by decide) (by decide)) ?_
    refine lv_iadd S.1 S.2.1 dX2_nextStreamByte_24 ?_
    refine te (nI_add _ _) ?_
    refine callVV (rest := []) S hK hw hA (kX0_makeBlock l D cA (fun k => o (9 + k)) fi fb (nI (1 + (m0 / 64)))) gX2_nextStreamByte_X0_makeBlock rfl 1 rfl (by decide +kernel) ⟨rfl, rfl⟩ ⟨by decide, by decide⟩ ⟨Nat.zero_le _, Nat.zero_le _⟩ [9, 10, 11] rfl (by decide) (fun _ => rfl) 9 rfl rfl rfl hl.1 (Nat.le_of_ble_eq_true rfl) dX2_nextStreamByte_25 rfl (fun u25 H locs hp hw => ?_)
    have hw : Wd D A s.heap H locs (wX2 o cA cap0 (fun j => nI (t j)) (fun j => nI (x j)) (upd fi 12 (nI (1 + (m0 / 64)))) (MB (upd fi 12 (nI (1 + (m0 / 64)))) fb) ff fa fh fp ft tk (nI p0) (nI op0) (nI m0) (nI n)) := hw
    refine lv_aload_n S.1 S.2.1 dX2_nextStreamByte_28 rfl (lv_at hl 1 rfl) ?_
    refine mg S hK hw 0 rfl rfl hiX2 0 (by decide) (List.mem_of_getElem? (i := 2) rfl) rfl dX2_nextStreamByte_29 ?_
    refine lv_iload_n S.1 S.2.1 dX2_nextStreamByte_32 rfl (lv_at hl 0 rfl) ?_
    refine callVI (rest := []) S hK hw hA (kX0_blockByte l D cA (fun k => o (9 + k)) (upd fi 12 (nI (1 + (m0 / 64)))) (MB (upd fi 12 (nI (1 + (m0 / 64)))) fb) (m0 % 64) (by omega)) gX2_nextStreamByte_X0_blockByte rfl 1 rfl (by decide +kernel) ⟨rfl, rfl⟩ ⟨by decide, by decide⟩ ⟨Nat.zero_le _, Nat.zero_le _⟩ [9, 10, 11] rfl (by decide) (fun _ => rfl) 9 rfl rfl rfl hl.1 (Nat.le_of_ble_eq_true rfl) dX2_nextStreamByte_33 rfl (fun r u33 H locs hp hw => ?_)
    have hw : Wd D A s.heap H locs (wX2 o cA cap0 (fun j => nI (t j)) (fun j => nI (x j)) (upd fi 12 (nI (1 + (m0 / 64)))) (MB (upd fi 12 (nI (1 + (m0 / 64)))) fb) ff fa fh fp ft tk (nI p0) (nI op0) (nI m0) (nI n)) := hw
    rw [BB_n] at hp
    subst hp
    exact ci_ret S hr hlk hQ hw rfl () (by unfold nfi nfb; first | (rw [if_pos c9, if_pos c9]; done) | (rw [if_neg c9, if_neg c9]; done)) (by unfold nfb; first | (rw [if_pos c9]; done) | (rw [if_neg c9]; done)) dX2_nextStreamByte_36

set_option maxHeartbeats 4000000 in
set_option maxRecDepth 100000 in
theorem kX2_clearExpectedTag (l : Launch) (D : va_G) (cA : ClassId) (o : Nat → Nat) (p0 op0 n m0 cap0 : Nat) (t x : Nat → Nat) (tk : Int32) (fi fb ff fa fh fp ft : Nat → Int32)  (hp0 : p0 ≤ 4) (hop : op0 ≤ 1) (hn : n ≤ 1000) (hm : m0 ≤ cap0) (hcap : cap0 ≤ 400)  : CV l D cA yX2_clearExpectedTag wsX2_clearExpectedTag { frames := 0, cells := 0, slots := 0, locals := 0 } [.ref (o 0)] (wX2 o cA cap0 (fun j => nI (t j)) (fun j => nI (x j)) fi fb ff fa fh fp ft tk (nI p0) (nI op0) (nI m0) (nI n)) (fun _ => True) (fun _ : Unit => wX2 o cA cap0 (fun j => nI (t j)) (fun j => nI ((fun _ => 0) j)) fi fb ff fa fh fp ft tk (nI p0) (nI op0) (nI m0) (nI n)) := by
  refine cv_of (by decide) rfl (Nat.le_of_ble_eq_true rfl) ?_
  intro p e s m below meth c ls A ar Q S hK hw hA hr hlk hl hQ
  have hl : lv_has ls 2 [(0, .ref (o 0))] := hl
  have hiX2 : ∀ w ∈ wsX20, w ∈ wsX2_clearExpectedTag := fun _ h => List.mem_cons_of_mem _ (List.mem_append_right _ h)
  refine lv_iconst (v := nI 0) S.1 S.2.1 dX2_clearExpectedTag_0 (by decide) ?_
  refine lv_istore_n (lv' := [(1, .int (nI 0)), (0, .ref (o 0))]) S.1 S.2.1 dX2_clearExpectedTag_1 rfl hl (by decide) rfl (fun ls hl => ?_)
  have lp2 : ∀ (n0 k : Nat), k + n0 = 16 → ∀ (H : Heap) (locs : List Loc), Wd D A s.heap H locs (wX2 o cA cap0 (fun j => nI (t j)) (mixf k (fun j => nI 0) (fun j => nI (x j))) fi fb ff fa fh fp ft tk (nI p0) (nI op0) (nI m0) (nI n)) → ∀ ls : Array Slot, lv_has ls 2 [(1, .int (nI k)), (0, .ref (o 0))] → W p l e { frames := 0, cells := 0, slots := 0, locals := 0 } s m ar below meth c H locs 0 0 Q (F0 m 2 ls []) := by
    intro n0
    induction n0 with
    | zero =>
      intro k hn0 H locs hw ls hl
      have hn0 : k = 16 := by omega
      subst hn0
      have hw := hw.cong 2 (g := fun j => nI ((fun _ => 0) j)) rfl (fun j hj => mixf_n hj)
      have hw : Wd D A s.heap H locs (wX2 o cA cap0 (fun j => nI (t j)) (fun j => nI ((fun _ => 0) j)) fi fb ff fa fh fp ft tk (nI p0) (nI op0) (nI m0) (nI n)) := hw
      refine lv_iload_n S.1 S.2.1 dX2_clearExpectedTag_2 rfl (lv_at hl 0 rfl) ?_
      refine lv_aload_n S.1 S.2.1 dX2_clearExpectedTag_3 rfl (lv_at hl 1 rfl) ?_
      refine mg S hK hw 0 rfl rfl hiX2 3 (by decide) (List.mem_of_getElem? (i := 1) rfl) rfl dX2_clearExpectedTag_4 ?_
      refine al S hK hw 2 rfl dX2_clearExpectedTag_7 ?_
      refine lv_icmp_ge (tgt := 24) S.1 S.2.1 dX2_clearExpectedTag_8 (by decide) (fun c8 => ?_) (fun c8 => ?_)
      · rw [nI_leI (by omega) (by omega)] at c8
        exact cv_ret S hr hlk hQ hw () rfl trivial dX2_clearExpectedTag_24
      · rw [nI_leI (by omega) (by omega)] at c8
        exfalso; omega
    | succ n0 ih =>
      intro k hn0 H locs hw ls hl
      have hlt : k < 16 := by omega
      refine lv_iload_n S.1 S.2.1 dX2_clearExpectedTag_2 rfl (lv_at hl 0 rfl) ?_
      refine lv_aload_n S.1 S.2.1 dX2_clearExpectedTag_3 rfl (lv_at hl 1 rfl) ?_
      refine mg S hK hw 0 rfl rfl hiX2 3 (by decide) (List.mem_of_getElem? (i := 1) rfl) rfl dX2_clearExpectedTag_4 ?_
      refine al S hK hw 2 rfl dX2_clearExpectedTag_7 ?_
      refine lv_icmp_ge (tgt := 24) S.1 S.2.1 dX2_clearExpectedTag_8 (by decide) (fun c8 => ?_) (fun c8 => ?_)
      · rw [nI_leI (by omega) (by omega)] at c8
        exfalso; omega
      · rw [nI_leI (by omega) (by omega)] at c8
        refine lv_aload_n S.1 S.2.1 dX2_clearExpectedTag_11 rfl (lv_at hl 1 rfl) ?_
        refine mg S hK hw 0 rfl rfl hiX2 3 (by decide) (List.mem_of_getElem? (i := 1) rfl) rfl dX2_clearExpectedTag_12 ?_
        refine lv_iload_n S.1 S.2.1 dX2_clearExpectedTag_15 rfl (lv_at hl 0 rfl) ?_
        refine lv_iconst (v := nI 0) S.1 S.2.1 dX2_clearExpectedTag_16 (by decide) ?_
        refine ap S hK hw 2 rfl k rfl (by omega) (by decide) dX2_clearExpectedTag_17 (fun H locs hw => ?_)
        have hw : Wd D A s.heap H locs (wX2 o cA cap0 (fun j => nI (t j)) (upd (mixf k (fun j => nI 0) (fun j => nI (x j))) k (nI 0)) fi fb ff fa fh fp ft tk (nI p0) (nI op0) (nI m0) (nI n)) := hw
        have hw := hw.cong 2 (g := mixf (k + 1) (fun j => nI 0) (fun j => nI (x j))) rfl (fun j _ => mixf_put (by exact rfl) j)
        have hw : Wd D A s.heap H locs (wX2 o cA cap0 (fun j => nI (t j)) (mixf (k + 1) (fun j => nI 0) (fun j => nI (x j))) fi fb ff fa fh fp ft tk (nI p0) (nI op0) (nI m0) (nI n)) := hw
        refine lv_iinc (v := nI (k + 1)) (lv' := [(1, .int (nI (k + 1))), (0, .ref (o 0))]) S.1 S.2.1 dX2_clearExpectedTag_18 hl (k := 0) rfl (nI_add k 1) (by decide) rfl (fun ls hl => ?_)
        refine lv_goto (tgt := 2) S.1 S.2.1 dX2_clearExpectedTag_21 (by decide) ?_
        exact ih (k + 1)  (by omega)  _ _ hw _ hl
  have hw := hw.cong 2 (g := mixf 0 (fun j => nI 0) (fun j => nI (x j))) rfl (fun j _ => mixf_0 (fun j => nI 0) (fun j => nI (x j)) j)
  exact lp2 16 0  (by omega)  _ _ hw _ hl

set_option maxHeartbeats 4000000 in
set_option maxRecDepth 100000 in
theorem kX2_isTagAsExpected (l : Launch) (D : va_G) (cA : ClassId) (o : Nat → Nat) (p0 op0 n m0 cap0 : Nat) (t x : Nat → Nat) (tk : Int32) (gt : Nat → Nat) (fi fb ff fa fh fp : Nat → Int32)  (hp0 : p0 ≤ 4) (hop : op0 ≤ 1) (hn : n ≤ 1000) (hm : m0 ≤ cap0) (hcap : cap0 ≤ 400) (hx : ∀ j, x j < 256) (hg : ∀ j, gt j < 256) : CI l D cA yX2_isTagAsExpected wsX2_isTagAsExpected { frames := 1, cells := 0, slots := 0, locals := 21 } [.ref (o 0)] (wX2 o cA cap0 (fun j => nI (t j)) (fun j => nI (x j)) fi fb ff fa fh fp (fun j => nI (gt j)) tk (nI p0) (nI op0) (nI m0) (nI n)) (fun r _ => r = nI (if dfr x gt 16 = 0 then 1 else 0)) (fun _ : Unit => wX2 o cA cap0 (fun j => nI (t j)) (fun j => nI (x j)) fi fb ff fa fh fp (fun j => nI (gt j)) tk (nI p0) (nI op0) (nI m0) (nI n)) := by
  refine ci_of (by decide) rfl (Nat.le_of_ble_eq_true rfl) ?_
  intro p e s m below meth c ls A ar Q S hK hw hA hr hlk hl hQ
  have hl : lv_has ls 3 [(0, .ref (o 0))] := hl
  have hiX2 : ∀ w ∈ wsX20, w ∈ wsX2_isTagAsExpected := fun _ h => List.mem_cons_of_mem _ (List.mem_append_left _ (List.mem_append_right _ h))
  refine lv_iconst (v := nI 0) S.1 S.2.1 dX2_isTagAsExpected_0 (by decide) ?_
  refine lv_istore_n (lv' := [(1, .int (nI 0)), (0, .ref (o 0))]) S.1 S.2.1 dX2_isTagAsExpected_1 rfl hl (by decide) rfl (fun ls hl => ?_)
  refine lv_iconst (v := nI 0) S.1 S.2.1 dX2_isTagAsExpected_2 (by decide) ?_
  refine lv_istore_n (lv' := [(2, .int (nI 0)), (1, .int (nI 0)), (0, .ref (o 0))]) S.1 S.2.1 dX2_isTagAsExpected_3 rfl hl (by decide) rfl (fun ls hl => ?_)
  have lp4 : ∀ (n0 k : Nat), k + n0 = 16 → ∀ (H : Heap) (locs : List Loc), Wd D A s.heap H locs (wX2 o cA cap0 (fun j => nI (t j)) (fun j => nI (x j)) fi fb ff fa fh fp (fun j => nI (gt j)) tk (nI p0) (nI op0) (nI m0) (nI n)) → ∀ ls : Array Slot, lv_has ls 3 [(2, .int (nI k)), (1, .int (nI (dfr x gt k))), (0, .ref (o 0))] → W p l e { frames := 1, cells := 0, slots := 0, locals := 21 } s m ar below meth c H locs 0 0 Q (F0 m 4 ls []) := by
    intro n0
    induction n0 with
    | zero =>
      intro k hn0 H locs hw ls hl
      have hn0 : k = 16 := by omega
      subst hn0
      refine lv_iload_n S.1 S.2.1 dX2_isTagAsExpected_4 rfl (lv_at hl 0 rfl) ?_
      refine lv_aload_n S.1 S.2.1 dX2_isTagAsExpected_5 rfl (lv_at hl 2 rfl) ?_
      refine mg S hK hw 0 rfl rfl hiX2 3 (by decide) (List.mem_of_getElem? (i := 1) rfl) rfl dX2_isTagAsExpected_6 ?_
      refine al S hK hw 2 rfl dX2_isTagAsExpected_9 ?_
      refine lv_icmp_ge (tgt := 37) S.1 S.2.1 dX2_isTagAsExpected_10 (by decide) (fun c10 => ?_) (fun c10 => ?_)
      · rw [nI_leI (by omega) (by omega)] at c10
        refine lv_iload_n S.1 S.2.1 dX2_isTagAsExpected_37 rfl (lv_at hl 1 rfl) ?_
        have hd16 := dfr_lt hx hg 16
        refine lv_if_ne (tgt := 45) S.1 S.2.1 dX2_isTagAsExpected_38 (by decide) (fun c38 => ?_) (fun c38 => ?_)
        · rw [← nI_0, nI_eq (by omega) (by omega)] at c38
          refine lv_iconst (v := nI 0) S.1 S.2.1 dX2_isTagAsExpected_45 (by decide) ?_
          exact ci_ret S hr hlk hQ hw (by decide) () rfl (by first | exact one_if c38 | exact zero_if c38) dX2_isTagAsExpected_46
        · rw [← nI_0, nI_eq (by omega) (by omega)] at c38
          refine lv_iconst (v := nI 1) S.1 S.2.1 dX2_isTagAsExpected_41 (by decide) ?_
          refine lv_goto (tgt := 46) S.1 S.2.1 dX2_isTagAsExpected_42 (by decide) ?_
          exact ci_ret S hr hlk hQ hw (by decide) () rfl (by first | exact one_if c38 | exact zero_if c38) dX2_isTagAsExpected_46
      · rw [nI_leI (by omega) (by omega)] at c10
        exfalso; omega
    | succ n0 ih =>
      intro k hn0 H locs hw ls hl
      have hlt : k < 16 := by omega
      refine lv_iload_n S.1 S.2.1 dX2_isTagAsExpected_4 rfl (lv_at hl 0 rfl) ?_
      refine lv_aload_n S.1 S.2.1 dX2_isTagAsExpected_5 rfl (lv_at hl 2 rfl) ?_
      refine mg S hK hw 0 rfl rfl hiX2 3 (by decide) (List.mem_of_getElem? (i := 1) rfl) rfl dX2_isTagAsExpected_6 ?_
      refine al S hK hw 2 rfl dX2_isTagAsExpected_9 ?_
      refine lv_icmp_ge (tgt := 37) S.1 S.2.1 dX2_isTagAsExpected_10 (by decide) (fun c10 => ?_) (fun c10 => ?_)
      · rw [nI_leI (by omega) (by omega)] at c10
        exfalso; omega
      · rw [nI_leI (by omega) (by omega)] at c10
        refine lv_iload_n S.1 S.2.1 dX2_isTagAsExpected_13 rfl (lv_at hl 1 rfl) ?_
        refine lv_aload_n S.1 S.2.1 dX2_isTagAsExpected_14 rfl (lv_at hl 2 rfl) ?_
        refine mg S hK hw 0 rfl rfl hiX2 3 (by decide) (List.mem_of_getElem? (i := 1) rfl) rfl dX2_isTagAsExpected_15 ?_
        refine lv_iload_n S.1 S.2.1 dX2_isTagAsExpected_18 rfl (lv_at hl 0 rfl) ?_
        refine ag S hK hw 2 rfl k rfl (by omega) (by decide) dX2_isTagAsExpected_19 ?_
        refine te (y := nI (x k)) rfl ?_
        refine lv_aload_n S.1 S.2.1 dX2_isTagAsExpected_20 rfl (lv_at hl 2 rfl) ?_
        refine mg S hK hw 0 rfl rfl hiX2 1 (by decide) (List.mem_of_getElem? (i := 2) rfl) rfl dX2_isTagAsExpected_21 ?_
        refine lv_iload_n S.1 S.2.1 dX2_isTagAsExpected_24 rfl (lv_at hl 0 rfl) ?_
        refine callVI (rest := [.int (nI (x k)), .int (nI (dfr x gt k))]) S hK hw hA (kX1_tagByte l D cA (fun k => o (3 + k)) ff fa fh fp (fun j => nI (gt j)) tk k (by omega)) gX2_isTagAsExpected_X1_tagByte rfl 1 rfl (by decide +kernel) ⟨rfl, rfl⟩ ⟨by decide, by decide⟩ ⟨Nat.zero_le _, Nat.zero_le _⟩ [3, 4, 5, 6, 7, 8] rfl (by decide) (fun _ => rfl) 3 rfl rfl rfl hl.1 (Nat.le_of_ble_eq_true rfl) dX2_isTagAsExpected_25 rfl (fun r u25 H locs hp hw => ?_)
        have hw : Wd D A s.heap H locs (wX2 o cA cap0 (fun j => nI (t j)) (fun j => nI (x j)) fi fb ff fa fh fp (fun j => nI (gt j)) tk (nI p0) (nI op0) (nI m0) (nI n)) := hw
        subst hp
        refine lv_ixor S.1 S.2.1 dX2_isTagAsExpected_28 ?_
        refine te (y := nI (x k ^^^ gt k)) (nI_xor _ _) ?_
        refine lv_ior S.1 S.2.1 dX2_isTagAsExpected_29 ?_
        refine te (y := nI (dfr x gt (k + 1))) (nI_or _ _) ?_
        refine lv_istore_n (lv' := [(1, .int (nI (dfr x gt (k + 1)))), (2, .int (nI k)), (0, .ref (o 0))]) S.1 S.2.1 dX2_isTagAsExpected_30 rfl hl (by decide) rfl (fun ls hl => ?_)
        refine lv_iinc (v := nI (k + 1)) (lv' := [(2, .int (nI (k + 1))), (1, .int (nI (dfr x gt (k + 1)))), (0, .ref (o 0))]) S.1 S.2.1 dX2_isTagAsExpected_31 hl (k := 1) rfl (nI_add k 1) (by decide) rfl (fun ls hl => ?_)
        refine lv_goto (tgt := 4) S.1 S.2.1 dX2_isTagAsExpected_34 (by decide) ?_
        exact ih (k + 1)  (by omega)  _ _ hw _ hl
  exact lp4 16 0  (by omega)  _ _ hw _ hl
