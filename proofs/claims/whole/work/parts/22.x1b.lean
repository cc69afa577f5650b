set_option maxHeartbeats 4000000 in
set_option maxRecDepth 100000 in
theorem kX1_take (l : Launch) (D : va_G) (cA : ClassId) (o : Nat → Nat) (fa fp ft : Nat → Int32) (r : Nat → Nat) (T0 : TS) (v : Nat) (hT : okT T0) (hv : v < 256) (hr0 : ∀ j, j < 17 → r j ≤ 255) : CV l D cA yX1_take wsX1_take { frames := 3, cells := 0, slots := 0, locals := 65 } [.ref (o 0), .int (nI v)] (wX1 o cA (fun j => nI (r j)) fa (hF T0) fp ft (nI T0.2.2)) (fun _ => True) (fun u : Nat → Int32 => wX1 o cA (fun j => nI (r j)) fa (hF (tk1 r T0 v)) u ft (nI (tk1 r T0 v).2.2)) := by
  have hT1 := hT.1
  refine cv_of (by decide) rfl (Nat.le_of_ble_eq_true rfl) ?_
  intro p e s m below meth c ls A ar Q S hK hw hA hr hlk hl hQ
  have hl : lv_has ls 2 [(0, .ref (o 0)), (1, .int (nI v))] := hl
  have hiX1 : ∀ w ∈ wsX10, w ∈ wsX1_take := fun _ h => List.mem_cons_of_mem _ (List.mem_append_right _ h)
  refine lv_aload_n S.1 S.2.1 dX1_take_0 rfl (lv_at hl 0 rfl) ?_
  refine mg S hK hw 0 rfl rfl hiX1 2 (by decide) (List.mem_of_getElem? (i := 1) rfl) rfl dX1_take_1 ?_
  refine lv_aload_n S.1 S.2.1 dX1_take_4 rfl (lv_at hl 0 rfl) ?_
  refine mg S hK hw 0 rfl rfl hiX1 5 (by decide) (List.mem_of_getElem? (i := 2) rfl) rfl dX1_take_5 ?_
  refine lv_dup2_11 S.1 S.2.1 dX1_take_8 rfl rfl ?_
  refine ag S hK hw 3 rfl T0.2.2 rfl (by omega) (by decide) dX1_take_9 ?_
  refine te (y := nI ((hsh T0.1 T0.2.1 T0.2.2) T0.2.2)) rfl ?_
  refine lv_iload_n S.1 S.2.1 dX1_take_10 rfl (lv_at hl 1 rfl) ?_
  refine lv_iadd S.1 S.2.1 dX1_take_11 ?_
  refine te (nI_add _ _) ?_
  refine ap S hK hw 3 rfl T0.2.2 rfl (by omega) (by decide) dX1_take_12 (fun H locs hw => ?_)
  have hw : Wd D A s.heap H locs (wX1 o cA (fun j => nI (r j)) fa (upd (hF T0) T0.2.2 (nI (((hsh T0.1 T0.2.1 T0.2.2) T0.2.2) + v))) fp ft (nI T0.2.2)) := hw
  have hw := hw.cong 3 (g := fun j => nI ((hsh T0.1 (updN T0.2.1 T0.2.2 v) (T0.2.2 + 1)) j)) rfl (upd_hsh _ _ _ _)
  have hw : Wd D A s.heap H locs (wX1 o cA (fun j => nI (r j)) fa (fun j => nI ((hsh T0.1 (updN T0.2.1 T0.2.2 v) (T0.2.2 + 1)) j)) fp ft (nI T0.2.2)) := hw
  refine lv_aload_n S.1 S.2.1 dX1_take_13 rfl (lv_at hl 0 rfl) ?_
  refine lv_dup S.1 S.2.1 dX1_take_14 rfl ?_
  refine mg S hK hw 0 rfl rfl hiX1 5 (by decide) (List.mem_of_getElem? (i := 2) rfl) rfl dX1_take_15 ?_
  refine lv_iconst (v := nI 1) S.1 S.2.1 dX1_take_18 (by decide) ?_
  refine lv_iadd S.1 S.2.1 dX1_take_19 ?_
  refine te (nI_add _ _) ?_
  refine mp S hK hw 0 rfl rfl hiX1 tyX1_ok nmX1 5 (by decide) (List.mem_of_getElem? (i := 2) rfl) rfl rfl rfl (Nat.le_of_ble_eq_true rfl) dX1_take_20 (fun H locs hw => ?_)
  have hw : Wd D A s.heap H locs (wX1 o cA (fun j => nI (r j)) fa (fun j => nI ((hsh T0.1 (updN T0.2.1 T0.2.2 v) (T0.2.2 + 1)) j)) fp ft (nI (T0.2.2 + 1))) := hw
  refine lv_aload_n S.1 S.2.1 dX1_take_23 rfl (lv_at hl 0 rfl) ?_
  refine mg S hK hw 0 rfl rfl hiX1 5 (by decide) (List.mem_of_getElem? (i := 2) rfl) rfl dX1_take_24 ?_
  refine lv_bipush (v := nI 16) S.1 S.2.1 dX1_take_27 (by decide) ?_
  refine lv_icmp_ne (tgt := 36) S.1 S.2.1 dX1_take_29 (by decide) (fun c29 => ?_) (fun c29 => ?_)
  · rw [nI_eq (by omega) (by omega)] at c29
    exact cv_ret S hr hlk hQ hw fp (by first | rw [tk1_no c29] | rw [tk1_yes c29, hF_0]) trivial dX1_take_36
  · rw [nI_eq (by omega) (by omega)] at c29
    refine lv_aload_n S.1 S.2.1 dX1_take_32 rfl (lv_at hl 0 rfl) ?_
    refine callVV (rest := []) S hK hw hA (kX1_endChunk l D cA o fa fp ft (nI (T0.2.2 + 1)) (hsh T0.1 (updN T0.2.1 T0.2.2 v) (T0.2.2 + 1)) r (hsh_ec (updN_lt hT.2 hv) (by have := hT.1; omega)) hr0) gX1_take_X1_endChunk rfl 0 rfl (by decide +kernel) ⟨rfl, rfl⟩ ⟨by decide, by decide⟩ ⟨Nat.zero_le _, Nat.zero_le _⟩ [0, 1, 2, 3, 4, 5] rfl (by decide) (fun _ => rfl) 0 rfl rfl rfl hl.1 (Nat.le_of_ble_eq_true rfl) dX1_take_33 rfl (fun u33 H locs hp hw => ?_)
    have hw : Wd D A s.heap H locs (wX1 o cA (fun j => nI (r j)) fa (fun j => nI (dg (EC (hsh T0.1 (updN T0.2.1 T0.2.2 v) (T0.2.2 + 1)) r) j)) (fun j => nI (prd (bump (hsh T0.1 (updN T0.2.1 T0.2.2 v) (T0.2.2 + 1))) r j)) ft (nI 0)) := hw
    exact cv_ret S hr hlk hQ hw (fun j => nI (prd (bump (hsh T0.1 (updN T0.2.1 T0.2.2 v) (T0.2.2 + 1))) r j)) (by first | rw [tk1_no c29] | rw [tk1_yes c29, hF_0]) trivial dX1_take_36

set_option maxHeartbeats 4000000 in
set_option maxRecDepth 100000 in
theorem kX1_fillUp (l : Launch) (D : va_G) (cA : ClassId) (o : Nat → Nat) (fa fp ft : Nat → Int32) (r : Nat → Nat) (T0 : TS) (hT : okT T0) (hr0 : ∀ j, j < 17 → r j ≤ 255) : CV l D cA yX1_fillUp wsX1_fillUp { frames := 3, cells := 0, slots := 0, locals := 65 } [.ref (o 0)] (wX1 o cA (fun j => nI (r j)) fa (hF T0) fp ft (nI T0.2.2)) (fun _ => True) (fun u : Nat → Int32 => wX1 o cA (fun j => nI (r j)) fa (hF (fl1 r T0)) u ft (nI (fl1 r T0).2.2)) := by
  have hT1 := hT.1
  refine cv_of (by decide) rfl (Nat.le_of_ble_eq_true rfl) ?_
  intro p e s m below meth c ls A ar Q S hK hw hA hr hlk hl hQ
  have hl : lv_has ls 1 [(0, .ref (o 0))] := hl
  have hiX1 : ∀ w ∈ wsX10, w ∈ wsX1_fillUp := fun _ h => List.mem_cons_of_mem _ (List.mem_append_right _ h)
  refine lv_aload_n S.1 S.2.1 dX1_fillUp_0 rfl (lv_at hl 0 rfl) ?_
  refine mg S hK hw 0 rfl rfl hiX1 5 (by decide) (List.mem_of_getElem? (i := 1) rfl) rfl dX1_fillUp_1 ?_
  refine lv_if_le (tgt := 11) S.1 S.2.1 dX1_fillUp_4 (by decide) (fun c4 => ?_) (fun c4 => ?_)
  · rw [← nI_0, nI_leI (by omega) (by omega)] at c4
    exact cv_ret S hr hlk hQ hw fp (by first | rw [fl1_no c4] | rw [fl1_yes c4, hF_0]) trivial dX1_fillUp_11
  · rw [← nI_0, nI_leI (by omega) (by omega)] at c4
    refine lv_aload_n S.1 S.2.1 dX1_fillUp_7 rfl (lv_at hl 0 rfl) ?_
    refine callVV (rest := []) S hK hw hA (kX1_endChunk l D cA o fa fp ft (nI T0.2.2) (hsh T0.1 T0.2.1 T0.2.2) r (hsh_ec hT.2 (by have := hT.1; omega)) hr0) gX1_fillUp_X1_endChunk rfl 0 rfl (by decide +kernel) ⟨rfl, rfl⟩ ⟨by decide, by decide⟩ ⟨Nat.zero_le _, Nat.zero_le _⟩ [0, 1, 2, 3, 4, 5] rfl (by decide) (fun _ => rfl) 0 rfl rfl rfl hl.1 (Nat.le_of_ble_eq_true rfl) dX1_fillUp_8 rfl (fun u8 H locs hp hw => ?_)
    have hw : Wd D A s.heap H locs (wX1 o cA (fun j => nI (r j)) fa (fun j => nI (dg (EC (hsh T0.1 T0.2.1 T0.2.2) r) j)) (fun j => nI (prd (bump (hsh T0.1 T0.2.1 T0.2.2)) r j)) ft (nI 0)) := hw
    exact cv_ret S hr hlk hQ hw (fun j => nI (prd (bump (hsh T0.1 T0.2.1 T0.2.2)) r j)) (by first | rw [fl1_no c4] | rw [fl1_yes c4, hF_0]) trivial dX1_fillUp_11

set_option maxHeartbeats 4000000 in
set_option maxRecDepth 100000 in
theorem kX1_takeCount (l : Launch) (D : va_G) (cA : ClassId) (o : Nat → Nat) (fa fp ft : Nat → Int32) (r : Nat → Nat) (T0 : TS) (k0 : Nat) (hT : okT T0) (hk0 : k0 < 2 ^ 31) (hr0 : ∀ j, j < 17 → r j ≤ 255) : CV l D cA yX1_takeCount wsX1_takeCount { frames := 4, cells := 0, slots := 0, locals := 86 } [.ref (o 0), .int (nI k0)] (wX1 o cA (fun j => nI (r j)) fa (hF T0) fp ft (nI T0.2.2)) (fun _ => True) (fun u : Nat → Int32 => wX1 o cA (fun j => nI (r j)) fa (hF (tks r T0 (dg k0) 8)) u ft (nI (tks r T0 (dg k0) 8).2.2)) := by
  refine cv_of (by decide) rfl (Nat.le_of_ble_eq_true rfl) ?_
  intro p e s m below meth c ls A ar Q S hK hw hA hr hlk hl hQ
  have hl : lv_has ls 3 [(0, .ref (o 0)), (1, .int (nI k0))] := hl
  refine lv_iconst (v := nI 0) S.1 S.2.1 dX1_takeCount_0 (by decide) ?_
  refine lv_istore_n (lv' := [(2, .int (nI 0)), (0, .ref (o 0)), (1, .int (nI k0))]) S.1 S.2.1 dX1_takeCount_1 rfl hl (by decide) rfl (fun ls hl => ?_)
  have lp2 : ∀ (n0 i : Nat) (up : Nat → Int32), i + n0 = 8 → ∀ (H : Heap) (locs : List Loc), Wd D A s.heap H locs (wX1 o cA (fun j => nI (r j)) fa (hF (tks r T0 (dg k0) i)) up ft (nI (tks r T0 (dg k0) i).2.2)) → ∀ ls : Array Slot, lv_has ls 3 [(2, .int (nI i)), (0, .ref (o 0)), (1, .int (nI k0))] → W p l e { frames := 4, cells := 0, slots := 0, locals := 86 } s m ar below meth c H locs 0 0 Q (F0 m 2 ls []) := by
    intro n0
    induction n0 with
    | zero =>
      intro i up hn0 H locs hw ls hl
      have hn0 : i = 8 := by omega
      subst hn0
      refine lv_iload_n S.1 S.2.1 dX1_takeCount_2 rfl (lv_at hl 0 rfl) ?_
      refine lv_bipush (v := nI 8) S.1 S.2.1 dX1_takeCount_3 (by decide) ?_
      refine lv_icmp_ge (tgt := 37) S.1 S.2.1 dX1_takeCount_5 (by decide) (fun c5 => ?_) (fun c5 => ?_)
      · rw [nI_leI (by omega) (by omega)] at c5
        exact cv_ret S hr hlk hQ hw up rfl trivial dX1_takeCount_37
      · rw [nI_leI (by omega) (by omega)] at c5
        exfalso; omega
    | succ n0 ih =>
      intro i up hn0 H locs hw ls hl
      have hlt : i < 8 := by omega
      refine lv_iload_n S.1 S.2.1 dX1_takeCount_2 rfl (lv_at hl 0 rfl) ?_
      refine lv_bipush (v := nI 8) S.1 S.2.1 dX1_takeCount_3 (by decide) ?_
      refine lv_icmp_ge (tgt := 37) S.1 S.2.1 dX1_takeCount_5 (by decide) (fun c5 => ?_) (fun c5 => ?_)
      · rw [nI_leI (by omega) (by omega)] at c5
        exfalso; omega
      · rw [nI_leI (by omega) (by omega)] at c5
        refine lv_aload_n S.1 S.2.1 dX1_takeCount_8 rfl (lv_at hl 1 rfl) ?_
        refine lv_iload_n S.1 S.2.1 dX1_takeCount_9 rfl (lv_at hl 0 rfl) ?_
        refine lv_iconst (v := nI 4) S.1 S.2.1 dX1_takeCount_10 (by decide) ?_
        refine lv_icmp_ge (tgt := 27) S.1 S.2.1 dX1_takeCount_11 (by decide) (fun c11 => ?_) (fun c11 => ?_)
        · rw [nI_leI (by omega) (by omega)] at c11
          refine lv_iconst (v := nI 0) S.1 S.2.1 dX1_takeCount_27 (by decide) ?_
          refine te (y := nI (dg k0 i)) (by rw [dg_big (by omega) (by omega)]) ?_
          refine callVV (rest := []) S hK hw hA (kX1_take l D cA o fa up ft r (tks r T0 (dg k0) i) (dg k0 i) (tks_ok hT (fun j => dg_lt k0 j) i) (dg_lt k0 i) hr0) gX1_takeCount_X1_take rfl 1 rfl (by decide +kernel) ⟨rfl, rfl⟩ ⟨by decide, by decide⟩ ⟨Nat.zero_le _, Nat.zero_le _⟩ [0, 1, 2, 3, 4, 5] rfl (by decide) (fun _ => rfl) 0 rfl rfl rfl hl.1 (Nat.le_of_ble_eq_true rfl) dX1_takeCount_28 rfl (fun u28 H locs hp hw => ?_)
          have hw : Wd D A s.heap H locs (wX1 o cA (fun j => nI (r j)) fa (hF (tk1 r (tks r T0 (dg k0) i) (dg k0 i))) u28 ft (nI (tk1 r (tks r T0 (dg k0) i) (dg k0 i)).2.2)) := hw
          refine lv_iinc (v := nI (i + 1)) (lv' := [(2, .int (nI (i + 1))), (0, .ref (o 0)), (1, .int (nI k0))]) S.1 S.2.1 dX1_takeCount_31 hl (k := 0) rfl (nI_add i 1) (by decide) rfl (fun ls hl => ?_)
          refine lv_goto (tgt := 2) S.1 S.2.1 dX1_takeCount_34 (by decide) ?_
          exact ih (i + 1) _ (by omega)  _ _ hw _ hl
        · rw [nI_leI (by omega) (by omega)] at c11
          refine lv_iload_n S.1 S.2.1 dX1_takeCount_14 rfl (lv_at hl 2 rfl) ?_
          refine lv_bipush (v := nI 8) S.1 S.2.1 dX1_takeCount_15 (by decide) ?_
          refine lv_iload_n S.1 S.2.1 dX1_takeCount_17 rfl (lv_at hl 0 rfl) ?_
          refine lv_imul S.1 S.2.1 dX1_takeCount_18 ?_
          refine te (pk_mul _ _) ?_
          refine lv_iushr S.1 S.2.1 dX1_takeCount_19 rfl ?_
          refine lv_sipush (v := nI 255) S.1 S.2.1 dX1_takeCount_20 (by decide) ?_
          refine lv_iand S.1 S.2.1 dX1_takeCount_23 ?_
          refine te (y := nI (dg k0 i)) (cnt_byte hk0 (by omega)) ?_
          refine lv_goto (tgt := 28) S.1 S.2.1 dX1_takeCount_24 (by decide) ?_
          refine callVV (rest := []) S hK hw hA (kX1_take l D cA o fa up ft r (tks r T0 (dg k0) i) (dg k0 i) (tks_ok hT (fun j => dg_lt k0 j) i) (dg_lt k0 i) hr0) gX1_takeCount_X1_take rfl 1 rfl (by decide +kernel) ⟨rfl, rfl⟩ ⟨by decide, by decide⟩ ⟨Nat.zero_le _, Nat.zero_le _⟩ [0, 1, 2, 3, 4, 5] rfl (by decide) (fun _ => rfl) 0 rfl rfl rfl hl.1 (Nat.le_of_ble_eq_true rfl) dX1_takeCount_28 rfl (fun u28 H locs hp hw => ?_)
          have hw : Wd D A s.heap H locs (wX1 o cA (fun j => nI (r j)) fa (hF (tk1 r (tks r T0 (dg k0) i) (dg k0 i))) u28 ft (nI (tk1 r (tks r T0 (dg k0) i) (dg k0 i)).2.2)) := hw
          refine lv_iinc (v := nI (i + 1)) (lv' := [(2, .int (nI (i + 1))), (0, .ref (o 0)), (1, .int (nI k0))]) S.1 S.2.1 dX1_takeCount_31 hl (k := 0) rfl (nI_add i 1) (by decide) rfl (fun ls hl => ?_)
          refine lv_goto (tgt := 2) S.1 S.2.1 dX1_takeCount_34 (by decide) ?_
          exact ih (i + 1) _ (by omega)  _ _ hw _ hl
  exact lp2 8 0 fp (by omega)  _ _ hw _ hl

set_option maxHeartbeats 4000000 in
set_option maxRecDepth 100000 in
theorem kX1_tagByte (l : Launch) (D : va_G) (cA : ClassId) (o : Nat → Nat) (ff fa fh fp ft : Nat → Int32) (tk : Int32) (i : Nat) (hi : i < 16) : CI l D cA yX1_tagByte wsX1_tagByte { frames := 0, cells := 0, slots := 0, locals := 0 } [.ref (o 0), .int (nI i)] (wX1 o cA ff fa fh fp ft tk) (fun r _ => r = ft i) (fun _ : Unit => wX1 o cA ff fa fh fp ft tk) := by
  refine ci_of (by decide) rfl (Nat.le_of_ble_eq_true rfl) ?_
  intro p e s m below meth c ls A ar Q S hK hw hA hr hlk hl hQ
  have hl : lv_has ls 2 [(0, .ref (o 0)), (1, .int (nI i))] := hl
  have hiX1 : ∀ w ∈ wsX10, w ∈ wsX1_tagByte := fun _ h => List.mem_cons_of_mem _ (List.mem_append_right _ h)
  refine lv_aload_n S.1 S.2.1 dX1_tagByte_0 rfl (lv_at hl 0 rfl) ?_
  refine mg S hK hw 0 rfl rfl hiX1 4 (by decide) (List.mem_of_getElem? (i := 1) rfl) rfl dX1_tagByte_1 ?_
  refine lv_iload_n S.1 S.2.1 dX1_tagByte_4 rfl (lv_at hl 1 rfl) ?_
  refine ag S hK hw 5 rfl i rfl (by omega) (by decide) dX1_tagByte_5 ?_
  exact ci_ret S hr hlk hQ hw rfl () rfl rfl dX1_tagByte_6

set_option maxHeartbeats 4000000 in
set_option maxRecDepth 100000 in
theorem kX1_close (l : Launch) (D : va_G) (cA : ClassId) (o : Nat → Nat) (ff fp ft : Nat → Int32) (tk : Int32) (V : Nat) (sd : Nat → Nat) (hV : V < 2 ^ 136) (hsd : ∀ j, j < 16 → sd j ≤ 255) : CV l D cA yX1_close wsX1_close { frames := 1, cells := 0, slots := 0, locals := 23 } [.ref (o 0)] (wX1 o cA ff (fun j => nI (sd j)) (fun j => nI (dg V j)) fp ft tk) (fun _ => True) (fun _ : Unit => wX1 o cA ff (fun j => nI (sd j)) (fun j => nI (dg (clV V) j)) fp (fun j => nI (dg (0 + vl 16 (xS V sd)) j)) tk) := by
  refine cv_of (by decide) rfl (Nat.le_of_ble_eq_true rfl) ?_
  intro p e s m below meth c ls A ar Q S hK hw hA hr hlk hl hQ
  have hl : lv_has ls 3 [(0, .ref (o 0))] := hl
  have hiX1 : ∀ w ∈ wsX10, w ∈ wsX1_close := fun _ h => List.mem_cons_of_mem _ (List.mem_append_right _ h)
  refine lv_aload_n S.1 S.2.1 dX1_close_0 rfl (lv_at hl 0 rfl) ?_
  refine callVI (rest := []) S hK hw hA (kX1_reachesModulus l D cA o ff (fun j => nI (sd j)) fp ft tk V hV) gX1_close_X1_reachesModulus rfl 0 rfl (by decide +kernel) ⟨rfl, rfl⟩ ⟨by decide, by decide⟩ ⟨Nat.zero_le _, Nat.zero_le _⟩ [0, 1, 2, 3, 4, 5] rfl (by decide) (fun _ => rfl) 0 rfl rfl rfl hl.1 (Nat.le_of_ble_eq_true rfl) dX1_close_1 rfl (fun r u1 H locs hp hw => ?_)
  have hw : Wd D A s.heap H locs (wX1 o cA ff (fun j => nI (sd j)) (fun j => nI (dg V j)) fp ft tk) := hw
  subst hp
  refine lv_if_eq (tgt := 12) S.1 S.2.1 dX1_close_4 (by decide) (fun c4 => ?_) (fun c4 => ?_)
  · skip
    have hw := hw.cong 3 (g := fun j => nI (dg (clV V) j)) rfl (fun j _ => by first | (rw [clV_no (ifone_0 c4)]; done) | (rw [clV_yes (ifone_1 c4), vl_dg, p256_17, Nat.mod_eq_of_lt hV]))
    have hw : Wd D A s.heap H locs (wX1 o cA ff (fun j => nI (sd j)) (fun j => nI (dg (clV V) j)) fp ft tk) := hw
    refine lv_iconst (v := nI 0) S.1 S.2.1 dX1_close_12 (by decide) ?_
    refine te (y := nI (cs 0 (xS V sd) 0)) (by rw [cs_0]) ?_
    refine lv_istore_n (lv' := [(1, .int (nI (cs 0 (xS V sd) 0))), (0, .ref (o 0))]) S.1 S.2.1 dX1_close_13 rfl hl (by decide) rfl (fun ls hl => ?_)
    refine lv_iconst (v := nI 0) S.1 S.2.1 dX1_close_14 (by decide) ?_
    refine lv_istore_n (lv' := [(2, .int (nI 0)), (1, .int (nI (cs 0 (xS V sd) 0))), (0, .ref (o 0))]) S.1 S.2.1 dX1_close_15 rfl hl (by decide) rfl (fun ls hl => ?_)
    have lp16 : ∀ (n0 i : Nat), i + n0 = 16 → ∀ (H : Heap) (locs : List Loc), Wd D A s.heap H locs (wX1 o cA ff (fun j => nI (sd j)) (fun j => nI (dg (clV V) j)) fp (mixf i (fun j => nI (dg (0 + vl 16 (xS V sd)) j)) ft) tk) → ∀ ls : Array Slot, lv_has ls 3 [(2, .int (nI i)), (1, .int (nI (cs 0 (xS V sd) i))), (0, .ref (o 0))] → W p l e { frames := 1, cells := 0, slots := 0, locals := 23 } s m ar below meth c H locs 0 0 Q (F0 m 16 ls []) := by
      intro n0
      induction n0 with
      | zero =>
        intro i hn0 H locs hw ls hl
        have hn0 : i = 16 := by omega
        subst hn0
        have hw := hw.cong 5 (g := fun j => nI (dg (0 + vl 16 (xS V sd)) j)) rfl (fun j hj => mixf_n hj)
        have hw : Wd D A s.heap H locs (wX1 o cA ff (fun j => nI (sd j)) (fun j => nI (dg (clV V) j)) fp (fun j => nI (dg (0 + vl 16 (xS V sd)) j)) tk) := hw
        refine lv_iload_n S.1 S.2.1 dX1_close_16 rfl (lv_at hl 0 rfl) ?_
        refine lv_bipush (v := nI 16) S.1 S.2.1 dX1_close_17 (by decide) ?_
        refine lv_icmp_ge (tgt := 60) S.1 S.2.1 dX1_close_19 (by decide) (fun c19 => ?_) (fun c19 => ?_)
        · rw [nI_leI (by omega) (by omega)] at c19
          exact cv_ret S hr hlk hQ hw () rfl trivial dX1_close_60
        · rw [nI_leI (by omega) (by omega)] at c19
          exfalso; omega
      | succ n0 ih =>
        intro i hn0 H locs hw ls hl
        have hlt : i < 16 := by omega
        have hc1 := cs_le (c := 0) (B := 510) (n := 16) (x := xS V sd) (by decide) (fun j hj => by unfold xS; have := dg_lt (clV V) j; have := hsd j hj; omega) i (by omega)
        have hx1 : xS V sd i ≤ 510 := by unfold xS; have := dg_lt (clV V) i; have := hsd i hlt; omega
        refine lv_iload_n S.1 S.2.1 dX1_close_16 rfl (lv_at hl 0 rfl) ?_
        refine lv_bipush (v := nI 16) S.1 S.2.1 dX1_close_17 (by decide) ?_
        refine lv_icmp_ge (tgt := 60) S.1 S.2.1 dX1_close_19 (by decide) (fun c19 => ?_) (fun c19 => ?_)
        · rw [nI_leI (by omega) (by omega)] at c19
          exfalso; omega
        · rw [nI_leI (by omega) (by omega)] at c19
          refine lv_iload_n S.1 S.2.1 dX1_close_22 rfl (lv_at hl 1 rfl) ?_
          refine lv_aload_n S.1 S.2.1 dX1_close_23 rfl (lv_at hl 2 rfl) ?_
          refine mg S hK hw 0 rfl rfl hiX1 2 (by decide) (List.mem_of_getElem? (i := 1) rfl) rfl dX1_close_24 ?_
          refine lv_iload_n S.1 S.2.1 dX1_close_27 rfl (lv_at hl 0 rfl) ?_
          refine ag S hK hw 3 rfl i rfl (by omega) (by decide) dX1_close_28 ?_
          refine te (y := nI ((dg (clV V)) i)) rfl ?_
          refine lv_aload_n S.1 S.2.1 dX1_close_29 rfl (lv_at hl 2 rfl) ?_
          refine mg S hK hw 0 rfl rfl hiX1 1 (by decide) (List.mem_of_getElem? (i := 2) rfl) rfl dX1_close_30 ?_
          refine lv_iload_n S.1 S.2.1 dX1_close_33 rfl (lv_at hl 0 rfl) ?_
          refine ag S hK hw 2 rfl i rfl (by omega) (by decide) dX1_close_34 ?_
          refine te (y := nI (sd i)) rfl ?_
          refine lv_iadd S.1 S.2.1 dX1_close_35 ?_
          refine te (nI_add _ _) ?_
          refine lv_iadd S.1 S.2.1 dX1_close_36 ?_
          refine te (y := nI (cs 0 (xS V sd) i + xS V sd i)) (nI_add _ _) ?_
          refine lv_istore_n (lv' := [(1, .int (nI (cs 0 (xS V sd) i + xS V sd i))), (2, .int (nI i)), (0, .ref (o 0))]) S.1 S.2.1 dX1_close_37 rfl hl (by decide) rfl (fun ls hl => ?_)
          refine lv_aload_n S.1 S.2.1 dX1_close_38 rfl (lv_at hl 2 rfl) ?_
          refine mg S hK hw 0 rfl rfl hiX1 4 (by decide) (List.mem_of_getElem? (i := 3) rfl) rfl dX1_close_39 ?_
          refine lv_iload_n S.1 S.2.1 dX1_close_42 rfl (lv_at hl 1 rfl) ?_
          refine lv_iload_n S.1 S.2.1 dX1_close_43 rfl (lv_at hl 0 rfl) ?_
          refine lv_sipush (v := nI 255) S.1 S.2.1 dX1_close_44 (by decide) ?_
          refine lv_iand S.1 S.2.1 dX1_close_47 ?_
          refine te (y := nI ((cs 0 (xS V sd) i + xS V sd i) % 256)) (and255 (by omega)) ?_
          refine ap S hK hw 5 rfl i rfl (by omega) (by decide) dX1_close_48 (fun H locs hw => ?_)
          have hw : Wd D A s.heap H locs (wX1 o cA ff (fun j => nI (sd j)) (fun j => nI (dg (clV V) j)) fp (upd (mixf i (fun j => nI (dg (0 + vl 16 (xS V sd)) j)) ft) i (nI ((cs 0 (xS V sd) i + xS V sd i) % 256))) tk) := hw
          have hw := hw.cong 5 (g := mixf (i + 1) (fun j => nI (dg (0 + vl 16 (xS V sd)) j)) ft) rfl (fun j _ => mixf_put (by exact (congrArg nI (dg_at 0 (xS V sd) hlt).symm)) j)
          have hw : Wd D A s.heap H locs (wX1 o cA ff (fun j => nI (sd j)) (fun j => nI (dg (clV V) j)) fp (mixf (i + 1) (fun j => nI (dg (0 + vl 16 (xS V sd)) j)) ft) tk) := hw
          refine lv_iload_n S.1 S.2.1 dX1_close_49 rfl (lv_at hl 0 rfl) ?_
          refine lv_bipush (v := nI 8) S.1 S.2.1 dX1_close_50 (by decide) ?_
          refine lv_iushr S.1 S.2.1 dX1_close_52 rfl ?_
          refine te (y := nI (cs 0 (xS V sd) (i + 1))) (by rw [cs_succ]; exact ushr8 (by omega)) ?_
          refine lv_istore_n (lv' := [(1, .int (nI (cs 0 (xS V sd) (i + 1)))), (2, .int (nI i)), (0, .ref (o 0))]) S.1 S.2.1 dX1_close_53 rfl hl (by decide) rfl (fun ls hl => ?_)
          refine lv_iinc (v := nI (i + 1)) (lv' := [(2, .int (nI (i + 1))), (1, .int (nI (cs 0 (xS V sd) (i + 1)))), (0, .ref (o 0))]) S.1 S.2.1 dX1_close_54 hl (k := 1) rfl (nI_add i 1) (by decide) rfl (fun ls hl => ?_)
          refine lv_goto (tgt := 16) S.1 S.2.1 dX1_close_57 (by decide) ?_
          exact ih (i + 1)  (by omega)  _ _ hw _ hl
    have hw := hw.cong 5 (g := mixf 0 (fun j => nI (dg (0 + vl 16 (xS V sd)) j)) ft) rfl (fun j _ => mixf_0 (fun j => nI (dg (0 + vl 16 (xS V sd)) j)) ft j)
    exact lp16 16 0  (by omega)  _ _ hw _ hl
  · skip
    refine lv_aload_n S.1 S.2.1 dX1_close_7 rfl (lv_at hl 0 rfl) ?_
    refine lv_iconst (v := nI 5) S.1 S.2.1 dX1_close_8 (by decide) ?_
    refine callVV (rest := []) S hK hw hA (kX1_addSmall l D cA o ff (fun j => nI (sd j)) fp ft tk 5 (dg V) (by decide) (fun j _ => by have := dg_lt V j; omega)) gX1_close_X1_addSmall rfl 1 rfl (by decide +kernel) ⟨rfl, rfl⟩ ⟨by decide, by decide⟩ ⟨Nat.zero_le _, Nat.zero_le _⟩ [0, 1, 2, 3, 4, 5] rfl (by decide) (fun _ => rfl) 0 rfl rfl rfl hl.1 (Nat.le_of_ble_eq_true rfl) dX1_close_9 rfl (fun u9 H locs hp hw => ?_)
    have hw : Wd D A s.heap H locs (wX1 o cA ff (fun j => nI (sd j)) (fun j => nI (dg (5 + vl 17 (dg V)) j)) fp ft tk) := hw
    have hw := hw.cong 3 (g := fun j => nI (dg (clV V) j)) rfl (fun j _ => by first | (rw [clV_no (ifone_0 c4)]; done) | (rw [clV_yes (ifone_1 c4), vl_dg, p256_17, Nat.mod_eq_of_lt hV]))
    have hw : Wd D A s.heap H locs (wX1 o cA ff (fun j => nI (sd j)) (fun j => nI (dg (clV V) j)) fp ft tk) := hw
    refine lv_iconst (v := nI 0) S.1 S.2.1 dX1_close_12 (by decide) ?_
    refine te (y := nI (cs 0 (xS V sd) 0)) (by rw [cs_0]) ?_
    refine lv_istore_n (lv' := [(1, .int (nI (cs 0 (xS V sd) 0))), (0, .ref (o 0))]) S.1 S.2.1 dX1_close_13 rfl hl (by decide) rfl (fun ls hl => ?_)
    refine lv_iconst (v := nI 0) S.1 S.2.1 dX1_close_14 (by decide) ?_
    refine lv_istore_n (lv' := [(2, .int (nI 0)), (1, .int (nI (cs 0 (xS V sd) 0))), (0, .ref (o 0))]) S.1 S.2.1 dX1_close_15 rfl hl (by decide) rfl (fun ls hl => ?_)
    have lp16 : ∀ (n0 i : Nat), i + n0 = 16 → ∀ (H : Heap) (locs : List Loc), Wd D A s.heap H locs (wX1 o cA ff (fun j => nI (sd j)) (fun j => nI (dg (clV V) j)) fp (mixf i (fun j => nI (dg (0 + vl 16 (xS V sd)) j)) ft) tk) → ∀ ls : Array Slot, lv_has ls 3 [(2, .int (nI i)), (1, .int (nI (cs 0 (xS V sd) i))), (0, .ref (o 0))] → W p l e { frames := 1, cells := 0, slots := 0, locals := 23 } s m ar below meth c H locs 0 0 Q (F0 m 16 ls []) := by
      intro n0
      induction n0 with
      | zero =>
        intro i hn0 H locs hw ls hl
        have hn0 : i = 16 := by omega
        subst hn0
        have hw := hw.cong 5 (g := fun j => nI (dg (0 + vl 16 (xS V sd)) j)) rfl (fun j hj => mixf_n hj)
        have hw : Wd D A s.heap H locs (wX1 o cA ff (fun j => nI (sd j)) (fun j => nI (dg (clV V) j)) fp (fun j => nI (dg (0 + vl 16 (xS V sd)) j)) tk) := hw
        refine lv_iload_n S.1 S.2.1 dX1_close_16 rfl (lv_at hl 0 rfl) ?_
        refine lv_bipush (v := nI 16) S.1 S.2.1 dX1_close_17 (by decide) ?_
        refine lv_icmp_ge (tgt := 60) S.1 S.2.1 dX1_close_19 (by decide) (fun c19 => ?_) (fun c19 => ?_)
        · rw [nI_leI (by omega) (by omega)] at c19
          exact cv_ret S hr hlk hQ hw () rfl trivial dX1_close_60
        · rw [nI_leI (by omega) (by omega)] at c19
          exfalso; omega
      | succ n0 ih =>
        intro i hn0 H locs hw ls hl
        have hlt : i < 16 := by omega
        have hc1 := cs_le (c := 0) (B := 510) (n := 16) (x := xS V sd) (by decide) (fun j hj => by unfold xS; have := dg_lt (clV V) j; have := hsd j hj; omega) i (by omega)
        have hx1 : xS V sd i ≤ 510 := by unfold xS; have := dg_lt (clV V) i; have := hsd i hlt; omega
        refine lv_iload_n S.1 S.2.1 dX1_close_16 rfl (lv_at hl 0 rfl) ?_
        refine lv_bipush (v := nI 16) S.1 S.2.1 dX1_close_17 (by decide) ?_
        refine lv_icmp_ge (tgt := 60) S.1 S.2.1 dX1_close_19 (by decide) (fun c19 => ?_) (fun c19 => ?_)
        · rw [nI_leI (by omega) (by omega)] at c19
          exfalso; omega
        · rw [nI_leI (by omega) (by omega)] at c19
          refine lv_iload_n S.1 S.2.1 dX1_close_22 rfl (lv_at hl 1 rfl) ?_
          refine lv_aload_n S.1 S.2.1 dX1_close_23 rfl (lv_at hl 2 rfl) ?_
          refine mg S hK hw 0 rfl rfl hiX1 2 (by decide) (List.mem_of_getElem? (i := 1) rfl) rfl dX1_close_24 ?_
          refine lv_iload_n S.1 S.2.1 dX1_close_27 rfl (lv_at hl 0 rfl) ?_
          refine ag S hK hw 3 rfl i rfl (by omega) (by decide) dX1_close_28 ?_
          refine te (y := nI ((dg (clV V)) i)) rfl ?_
          refine lv_aload_n S.1 S.2.1 dX1_close_29 rfl (lv_at hl 2 rfl) ?_
          refine mg S hK hw 0 rfl rfl hiX1 1 (by decide) (List.mem_of_getElem? (i := 2) rfl) rfl dX1_close_30 ?_
          refine lv_iload_n S.1 S.2.1 dX1_close_33 rfl (lv_at hl 0 rfl) ?_
          refine ag S hK hw 2 rfl i rfl (by omega) (by decide) dX1_close_34 ?_
          refine te (y := nI (sd i)) rfl ?_
          refine lv_iadd S.1 S.2.1 dX1_close_35 ?_
          refine te (nI_add _ _) ?_
          refine lv_iadd S.1 S.2.1 dX1_close_36 ?_
          refine te (y := nI (cs 0 (xS V sd) i + xS V sd i)) (nI_add _ _) ?_
          refine lv_istore_n (lv' := [(1, .int (nI (cs 0 (xS V sd) i + xS V sd i))), (2, .int (nI i)), (0, .ref (o 0))]) S.1 S.2.1 dX1_close_37 rfl hl (by decide) rfl (fun ls hl => ?_)
          refine lv_aload_n S.1 S.2.1 dX1_close_38 rfl (lv_at hl 2 rfl) ?_
          refine mg S hK hw 0 rfl rfl hiX1 4 (by decide) (List.mem_of_getElem? (i := 3) rfl) rfl dX1_close_39 ?_
          refine lv_iload_n S.1 S.2.1 dX1_close_42 rfl (lv_at hl 1 rfl) ?_
          refine lv_iload_n S.1 S.2.1 dX1_close_43 rfl (lv_at hl 0 rfl) ?_
          refine lv_sipush (v := nI 255) S.1 S.2.1 dX1_close_44 (by decide) ?_
          refine lv_iand S.1 S.2.1 dX1_close_47 ?_
          refine te (y := nI ((cs 0 (xS V sd) i + xS V sd i) % 256)) (and255 (by omega)) ?_
          refine ap S hK hw 5 rfl i rfl (by omega) (by decide) dX1_close_48 (fun H locs hw => ?_)
          have hw : Wd D A s.heap H locs (wX1 o cA ff (fun j => nI (sd j)) (fun j => nI (dg (clV V) j)) fp (upd (mixf i (fun j => nI (dg (0 + vl 16 (xS V sd)) j)) ft) i (nI ((cs 0 (xS V sd) i + xS V sd i) % 256))) tk) := hw
          have hw := hw.cong 5 (g := mixf (i + 1) (fun j => nI (dg (0 + vl 16 (xS V sd)) j)) ft) rfl (fun j _ => mixf_put (by exact (congrArg nI (dg_at 0 (xS V sd) hlt).symm)) j)
          have hw : Wd D A s.heap H locs (wX1 o cA ff (fun j => nI (sd j)) (fun j => nI (dg (clV V) j)) fp (mixf (i + 1) (fun j => nI (dg (0 + vl 16 (xS V sd)) j)) ft) tk) := hw
          refine lv_iload_n S.1 S.2.1 dX1_close_49 rfl (lv_at hl 0 rfl) ?_
          refine lv_bipush (v := nI 8) S.1 S.2.1 dX1_close_50 (by decide) ?_
          refine lv_iushr S.1 S.2.1 dX1_close_52 rfl ?_
          refine te (y := nI (cs 0 (xS V sd) (i + 1))) (by rw [cs_succ]; exact ushr8 (by omega)) ?_
          refine lv_istore_n (lv' := [(1, .int (nI (cs 0 (xS V sd) (i + 1)))), (2, .int (nI i)), (0, .ref (o 0))]) S.1 S.2.1 dX1_close_53 rfl hl (by decide) rfl (fun ls hl => ?_)
          refine lv_iinc (v := nI (i + 1)) (lv' := [(2, .int (nI (i + 1))), (1, .int (nI (cs 0 (xS V sd) (i + 1)))), (0, .ref (o 0))]) S.1 S.2.1 dX1_close_54 hl (k := 1) rfl (nI_add i 1) (by decide) rfl (fun ls hl => ?_)
          refine lv_goto (tgt := 16) S.1 S.2.1 dX1_close_57 (by decide) ?_
          exact ih (i + 1)  (by omega)  _ _ hw _ hl
    have hw := hw.cong 5 (g := mixf 0 (fun j => nI (dg (0 + vl 16 (xS V sd)) j)) ft) rfl (fun j _ => mixf_0 (fun j => nI (dg (0 + vl 16 (xS V sd)) j)) ft j)
    exact lp16 16 0  (by omega)  _ _ hw _ hl
