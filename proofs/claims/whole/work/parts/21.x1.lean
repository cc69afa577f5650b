set_option maxHeartbeats 4000000 in
set_option maxRecDepth 100000 in
theorem kX1_factorMask (l : Launch) (D : va_G) (cA : ClassId) (o : Nat → Nat) (i : Nat) (hi : i < 16) : CI l D cA yX1_factorMask wsX1_factorMask { frames := 0, cells := 0, slots := 0, locals := 0 } [.int (nI i)] (wE o cA ) (fun r _ => r = nI (fmask i)) (fun _ : Unit => wE o cA ) := by
  refine ci_of (by decide) rfl (Nat.le_of_ble_eq_true rfl) ?_
  intro p e s m below meth c ls A ar Q S hK hw hA hr hlk hl hQ
  have hl : lv_has ls 1 [(0, .int (nI i))] := hl
  refine lv_iload_n S.1 S.2.1 dX1_factorMask_0 rfl (lv_at hl 0 rfl) ?_
  refine lv_iconst (v := nI 4) S.1 S.2.1 dX1_factorMask_1 (by decide) ?_
  refine lv_irem S.1 S.2.1 dX1_factorMask_2 (by decide) ?_
  refine te (pk_rem (by omega) (by decide) (by decide)) ?_
  refine lv_iconst (v := nI 3) S.1 S.2.1 dX1_factorMask_3 (by decide) ?_
  refine lv_icmp_ne (tgt := 10) S.1 S.2.1 dX1_factorMask_4 (by decide) (fun c4 => ?_) (fun c4 => ?_)
  · rw [nI_eq (by omega) (by omega)] at c4
    refine lv_iload_n S.1 S.2.1 dX1_factorMask_10 rfl (lv_at hl 0 rfl) ?_
    refine lv_iconst (v := nI 4) S.1 S.2.1 dX1_factorMask_11 (by decide) ?_
    refine lv_irem S.1 S.2.1 dX1_factorMask_12 (by decide) ?_
    refine te (pk_rem (by omega) (by decide) (by decide)) ?_
    refine lv_if_ne (tgt := 26) S.1 S.2.1 dX1_factorMask_13 (by decide) (fun c13 => ?_) (fun c13 => ?_)
    · rw [← nI_0, nI_eq (by omega) (by omega)] at c13
      refine lv_sipush (v := nI 255) S.1 S.2.1 dX1_factorMask_26 (by decide) ?_
      exact ci_ret S hr hlk hQ hw rfl () rfl (by refine congrArg nI ?_; unfold fmask; split <;> (try split) <;> omega) dX1_factorMask_29
    · rw [← nI_0, nI_eq (by omega) (by omega)] at c13
      refine lv_iload_n S.1 S.2.1 dX1_factorMask_16 rfl (lv_at hl 0 rfl) ?_
      refine lv_if_le (tgt := 26) S.1 S.2.1 dX1_factorMask_17 (by decide) (fun c17 => ?_) (fun c17 => ?_)
      · rw [← nI_0, nI_leI (by omega) (by omega)] at c17
        refine lv_sipush (v := nI 255) S.1 S.2.1 dX1_factorMask_26 (by decide) ?_
        exact ci_ret S hr hlk hQ hw rfl () rfl (by refine congrArg nI ?_; unfold fmask; split <;> (try split) <;> omega) dX1_factorMask_29
      · rw [← nI_0, nI_leI (by omega) (by omega)] at c17
        refine lv_sipush (v := nI 252) S.1 S.2.1 dX1_factorMask_20 (by decide) ?_
        refine lv_goto (tgt := 29) S.1 S.2.1 dX1_factorMask_23 (by decide) ?_
        exact ci_ret S hr hlk hQ hw rfl () rfl (by refine congrArg nI ?_; unfold fmask; split <;> (try split) <;> omega) dX1_factorMask_29
  · rw [nI_eq (by omega) (by omega)] at c4
    refine lv_bipush (v := nI 15) S.1 S.2.1 dX1_factorMask_7 (by decide) ?_
    exact ci_ret S hr hlk hQ hw rfl () rfl (by refine congrArg nI ?_; unfold fmask; split <;> (try split) <;> omega) dX1_factorMask_9

set_option maxHeartbeats 4000000 in
set_option maxRecDepth 100000 in
theorem kX1_start (l : Launch) (D : va_G) (cA : ClassId) (o : Nat → Nat) (ff fa fh fp ft : Nat → Int32) (tk : Int32) (fi fb : Nat → Int32) (h16 : ff 16 = nI 0) : CV l D cA yX1_start wsX1_start { frames := 1, cells := 0, slots := 0, locals := 21 } [.ref (o 0), .ref (o 6)] (wX10 o cA ff fa fh fp ft tk fi fb) (fun _ => True) (fun _ : Unit => wX10 o cA (fun j => nI (rF fb j)) (fun j => nI (bbn fb (16 + j))) (hF (0, (fun _ => 0), 0)) fp ft (nI 0) fi fb) := by
  refine cv_of (by decide) rfl (Nat.le_of_ble_eq_true rfl) ?_
  intro p e s m below meth c ls A ar Q S hK hw hA hr hlk hl hQ
  have hl : lv_has ls 3 [(0, .ref (o 0)), (1, .ref (o 6))] := hl
  have hiX1 : ∀ w ∈ wsX10, w ∈ wsX1_start := fun _ h => List.mem_cons_of_mem _ (List.mem_append_left _ (List.mem_append_right _ h))
  refine lv_iconst (v := nI 0) S.1 S.2.1 dX1_start_0 (by decide) ?_
  refine lv_istore_n (lv' := [(2, .int (nI 0)), (0, .ref (o 0)), (1, .ref (o 6))]) S.1 S.2.1 dX1_start_1 rfl hl (by decide) rfl (fun ls hl => ?_)
  have lp2 : ∀ (n0 i : Nat), i + n0 = 16 → ∀ (H : Heap) (locs : List Loc), Wd D A s.heap H locs (wX10 o cA (mixf i (fun j => nI (rF fb j)) ff) (mixf i (fun j => nI (bbn fb (16 + j))) fa) fh fp ft tk fi fb) → ∀ ls : Array Slot, lv_has ls 3 [(2, .int (nI i)), (0, .ref (o 0)), (1, .ref (o 6))] → W p l e { frames := 1, cells := 0, slots := 0, locals := 21 } s m ar below meth c H locs 0 0 Q (F0 m 2 ls []) := by
    intro n0
    induction n0 with
    | zero =>
      intro i hn0 H locs hw ls hl
      have hn0 : i = 16 := by omega
      subst hn0
      have hw := hw.cong 1 (g := fun j => nI (rF fb j)) rfl (mix_r h16)
      have hw := hw.cong 2 (g := fun j => nI (bbn fb (16 + j))) rfl (fun j hj => mixf_n hj)
      have hw : Wd D A s.heap H locs (wX10 o cA (fun j => nI (rF fb j)) (fun j => nI (bbn fb (16 + j))) fh fp ft tk fi fb) := hw
      refine lv_iload_n S.1 S.2.1 dX1_start_2 rfl (lv_at hl 0 rfl) ?_
      refine lv_bipush (v := nI 16) S.1 S.2.1 dX1_start_3 (by decide) ?_
      refine lv_icmp_ge (tgt := 44) S.1 S.2.1 dX1_start_5 (by decide) (fun c5 => ?_) (fun c5 => ?_)
      · rw [nI_leI (by omega) (by omega)] at c5
        refine lv_iconst (v := nI 0) S.1 S.2.1 dX1_start_44 (by decide) ?_
        refine lv_istore_n (lv' := [(2, .int (nI 0)), (0, .ref (o 0)), (1, .ref (o 6))]) S.1 S.2.1 dX1_start_45 rfl hl (by decide) rfl (fun ls hl => ?_)
        have lp46 : ∀ (n0 i : Nat), i + n0 = 17 → ∀ (H : Heap) (locs : List Loc), Wd D A s.heap H locs (wX10 o cA (fun j => nI (rF fb j)) (fun j => nI (bbn fb (16 + j))) (mixf i (fun j => nI 0) fh) fp ft tk fi fb) → ∀ ls : Array Slot, lv_has ls 3 [(2, .int (nI i)), (0, .ref (o 0)), (1, .ref (o 6))] → W p l e { frames := 1, cells := 0, slots := 0, locals := 21 } s m ar below meth c H locs 0 0 Q (F0 m 46 ls []) := by
          intro n0
          induction n0 with
          | zero =>
            intro i hn0 H locs hw ls hl
            have hn0 : i = 17 := by omega
            subst hn0
            have hw := hw.cong 3 (g := hF (0, (fun _ => 0), 0)) rfl mix_h0
            have hw : Wd D A s.heap H locs (wX10 o cA (fun j => nI (rF fb j)) (fun j => nI (bbn fb (16 + j))) (hF (0, (fun _ => 0), 0)) fp ft tk fi fb) := hw
            refine lv_iload_n S.1 S.2.1 dX1_start_46 rfl (lv_at hl 0 rfl) ?_
            refine lv_bipush (v := nI 17) S.1 S.2.1 dX1_start_47 (by decide) ?_
            refine lv_icmp_ge (tgt := 65) S.1 S.2.1 dX1_start_49 (by decide) (fun c49 => ?_) (fun c49 => ?_)
            · rw [nI_leI (by omega) (by omega)] at c49
              refine lv_aload_n S.1 S.2.1 dX1_start_65 rfl (lv_at hl 1 rfl) ?_
              refine lv_iconst (v := nI 0) S.1 S.2.1 dX1_start_66 (by decide) ?_
              refine mp S hK hw 0 rfl rfl hiX1 tyX1_ok nmX1 5 (by decide) (List.mem_of_getElem? (i := 4) rfl) rfl rfl rfl (Nat.le_of_ble_eq_true rfl) dX1_start_67 (fun H locs hw => ?_)
              have hw : Wd D A s.heap H locs (wX10 o cA (fun j => nI (rF fb j)) (fun j => nI (bbn fb (16 + j))) (hF (0, (fun _ => 0), 0)) fp ft (nI 0) fi fb) := hw
              exact cv_ret S hr hlk hQ hw () rfl trivial dX1_start_70
            · rw [nI_leI (by omega) (by omega)] at c49
              exfalso; omega
          | succ n0 ih =>
            intro i hn0 H locs hw ls hl
            have hlt : i < 17 := by omega
            refine lv_iload_n S.1 S.2.1 dX1_start_46 rfl (lv_at hl 0 rfl) ?_
            refine lv_bipush (v := nI 17) S.1 S.2.1 dX1_start_47 (by decide) ?_
            refine lv_icmp_ge (tgt := 65) S.1 S.2.1 dX1_start_49 (by decide) (fun c49 => ?_) (fun c49 => ?_)
            · rw [nI_leI (by omega) (by omega)] at c49
              exfalso; omega
            · rw [nI_leI (by omega) (by omega)] at c49
              refine lv_aload_n S.1 S.2.1 dX1_start_52 rfl (lv_at hl 1 rfl) ?_
              refine mg S hK hw 0 rfl rfl hiX1 2 (by decide) (List.mem_of_getElem? (i := 3) rfl) rfl dX1_start_53 ?_
              refine lv_iload_n S.1 S.2.1 dX1_start_56 rfl (lv_at hl 0 rfl) ?_
              refine lv_iconst (v := nI 0) S.1 S.2.1 dX1_start_57 (by decide) ?_
              refine ap S hK hw 3 rfl i rfl (by omega) (by decide) dX1_start_58 (fun H locs hw => ?_)
              have hw : Wd D A s.heap H locs (wX10 o cA (fun j => nI (rF fb j)) (fun j => nI (bbn fb (16 + j))) (upd (mixf i (fun j => nI 0) fh) i (nI 0)) fp ft tk fi fb) := hw
              have hw := hw.cong 3 (g := mixf (i + 1) (fun j => nI 0) fh) rfl (fun j _ => mixf_put (by exact rfl) j)
              have hw : Wd D A s.heap H locs (wX10 o cA (fun j => nI (rF fb j)) (fun j => nI (bbn fb (16 + j))) (mixf (i + 1) (fun j => nI 0) fh) fp ft tk fi fb) := hw
              refine lv_iinc (v := nI (i + 1)) (lv' := [(2, .int (nI (i + 1))), (0, .ref (o 0)), (1, .ref (o 6))]) S.1 S.2.1 dX1_start_59 hl (k := 0) rfl (nI_add i 1) (by decide) rfl (fun ls hl => ?_)
              refine lv_goto (tgt := 46) S.1 S.2.1 dX1_start_62 (by decide) ?_
              exact ih (i + 1)  (by omega)  _ _ hw _ hl
        have hw := hw.cong 3 (g := mixf 0 (fun j => nI 0) fh) rfl (fun j _ => mixf_0 (fun j => nI 0) fh j)
        exact lp46 17 0  (by omega)  _ _ hw _ hl
      · rw [nI_leI (by omega) (by omega)] at c5
        exfalso; omega
    | succ n0 ih =>
      intro i hn0 H locs hw ls hl
      have hlt : i < 16 := by omega
      refine lv_iload_n S.1 S.2.1 dX1_start_2 rfl (lv_at hl 0 rfl) ?_
      refine lv_bipush (v := nI 16) S.1 S.2.1 dX1_start_3 (by decide) ?_
      refine lv_icmp_ge (tgt := 44) S.1 S.2.1 dX1_start_5 (by decide) (fun c5 => ?_) (fun c5 => ?_)
      · rw [nI_leI (by omega) (by omega)] at c5
        exfalso; omega
      · rw [nI_leI (by omega) (by omega)] at c5
        refine lv_aload_n S.1 S.2.1 dX1_start_8 rfl (lv_at hl 1 rfl) ?_
        refine mg S hK hw 0 rfl rfl hiX1 0 (by decide) (List.mem_of_getElem? (i := 1) rfl) rfl dX1_start_9 ?_
        refine lv_iload_n S.1 S.2.1 dX1_start_12 rfl (lv_at hl 0 rfl) ?_
        refine lv_aload_n S.1 S.2.1 dX1_start_13 rfl (lv_at hl 2 rfl) ?_
        refine lv_iload_n S.1 S.2.1 dX1_start_14 rfl (lv_at hl 0 rfl) ?_
        refine callVI (rest := [.int (nI i), .ref (o 1)]) S hK hw hA (kX0_blockByte l D cA (fun k => o (6 + k)) fi fb i (by omega)) gX1_start_X0_blockByte rfl 1 rfl (by decide +kernel) ⟨rfl, rfl⟩ ⟨by decide, by decide⟩ ⟨Nat.zero_le _, Nat.zero_le _⟩ [6, 7, 8] rfl (by decide) (fun _ => rfl) 6 rfl rfl rfl hl.1 (Nat.le_of_ble_eq_true rfl) dX1_start_15 rfl (fun r u15 H locs hp hw => ?_)
        have hw : Wd D A s.heap H locs (wX10 o cA (mixf i (fun j => nI (rF fb j)) ff) (mixf i (fun j => nI (bbn fb (16 + j))) fa) fh fp ft tk fi fb) := hw
        rw [BB_n] at hp
        subst hp
        refine lv_iload_n S.1 S.2.1 dX1_start_18 rfl (lv_at hl 0 rfl) ?_
        refine callSI (rest := [.int (nI (bbn fb i)), .int (nI i), .ref (o 1)]) S hK hw hA (kX1_factorMask l D cA o i (by omega)) gX1_start_X1_factorMask rfl 1 rfl (by decide +kernel) ⟨rfl, rfl⟩ ⟨by decide, by decide⟩ ⟨Nat.zero_le _, Nat.zero_le _⟩ hl.1 (Nat.le_of_ble_eq_true rfl) dX1_start_19 rfl (fun r H locs hp hw => ?_)
        subst hp
        refine lv_iand S.1 S.2.1 dX1_start_22 ?_
        refine te (y := nI (bbn fb i &&& fmask i)) (nI_and _ _) ?_
        refine ap S hK hw 1 rfl i rfl (by omega) (by decide) dX1_start_23 (fun H locs hw => ?_)
        have hw : Wd D A s.heap H locs (wX10 o cA (upd (mixf i (fun j => nI (rF fb j)) ff) i (nI (bbn fb i &&& fmask i))) (mixf i (fun j => nI (bbn fb (16 + j))) fa) fh fp ft tk fi fb) := hw
        have hw := hw.cong 1 (g := mixf (i + 1) (fun j => nI (rF fb j)) ff) rfl (fun j _ => mixf_put (by exact (by show _ = nI (rF fb i); rw [rF, if_pos hlt])) j)
        have hw : Wd D A s.heap H locs (wX10 o cA (mixf (i + 1) (fun j => nI (rF fb j)) ff) (mixf i (fun j => nI (bbn fb (16 + j))) fa) fh fp ft tk fi fb) := hw
        refine lv_aload_n S.1 S.2.1 dX1_start_24 rfl (lv_at hl 1 rfl) ?_
        refine mg S hK hw 0 rfl rfl hiX1 1 (by decide) (List.mem_of_getElem? (i := 2) rfl) rfl dX1_start_25 ?_
        refine lv_iload_n S.1 S.2.1 dX1_start_28 rfl (lv_at hl 0 rfl) ?_
        refine lv_aload_n S.1 S.2.1 dX1_start_29 rfl (lv_at hl 2 rfl) ?_
        refine lv_bipush (v := nI 16) S.1 S.2.1 dX1_start_30 (by decide) ?_
        refine lv_iload_n S.1 S.2.1 dX1_start_32 rfl (lv_at hl 0 rfl) ?_
        refine lv_iadd S.1 S.2.1 dX1_start_33 ?_
        refine te (nI_add _ _) ?_
        refine callVI (rest := [.int (nI i), .ref (o 2)]) S hK hw hA (kX0_blockByte l D cA (fun k => o (6 + k)) fi fb (16 + i) (by omega)) gX1_start_X0_blockByte rfl 1 rfl (by decide +kernel) ⟨rfl, rfl⟩ ⟨by decide, by decide⟩ ⟨Nat.zero_le _, Nat.zero_le _⟩ [6, 7, 8] rfl (by decide) (fun _ => rfl) 6 rfl rfl rfl hl.1 (Nat.le_of_ble_eq_true rfl) dX1_start_34 rfl (fun r u34 H locs hp hw => ?_)
        have hw : Wd D A s.heap H locs (wX10 o cA (mixf (i + 1) (fun j => nI (rF fb j)) ff) (mixf i (fun j => nI (bbn fb (16 + j))) fa) fh fp ft tk fi fb) := hw
        rw [BB_n] at hp
        subst hp
        refine ap S hK hw 2 rfl i rfl (by omega) (by decide) dX1_start_37 (fun H locs hw => ?_)
        have hw : Wd D A s.heap H locs (wX10 o cA (mixf (i + 1) (fun j => nI (rF fb j)) ff) (upd (mixf i (fun j => nI (bbn fb (16 + j))) fa) i (nI (bbn fb (16 + i)))) fh fp ft tk fi fb) := hw
        have hw := hw.cong 2 (g := mixf (i + 1) (fun j => nI (bbn fb (16 + j))) fa) rfl (fun j _ => mixf_put (by exact rfl) j)
        have hw : Wd D A s.heap H locs (wX10 o cA (mixf (i + 1) (fun j => nI (rF fb j)) ff) (mixf (i + 1) (fun j => nI (bbn fb (16 + j))) fa) fh fp ft tk fi fb) := hw
        refine lv_iinc (v := nI (i + 1)) (lv' := [(2, .int (nI (i + 1))), (0, .ref (o 0)), (1, .ref (o 6))]) S.1 S.2.1 dX1_start_38 hl (k := 0) rfl (nI_add i 1) (by decide) rfl (fun ls hl => ?_)
        refine lv_goto (tgt := 2) S.1 S.2.1 dX1_start_41 (by decide) ?_
        exact ih (i + 1)  (by omega)  _ _ hw _ hl
  have hw := hw.cong 1 (g := mixf 0 (fun j => nI (rF fb j)) ff) rfl (fun j _ => mixf_0 (fun j => nI (rF fb j)) ff j)
  have hw := hw.cong 2 (g := mixf 0 (fun j => nI (bbn fb (16 + j))) fa) rfl (fun j _ => mixf_0 (fun j => nI (bbn fb (16 + j))) fa j)
  exact lp2 16 0  (by omega)  _ _ hw _ hl

set_option maxHeartbeats 4000000 in
set_option maxRecDepth 100000 in
theorem kX1_addSmall (l : Launch) (D : va_G) (cA : ClassId) (o : Nat → Nat) (ff fa fp ft : Nat → Int32) (tk : Int32) (k0 : Nat) (x : Nat → Nat) (hc : k0 ≤ 2 ^ 31) (hx : ∀ j, j < 17 → x j ≤ 2 ^ 30) : CV l D cA yX1_addSmall wsX1_addSmall { frames := 0, cells := 0, slots := 0, locals := 0 } [.ref (o 0), .int (nI k0)] (wX1 o cA ff fa (fun j => nI (x j)) fp ft tk) (fun _ => True) (fun _ : Unit => wX1 o cA ff fa (fun j => nI (dg (k0 + vl 17 x) j)) fp ft tk) := by
  refine cv_of (by decide) rfl (Nat.le_of_ble_eq_true rfl) ?_
  intro p e s m below meth c ls A ar Q S hK hw hA hr hlk hl hQ
  have hl : lv_has ls 4 [(0, .ref (o 0)), (1, .int (nI k0))] := hl
  have hiX1 : ∀ w ∈ wsX10, w ∈ wsX1_addSmall := fun _ h => List.mem_cons_of_mem _ (List.mem_append_right _ h)
  refine lv_iload_n S.1 S.2.1 dX1_addSmall_0 rfl (lv_at hl 1 rfl) ?_
  refine te (y := nI (cs k0 x 0)) (by rw [cs_0]) ?_
  refine lv_istore_n (lv' := [(2, .int (nI (cs k0 x 0))), (0, .ref (o 0)), (1, .int (nI k0))]) S.1 S.2.1 dX1_addSmall_1 rfl hl (by decide) rfl (fun ls hl => ?_)
  refine lv_iconst (v := nI 0) S.1 S.2.1 dX1_addSmall_2 (by decide) ?_
  refine lv_istore_n (lv' := [(3, .int (nI 0)), (2, .int (nI (cs k0 x 0))), (0, .ref (o 0)), (1, .int (nI k0))]) S.1 S.2.1 dX1_addSmall_3 rfl hl (by decide) rfl (fun ls hl => ?_)
  have lp4 : ∀ (n0 i : Nat), i + n0 = 17 → ∀ (H : Heap) (locs : List Loc), Wd D A s.heap H locs (wX1 o cA ff fa (mixf i (fun j => nI (dg (k0 + vl 17 x) j)) (fun j => nI (x j))) fp ft tk) → ∀ ls : Array Slot, lv_has ls 4 [(3, .int (nI i)), (2, .int (nI (cs k0 x i))), (0, .ref (o 0)), (1, .int (nI k0))] → W p l e { frames := 0, cells := 0, slots := 0, locals := 0 } s m ar below meth c H locs 0 0 Q (F0 m 4 ls []) := by
    intro n0
    induction n0 with
    | zero =>
      intro i hn0 H locs hw ls hl
      have hn0 : i = 17 := by omega
      subst hn0
      have hw := hw.cong 3 (g := fun j => nI (dg (k0 + vl 17 x) j)) rfl (fun j hj => mixf_n hj)
      have hw : Wd D A s.heap H locs (wX1 o cA ff fa (fun j => nI (dg (k0 + vl 17 x) j)) fp ft tk) := hw
      refine lv_iload_n S.1 S.2.1 dX1_addSmall_4 rfl (lv_at hl 0 rfl) ?_
      refine lv_bipush (v := nI 17) S.1 S.2.1 dX1_addSmall_5 (by decide) ?_
      refine lv_icmp_ge (tgt := 41) S.1 S.2.1 dX1_addSmall_7 (by decide) (fun c7 => ?_) (fun c7 => ?_)
      · rw [nI_leI (by omega) (by omega)] at c7
        exact cv_ret S hr hlk hQ hw () rfl trivial dX1_addSmall_41
      · rw [nI_leI (by omega) (by omega)] at c7
        exfalso; omega
    | succ n0 ih =>
      intro i hn0 H locs hw ls hl
      have hlt : i < 17 := by omega
      have hc1 := cs_le hc (fun j hj => Nat.le_trans (hx j hj) (by decide : 2 ^ 30 ≤ 2 ^ 31)) i (by omega)
      have hx1 := hx i hlt
      refine lv_iload_n S.1 S.2.1 dX1_addSmall_4 rfl (lv_at hl 0 rfl) ?_
      refine lv_bipush (v := nI 17) S.1 S.2.1 dX1_addSmall_5 (by decide) ?_
      refine lv_icmp_ge (tgt := 41) S.1 S.2.1 dX1_addSmall_7 (by decide) (fun c7 => ?_) (fun c7 => ?_)
      · rw [nI_leI (by omega) (by omega)] at c7
        exfalso; omega
      · rw [nI_leI (by omega) (by omega)] at c7
        refine lv_iload_n S.1 S.2.1 dX1_addSmall_10 rfl (lv_at hl 1 rfl) ?_
        refine lv_aload_n S.1 S.2.1 dX1_addSmall_11 rfl (lv_at hl 2 rfl) ?_
        refine mg S hK hw 0 rfl rfl hiX1 2 (by decide) (List.mem_of_getElem? (i := 1) rfl) rfl dX1_addSmall_12 ?_
        refine lv_iload_n S.1 S.2.1 dX1_addSmall_15 rfl (lv_at hl 0 rfl) ?_
        refine ag S hK hw 3 rfl i rfl (by omega) (by decide) dX1_addSmall_16 ?_
        refine te (y := nI (x i)) (mixf_at _ _ _) ?_
        refine lv_iadd S.1 S.2.1 dX1_addSmall_17 ?_
        refine te (nI_add _ _) ?_
        refine lv_istore_n (lv' := [(2, .int (nI ((cs k0 x i) + (x i)))), (3, .int (nI i)), (0, .ref (o 0)), (1, .int (nI k0))]) S.1 S.2.1 dX1_addSmall_18 rfl hl (by decide) rfl (fun ls hl => ?_)
        refine lv_aload_n S.1 S.2.1 dX1_addSmall_19 rfl (lv_at hl 2 rfl) ?_
        refine mg S hK hw 0 rfl rfl hiX1 2 (by decide) (List.mem_of_getElem? (i := 1) rfl) rfl dX1_addSmall_20 ?_
        refine lv_iload_n S.1 S.2.1 dX1_addSmall_23 rfl (lv_at hl 1 rfl) ?_
        refine lv_iload_n S.1 S.2.1 dX1_addSmall_24 rfl (lv_at hl 0 rfl) ?_
        refine lv_sipush (v := nI 255) S.1 S.2.1 dX1_addSmall_25 (by decide) ?_
        refine lv_iand S.1 S.2.1 dX1_addSmall_28 ?_
        refine te (y := nI ((cs k0 x i + x i) % 256)) (and255 (by omega)) ?_
        refine ap S hK hw 3 rfl i rfl (by omega) (by decide) dX1_addSmall_29 (fun H locs hw => ?_)
        have hw : Wd D A s.heap H locs (wX1 o cA ff fa (upd (mixf i (fun j => nI (dg (k0 + vl 17 x) j)) (fun j => nI (x j))) i (nI ((cs k0 x i + x i) % 256))) fp ft tk) := hw
        have hw := hw.cong 3 (g := mixf (i + 1) (fun j => nI (dg (k0 + vl 17 x) j)) (fun j => nI (x j))) rfl (fun j _ => mixf_put (by exact (congrArg nI (dg_at k0 x hlt).symm)) j)
        have hw : Wd D A s.heap H locs (wX1 o cA ff fa (mixf (i + 1) (fun j => nI (dg (k0 + vl 17 x) j)) (fun j => nI (x j))) fp ft tk) := hw
        refine lv_iload_n S.1 S.2.1 dX1_addSmall_30 rfl (lv_at hl 0 rfl) ?_
        refine lv_bipush (v := nI 8) S.1 S.2.1 dX1_addSmall_31 (by decide) ?_
        refine lv_iushr S.1 S.2.1 dX1_addSmall_33 rfl ?_
        refine te (y := nI (cs k0 x (i + 1))) (by rw [cs_succ]; exact ushr8 (by omega)) ?_
        refine lv_istore_n (lv' := [(2, .int (nI (cs k0 x (i + 1)))), (3, .int (nI i)), (0, .ref (o 0)), (1, .int (nI k0))]) S.1 S.2.1 dX1_addSmall_34 rfl hl (by decide) rfl (fun ls hl => ?_)
        refine lv_iinc (v := nI (i + 1)) (lv' := [(3, .int (nI (i + 1))), (2, .int (nI (cs k0 x (i + 1)))), (0, .ref (o 0)), (1, .int (nI k0))]) S.1 S.2.1 dX1_addSmall_35 hl (k := 1) rfl (nI_add i 1) (by decide) rfl (fun ls hl => ?_)
        refine lv_goto (tgt := 4) S.1 S.2.1 dX1_addSmall_38 (by decide) ?_
        exact ih (i + 1)  (by omega)  _ _ hw _ hl
  have hw := hw.cong 3 (g := mixf 0 (fun j => nI (dg (k0 + vl 17 x) j)) (fun j => nI (x j))) rfl (fun j _ => mixf_0 (fun j => nI (dg (k0 + vl 17 x) j)) (fun j => nI (x j)) j)
  exact lp4 17 0  (by omega)  _ _ hw _ hl

set_option maxHeartbeats 4000000 in
set_option maxRecDepth 100000 in
theorem kX1_multiply (l : Launch) (D : va_G) (cA : ClassId) (o : Nat → Nat) (fa fp ft : Nat → Int32) (tk : Int32) (a r : Nat → Nat) : CV l D cA yX1_multiply wsX1_multiply { frames := 0, cells := 0, slots := 0, locals := 0 } [.ref (o 0)] (wX1 o cA (fun j => nI (r j)) fa (fun j => nI (a j)) fp ft tk) (fun _ => True) (fun _ : Unit => wX1 o cA (fun j => nI (r j)) fa (fun j => nI (a j)) (fun j => nI (prd a r j)) ft tk) := by
  refine cv_of (by decide) rfl (Nat.le_of_ble_eq_true rfl) ?_
  intro p e s m below meth c ls A ar Q S hK hw hA hr hlk hl hQ
  have hl : lv_has ls 4 [(0, .ref (o 0))] := hl
  have hiX1 : ∀ w ∈ wsX10, w ∈ wsX1_multiply := fun _ h => List.mem_cons_of_mem _ (List.mem_append_right _ h)
  refine lv_iconst (v := nI 0) S.1 S.2.1 dX1_multiply_0 (by decide) ?_
  refine lv_istore_n (lv' := [(1, .int (nI 0)), (0, .ref (o 0))]) S.1 S.2.1 dX1_multiply_1 rfl hl (by decide) rfl (fun ls hl => ?_)
  have lp2 : ∀ (n0 i : Nat), i + n0 = 17 → ∀ (H : Heap) (locs : List Loc), Wd D A s.heap H locs (wX1 o cA (fun j => nI (r j)) fa (fun j => nI (a j)) (mixf i (fun j => nI (prd a r j)) fp) ft tk) → ∀ ls : Array Slot, lv_has ls 4 [(1, .int (nI i)), (0, .ref (o 0))] → W p l e { frames := 0, cells := 0, slots := 0, locals := 0 } s m ar below meth c H locs 0 0 Q (F0 m 2 ls []) := by
    intro n0
    induction n0 with
    | zero =>
      intro i hn0 H locs hw ls hl
      have hn0 : i = 17 := by omega
      subst hn0
      have hw := hw.cong 4 (g := fun j => nI (prd a r j)) rfl (fun j hj => mixf_n hj)
      have hw : Wd D A s.heap H locs (wX1 o cA (fun j => nI (r j)) fa (fun j => nI (a j)) (fun j => nI (prd a r j)) ft tk) := hw
      refine lv_iload_n S.1 S.2.1 dX1_multiply_2 rfl (lv_at hl 0 rfl) ?_
      refine lv_bipush (v := nI 17) S.1 S.2.1 dX1_multiply_3 (by decide) ?_
      refine lv_icmp_ge (tgt := 95) S.1 S.2.1 dX1_multiply_5 (by decide) (fun c5 => ?_) (fun c5 => ?_)
      · rw [nI_leI (by omega) (by omega)] at c5
        exact cv_ret S hr hlk hQ hw () rfl trivial dX1_multiply_95
      · rw [nI_leI (by omega) (by omega)] at c5
        exfalso; omega
    | succ n0 ih =>
      intro i hn0 H locs hw ls hl
      have hlt : i < 17 := by omega
      refine lv_iload_n S.1 S.2.1 dX1_multiply_2 rfl (lv_at hl 0 rfl) ?_
      refine lv_bipush (v := nI 17) S.1 S.2.1 dX1_multiply_3 (by decide) ?_
      refine lv_icmp_ge (tgt := 95) S.1 S.2.1 dX1_multiply_5 (by decide) (fun c5 => ?_) (fun c5 => ?_)
      · rw [nI_leI (by omega) (by omega)] at c5
        exfalso; omega
      · rw [nI_leI (by omega) (by omega)] at c5
        refine lv_iconst (v := nI 0) S.1 S.2.1 dX1_multiply_8 (by decide) ?_
        refine lv_istore_n (lv' := [(2, .int (nI 0)), (1, .int (nI i)), (0, .ref (o 0))]) S.1 S.2.1 dX1_multiply_9 rfl hl (by decide) rfl (fun ls hl => ?_)
        refine lv_iconst (v := nI 0) S.1 S.2.1 dX1_multiply_10 (by decide) ?_
        refine lv_istore_n (lv' := [(3, .int (nI 0)), (2, .int (nI 0)), (1, .int (nI i)), (0, .ref (o 0))]) S.1 S.2.1 dX1_multiply_11 rfl hl (by decide) rfl (fun ls hl => ?_)
        have lp12 : ∀ (n0 jj : Nat), jj + n0 = (i + 1) → ∀ (H : Heap) (locs : List Loc), Wd D A s.heap H locs (wX1 o cA (fun j => nI (r j)) fa (fun j => nI (a j)) (mixf i (fun j => nI (prd a r j)) fp) ft tk) → ∀ ls : Array Slot, lv_has ls 4 [(3, .int (nI jj)), (2, .int (nI (sm jj (fun t => a t * r (i - t))))), (1, .int (nI i)), (0, .ref (o 0))] → W p l e { frames := 0, cells := 0, slots := 0, locals := 0 } s m ar below meth c H locs 0 0 Q (F0 m 12 ls []) := by
          intro n0
          induction n0 with
          | zero =>
            intro jj hn0 H locs hw ls hl
            have hn0 : jj = (i + 1) := by omega
            subst hn0
            refine lv_iload_n S.1 S.2.1 dX1_multiply_12 rfl (lv_at hl 0 rfl) ?_
            refine lv_iload_n S.1 S.2.1 dX1_multiply_13 rfl (lv_at hl 2 rfl) ?_
            refine lv_icmp_gt (tgt := 41) S.1 S.2.1 dX1_multiply_14 (by decide) (fun c14 => ?_) (fun c14 => ?_)
            · rw [nI_ltI (by omega) (by omega)] at c14
              refine lv_iload_n S.1 S.2.1 dX1_multiply_41 rfl (lv_at hl 2 rfl) ?_
              refine lv_iconst (v := nI 1) S.1 S.2.1 dX1_multiply_42 (by decide) ?_
              refine lv_iadd S.1 S.2.1 dX1_multiply_43 ?_
              refine te (nI_add _ _) ?_
              refine lv_istore_n (lv' := [(3, .int (nI (i + 1))), (2, .int (nI (sm (i + 1) (fun t => a t * r (i - t))))), (1, .int (nI i)), (0, .ref (o 0))]) S.1 S.2.1 dX1_multiply_44 rfl hl (by decide) rfl (fun ls hl => ?_)
              have lp45 : ∀ (n0 tt : Nat), tt + n0 = (16 - i) → ∀ (H : Heap) (locs : List Loc), Wd D A s.heap H locs (wX1 o cA (fun j => nI (r j)) fa (fun j => nI (a j)) (mixf i (fun j => nI (prd a r j)) fp) ft tk) → ∀ ls : Array Slot, lv_has ls 4 [(3, .int (nI (i + 1 + tt))), (2, .int (nI (sm (i + 1) (fun t => a t * r (i - t)) + sm tt (fun t => 320 * a (i + 1 + t) * r (17 + i - (i + 1 + t)))))), (1, .int (nI i)), (0, .ref (o 0))] → W p l e { frames := 0, cells := 0, slots := 0, locals := 0 } s m ar below meth c H locs 0 0 Q (F0 m 45 ls []) := by
                intro n0
                induction n0 with
                | zero =>
                  intro tt hn0 H locs hw ls hl
                  have hn0 : tt = (16 - i) := by omega
                  subst hn0
                  refine lv_iload_n S.1 S.2.1 dX1_multiply_45 rfl (lv_at hl 0 rfl) ?_
                  refine lv_bipush (v := nI 17) S.1 S.2.1 dX1_multiply_46 (by decide) ?_
                  refine lv_icmp_ge (tgt := 82) S.1 S.2.1 dX1_multiply_48 (by decide) (fun c48 => ?_) (fun c48 => ?_)
                  · rw [nI_leI (by omega) (by omega)] at c48
                    refine lv_aload_n S.1 S.2.1 dX1_multiply_82 rfl (lv_at hl 3 rfl) ?_
                    refine mg S hK hw 0 rfl rfl hiX1 3 (by decide) (List.mem_of_getElem? (i := 3) rfl) rfl dX1_multiply_83 ?_
                    refine lv_iload_n S.1 S.2.1 dX1_multiply_86 rfl (lv_at hl 2 rfl) ?_
                    refine lv_iload_n S.1 S.2.1 dX1_multiply_87 rfl (lv_at hl 1 rfl) ?_
                    refine ap S hK hw 4 rfl i rfl (by omega) (by decide) dX1_multiply_88 (fun H locs hw => ?_)
                    have hw : Wd D A s.heap H locs (wX1 o cA (fun j => nI (r j)) fa (fun j => nI (a j)) (upd (mixf i (fun j => nI (prd a r j)) fp) i (nI (sm (i + 1) (fun t => a t * r (i - t)) + sm (16 - i) (fun t => 320 * a (i + 1 + t) * r (17 + i - (i + 1 + t)))))) ft tk) := hw
                    have hw := hw.cong 4 (g := mixf (i + 1) (fun j => nI (prd a r j)) fp) rfl (fun j _ => mixf_put (by exact rfl) j)
                    have hw : Wd D A s.heap H locs (wX1 o cA (fun j => nI (r j)) fa (fun j => nI (a j)) (mixf (i + 1) (fun j => nI (prd a r j)) fp) ft tk) := hw
                    refine lv_iinc (v := nI (i + 1)) (lv' := [(1, .int (nI (i + 1))), (3, .int (nI (i + 1 + (16 - i)))), (2, .int (nI (sm (i + 1) (fun t => a t * r (i - t)) + sm (16 - i) (fun t => 320 * a (i + 1 + t) * r (17 + i - (i + 1 + t)))))), (0, .ref (o 0))]) S.1 S.2.1 dX1_multiply_89 hl (k := 2) rfl (nI_add i 1) (by decide) rfl (fun ls hl => ?_)
                    refine lv_goto (tgt := 2) S.1 S.2.1 dX1_multiply_92 (by decide) ?_
                    exact ih (i + 1)  (by omega)  _ _ hw _ (lv_sub hl [0, 3] rfl)
                  · rw [nI_leI (by omega) (by omega)] at c48
                    exfalso; omega
                | succ n0 ih =>
                  intro tt hn0 H locs hw ls hl
                  have hlt : tt < (16 - i) := by omega
                  refine lv_iload_n S.1 S.2.1 dX1_multiply_45 rfl (lv_at hl 0 rfl) ?_
                  refine lv_bipush (v := nI 17) S.1 S.2.1 dX1_multiply_46 (by decide) ?_
                  refine lv_icmp_ge (tgt := 82) S.1 S.2.1 dX1_multiply_48 (by decide) (fun c48 => ?_) (fun c48 => ?_)
                  · rw [nI_leI (by omega) (by omega)] at c48
                    exfalso; omega
                  · rw [nI_leI (by omega) (by omega)] at c48
                    refine lv_iload_n S.1 S.2.1 dX1_multiply_51 rfl (lv_at hl 1 rfl) ?_
                    refine lv_sipush (v := nI 320) S.1 S.2.1 dX1_multiply_52 (by decide) ?_
                    refine lv_aload_n S.1 S.2.1 dX1_multiply_55 rfl (lv_at hl 3 rfl) ?_
                    refine mg S hK hw 0 rfl rfl hiX1 2 (by decide) (List.mem_of_getElem? (i := 1) rfl) rfl dX1_multiply_56 ?_
                    refine lv_iload_n S.1 S.2.1 dX1_multiply_59 rfl (lv_at hl 0 rfl) ?_
                    refine ag S hK hw 3 rfl (i + 1 + tt) rfl (by omega) (by decide) dX1_multiply_60 ?_
                    refine te (y := nI (a (i + 1 + tt))) rfl ?_
                    refine lv_imul S.1 S.2.1 dX1_multiply_61 ?_
                    refine te (pk_mul _ _) ?_
                    refine lv_aload_n S.1 S.2.1 dX1_multiply_62 rfl (lv_at hl 3 rfl) ?_
                    refine mg S hK hw 0 rfl rfl hiX1 0 (by decide) (List.mem_of_getElem? (i := 2) rfl) rfl dX1_multiply_63 ?_
                    refine lv_bipush (v := nI 17) S.1 S.2.1 dX1_multiply_66 (by decide) ?_
                    refine lv_iload_n S.1 S.2.1 dX1_multiply_68 rfl (lv_at hl 2 rfl) ?_
                    refine lv_iadd S.1 S.2.1 dX1_multiply_69 ?_
                    refine te (nI_add _ _) ?_
                    refine lv_iload_n S.1 S.2.1 dX1_multiply_70 rfl (lv_at hl 0 rfl) ?_
                    refine lv_isub S.1 S.2.1 dX1_multiply_71 ?_
                    refine te (pk_sub (by omega)) ?_
                    refine ag S hK hw 1 rfl ((17 + i) - (i + 1 + tt)) rfl (by omega) (by decide) dX1_multiply_72 ?_
                    refine te (y := nI (r ((17 + i) - (i + 1 + tt)))) rfl ?_
                    refine lv_imul S.1 S.2.1 dX1_multiply_73 ?_
                    refine te (pk_mul _ _) ?_
                    refine lv_iadd S.1 S.2.1 dX1_multiply_74 ?_
                    refine te (y := nI (sm (i + 1) (fun t => a t * r (i - t)) + sm (tt + 1) (fun t => 320 * a (i + 1 + t) * r (17 + i - (i + 1 + t))))) (by rw [nI_add]; exact congrArg nI (Nat.add_assoc _ _ _)) ?_
                    refine lv_istore_n (lv' := [(2, .int (nI (sm (i + 1) (fun t => a t * r (i - t)) + sm (tt + 1) (fun t => 320 * a (i + 1 + t) * r (17 + i - (i + 1 + t)))))), (3, .int (nI (i + 1 + tt))), (1, .int (nI i)), (0, .ref (o 0))]) S.1 S.2.1 dX1_multiply_75 rfl hl (by decide) rfl (fun ls hl => ?_)
                    refine lv_iinc (v := nI ((i + 1 + tt) + 1)) (lv' := [(3, .int (nI ((i + 1 + tt) + 1))), (2, .int (nI (sm (i + 1) (fun t => a t * r (i - t)) + sm (tt + 1) (fun t => 320 * a (i + 1 + t) * r (17 + i - (i + 1 + t)))))), (1, .int (nI i)), (0, .ref (o 0))]) S.1 S.2.1 dX1_multiply_76 hl (k := 1) rfl (nI_add (i + 1 + tt) 1) (by decide) rfl (fun ls hl => ?_)
                    refine lv_goto (tgt := 45) S.1 S.2.1 dX1_multiply_79 (by decide) ?_
                    exact ih (tt + 1)  (by omega)  _ _ hw _ hl
              exact lp45 (16 - i) 0  (by omega)  _ _ hw _ hl
            · rw [nI_ltI (by omega) (by omega)] at c14
              exfalso; omega
          | succ n0 ih =>
            intro jj hn0 H locs hw ls hl
            have hlt : jj < (i + 1) := by omega
            refine lv_iload_n S.1 S.2.1 dX1_multiply_12 rfl (lv_at hl 0 rfl) ?_
            refine lv_iload_n S.1 S.2.1 dX1_multiply_13 rfl (lv_at hl 2 rfl) ?_
            refine lv_icmp_gt (tgt := 41) S.1 S.2.1 dX1_multiply_14 (by decide) (fun c14 => ?_) (fun c14 => ?_)
            · rw [nI_ltI (by omega) (by omega)] at c14
              exfalso; omega
            · rw [nI_ltI (by omega) (by omega)] at c14
              refine lv_iload_n S.1 S.2.1 dX1_multiply_17 rfl (lv_at hl 1 rfl) ?_
              refine lv_aload_n S.1 S.2.1 dX1_multiply_18 rfl (lv_at hl 3 rfl) ?_
              refine mg S hK hw 0 rfl rfl hiX1 2 (by decide) (List.mem_of_getElem? (i := 1) rfl) rfl dX1_multiply_19 ?_
              refine lv_iload_n S.1 S.2.1 dX1_multiply_22 rfl (lv_at hl 0 rfl) ?_
              refine ag S hK hw 3 rfl jj rfl (by omega) (by decide) dX1_multiply_23 ?_
              refine te (y := nI (a jj)) rfl ?_
              refine lv_aload_n S.1 S.2.1 dX1_multiply_24 rfl (lv_at hl 3 rfl) ?_
              refine mg S hK hw 0 rfl rfl hiX1 0 (by decide) (List.mem_of_getElem? (i := 2) rfl) rfl dX1_multiply_25 ?_
              refine lv_iload_n S.1 S.2.1 dX1_multiply_28 rfl (lv_at hl 2 rfl) ?_
              refine lv_iload_n S.1 S.2.1 dX1_multiply_29 rfl (lv_at hl 0 rfl) ?_
              refine lv_isub S.1 S.2.1 dX1_multiply_30 ?_
              refine te (pk_sub (by omega)) ?_
              refine ag S hK hw 1 rfl (i - jj) rfl (by omega) (by decide) dX1_multiply_31 ?_
              refine te (y := nI (r (i - jj))) rfl ?_
              refine lv_imul S.1 S.2.1 dX1_multiply_32 ?_
              refine te (pk_mul _ _) ?_
              refine lv_iadd S.1 S.2.1 dX1_multiply_33 ?_
              refine te (nI_add _ _) ?_
              refine lv_istore_n (lv' := [(2, .int (nI ((sm jj (fun t => a t * r (i - t))) + ((a jj) * (r (i - jj)))))), (3, .int (nI jj)), (1, .int (nI i)), (0, .ref (o 0))]) S.1 S.2.1 dX1_multiply_34 rfl hl (by decide) rfl (fun ls hl => ?_)
              refine lv_iinc (v := nI (jj + 1)) (lv' := [(3, .int (nI (jj + 1))), (2, .int (nI ((sm jj (fun t => a t * r (i - t))) + ((a jj) * (r (i - jj)))))), (1, .int (nI i)), (0, .ref (o 0))]) S.1 S.2.1 dX1_multiply_35 hl (k := 1) rfl (nI_add jj 1) (by decide) rfl (fun ls hl => ?_)
              refine lv_goto (tgt := 12) S.1 S.2.1 dX1_multiply_38 (by decide) ?_
              exact ih (jj + 1)  (by omega)  _ _ hw _ hl
        exact lp12 (i + 1) 0  (by omega)  _ _ hw _ hl
  have hw := hw.cong 4 (g := mixf 0 (fun j => nI (prd a r j)) fp) rfl (fun j _ => mixf_0 (fun j => nI (prd a r j)) fp j)
  exact lp2 17 0  (by omega)  _ _ hw _ hl

set_option maxHeartbeats 4000000 in
set_option maxRecDepth 100000 in
theorem kX1_carryProducts (l : Launch) (D : va_G) (cA : ClassId) (o : Nat → Nat) (ff fa fh ft : Nat → Int32) (tk : Int32) (x : Nat → Nat) (hx : ∀ j, j < 17 → x j ≤ 707472000) : CV l D cA yX1_carryProducts wsX1_carryProducts { frames := 1, cells := 0, slots := 0, locals := 23 } [.ref (o 0)] (wX1 o cA ff fa fh (fun j => nI (x j)) ft tk) (fun _ => True) (fun _ : Unit => wX1 o cA ff fa (fun j => nI (dg (red (vl 17 x)) j)) (fun j => nI (x j)) ft tk) := by
  refine cv_of (by decide) rfl (Nat.le_of_ble_eq_true rfl) ?_
  intro p e s m below meth c ls A ar Q S hK hw hA hr hlk hl hQ
  have hl : lv_has ls 3 [(0, .ref (o 0))] := hl
  have hiX1 : ∀ w ∈ wsX10, w ∈ wsX1_carryProducts := fun _ h => List.mem_cons_of_mem _ (List.mem_append_right _ h)
  refine lv_iconst (v := nI 0) S.1 S.2.1 dX1_carryProducts_0 (by decide) ?_
  refine te (y := nI (cs 0 x 0)) (by rw [cs_0]) ?_
  refine lv_istore_n (lv' := [(1, .int (nI (cs 0 x 0))), (0, .ref (o 0))]) S.1 S.2.1 dX1_carryProducts_1 rfl hl (by decide) rfl (fun ls hl => ?_)
  refine lv_iconst (v := nI 0) S.1 S.2.1 dX1_carryProducts_2 (by decide) ?_
  refine lv_istore_n (lv' := [(2, .int (nI 0)), (1, .int (nI (cs 0 x 0))), (0, .ref (o 0))]) S.1 S.2.1 dX1_carryProducts_3 rfl hl (by decide) rfl (fun ls hl => ?_)
  have lp4 : ∀ (n0 i : Nat), i + n0 = 17 → ∀ (H : Heap) (locs : List Loc), Wd D A s.heap H locs (wX1 o cA ff fa (mixf i (fun j => nI (dg (0 + vl 17 x) j)) fh) (fun j => nI (x j)) ft tk) → ∀ ls : Array Slot, lv_has ls 3 [(2, .int (nI i)), (1, .int (nI (cs 0 x i))), (0, .ref (o 0))] → W p l e { frames := 1, cells := 0, slots := 0, locals := 23 } s m ar below meth c H locs 0 0 Q (F0 m 4 ls []) := by
    intro n0
    induction n0 with
    | zero =>
      intro i hn0 H locs hw ls hl
      have hn0 : i = 17 := by omega
      have hc1 := cs_le (Nat.zero_le 707472000) hx 16 (by omega)
      have hx1 := hx 16 (by omega)
      have hc2 : cs 0 x 17 ≤ 5527125 := by rw [cs_succ]; omega
      have hd1 := dg_lt (0 + vl 17 x) 16
      subst hn0
      have hw := hw.cong 3 (g := fun j => nI (dg (0 + vl 17 x) j)) rfl (fun j hj => mixf_n hj)
      have hw : Wd D A s.heap H locs (wX1 o cA ff fa (fun j => nI (dg (0 + vl 17 x) j)) (fun j => nI (x j)) ft tk) := hw
      refine lv_iload_n S.1 S.2.1 dX1_carryProducts_4 rfl (lv_at hl 0 rfl) ?_
      refine lv_bipush (v := nI 17) S.1 S.2.1 dX1_carryProducts_5 (by decide) ?_
      refine lv_icmp_ge (tgt := 41) S.1 S.2.1 dX1_carryProducts_7 (by decide) (fun c7 => ?_) (fun c7 => ?_)
      · rw [nI_leI (by omega) (by omega)] at c7
        refine lv_iload_n S.1 S.2.1 dX1_carryProducts_41 rfl (lv_at hl 1 rfl) ?_
        refine lv_bipush (v := nI 6) S.1 S.2.1 dX1_carryProducts_42 (by decide) ?_
        refine lv_ishl S.1 S.2.1 dX1_carryProducts_44 ?_
        refine te (y := nI (cs 0 x 17 * 64)) (shl6 (by omega)) ?_
        refine lv_aload_n S.1 S.2.1 dX1_carryProducts_45 rfl (lv_at hl 2 rfl) ?_
        refine mg S hK hw 0 rfl rfl hiX1 2 (by decide) (List.mem_of_getElem? (i := 2) rfl) rfl dX1_carryProducts_46 ?_
        refine lv_bipush (v := nI 16) S.1 S.2.1 dX1_carryProducts_49 (by decide) ?_
        refine ag S hK hw 3 rfl 16 rfl (by omega) (by decide) dX1_carryProducts_51 ?_
        refine te (y := nI ((dg (0 + vl 17 x)) 16)) rfl ?_
        refine lv_iconst (v := nI 2) S.1 S.2.1 dX1_carryProducts_52 (by decide) ?_
        refine lv_iushr S.1 S.2.1 dX1_carryProducts_53 rfl ?_
        refine te (y := nI (dg (0 + vl 17 x) 16 / 4)) (ushr2 (by omega)) ?_
        refine lv_ior S.1 S.2.1 dX1_carryProducts_54 ?_
        refine te (y := nI ((0 + vl 17 x) / 2 ^ 130)) (by rw [nI_or, or_sum (k := 6) (by omega)]; exact congrArg nI (hi130 _)) ?_
        have hab : (0 + vl 17 x) / 2 ^ 130 ≤ 353736063 := by rw [← hi130]; have : (0 + vl 17 x) / 256 ^ 17 = cs 0 x 17 := rfl; omega
        refine lv_istore_n (lv' := [(2, .int (nI ((0 + vl 17 x) / 2 ^ 130))), (1, .int (nI (cs 0 x 17))), (0, .ref (o 0))]) S.1 S.2.1 dX1_carryProducts_55 rfl hl (by decide) rfl (fun ls hl => ?_)
        refine lv_aload_n S.1 S.2.1 dX1_carryProducts_56 rfl (lv_at hl 2 rfl) ?_
        refine mg S hK hw 0 rfl rfl hiX1 2 (by decide) (List.mem_of_getElem? (i := 2) rfl) rfl dX1_carryProducts_57 ?_
        refine lv_bipush (v := nI 16) S.1 S.2.1 dX1_carryProducts_60 (by decide) ?_
        refine lv_dup2_11 S.1 S.2.1 dX1_carryProducts_62 rfl rfl ?_
        refine ag S hK hw 3 rfl 16 rfl (by omega) (by decide) dX1_carryProducts_63 ?_
        refine te (y := nI ((dg (0 + vl 17 x)) 16)) rfl ?_
        refine lv_iconst (v := nI 3) S.1 S.2.1 dX1_carryProducts_64 (by decide) ?_
        refine lv_iand S.1 S.2.1 dX1_carryProducts_65 ?_
        refine te (y := nI (dg (0 + vl 17 x) 16 % 4)) (and3 (by omega)) ?_
        refine ap S hK hw 3 rfl 16 rfl (by omega) (by decide) dX1_carryProducts_66 (fun H locs hw => ?_)
        have hw : Wd D A s.heap H locs (wX1 o cA ff fa (upd (fun j => nI (dg (0 + vl 17 x) j)) 16 (nI (dg (0 + vl 17 x) 16 % 4))) (fun j => nI (x j)) ft tk) := hw
        have hw := hw.cong 3 (g := fun j => nI (dg ((0 + vl 17 x) % 2 ^ 130) j)) rfl (upd16 _)
        have hw : Wd D A s.heap H locs (wX1 o cA ff fa (fun j => nI (dg ((0 + vl 17 x) % 2 ^ 130) j)) (fun j => nI (x j)) ft tk) := hw
        refine lv_aload_n S.1 S.2.1 dX1_carryProducts_67 rfl (lv_at hl 2 rfl) ?_
        refine lv_iconst (v := nI 5) S.1 S.2.1 dX1_carryProducts_68 (by decide) ?_
        refine lv_iload_n S.1 S.2.1 dX1_carryProducts_69 rfl (lv_at hl 0 rfl) ?_
        refine lv_imul S.1 S.2.1 dX1_carryProducts_70 ?_
        refine te (pk_mul _ _) ?_
        refine callVV (rest := []) S hK hw hA (kX1_addSmall l D cA o ff fa (fun j => nI (x j)) ft tk (5 * ((0 + vl 17 x) / 2 ^ 130)) (dg ((0 + vl 17 x) % 2 ^ 130)) (by omega) (fun j _ => by have := dg_lt ((0 + vl 17 x) % 2 ^ 130) j; omega)) gX1_carryProducts_X1_addSmall rfl 1 rfl (by decide +kernel) ⟨rfl, rfl⟩ ⟨by decide, by decide⟩ ⟨Nat.zero_le _, Nat.zero_le _⟩ [0, 1, 2, 3, 4, 5] rfl (by decide) (fun _ => rfl) 0 rfl rfl rfl hl.1 (Nat.le_of_ble_eq_true rfl) dX1_carryProducts_71 rfl (fun u71 H locs hp hw => ?_)
        have hw : Wd D A s.heap H locs (wX1 o cA ff fa (fun j => nI (dg ((5 * ((0 + vl 17 x) / 2 ^ 130)) + vl 17 (dg ((0 + vl 17 x) % 2 ^ 130))) j)) (fun j => nI (x j)) ft tk) := hw
        exact cv_ret S hr hlk hQ hw () (by unfold red; rw [vl_dg, Nat.zero_add, Nat.mod_eq_of_lt (a := _ % _) (Nat.lt_trans (Nat.mod_lt _ (by decide)) (by decide))]) trivial dX1_carryProducts_74
      · rw [nI_leI (by omega) (by omega)] at c7
        exfalso; omega
    | succ n0 ih =>
      intro i hn0 H locs hw ls hl
      have hlt : i < 17 := by omega
      have hc1 := cs_le (Nat.zero_le 707472000) hx i (by omega)
      have hx1 := hx i hlt
      refine lv_iload_n S.1 S.2.1 dX1_carryProducts_4 rfl (lv_at hl 0 rfl) ?_
      refine lv_bipush (v := nI 17) S.1 S.2.1 dX1_carryProducts_5 (by decide) ?_
      refine lv_icmp_ge (tgt := 41) S.1 S.2.1 dX1_carryProducts_7 (by decide) (fun c7 => ?_) (fun c7 => ?_)
      · rw [nI_leI (by omega) (by omega)] at c7
        exfalso; omega
      · rw [nI_leI (by omega) (by omega)] at c7
        refine lv_iload_n S.1 S.2.1 dX1_carryProducts_10 rfl (lv_at hl 1 rfl) ?_
        refine lv_aload_n S.1 S.2.1 dX1_carryProducts_11 rfl (lv_at hl 2 rfl) ?_
        refine mg S hK hw 0 rfl rfl hiX1 3 (by decide) (List.mem_of_getElem? (i := 1) rfl) rfl dX1_carryProducts_12 ?_
        refine lv_iload_n S.1 S.2.1 dX1_carryProducts_15 rfl (lv_at hl 0 rfl) ?_
        refine ag S hK hw 4 rfl i rfl (by omega) (by decide) dX1_carryProducts_16 ?_
        refine te (y := nI (x i)) rfl ?_
        refine lv_iadd S.1 S.2.1 dX1_carryProducts_17 ?_
        refine te (nI_add _ _) ?_
        refine lv_istore_n (lv' := [(1, .int (nI ((cs 0 x i) + (x i)))), (2, .int (nI i)), (0, .ref (o 0))]) S.1 S.2.1 dX1_carryProducts_18 rfl hl (by decide) rfl (fun ls hl => ?_)
        refine lv_aload_n S.1 S.2.1 dX1_carryProducts_19 rfl (lv_at hl 2 rfl) ?_
        refine mg S hK hw 0 rfl rfl hiX1 2 (by decide) (List.mem_of_getElem? (i := 2) rfl) rfl dX1_carryProducts_20 ?_
        refine lv_iload_n S.1 S.2.1 dX1_carryProducts_23 rfl (lv_at hl 1 rfl) ?_
        refine lv_iload_n S.1 S.2.1 dX1_carryProducts_24 rfl (lv_at hl 0 rfl) ?_
        refine lv_sipush (v := nI 255) S.1 S.2.1 dX1_carryProducts_25 (by decide) ?_
        refine lv_iand S.1 S.2.1 dX1_carryProducts_28 ?_
        refine te (y := nI ((cs 0 x i + x i) % 256)) (and255 (by omega)) ?_
        refine ap S hK hw 3 rfl i rfl (by omega) (by decide) dX1_carryProducts_29 (fun H locs hw => ?_)
        have hw : Wd D A s.heap H locs (wX1 o cA ff fa (upd (mixf i (fun j => nI (dg (0 + vl 17 x) j)) fh) i (nI ((cs 0 x i + x i) % 256))) (fun j => nI (x j)) ft tk) := hw
        have hw := hw.cong 3 (g := mixf (i + 1) (fun j => nI (dg (0 + vl 17 x) j)) fh) rfl (fun j _ => mixf_put (by exact (congrArg nI (dg_at 0 x hlt).symm)) j)
        have hw : Wd D A s.heap H locs (wX1 o cA ff fa (mixf (i + 1) (fun j => nI (dg (0 + vl 17 x) j)) fh) (fun j => nI (x j)) ft tk) := hw
        refine lv_iload_n S.1 S.2.1 dX1_carryProducts_30 rfl (lv_at hl 0 rfl) ?_
        refine lv_bipush (v := nI 8) S.1 S.2.1 dX1_carryProducts_31 (by decide) ?_
        refine lv_iushr S.1 S.2.1 dX1_carryProducts_33 rfl ?_
        refine te (y := nI (cs 0 x (i + 1))) (by rw [cs_succ]; exact ushr8 (by omega)) ?_
        refine lv_istore_n (lv' := [(1, .int (nI (cs 0 x (i + 1)))), (2, .int (nI i)), (0, .ref (o 0))]) S.1 S.2.1 dX1_carryProducts_34 rfl hl (by decide) rfl (fun ls hl => ?_)
        refine lv_iinc (v := nI (i + 1)) (lv' := [(2, .int (nI (i + 1))), (1, .int (nI (cs 0 x (i + 1)))), (0, .ref (o 0))]) S.1 S.2.1 dX1_carryProducts_35 hl (k := 1) rfl (nI_add i 1) (by decide) rfl (fun ls hl => ?_)
        refine lv_goto (tgt := 4) S.1 S.2.1 dX1_carryProducts_38 (by decide) ?_
        exact ih (i + 1)  (by omega)  _ _ hw _ hl
  have hw := hw.cong 3 (g := mixf 0 (fun j => nI (dg (0 + vl 17 x) j)) fh) rfl (fun j _ => mixf_0 (fun j => nI (dg (0 + vl 17 x) j)) fh j)
  exact lp4 17 0  (by omega)  _ _ hw _ hl

set_option maxHeartbeats 4000000 in
set_option maxRecDepth 100000 in
theorem kX1_endChunk (l : Launch) (D : va_G) (cA : ClassId) (o : Nat → Nat) (fa fp ft : Nat → Int32) (tk : Int32) (a r : Nat → Nat) (ha : ∀ j, j < 17 → a j ≤ 509 + (if j = 16 then 0 else 1)) (hr0 : ∀ j, j < 17 → r j ≤ 255) : CV l D cA yX1_endChunk wsX1_endChunk { frames := 2, cells := 0, slots := 0, locals := 45 } [.ref (o 0)] (wX1 o cA (fun j => nI (r j)) fa (fun j => nI (a j)) fp ft tk) (fun _ => True) (fun _ : Unit => wX1 o cA (fun j => nI (r j)) fa (fun j => nI (dg (EC a r) j)) (fun j => nI (prd (bump a) r j)) ft (nI 0)) := by
  refine cv_of (by decide) rfl (Nat.le_of_ble_eq_true rfl) ?_
  intro p e s m below meth c ls A ar Q S hK hw hA hr hlk hl hQ
  have hl : lv_has ls 1 [(0, .ref (o 0))] := hl
  have hiX1 : ∀ w ∈ wsX10, w ∈ wsX1_endChunk := fun _ h => List.mem_cons_of_mem _ (List.mem_append_right _ h)
  refine lv_aload_n S.1 S.2.1 dX1_endChunk_0 rfl (lv_at hl 0 rfl) ?_
  refine mg S hK hw 0 rfl rfl hiX1 2 (by decide) (List.mem_of_getElem? (i := 1) rfl) rfl dX1_endChunk_1 ?_
  refine lv_bipush (v := nI 16) S.1 S.2.1 dX1_endChunk_4 (by decide) ?_
  refine lv_dup2_11 S.1 S.2.1 dX1_endChunk_6 rfl rfl ?_
  refine ag S hK hw 3 rfl 16 rfl (by omega) (by decide) dX1_endChunk_7 ?_
  refine te (y := nI (a 16)) rfl ?_
  refine lv_iconst (v := nI 1) S.1 S.2.1 dX1_endChunk_8 (by decide) ?_
  refine lv_iadd S.1 S.2.1 dX1_endChunk_9 ?_
  refine te (nI_add _ _) ?_
  refine ap S hK hw 3 rfl 16 rfl (by omega) (by decide) dX1_endChunk_10 (fun H locs hw => ?_)
  have hw : Wd D A s.heap H locs (wX1 o cA (fun j => nI (r j)) fa (upd (fun j => nI (a j)) 16 (nI ((a 16) + 1))) fp ft tk) := hw
  have hw := hw.cong 3 (g := fun j => nI (bump a j)) rfl (upd_bump a)
  have hw : Wd D A s.heap H locs (wX1 o cA (fun j => nI (r j)) fa (fun j => nI (bump a j)) fp ft tk) := hw
  refine lv_aload_n S.1 S.2.1 dX1_endChunk_11 rfl (lv_at hl 0 rfl) ?_
  refine callVV (rest := []) S hK hw hA (kX1_multiply l D cA o fa fp ft tk (bump a) r) gX1_endChunk_X1_multiply rfl 0 rfl (by decide +kernel) ⟨rfl, rfl⟩ ⟨by decide, by decide⟩ ⟨Nat.zero_le _, Nat.zero_le _⟩ [0, 1, 2, 3, 4, 5] rfl (by decide) (fun _ => rfl) 0 rfl rfl rfl hl.1 (Nat.le_of_ble_eq_true rfl) dX1_endChunk_12 rfl (fun u12 H locs hp hw => ?_)
  have hw : Wd D A s.heap H locs (wX1 o cA (fun j => nI (r j)) fa (fun j => nI (bump a j)) (fun j => nI (prd (bump a) r j)) ft tk) := hw
  refine lv_aload_n S.1 S.2.1 dX1_endChunk_15 rfl (lv_at hl 0 rfl) ?_
  refine callVV (rest := []) S hK hw hA (kX1_carryProducts l D cA o (fun j => nI (r j)) fa (fun j => nI (bump a j)) ft tk (prd (bump a) r) (fun j hj => prd_le hj (bump_le ha) hr0)) gX1_endChunk_X1_carryProducts rfl 0 rfl (by decide +kernel) ⟨rfl, rfl⟩ ⟨by decide, by decide⟩ ⟨Nat.zero_le _, Nat.zero_le _⟩ [0, 1, 2, 3, 4, 5] rfl (by decide) (fun _ => rfl) 0 rfl rfl rfl hl.1 (Nat.le_of_ble_eq_true rfl) dX1_endChunk_16 rfl (fun u16 H locs hp hw => ?_)
  have hw : Wd D A s.heap H locs (wX1 o cA (fun j => nI (r j)) fa (fun j => nI (dg (red (vl 17 (prd (bump a) r))) j)) (fun j => nI (prd (bump a) r j)) ft tk) := hw
  refine lv_aload_n S.1 S.2.1 dX1_endChunk_19 rfl (lv_at hl 0 rfl) ?_
  refine lv_iconst (v := nI 0) S.1 S.2.1 dX1_endChunk_20 (by decide) ?_
  refine mp S hK hw 0 rfl rfl hiX1 tyX1_ok nmX1 5 (by decide) (List.mem_of_getElem? (i := 2) rfl) rfl rfl rfl (Nat.le_of_ble_eq_true rfl) dX1_endChunk_21 (fun H locs hw => ?_)
  have hw : Wd D A s.heap H locs (wX1 o cA (fun j => nI (r j)) fa (fun j => nI (dg (red (vl 17 (prd (bump a) r))) j)) (fun j => nI (prd (bump a) r j)) ft (nI 0)) := hw
  exact cv_ret S hr hlk hQ hw () rfl trivial dX1_endChunk_24

set_option maxHeartbeats 4000000 in
set_option maxRecDepth 100000 in
theorem kX1_reachesModulus (l : Launch) (D : va_G) (cA : ClassId) (o : Nat → Nat) (ff fa fp ft : Nat → Int32) (tk : Int32) (V : Nat) (hV : V < 2 ^ 136) : CI l D cA yX1_reachesModulus wsX1_reachesModulus { frames := 0, cells := 0, slots := 0, locals := 0 } [.ref (o 0)] (wX1 o cA ff fa (fun j => nI (dg V j)) fp ft tk) (fun r _ => r = nI (if 2 ^ 130 ≤ V + 5 then 1 else 0)) (fun _ : Unit => wX1 o cA ff fa (fun j => nI (dg V j)) fp ft tk) := by
  refine ci_of (by decide) rfl (Nat.le_of_ble_eq_true rfl) ?_
  intro p e s m below meth c ls A ar Q S hK hw hA hr hlk hl hQ
  have hl : lv_has ls 3 [(0, .ref (o 0))] := hl
  have hiX1 : ∀ w ∈ wsX10, w ∈ wsX1_reachesModulus := fun _ h => List.mem_cons_of_mem _ (List.mem_append_right _ h)
  refine lv_iconst (v := nI 5) S.1 S.2.1 dX1_reachesModulus_0 (by decide) ?_
  refine te (y := nI (cs 5 (dg V) 0)) (by rw [cs_0]) ?_
  refine lv_istore_n (lv' := [(1, .int (nI (cs 5 (dg V) 0))), (0, .ref (o 0))]) S.1 S.2.1 dX1_reachesModulus_1 rfl hl (by decide) rfl (fun ls hl => ?_)
  refine lv_iconst (v := nI 0) S.1 S.2.1 dX1_reachesModulus_2 (by decide) ?_
  refine lv_istore_n (lv' := [(2, .int (nI 0)), (1, .int (nI (cs 5 (dg V) 0))), (0, .ref (o 0))]) S.1 S.2.1 dX1_reachesModulus_3 rfl hl (by decide) rfl (fun ls hl => ?_)
  have lp4 : ∀ (n0 i : Nat), i + n0 = 16 → ∀ (H : Heap) (locs : List Loc), Wd D A s.heap H locs (wX1 o cA ff fa (fun j => nI (dg V j)) fp ft tk) → ∀ ls : Array Slot, lv_has ls 3 [(2, .int (nI i)), (1, .int (nI (cs 5 (dg V) i))), (0, .ref (o 0))] → W p l e { frames := 0, cells := 0, slots := 0, locals := 0 } s m ar below meth c H locs 0 0 Q (F0 m 4 ls []) := by
    intro n0
    induction n0 with
    | zero =>
      intro i hn0 H locs hw ls hl
      have hn0 : i = 16 := by omega
      have hc1 := cs_le (c := 5) (B := 255) (n := 16) (x := dg V) (by decide) (fun j _ => by have := dg_lt V j; omega) 16 (by omega)
      have hx1 := dg_lt V 16
      subst hn0
      refine lv_iload_n S.1 S.2.1 dX1_reachesModulus_4 rfl (lv_at hl 0 rfl) ?_
      refine lv_bipush (v := nI 16) S.1 S.2.1 dX1_reachesModulus_5 (by decide) ?_
      refine lv_icmp_ge (tgt := 28) S.1 S.2.1 dX1_reachesModulus_7 (by decide) (fun c7 => ?_) (fun c7 => ?_)
      · rw [nI_leI (by omega) (by omega)] at c7
        refine lv_iload_n S.1 S.2.1 dX1_reachesModulus_28 rfl (lv_at hl 1 rfl) ?_
        refine lv_aload_n S.1 S.2.1 dX1_reachesModulus_29 rfl (lv_at hl 2 rfl) ?_
        refine mg S hK hw 0 rfl rfl hiX1 2 (by decide) (List.mem_of_getElem? (i := 1) rfl) rfl dX1_reachesModulus_30 ?_
        refine lv_bipush (v := nI 16) S.1 S.2.1 dX1_reachesModulus_33 (by decide) ?_
        refine ag S hK hw 3 rfl 16 rfl (by omega) (by decide) dX1_reachesModulus_35 ?_
        refine te (y := nI ((dg V) 16)) rfl ?_
        refine lv_iadd S.1 S.2.1 dX1_reachesModulus_36 ?_
        refine te (nI_add _ _) ?_
        refine lv_iconst (v := nI 4) S.1 S.2.1 dX1_reachesModulus_37 (by decide) ?_
        refine lv_icmp_lt (tgt := 45) S.1 S.2.1 dX1_reachesModulus_38 (by decide) (fun c38 => ?_) (fun c38 => ?_)
        · rw [nI_ltI (by omega) (by omega)] at c38
          refine lv_iconst (v := nI 0) S.1 S.2.1 dX1_reachesModulus_45 (by decide) ?_
          exact ci_ret S hr hlk hQ hw (by decide) () rfl (by have e := vl_dg 16 V; have e2 : cs 5 (dg V) 16 = (5 + vl 16 (dg V)) / 256 ^ 16 := rfl; rw [e, p256_16] at e2; rw [e2] at c38; unfold dg at c38 hx1; rw [p256_16] at c38 hx1; refine congrArg nI ?_; split <;> omega) dX1_reachesModulus_46
        · rw [nI_ltI (by omega) (by omega)] at c38
          refine lv_iconst (v := nI 1) S.1 S.2.1 dX1_reachesModulus_41 (by decide) ?_
          refine lv_goto (tgt := 46) S.1 S.2.1 dX1_reachesModulus_42 (by decide) ?_
          exact ci_ret S hr hlk hQ hw (by decide) () rfl (by have e := vl_dg 16 V; have e2 : cs 5 (dg V) 16 = (5 + vl 16 (dg V)) / 256 ^ 16 := rfl; rw [e, p256_16] at e2; rw [e2] at c38; unfold dg at c38 hx1; rw [p256_16] at c38 hx1; refine congrArg nI ?_; split <;> omega) dX1_reachesModulus_46
      · rw [nI_leI (by omega) (by omega)] at c7
        exfalso; omega
    | succ n0 ih =>
      intro i hn0 H locs hw ls hl
      have hlt : i < 16 := by omega
      have hc1 := cs_le (c := 5) (B := 255) (n := 16) (x := dg V) (by decide) (fun j _ => by have := dg_lt V j; omega) i (by omega)
      have hx1 := dg_lt V i
      refine lv_iload_n S.1 S.2.1 dX1_reachesModulus_4 rfl (lv_at hl 0 rfl) ?_
      refine lv_bipush (v := nI 16) S.1 S.2.1 dX1_reachesModulus_5 (by decide) ?_
      refine lv_icmp_ge (tgt := 28) S.1 S.2.1 dX1_reachesModulus_7 (by decide) (fun c7 => ?_) (fun c7 => ?_)
      · rw [nI_leI (by omega) (by omega)] at c7
        exfalso; omega
      · rw [nI_leI (by omega) (by omega)] at c7
        refine lv_iload_n S.1 S.2.1 dX1_reachesModulus_10 rfl (lv_at hl 1 rfl) ?_
        refine lv_aload_n S.1 S.2.1 dX1_reachesModulus_11 rfl (lv_at hl 2 rfl) ?_
        refine mg S hK hw 0 rfl rfl hiX1 2 (by decide) (List.mem_of_getElem? (i := 1) rfl) rfl dX1_reachesModulus_12 ?_
        refine lv_iload_n S.1 S.2.1 dX1_reachesModulus_15 rfl (lv_at hl 0 rfl) ?_
        refine ag S hK hw 3 rfl i rfl (by omega) (by decide) dX1_reachesModulus_16 ?_
        refine te (y := nI ((dg V) i)) rfl ?_
        refine lv_iadd S.1 S.2.1 dX1_reachesModulus_17 ?_
        refine te (nI_add _ _) ?_
        refine lv_bipush (v := nI 8) S.1 S.2.1 dX1_reachesModulus_18 (by decide) ?_
        refine lv_iushr S.1 S.2.1 dX1_reachesModulus_20 rfl ?_
        refine te (y := nI (cs 5 (dg V) (i + 1))) (by rw [cs_succ]; exact ushr8 (by omega)) ?_
        refine lv_istore_n (lv' := [(1, .int (nI (cs 5 (dg V) (i + 1)))), (2, .int (nI i)), (0, .ref (o 0))]) S.1 S.2.1 dX1_reachesModulus_21 rfl hl (by decide) rfl (fun ls hl => ?_)
        refine lv_iinc (v := nI (i + 1)) (lv' := [(2, .int (nI (i + 1))), (1, .int (nI (cs 5 (dg V) (i + 1)))), (0, .ref (o 0))]) S.1 S.2.1 dX1_reachesModulus_22 hl (k := 1) rfl (nI_add i 1) (by decide) rfl (fun ls hl => ?_)
        refine lv_goto (tgt := 4) S.1 S.2.1 dX1_reachesModulus_25 (by decide) ?_
        exact ih (i + 1)  (by omega)  _ _ hw _ hl
  exact lp4 16 0  (by omega)  _ _ hw _ hl
