/-! worlds -/
abbrev wX0 (o : Nat → Nat) (cA : ClassId) (fi : Nat → Int32) (fb : Nat → Int32) : va_W := [(o 0, .inr (0, [.ref (o 1), .ref (o 2)])), (o 1, .inl (cA, 16, .inl fi)), (o 2, .inl (cA, 16, .inl fb))]
abbrev wX1 (o : Nat → Nat) (cA : ClassId) (ff : Nat → Int32) (fa : Nat → Int32) (fh : Nat → Int32) (fp : Nat → Int32) (ft : Nat → Int32) (tk : Int32) : va_W := [(o 0, .inr (1, [.ref (o 1), .ref (o 2), .ref (o 3), .ref (o 4), .ref (o 5), .int tk])), (o 1, .inl (cA, 17, .inl ff)), (o 2, .inl (cA, 16, .inl fa)), (o 3, .inl (cA, 17, .inl fh)), (o 4, .inl (cA, 17, .inl fp)), (o 5, .inl (cA, 16, .inl ft))]
abbrev wX10 (o : Nat → Nat) (cA : ClassId) (ff : Nat → Int32) (fa : Nat → Int32) (fh : Nat → Int32) (fp : Nat → Int32) (ft : Nat → Int32) (tk : Int32) (fi : Nat → Int32) (fb : Nat → Int32) : va_W := [(o 0, .inr (1, [.ref (o 1), .ref (o 2), .ref (o 3), .ref (o 4), .ref (o 5), .int tk])), (o 1, .inl (cA, 17, .inl ff)), (o 2, .inl (cA, 16, .inl fa)), (o 3, .inl (cA, 17, .inl fh)), (o 4, .inl (cA, 17, .inl fp)), (o 5, .inl (cA, 16, .inl ft)), (o 6, .inr (0, [.ref (o 7), .ref (o 8)])), (o 7, .inl (cA, 16, .inl fi)), (o 8, .inl (cA, 16, .inl fb))]
abbrev wX2 (o : Nat → Nat) (cA : ClassId) (cap : Nat) (fr : Nat → Int32) (fe : Nat → Int32) (fi : Nat → Int32) (fb : Nat → Int32) (ff : Nat → Int32) (fa : Nat → Int32) (fh : Nat → Int32) (fp : Nat → Int32) (ft : Nat → Int32) (tk : Int32) (ph : Int32) (di : Int32) (dc : Int32) (ac : Int32) : va_W := [(o 0, .inr (2, [.ref (o 9), .ref (o 3), .ref (o 1), .ref (o 2), .int ph, .int di, .int dc, .int ac])), (o 1, .inl (cA, cap, .inl fr)), (o 2, .inl (cA, 16, .inl fe)), (o 3, .inr (1, [.ref (o 4), .ref (o 5), .ref (o 6), .ref (o 7), .ref (o 8), .int tk])), (o 4, .inl (cA, 17, .inl ff)), (o 5, .inl (cA, 16, .inl fa)), (o 6, .inl (cA, 17, .inl fh)), (o 7, .inl (cA, 17, .inl fp)), (o 8, .inl (cA, 16, .inl ft)), (o 9, .inr (0, [.ref (o 10), .ref (o 11)])), (o 10, .inl (cA, 16, .inl fi)), (o 11, .inl (cA, 16, .inl fb))]
abbrev wX3 (o : Nat → Nat) (cA : ClassId) (cd : Int32) (cap : Int32) (ph : Int32) (op : Int32) (nn : Int32) (mm : Int32) (fk : Nat → Int32) (fn : Nat → Int32) (fs : Nat → Int32) (fc : Nat → Int32) (fd : Nat → Int32) (fe : Nat → Int32) (ft : Nat → Int32) (fw : Nat → Int32) (fh : Nat → Int32) (ff : Nat → Int32) (fp : Nat → Int32) (fg : Nat → Int32) (fr : Nat → Int32) (fx : Nat → Int32) : va_W := [(o 0, .inr (3, [.int cd, .int cap, .ref (o 1), .ref (o 2), .int ph, .int op, .ref (o 3), .int nn, .ref (o 4), .ref (o 5), .int mm, .ref (o 6), .ref (o 7), .ref (o 8), .ref (o 9), .ref (o 10), .ref (o 11), .ref (o 12), .ref (o 13), .ref (o 14)])), (o 1, .inl (cA, 8, .inl fk)), (o 2, .inl (cA, 3, .inl fn)), (o 3, .inl (cA, 1000, .inl fs)), (o 4, .inl (cA, 400, .inl fc)), (o 5, .inl (cA, 400, .inl fd)), (o 6, .inl (cA, 16, .inl fe)), (o 7, .inl (cA, 16, .inl ft)), (o 8, .inl (cA, 16, .inl fw)), (o 9, .inl (cA, 40, .inl fh)), (o 10, .inl (cA, 16, .inl ff)), (o 11, .inl (cA, 40, .inl fp)), (o 12, .inl (cA, 40, .inl fg)), (o 13, .inl (cA, 16, .inl fr)), (o 14, .inl (cA, 16, .inl fx))]
abbrev wE (o : Nat → Nat) (cA : ClassId) : va_W := []
set_option maxHeartbeats 4000000 in
set_option maxRecDepth 100000 in
theorem kX0_addAndTurn (l : Launch) (D : va_G) (cA : ClassId) (o : Nat → Nat) (fi fb : Nat → Int32) (a b d : Nat) (k : Int32) (ha : a < 16) (hb : b < 16) (hd : d < 16) : CV l D cA yX0_addAndTurn wsX0_addAndTurn { frames := 0, cells := 0, slots := 0, locals := 0 } [.ref (o 0), .int (nI a), .int (nI b), .int (nI d), .int k] (wX0 o cA fi fb) (fun _ => True) (fun _ : Unit => wX0 o cA fi (AT fb a b d k)) := by
  refine cv_of (by decide) rfl (Nat.le_of_ble_eq_true rfl) ?_
  intro p e s m below meth c ls A ar Q S hK hw hA hr hlk hl hQ
  have hl : lv_has ls 6 [(0, .ref (o 0)), (1, .int (nI a)), (2, .int (nI b)), (3, .int (nI d)), (4, .int k)] := hl
  have hiX0 : ∀ w ∈ wsX00, w ∈ wsX0_addAndTurn := fun _ h => List.mem_cons_of_mem _ (List.mem_append_right _ h)
  refine lv_aload_n S.1 S.2.1 dX0_addAndTurn_0 rfl (lv_at hl 0 rfl) ?_
  refine mg S hK hw 0 rfl rfl hiX0 1 (by decide) (List.mem_of_getElem? (i := 1) rfl) rfl dX0_addAndTurn_1 ?_
  refine lv_iload_n S.1 S.2.1 dX0_addAndTurn_4 rfl (lv_at hl 1 rfl) ?_
  refine lv_dup2_11 S.1 S.2.1 dX0_addAndTurn_5 rfl rfl ?_
  refine ag S hK hw 2 rfl a rfl (by omega) (by decide) dX0_addAndTurn_6 ?_
  refine lv_aload_n S.1 S.2.1 dX0_addAndTurn_7 rfl (lv_at hl 0 rfl) ?_
  refine mg S hK hw 0 rfl rfl hiX0 1 (by decide) (List.mem_of_getElem? (i := 1) rfl) rfl dX0_addAndTurn_8 ?_
  refine lv_iload_n S.1 S.2.1 dX0_addAndTurn_11 rfl (lv_at hl 2 rfl) ?_
  refine ag S hK hw 2 rfl b rfl (by omega) (by decide) dX0_addAndTurn_12 ?_
  refine lv_iadd S.1 S.2.1 dX0_addAndTurn_13 ?_
  refine ap S hK hw 2 rfl a rfl (by omega) (by decide) dX0_addAndTurn_14 (fun H locs hw => ?_)
  have hw : Wd D A s.heap H locs (wX0 o cA fi (upd fb a ((fb a) + (fb b)))) := hw
  refine lv_aload_n S.1 S.2.1 dX0_addAndTurn_15 rfl (lv_at hl 0 rfl) ?_
  refine mg S hK hw 0 rfl rfl hiX0 1 (by decide) (List.mem_of_getElem? (i := 1) rfl) rfl dX0_addAndTurn_16 ?_
  refine lv_iload_n S.1 S.2.1 dX0_addAndTurn_19 rfl (lv_at hl 3 rfl) ?_
  refine ag S hK hw 2 rfl d rfl (by omega) (by decide) dX0_addAndTurn_20 ?_
  refine lv_aload_n S.1 S.2.1 dX0_addAndTurn_21 rfl (lv_at hl 0 rfl) ?_
  refine mg S hK hw 0 rfl rfl hiX0 1 (by decide) (List.mem_of_getElem? (i := 1) rfl) rfl dX0_addAndTurn_22 ?_
  refine lv_iload_n S.1 S.2.1 dX0_addAndTurn_25 rfl (lv_at hl 1 rfl) ?_
  refine ag S hK hw 2 rfl a rfl (by omega) (by decide) dX0_addAndTurn_26 ?_
  refine lv_ixor S.1 S.2.1 dX0_addAndTurn_27 ?_
  refine lv_istore (lv' := [(5, .int (((upd fb a ((fb a) + (fb b))) d) ^^^ ((upd fb a ((fb a) + (fb b))) a))), (0, .ref (o 0)), (1, .int (nI a)), (2, .int (nI b)), (3, .int (nI d)), (4, .int k)]) S.1 S.2.1 dX0_addAndTurn_28 hl (by decide) rfl (fun ls hl => ?_)
  refine lv_aload_n S.1 S.2.1 dX0_addAndTurn_30 rfl (lv_at hl 1 rfl) ?_
  refine mg S hK hw 0 rfl rfl hiX0 1 (by decide) (List.mem_of_getElem? (i := 1) rfl) rfl dX0_addAndTurn_31 ?_
  refine lv_iload_n S.1 S.2.1 dX0_addAndTurn_34 rfl (lv_at hl 4 rfl) ?_
  refine lv_iload S.1 S.2.1 dX0_addAndTurn_35 (lv_at hl 0 rfl) ?_
  refine lv_iload S.1 S.2.1 dX0_addAndTurn_37 (lv_at hl 5 rfl) ?_
  refine lv_ishl S.1 S.2.1 dX0_addAndTurn_39 ?_
  refine lv_iload S.1 S.2.1 dX0_addAndTurn_40 (lv_at hl 0 rfl) ?_
  refine lv_bipush (v := nI 32) S.1 S.2.1 dX0_addAndTurn_42 (by decide) ?_
  refine lv_iload S.1 S.2.1 dX0_addAndTurn_44 (lv_at hl 5 rfl) ?_
  refine lv_isub S.1 S.2.1 dX0_addAndTurn_46 ?_
  refine lv_iushr S.1 S.2.1 dX0_addAndTurn_47 rfl ?_
  refine lv_ior S.1 S.2.1 dX0_addAndTurn_48 ?_
  refine ap S hK hw 2 rfl d rfl (by omega) (by decide) dX0_addAndTurn_49 (fun H locs hw => ?_)
  have hw : Wd D A s.heap H locs (wX0 o cA fi (upd (upd fb a ((fb a) + (fb b))) d (((((upd fb a ((fb a) + (fb b))) d) ^^^ ((upd fb a ((fb a) + (fb b))) a)) <<< (k &&& 31)) ||| (((((upd fb a ((fb a) + (fb b))) d) ^^^ ((upd fb a ((fb a) + (fb b))) a)).toUInt32 >>> (((nI 32) - k).toUInt32 &&& Int32.toUInt32 31)).toInt32)))) := hw
  exact cv_ret S hr hlk hQ hw () rfl trivial dX0_addAndTurn_50

set_option maxHeartbeats 4000000 in
set_option maxRecDepth 100000 in
theorem kX0_quarterRound (l : Launch) (D : va_G) (cA : ClassId) (o : Nat → Nat) (fi fb : Nat → Int32) (a b c0 d : Nat) (ha : a < 16) (hb : b < 16) (hc : c0 < 16) (hd : d < 16) : CV l D cA yX0_quarterRound wsX0_quarterRound { frames := 1, cells := 0, slots := 0, locals := 25 } [.ref (o 0), .int (nI a), .int (nI b), .int (nI c0), .int (nI d)] (wX0 o cA fi fb) (fun _ => True) (fun _ : Unit => wX0 o cA fi (QR fb a b c0 d)) := by
  refine cv_of (by decide) rfl (Nat.le_of_ble_eq_true rfl) ?_
  intro p e s m below meth c ls A ar Q S hK hw hA hr hlk hl hQ
  have hl : lv_has ls 5 [(0, .ref (o 0)), (1, .int (nI a)), (2, .int (nI b)), (3, .int (nI c0)), (4, .int (nI d))] := hl
  refine lv_aload_n S.1 S.2.1 dX0_quarterRound_0 rfl (lv_at hl 0 rfl) ?_
  refine lv_iload_n S.1 S.2.1 dX0_quarterRound_1 rfl (lv_at hl 1 rfl) ?_
  refine lv_iload_n S.1 S.2.1 dX0_quarterRound_2 rfl (lv_at hl 2 rfl) ?_
  refine lv_iload S.1 S.2.1 dX0_quarterRound_3 (lv_at hl 4 rfl) ?_
  refine lv_bipush (v := nI 16) S.1 S.2.1 dX0_quarterRound_5 (by decide) ?_
  refine callVV (rest := []) S hK hw hA (kX0_addAndTurn l D cA o fi fb a b d (nI 16) (by omega) (by omega) (by omega)) gX0_quarterRound_X0_addAndTurn rfl 4 rfl (by decide +kernel) ⟨rfl, rfl⟩ ⟨by decide, by decide⟩ ⟨Nat.zero_le _, Nat.zero_le _⟩ [0, 1, 2] rfl (by decide) (fun _ => rfl) 0 rfl rfl rfl hl.1 (Nat.le_of_ble_eq_true rfl) dX0_quarterRound_7 rfl (fun u7 H locs hp hw => ?_)
  have hw : Wd D A s.heap H locs (wX0 o cA fi (AT fb a b d (nI 16))) := hw
  refine lv_aload_n S.1 S.2.1 dX0_quarterRound_10 rfl (lv_at hl 0 rfl) ?_
  refine lv_iload_n S.1 S.2.1 dX0_quarterRound_11 rfl (lv_at hl 3 rfl) ?_
  refine lv_iload S.1 S.2.1 dX0_quarterRound_12 (lv_at hl 4 rfl) ?_
  refine lv_iload_n S.1 S.2.1 dX0_quarterRound_14 rfl (lv_at hl 2 rfl) ?_
  refine lv_bipush (v := nI 12) S.1 S.2.1 dX0_quarterRound_15 (by decide) ?_
  refine callVV (rest := []) S hK hw hA (kX0_addAndTurn l D cA o fi (AT fb a b d (nI 16)) c0 d b (nI 12) (by omega) (by omega) (by omega)) gX0_quarterRound_X0_addAndTurn rfl 4 rfl (by decide +kernel) ⟨rfl, rfl⟩ ⟨by decide, by decide⟩ ⟨Nat.zero_le _, Nat.zero_le _⟩ [0, 1, 2] rfl (by decide) (fun _ => rfl) 0 rfl rfl rfl hl.1 (Nat.le_of_ble_eq_true rfl) dX0_quarterRound_17 rfl (fun u17 H locs hp hw => ?_)
  have hw : Wd D A s.heap H locs (wX0 o cA fi (AT (AT fb a b d (nI 16)) c0 d b (nI 12))) := hw
  refine lv_aload_n S.1 S.2.1 dX0_quarterRound_20 rfl (lv_at hl 0 rfl) ?_
  refine lv_iload_n S.1 S.2.1 dX0_quarterRound_21 rfl (lv_at hl 1 rfl) ?_
  refine lv_iload_n S.1 S.2.1 dX0_quarterRound_22 rfl (lv_at hl 2 rfl) ?_
  refine lv_iload S.1 S.2.1 dX0_quarterRound_23 (lv_at hl 4 rfl) ?_
  refine lv_bipush (v := nI 8) S.1 S.2.1 dX0_quarterRound_25 (by decide) ?_
  refine callVV (rest := []) S hK hw hA (kX0_addAndTurn l D cA o fi (AT (AT fb a b d (nI 16)) c0 d b (nI 12)) a b d (nI 8) (by omega) (by omega) (by omega)) gX0_quarterRound_X0_addAndTurn rfl 4 rfl (by decide +kernel) ⟨rfl, rfl⟩ ⟨by decide, by decide⟩ ⟨Nat.zero_le _, Nat.zero_le _⟩ [0, 1, 2] rfl (by decide) (fun _ => rfl) 0 rfl rfl rfl hl.1 (Nat.le_of_ble_eq_true rfl) dX0_quarterRound_27 rfl (fun u27 H locs hp hw => ?_)
  have hw : Wd D A s.heap H locs (wX0 o cA fi (AT (AT (AT fb a b d (nI 16)) c0 d b (nI 12)) a b d (nI 8))) := hw
  refine lv_aload_n S.1 S.2.1 dX0_quarterRound_30 rfl (lv_at hl 0 rfl) ?_
  refine lv_iload_n S.1 S.2.1 dX0_quarterRound_31 rfl (lv_at hl 3 rfl) ?_
  refine lv_iload S.1 S.2.1 dX0_quarterRound_32 (lv_at hl 4 rfl) ?_
  refine lv_iload_n S.1 S.2.1 dX0_quarterRound_34 rfl (lv_at hl 2 rfl) ?_
  refine lv_bipush (v := nI 7) S.1 S.2.1 dX0_quarterRound_35 (by decide) ?_
  refine callVV (rest := []) S hK hw hA (kX0_addAndTurn l D cA o fi (AT (AT (AT fb a b d (nI 16)) c0 d b (nI 12)) a b d (nI 8)) c0 d b (nI 7) (by omega) (by omega) (by omega)) gX0_quarterRound_X0_addAndTurn rfl 4 rfl (by decide +kernel) ⟨rfl, rfl⟩ ⟨by decide, by decide⟩ ⟨Nat.zero_le _, Nat.zero_le _⟩ [0, 1, 2] rfl (by decide) (fun _ => rfl) 0 rfl rfl rfl hl.1 (Nat.le_of_ble_eq_true rfl) dX0_quarterRound_37 rfl (fun u37 H locs hp hw => ?_)
  have hw : Wd D A s.heap H locs (wX0 o cA fi (AT (AT (AT (AT fb a b d (nI 16)) c0 d b (nI 12)) a b d (nI 8)) c0 d b (nI 7))) := hw
  exact cv_ret S hr hlk hQ hw () rfl trivial dX0_quarterRound_40

set_option maxHeartbeats 4000000 in
set_option maxRecDepth 100000 in
theorem kX0_doubleRound (l : Launch) (D : va_G) (cA : ClassId) (o : Nat → Nat) (fi fb : Nat → Int32) : CV l D cA yX0_doubleRound wsX0_doubleRound { frames := 2, cells := 0, slots := 0, locals := 49 } [.ref (o 0)] (wX0 o cA fi fb) (fun _ => True) (fun _ : Unit => wX0 o cA fi (DR fb)) := by
  refine cv_of (by decide) rfl (Nat.le_of_ble_eq_true rfl) ?_
  intro p e s m below meth c ls A ar Q S hK hw hA hr hlk hl hQ
  have hl : lv_has ls 1 [(0, .ref (o 0))] := hl
  refine lv_aload_n S.1 S.2.1 dX0_doubleRound_0 rfl (lv_at hl 0 rfl) ?_
  refine lv_iconst (v := nI 0) S.1 S.2.1 dX0_doubleRound_1 (by decide) ?_
  refine lv_iconst (v := nI 4) S.1 S.2.1 dX0_doubleRound_2 (by decide) ?_
  refine lv_bipush (v := nI 8) S.1 S.2.1 dX0_doubleRound_3 (by decide) ?_
  refine lv_bipush (v := nI 12) S.1 S.2.1 dX0_doubleRound_5 (by decide) ?_
  refine callVV (rest := []) S hK hw hA (kX0_quarterRound l D cA o fi fb 0 4 8 12 (by omega) (by omega) (by omega) (by omega)) gX0_doubleRound_X0_quarterRound rfl 4 rfl (by decide +kernel) ⟨rfl, rfl⟩ ⟨by decide, by decide⟩ ⟨Nat.zero_le _, Nat.zero_le _⟩ [0, 1, 2] rfl (by decide) (fun _ => rfl) 0 rfl rfl rfl hl.1 (Nat.le_of_ble_eq_true rfl) dX0_doubleRound_7 rfl (fun u7 H locs hp hw => ?_)
  have hw : Wd D A s.heap H locs (wX0 o cA fi (QR fb 0 4 8 12)) := hw
  refine lv_aload_n S.1 S.2.1 dX0_doubleRound_10 rfl (lv_at hl 0 rfl) ?_
  refine lv_iconst (v := nI 1) S.1 S.2.1 dX0_doubleRound_11 (by decide) ?_
  refine lv_iconst (v := nI 5) S.1 S.2.1 dX0_doubleRound_12 (by decide) ?_
  refine lv_bipush (v := nI 9) S.1 S.2.1 dX0_doubleRound_13 (by decide) ?_
  refine lv_bipush (v := nI 13) S.1 S.2.1 dX0_doubleRound_15 (by decide) ?_
  refine callVV (rest := []) S hK hw hA (kX0_quarterRound l D cA o fi (QR fb 0 4 8 12) 1 5 9 13 (by omega) (by omega) (by omega) (by omega)) gX0_doubleRound_X0_quarterRound rfl 4 rfl (by decide +kernel) ⟨rfl, rfl⟩ ⟨by decide, by decide⟩ ⟨Nat.zero_le _, Nat.zero_le _⟩ [0, 1, 2] rfl (by decide) (fun _ => rfl) 0 rfl rfl rfl hl.1 (Nat.le_of_ble_eq_true rfl) dX0_doubleRound_17 rfl (fun u17 H locs hp hw => ?_)
  have hw : Wd D A s.heap H locs (wX0 o cA fi (QR (QR fb 0 4 8 12) 1 5 9 13)) := hw
  refine lv_aload_n S.1 S.2.1 dX0_doubleRound_20 rfl (lv_at hl 0 rfl) ?_
  refine lv_iconst (v := nI 2) S.1 S.2.1 dX0_doubleRound_21 (by decide) ?_
  refine lv_bipush (v := nI 6) S.1 S.2.1 dX0_doubleRound_22 (by decide) ?_
  refine lv_bipush (v := nI 10) S.1 S.2.1 dX0_doubleRound_24 (by decide) ?_
  refine lv_bipush (v := nI 14) S.1 S.2.1 dX0_doubleRound_26 (by decide) ?_
  refine callVV (rest := []) S hK hw hA (kX0_quarterRound l D cA o fi (QR (QR fb 0 4 8 12) 1 5 9 13) 2 6 10 14 (by omega) (by omega) (by omega) (by omega)) gX0_doubleRound_X0_quarterRound rfl 4 rfl (by decide +kernel) ⟨rfl, rfl⟩ ⟨by decide, by decide⟩ ⟨Nat.zero_le _, Nat.zero_le _⟩ [0, 1, 2] rfl (by decide) (fun _ => rfl) 0 rfl rfl rfl hl.1 (Nat.le_of_ble_eq_true rfl) dX0_doubleRound_28 rfl (fun u28 H locs hp hw => ?_)
  have hw : Wd D A s.heap H locs (wX0 o cA fi (QR (QR (QR fb 0 4 8 12) 1 5 9 13) 2 6 10 14)) := hw
  refine lv_aload_n S.1 S.2.1 dX0_doubleRound_31 rfl (lv_at hl 0 rfl) ?_
  refine lv_iconst (v := nI 3) S.1 S.2.1 dX0_doubleRound_32 (by decide) ?_
  refine lv_bipush (v := nI 7) S.1 S.2.1 dX0_doubleRound_33 (by decide) ?_
  refine lv_bipush (v := nI 11) S.1 S.2.1 dX0_doubleRound_35 (by decide) ?_
  refine lv_bipush (v := nI 15) S.1 S.2.1 dX0_doubleRound_37 (by decide) ?_
  refine callVV (rest := []) S hK hw hA (kX0_quarterRound l D cA o fi (QR (QR (QR fb 0 4 8 12) 1 5 9 13) 2 6 10 14) 3 7 11 15 (by omega) (by omega) (by omega) (by omega)) gX0_doubleRound_X0_quarterRound rfl 4 rfl (by decide +kernel) ⟨rfl, rfl⟩ ⟨by decide, by decide⟩ ⟨Nat.zero_le _, Nat.zero_le _⟩ [0, 1, 2] rfl (by decide) (fun _ => rfl) 0 rfl rfl rfl hl.1 (Nat.le_of_ble_eq_true rfl) dX0_doubleRound_39 rfl (fun u39 H locs hp hw => ?_)
  have hw : Wd D A s.heap H locs (wX0 o cA fi (QR (QR (QR (QR fb 0 4 8 12) 1 5 9 13) 2 6 10 14) 3 7 11 15)) := hw
  refine lv_aload_n S.1 S.2.1 dX0_doubleRound_42 rfl (lv_at hl 0 rfl) ?_
  refine lv_iconst (v := nI 0) S.1 S.2.1 dX0_doubleRound_43 (by decide) ?_
  refine lv_iconst (v := nI 5) S.1 S.2.1 dX0_doubleRound_44 (by decide) ?_
  refine lv_bipush (v := nI 10) S.1 S.2.1 dX0_doubleRound_45 (by decide) ?_
  refine lv_bipush (v := nI 15) S.1 S.2.1 dX0_doubleRound_47 (by decide) ?_
  refine callVV (rest := []) S hK hw hA (kX0_quarterRound l D cA o fi (QR (QR (QR (QR fb 0 4 8 12) 1 5 9 13) 2 6 10 14) 3 7 11 15) 0 5 10 15 (by omega) (by omega) (by omega) (by omega)) gX0_doubleRound_X0_quarterRound rfl 4 rfl (by decide +kernel) ⟨rfl, rfl⟩ ⟨by decide, by decide⟩ ⟨Nat.zero_le _, Nat.zero_le _⟩ [0, 1, 2] rfl (by decide) (fun _ => rfl) 0 rfl rfl rfl hl.1 (Nat.le_of_ble_eq_true rfl) dX0_doubleRound_49 rfl (fun u49 H locs hp hw => ?_)
  have hw : Wd D A s.heap H locs (wX0 o cA fi (QR (QR (QR (QR (QR fb 0 4 8 12) 1 5 9 13) 2 6 10 14) 3 7 11 15) 0 5 10 15)) := hw
  refine lv_aload_n S.1 S.2.1 dX0_doubleRound_52 rfl (lv_at hl 0 rfl) ?_
  refine lv_iconst (v := nI 1) S.1 S.2.1 dX0_doubleRound_53 (by decide) ?_
  refine lv_bipush (v := nI 6) S.1 S.2.1 dX0_doubleRound_54 (by decide) ?_
  refine lv_bipush (v := nI 11) S.1 S.2.1 dX0_doubleRound_56 (by decide) ?_
  refine lv_bipush (v := nI 12) S.1 S.2.1 dX0_doubleRound_58 (by decide) ?_
  refine callVV (rest := []) S hK hw hA (kX0_quarterRound l D cA o fi (QR (QR (QR (QR (QR fb 0 4 8 12) 1 5 9 13) 2 6 10 14) 3 7 11 15) 0 5 10 15) 1 6 11 12 (by omega) (by omega) (by omega) (by omega)) gX0_doubleRound_X0_quarterRound rfl 4 rfl (by decide +kernel) ⟨rfl, rfl⟩ ⟨by decide, by decide⟩ ⟨Nat.zero_le _, Nat.zero_le _⟩ [0, 1, 2] rfl (by decide) (fun _ => rfl) 0 rfl rfl rfl hl.1 (Nat.le_of_ble_eq_true rfl) dX0_doubleRound_60 rfl (fun u60 H locs hp hw => ?_)
  have hw : Wd D A s.heap H locs (wX0 o cA fi (QR (QR (QR (QR (QR (QR fb 0 4 8 12) 1 5 9 13) 2 6 10 14) 3 7 11 15) 0 5 10 15) 1 6 11 12)) := hw
  refine lv_aload_n S.1 S.2.1 dX0_doubleRound_63 rfl (lv_at hl 0 rfl) ?_
  refine lv_iconst (v := nI 2) S.1 S.2.1 dX0_doubleRound_64 (by decide) ?_
  refine lv_bipush (v := nI 7) S.1 S.2.1 dX0_doubleRound_65 (by decide) ?_
  refine lv_bipush (v := nI 8) S.1 S.2.1 dX0_doubleRound_67 (by decide) ?_
  refine lv_bipush (v := nI 13) S.1 S.2.1 dX0_doubleRound_69 (by decide) ?_
  refine callVV (rest := []) S hK hw hA (kX0_quarterRound l D cA o fi (QR (QR (QR (QR (QR (QR fb 0 4 8 12) 1 5 9 13) 2 6 10 14) 3 7 11 15) 0 5 10 15) 1 6 11 12) 2 7 8 13 (by omega) (by omega) (by omega) (by omega)) gX0_doubleRound_X0_quarterRound rfl 4 rfl (by decide +kernel) ⟨rfl, rfl⟩ ⟨by decide, by decide⟩ ⟨Nat.zero_le _, Nat.zero_le _⟩ [0, 1, 2] rfl (by decide) (fun _ => rfl) 0 rfl rfl rfl hl.1 (Nat.le_of_ble_eq_true rfl) dX0_doubleRound_71 rfl (fun u71 H locs hp hw => ?_)
  have hw : Wd D A s.heap H locs (wX0 o cA fi (QR (QR (QR (QR (QR (QR (QR fb 0 4 8 12) 1 5 9 13) 2 6 10 14) 3 7 11 15) 0 5 10 15) 1 6 11 12) 2 7 8 13)) := hw
  refine lv_aload_n S.1 S.2.1 dX0_doubleRound_74 rfl (lv_at hl 0 rfl) ?_
  refine lv_iconst (v := nI 3) S.1 S.2.1 dX0_doubleRound_75 (by decide) ?_
  refine lv_iconst (v := nI 4) S.1 S.2.1 dX0_doubleRound_76 (by decide) ?_
  refine lv_bipush (v := nI 9) S.1 S.2.1 dX0_doubleRound_77 (by decide) ?_
  refine lv_bipush (v := nI 14) S.1 S.2.1 dX0_doubleRound_79 (by decide) ?_
  refine callVV (rest := []) S hK hw hA (kX0_quarterRound l D cA o fi (QR (QR (QR (QR (QR (QR (QR fb 0 4 8 12) 1 5 9 13) 2 6 10 14) 3 7 11 15) 0 5 10 15) 1 6 11 12) 2 7 8 13) 3 4 9 14 (by omega) (by omega) (by omega) (by omega)) gX0_doubleRound_X0_quarterRound rfl 4 rfl (by decide +kernel) ⟨rfl, rfl⟩ ⟨by decide, by decide⟩ ⟨Nat.zero_le _, Nat.zero_le _⟩ [0, 1, 2] rfl (by decide) (fun _ => rfl) 0 rfl rfl rfl hl.1 (Nat.le_of_ble_eq_true rfl) dX0_doubleRound_81 rfl (fun u81 H locs hp hw => ?_)
  have hw : Wd D A s.heap H locs (wX0 o cA fi (QR (QR (QR (QR (QR (QR (QR (QR fb 0 4 8 12) 1 5 9 13) 2 6 10 14) 3 7 11 15) 0 5 10 15) 1 6 11 12) 2 7 8 13) 3 4 9 14)) := hw
  exact cv_ret S hr hlk hQ hw () rfl trivial dX0_doubleRound_84

set_option maxHeartbeats 4000000 in
set_option maxRecDepth 100000 in
theorem kX0_putKeyWord (l : Launch) (D : va_G) (cA : ClassId) (o : Nat → Nat) (fi fb : Nat → Int32) (i : Nat) (v : Int32) (hi : i < 8) : CV l D cA yX0_putKeyWord wsX0_putKeyWord { frames := 0, cells := 0, slots := 0, locals := 0 } [.ref (o 0), .int (nI i), .int v] (wX0 o cA fi fb) (fun _ => True) (fun _ : Unit => wX0 o cA (upd fi (4 + i) v) fb) := by
  refine cv_of (by decide) rfl (Nat.le_of_ble_eq_true rfl) ?_
  intro p e s m below meth c ls A ar Q S hK hw hA hr hlk hl hQ
  have hl : lv_has ls 3 [(0, .ref (o 0)), (1, .int (nI i)), (2, .int v)] := hl
  have hiX0 : ∀ w ∈ wsX00, w ∈ wsX0_putKeyWord := fun _ h => List.mem_cons_of_mem _ (List.mem_append_right _ h)
  refine lv_aload_n S.1 S.2.1 dX0_putKeyWord_0 rfl (lv_at hl 0 rfl) ?_
  refine mg S hK hw 0 rfl rfl hiX0 0 (by decide) (List.mem_of_getElem? (i := 1) rfl) rfl dX0_putKeyWord_1 ?_
  refine lv_iconst (v := nI 4) S.1 S.2.1 dX0_putKeyWord_4 (by decide) ?_
  refine lv_iload_n S.1 S.2.1 dX0_putKeyWord_5 rfl (lv_at hl 1 rfl) ?_
  refine lv_iadd S.1 S.2.1 dX0_putKeyWord_6 ?_
  refine te (nI_add _ _) ?_
  refine lv_iload_n S.1 S.2.1 dX0_putKeyWord_7 rfl (lv_at hl 2 rfl) ?_
  refine ap S hK hw 1 rfl (4 + i) rfl (by omega) (by decide) dX0_putKeyWord_8 (fun H locs hw => ?_)
  have hw : Wd D A s.heap H locs (wX0 o cA (upd fi (4 + i) v) fb) := hw
  exact cv_ret S hr hlk hQ hw () rfl trivial dX0_putKeyWord_9

set_option maxHeartbeats 4000000 in
set_option maxRecDepth 100000 in
theorem kX0_putNonceWord (l : Launch) (D : va_G) (cA : ClassId) (o : Nat → Nat) (fi fb : Nat → Int32) (i : Nat) (v : Int32) (hi : i < 3) : CV l D cA yX0_putNonceWord wsX0_putNonceWord { frames := 0, cells := 0, slots := 0, locals := 0 } [.ref (o 0), .int (nI i), .int v] (wX0 o cA fi fb) (fun _ => True) (fun _ : Unit => wX0 o cA (upd fi (13 + i) v) fb) := by
  refine cv_of (by decide) rfl (Nat.le_of_ble_eq_true rfl) ?_
  intro p e s m below meth c ls A ar Q S hK hw hA hr hlk hl hQ
  have hl : lv_has ls 3 [(0, .ref (o 0)), (1, .int (nI i)), (2, .int v)] := hl
  have hiX0 : ∀ w ∈ wsX00, w ∈ wsX0_putNonceWord := fun _ h => List.mem_cons_of_mem _ (List.mem_append_right _ h)
  refine lv_aload_n S.1 S.2.1 dX0_putNonceWord_0 rfl (lv_at hl 0 rfl) ?_
  refine mg S hK hw 0 rfl rfl hiX0 0 (by decide) (List.mem_of_getElem? (i := 1) rfl) rfl dX0_putNonceWord_1 ?_
  refine lv_bipush (v := nI 13) S.1 S.2.1 dX0_putNonceWord_4 (by decide) ?_
  refine lv_iload_n S.1 S.2.1 dX0_putNonceWord_6 rfl (lv_at hl 1 rfl) ?_
  refine lv_iadd S.1 S.2.1 dX0_putNonceWord_7 ?_
  refine te (nI_add _ _) ?_
  refine lv_iload_n S.1 S.2.1 dX0_putNonceWord_8 rfl (lv_at hl 2 rfl) ?_
  refine ap S hK hw 1 rfl (13 + i) rfl (by omega) (by decide) dX0_putNonceWord_9 (fun H locs hw => ?_)
  have hw : Wd D A s.heap H locs (wX0 o cA (upd fi (13 + i) v) fb) := hw
  exact cv_ret S hr hlk hQ hw () rfl trivial dX0_putNonceWord_10

set_option maxHeartbeats 4000000 in
set_option maxRecDepth 100000 in
theorem kX0_blockByte (l : Launch) (D : va_G) (cA : ClassId) (o : Nat → Nat) (fi fb : Nat → Int32) (i : Nat) (hi : i < 64) : CI l D cA yX0_blockByte wsX0_blockByte { frames := 0, cells := 0, slots := 0, locals := 0 } [.ref (o 0), .int (nI i)] (wX0 o cA fi fb) (fun r _ => r = BB fb i) (fun _ : Unit => wX0 o cA fi fb) := by
  refine ci_of (by decide) rfl (Nat.le_of_ble_eq_true rfl) ?_
  intro p e s m below meth c ls A ar Q S hK hw hA hr hlk hl hQ
  have hl : lv_has ls 2 [(0, .ref (o 0)), (1, .int (nI i))] := hl
  have hiX0 : ∀ w ∈ wsX00, w ∈ wsX0_blockByte := fun _ h => List.mem_cons_of_mem _ (List.mem_append_right _ h)
  refine lv_aload_n S.1 S.2.1 dX0_blockByte_0 rfl (lv_at hl 0 rfl) ?_
  refine mg S hK hw 0 rfl rfl hiX0 1 (by decide) (List.mem_of_getElem? (i := 1) rfl) rfl dX0_blockByte_1 ?_
  refine lv_iload_n S.1 S.2.1 dX0_blockByte_4 rfl (lv_at hl 1 rfl) ?_
  refine lv_iconst (v := nI 4) S.1 S.2.1 dX0_blockByte_5 (by decide) ?_
  refine lv_idiv S.1 S.2.1 dX0_blockByte_6 (by decide) ?_
  refine te (pk_div (by omega) (by decide) (by decide)) ?_
  refine ag S hK hw 2 rfl (i / 4) rfl (by omega) (by decide) dX0_blockByte_7 ?_
  refine lv_bipush (v := nI 8) S.1 S.2.1 dX0_blockByte_8 (by decide) ?_
  refine lv_iload_n S.1 S.2.1 dX0_blockByte_10 rfl (lv_at hl 1 rfl) ?_
  refine lv_iconst (v := nI 4) S.1 S.2.1 dX0_blockByte_11 (by decide) ?_
  refine lv_irem S.1 S.2.1 dX0_blockByte_12 (by decide) ?_
  refine te (pk_rem (by omega) (by decide) (by decide)) ?_
  refine lv_imul S.1 S.2.1 dX0_blockByte_13 ?_
  refine te (pk_mul _ _) ?_
  refine lv_iushr S.1 S.2.1 dX0_blockByte_14 rfl ?_
  refine lv_sipush (v := nI 255) S.1 S.2.1 dX0_blockByte_15 (by decide) ?_
  refine lv_iand S.1 S.2.1 dX0_blockByte_18 ?_
  exact ci_ret S hr hlk hQ hw rfl () rfl rfl dX0_blockByte_19

--makeBlock
set_option maxHeartbeats 4000000 in
set_option maxRecDepth 100000 in
theorem kX0_makeBlock (l : Launch) (D : va_G) (cA : ClassId) (o : Nat → Nat) (fi fb : Nat → Int32) (v : Int32) : CV l D cA yX0_makeBlock wsX0_makeBlock { frames := 3, cells := 0, slots := 0, locals := 69 } [.ref (o 0), .int v] (wX0 o cA fi fb) (fun _ => True) (fun _ : Unit => wX0 o cA (upd fi 12 v) (MB (upd fi 12 v) fb)) := by
  refine cv_of (by decide) rfl (Nat.le_of_ble_eq_true rfl) ?_
  intro p e s m below meth c ls A ar Q S hK hw hA hr hlk hl hQ
  have hl : lv_has ls 3 [(0, .ref (o 0)), (1, .int v)] := hl
  have hiX0 : ∀ w ∈ wsX00, w ∈ wsX0_makeBlock := fun _ h => List.mem_cons_of_mem _ (List.mem_append_right _ h)
  refine lv_aload_n S.1 S.2.1 dX0_makeBlock_0 rfl (lv_at hl 0 rfl) ?_
  refine mg S hK hw 0 rfl rfl hiX0 0 (by decide) (List.mem_of_getElem? (i := 1) rfl) rfl dX0_makeBlock_1 ?_
  refine lv_bipush (v := nI 12) S.1 S.2.1 dX0_makeBlock_4 (by decide) ?_
  refine lv_iload_n S.1 S.2.1 dX0_makeBlock_6 rfl (lv_at hl 1 rfl) ?_
  refine ap S hK hw 1 rfl 12 rfl (by omega) (by decide) dX0_makeBlock_7 (fun H locs hw => ?_)
  have hw : Wd D A s.heap H locs (wX0 o cA (upd fi 12 v) fb) := hw
  refine lv_iconst (v := nI 0) S.1 S.2.1 dX0_makeBlock_8 (by decide) ?_
  refine lv_istore_n (lv' := [(2, .int (nI 0)), (0, .ref (o 0)), (1, .int v)]) S.1 S.2.1 dX0_makeBlock_9 rfl hl (by decide) rfl (fun ls hl => ?_)
  have lp10 : ∀ (n0 i : Nat), i + n0 = 16 → ∀ (H : Heap) (locs : List Loc), Wd D A s.heap H locs (wX0 o cA (upd fi 12 v) (cpy16 i (upd fi 12 v) fb)) → ∀ ls : Array Slot, lv_has ls 3 [(2, .int (nI i)), (0, .ref (o 0)), (1, .int v)] → W p l e { frames := 3, cells := 0, slots := 0, locals := 69 } s m ar below meth c H locs 0 0 Q (F0 m 10 ls []) := by
    intro n0
    induction n0 with
    | zero =>
      intro i hn0 H locs hw ls hl
      have hn0 : i = 16 := by omega
      subst hn0
      refine lv_iload_n S.1 S.2.1 dX0_makeBlock_10 rfl (lv_at hl 0 rfl) ?_
      refine lv_bipush (v := nI 16) S.1 S.2.1 dX0_makeBlock_11 (by decide) ?_
      refine lv_icmp_ge (tgt := 34) S.1 S.2.1 dX0_makeBlock_13 (by decide) (fun c13 => ?_) (fun c13 => ?_)
      · rw [nI_leI (by omega) (by omega)] at c13
        refine lv_iconst (v := nI 0) S.1 S.2.1 dX0_makeBlock_34 (by decide) ?_
        refine lv_istore_n (lv' := [(2, .int (nI 0)), (0, .ref (o 0)), (1, .int v)]) S.1 S.2.1 dX0_makeBlock_35 rfl hl (by decide) rfl (fun ls hl => ?_)
        have lp36 : ∀ (n0 i : Nat), i + n0 = 10 → ∀ (H : Heap) (locs : List Loc), Wd D A s.heap H locs (wX0 o cA (upd fi 12 v) (DRn i (cpy16 16 (upd fi 12 v) fb))) → ∀ ls : Array Slot, lv_has ls 3 [(2, .int (nI i)), (0, .ref (o 0)), (1, .int v)] → W p l e { frames := 3, cells := 0, slots := 0, locals := 69 } s m ar below meth c H locs 0 0 Q (F0 m 36 ls []) := by
          intro n0
          induction n0 with
          | zero =>
            intro i hn0 H locs hw ls hl
            have hn0 : i = 10 := by omega
            subst hn0
            refine lv_iload_n S.1 S.2.1 dX0_makeBlock_36 rfl (lv_at hl 0 rfl) ?_
            refine lv_bipush (v := nI 10) S.1 S.2.1 dX0_makeBlock_37 (by decide) ?_
            refine lv_icmp_ge (tgt := 52) S.1 S.2.1 dX0_makeBlock_39 (by decide) (fun c39 => ?_) (fun c39 => ?_)
            · rw [nI_leI (by omega) (by omega)] at c39
              refine lv_iconst (v := nI 0) S.1 S.2.1 dX0_makeBlock_52 (by decide) ?_
              refine lv_istore_n (lv' := [(2, .int (nI 0)), (0, .ref (o 0)), (1, .int v)]) S.1 S.2.1 dX0_makeBlock_53 rfl hl (by decide) rfl (fun ls hl => ?_)
              have lp54 : ∀ (n0 i : Nat), i + n0 = 16 → ∀ (H : Heap) (locs : List Loc), Wd D A s.heap H locs (wX0 o cA (upd fi 12 v) (addN i (upd fi 12 v) (DRn 10 (cpy16 16 (upd fi 12 v) fb)))) → ∀ ls : Array Slot, lv_has ls 3 [(2, .int (nI i)), (0, .ref (o 0)), (1, .int v)] → W p l e { frames := 3, cells := 0, slots := 0, locals := 69 } s m ar below meth c H locs 0 0 Q (F0 m 54 ls []) := by
                intro n0
                induction n0 with
                | zero =>
                  intro i hn0 H locs hw ls hl
                  have hn0 : i = 16 := by omega
                  subst hn0
                  refine lv_iload_n S.1 S.2.1 dX0_makeBlock_54 rfl (lv_at hl 0 rfl) ?_
                  refine lv_bipush (v := nI 16) S.1 S.2.1 dX0_makeBlock_55 (by decide) ?_
                  refine lv_icmp_ge (tgt := 81) S.1 S.2.1 dX0_makeBlock_57 (by decide) (fun c57 => ?_) (fun c57 => ?_)
                  · rw [nI_leI (by omega) (by omega)] at c57
                    exact cv_ret S hr hlk hQ hw () rfl trivial dX0_makeBlock_81
                  · rw [nI_leI (by omega) (by omega)] at c57
                    exfalso; omega
                | succ n0 ih =>
                  intro i hn0 H locs hw ls hl
                  have hlt : i < 16 := by omega
                  refine lv_iload_n S.1 S.2.1 dX0_makeBlock_54 rfl (lv_at hl 0 rfl) ?_
                  refine lv_bipush (v := nI 16) S.1 S.2.1 dX0_makeBlock_55 (by decide) ?_
                  refine lv_icmp_ge (tgt := 81) S.1 S.2.1 dX0_makeBlock_57 (by decide) (fun c57 => ?_) (fun c57 => ?_)
                  · rw [nI_leI (by omega) (by omega)] at c57
                    exfalso; omega
                  · rw [nI_leI (by omega) (by omega)] at c57
                    refine lv_aload_n S.1 S.2.1 dX0_makeBlock_60 rfl (lv_at hl 1 rfl) ?_
                    refine mg S hK hw 0 rfl rfl hiX0 1 (by decide) (List.mem_of_getElem? (i := 2) rfl) rfl dX0_makeBlock_61 ?_
                    refine lv_iload_n S.1 S.2.1 dX0_makeBlock_64 rfl (lv_at hl 0 rfl) ?_
                    refine lv_dup2_11 S.1 S.2.1 dX0_makeBlock_65 rfl rfl ?_
                    refine ag S hK hw 2 rfl i rfl (by omega) (by decide) dX0_makeBlock_66 ?_
                    refine lv_aload_n S.1 S.2.1 dX0_makeBlock_67 rfl (lv_at hl 1 rfl) ?_
                    refine mg S hK hw 0 rfl rfl hiX0 0 (by decide) (List.mem_of_getElem? (i := 1) rfl) rfl dX0_makeBlock_68 ?_
                    refine lv_iload_n S.1 S.2.1 dX0_makeBlock_71 rfl (lv_at hl 0 rfl) ?_
                    refine ag S hK hw 1 rfl i rfl (by omega) (by decide) dX0_makeBlock_72 ?_
                    refine lv_iadd S.1 S.2.1 dX0_makeBlock_73 ?_
                    refine ap S hK hw 2 rfl i rfl (by omega) (by decide) dX0_makeBlock_74 (fun H locs hw => ?_)
                    have hw : Wd D A s.heap H locs (wX0 o cA (upd fi 12 v) (upd (addN i (upd fi 12 v) (DRn 10 (cpy16 16 (upd fi 12 v) fb))) i (((addN i (upd fi 12 v) (DRn 10 (cpy16 16 (upd fi 12 v) fb))) i) + ((upd fi 12 v) i)))) := hw
                    refine lv_iinc (v := nI (i + 1)) (lv' := [(2, .int (nI (i + 1))), (0, .ref (o 0)), (1, .int v)]) S.1 S.2.1 dX0_makeBlock_75 hl (k := 0) rfl (nI_add i 1) (by decide) rfl (fun ls hl => ?_)
                    refine lv_goto (tgt := 54) S.1 S.2.1 dX0_makeBlock_78 (by decide) ?_
                    exact ih (i + 1)  (by omega)  _ _ hw _ hl
              exact lp54 16 0  (by omega)  _ _ hw _ hl
            · rw [nI_leI (by omega) (by omega)] at c39
              exfalso; omega
          | succ n0 ih =>
            intro i hn0 H locs hw ls hl
            have hlt : i < 10 := by omega
            refine lv_iload_n S.1 S.2.1 dX0_makeBlock_36 rfl (lv_at hl 0 rfl) ?_
            refine lv_bipush (v := nI 10) S.1 S.2.1 dX0_makeBlock_37 (by decide) ?_
            refine lv_icmp_ge (tgt := 52) S.1 S.2.1 dX0_makeBlock_39 (by decide) (fun c39 => ?_) (fun c39 => ?_)
            · rw [nI_leI (by omega) (by omega)] at c39
              exfalso; omega
            · rw [nI_leI (by omega) (by omega)] at c39
              refine lv_aload_n S.1 S.2.1 dX0_makeBlock_42 rfl (lv_at hl 1 rfl) ?_
              refine callVV (rest := []) S hK hw hA (kX0_doubleRound l D cA o (upd fi 12 v) (DRn i (cpy16 16 (upd fi 12 v) fb))) gX0_makeBlock_X0_doubleRound rfl 0 rfl (by decide +kernel) ⟨rfl, rfl⟩ ⟨by decide, by decide⟩ ⟨Nat.zero_le _, Nat.zero_le _⟩ [0, 1, 2] rfl (by decide) (fun _ => rfl) 0 rfl rfl rfl hl.1 (Nat.le_of_ble_eq_true rfl) dX0_makeBlock_43 rfl (fun u43 H locs hp hw => ?_)
              have hw : Wd D A s.heap H locs (wX0 o cA (upd fi 12 v) (DR (DRn i (cpy16 16 (upd fi 12 v) fb)))) := hw
              refine lv_iinc (v := nI (i + 1)) (lv' := [(2, .int (nI (i + 1))), (0, .ref (o 0)), (1, .int v)]) S.1 S.2.1 dX0_makeBlock_46 hl (k := 0) rfl (nI_add i 1) (by decide) rfl (fun ls hl => ?_)
              refine lv_goto (tgt := 36) S.1 S.2.1 dX0_makeBlock_49 (by decide) ?_
              exact ih (i + 1)  (by omega)  _ _ hw _ hl
        exact lp36 10 0  (by omega)  _ _ hw _ hl
      · rw [nI_leI (by omega) (by omega)] at c13
        exfalso; omega
    | succ n0 ih =>
      intro i hn0 H locs hw ls hl
      have hlt : i < 16 := by omega
      refine lv_iload_n S.1 S.2.1 dX0_makeBlock_10 rfl (lv_at hl 0 rfl) ?_
      refine lv_bipush (v := nI 16) S.1 S.2.1 dX0_makeBlock_11 (by decide) ?_
      refine lv_icmp_ge (tgt := 34) S.1 S.2.1 dX0_makeBlock_13 (by decide) (fun c13 => ?_) (fun c13 => ?_)
      · rw [nI_leI (by omega) (by omega)] at c13
        exfalso; omega
      · rw [nI_leI (by omega) (by omega)] at c13
        refine lv_aload_n S.1 S.2.1 dX0_makeBlock_16 rfl (lv_at hl 1 rfl) ?_
        refine mg S hK hw 0 rfl rfl hiX0 1 (by decide) (List.mem_of_getElem? (i := 2) rfl) rfl dX0_makeBlock_17 ?_
        refine lv_iload_n S.1 S.2.1 dX0_makeBlock_20 rfl (lv_at hl 0 rfl) ?_
        refine lv_aload_n S.1 S.2.1 dX0_makeBlock_21 rfl (lv_at hl 1 rfl) ?_
        refine mg S hK hw 0 rfl rfl hiX0 0 (by decide) (List.mem_of_getElem? (i := 1) rfl) rfl dX0_makeBlock_22 ?_
        refine lv_iload_n S.1 S.2.1 dX0_makeBlock_25 rfl (lv_at hl 0 rfl) ?_
        refine ag S hK hw 1 rfl i rfl (by omega) (by decide) dX0_makeBlock_26 ?_
        refine ap S hK hw 2 rfl i rfl (by omega) (by decide) dX0_makeBlock_27 (fun H locs hw => ?_)
        have hw : Wd D A s.heap H locs (wX0 o cA (upd fi 12 v) (upd (cpy16 i (upd fi 12 v) fb) i ((upd fi 12 v) i))) := hw
        refine lv_iinc (v := nI (i + 1)) (lv' := [(2, .int (nI (i + 1))), (0, .ref (o 0)), (1, .int v)]) S.1 S.2.1 dX0_makeBlock_28 hl (k := 0) rfl (nI_add i 1) (by decide) rfl (fun ls hl => ?_)
        refine lv_goto (tgt := 10) S.1 S.2.1 dX0_makeBlock_31 (by decide) ?_
        exact ih (i + 1)  (by omega)  _ _ hw _ hl
  exact lp10 16 0  (by omega)  _ _ hw _ hl
