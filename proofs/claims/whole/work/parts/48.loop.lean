theorem nest_in : Cond.methodLinkNest RX2 18 yX1_init "AeadBox" ∈ lw_tbl := List.mem_of_getElem? (i := 56) (by decide +kernel)
theorem js_wd {D : va_G} {cA : ClassId} {o o2 : Nat → Nat} {A : Nat → Prop} {H0 H : Heap} {locs : List Loc} (h : Js D cA o o2 A H0 H locs) : ∃ ws, Wd D A H0 H locs ws := by
  obtain ⟨p0, op0, n, m0, cap0, a, b, t, x, fk, fn, fi, fb, ff, fa, fh, fp, ft, tk, g1, g2, g3, g4, g5, g6, g7, g8, hw, hR⟩ := h
  exact ⟨_, hw⟩
theorem lw_cmp {L i : Nat} (hL : L < 2 ^ 30) (hi : i < 2 ^ 30) : nI L - nI 3 < nI i ↔ L < i + 3 := by
  rw [Int32.lt_iff_toInt_lt, pk_sub_toInt hL (by decide), nI_toInt (by omega)]
  omega
set_option maxHeartbeats 4000000 in
set_option maxRecDepth 100000 in
/-- cell(script, 0) -/
theorem kL_cell (l : Launch) (sb L : Nat) (xs : Nat → Int32) (hL : L ≤ 1537) : Met l yL_cell wsL_cell { frames := 0, cells := 0, slots := 0, locals := 0 } (va_Pc [.ref sb, .int (nI 0)] (fun U => va_X sb L xs U U.heap)) (va_Qi (fun r (_ : Unit) => r = if 0 < L then xs 0 else nI 0) (fun _ _ => True) (fun _ => False)) 0 0 (fun _ => False) := by
  refine Met.ofW (cc := cL_cell) (maxL := 2) (ret := some .int) (by decide) rfl ?_
  intro p e s m args below meth c s₁ B hml hv
  obtain ⟨rfl, hX⟩ := hv
  have hx := B.exec
  have hb := B.bytes
  have hr := B.returns
  have hlocks := B.notSynchronized
  have hbl : sb < s.heap.size := by
    obtain ⟨scr, h1, -⟩ := hX
    exact (Array.getElem?_eq_some_iff.mp h1).1
  have hl := lv_entry ([.ref sb, .int (nI 0)]) (n := 2) (Nat.le_of_ble_eq_true rfl)
  rw [lg_entry_eq]
  generalize (lg_sl ([.ref sb, .int (nI 0)]) ++ List.replicate (2 - (lg_sl ([.ref sb, .int (nI 0)])).length) Slot.unset).toArray = ls at hl ⊢
  have hl : lv_has ls 2 [(0, .ref sb), (1, .int (nI 0))] := hl
  have hS : va_S (fun _ => False) s.heap s.heap [] := va_S.rf
  refine lv_iload_n hx hb dL_cell_0 rfl (lv_at hl 1 rfl) ?_
  refine lv_aload_n hx hb dL_cell_1 rfl (lv_at hl 0 rfl) ?_
  refine va_slen hx hb hX hbl (fun h => h) hS dL_cell_2 ?_
  refine lv_icmp_ge (tgt := 12) hx hb dL_cell_3 (by decide) (fun c3 => ?_) (fun c3 => ?_)
  · rw [show Int32.ofNat L = nI L from rfl, nI_leI (by omega) (by omega)] at c3
    refine lv_iconst (v := nI 0) hx hb dL_cell_12 (by decide) ?_
    exact W.iret (v := nI 0) hx hb hr (fun t ht hW => ⟨⟨nI 0, (), rfl, by rw [if_neg (by omega)], trivial⟩, hS.F ht⟩) hS.2.2 dL_cell_13
  · rw [show Int32.ofNat L = nI L from rfl, nI_leI (by omega) (by omega)] at c3
    refine lv_aload_n hx hb dL_cell_6 rfl (lv_at hl 0 rfl) ?_
    refine lv_iload_n hx hb dL_cell_7 rfl (lv_at hl 1 rfl) ?_
    refine va_sld hx hb hX hbl (fun h => h) hS (vp_in_nI (by omega) (by omega)) dL_cell_8 ?_
    refine lv_goto (tgt := 13) hx hb dL_cell_9 (by decide) ?_
    rw [nI_clamp (by omega)]
    exact W.iret (v := xs 0) hx hb hr (fun t ht hW => ⟨⟨xs 0, (), rfl, by rw [if_pos (by omega)], trivial⟩, hS.F ht⟩) hS.2.2 dL_cell_13
set_option maxHeartbeats 4000000 in
set_option maxRecDepth 100000 in
theorem call_cell {p : Program} {l : Launch} {e : Env} {s : State} {m : MethodId} {ar : Array Value} {below : List Frame} {meth : Method} {c : Code} {D : va_G} {A : Nat → Prop} {Q : State → Prop} {sb L : Nat} {xs : Nat → Int32} {H : Heap} {locs : List Loc} {ls : Array Slot} {cells slots pc : Nat} {ws : va_W} {rest : List Value} (S : CallFix p m c code 4 s ar wsL_law RL) (hX : va_X sb L xs s s.heap) (hbl : sb < s.heap.size) (hbA : ¬ A sb) (hL : L ≤ 1537) (hw : Wd D A s.heap H locs ws) (hsz : ls.size = 4) (hst : (rest.map fun v => v.category).sum ≤ 8) (hfit : cells ≤ room_1.cells ∧ slots ≤ room_1.slots) (hdg : decode code pc = .ok (.invokestatic 9, 3))
    (kk : ∀ (H1 : Heap) (locs1 : List Loc), Wd D A s.heap H1 locs1 ws → W p l e room_1 s m ar below meth c H1 locs1 cells slots Q (F0 m (pc + 3) ls (.int (if 0 < L then xs 0 else nI 0) :: rest))) : W p l e room_1 s m ar below meth c H locs cells slots Q (F0 m pc ls (.int (nI 0) :: .ref sb :: rest)) := by
  refine va_calli (va_runS (As := [.ref sb, .int (nI 0)]) (rest := rest) S (kL_cell l sb L xs hL) (va_cwS 2 S.2.2.2.2 gL_law_L_cell rfl rfl rfl (by decide +kernel) ⟨Nat.le_of_ble_eq_true rfl, Nat.le_of_ble_eq_true rfl⟩) ⟨fun a U g mk q => ⟨q.1, va_X.moved (u := U) (U := U.calling g mk a) (Vm.Alike.refl U.vm) q.2⟩, fun U hU hW => ⟨rfl, by show va_X sb L xs U U.heap; rw [hU]; exact (hX.kept (hw.2.2.2.1 sb hbl hbA)).moved hW.alike⟩⟩ rfl rfl hsz rfl (lv_room hst) hdg hfit) hw.2.2 (fun q _ h => h.elim) (fun q h => h.elim) (fun r u t H1 locs1 ht hvm hp hB hz1 hk1 hS => ?_)
  subst hp
  exact kk H1 locs1 ⟨hw.1.kept (fun k q h => hk1 q.1 ((hw.1 k q h).lt) (fun z => z)), hw.2.1, hS⟩
set_option maxHeartbeats 4000000 in
set_option maxRecDepth 100000 in
theorem law_loop {p : Program} {l : Launch} {e : Env} {s : State} {m : MethodId} {below : List Frame} {meth : Method} {c : Code} {D : va_G} {cA : ClassId} {sb L : Nat} {xs : Nat → Int32} {o o2 : Nat → Nat} (S : CallFix p m c code 4 s #[Value.ref sb] wsL_law RL) (hr : meth.sig.returnType = ret) (hlocks : meth.locks = false) (hK : va_K D vwCl [(cA, .int)] s) (hX : va_X sb L xs s s.heap) (hbl : sb < s.heap.size) (hL : L ≤ 1537) :
    ∀ (n0 i : Nat), L < i + n0 → i ≤ L + 3 → ∀ (H : Heap) (locs : List Loc), Js D cA o o2 (fun q => s.heap.size ≤ q) s.heap H locs → ∀ ls : Array Slot, lv_has ls 4 [(3, .int (nI i)), (2, .ref (o2 0)), (1, .ref (o 0)), (0, .ref sb)] → W p l e room_1 s m #[Value.ref sb] below meth c H locs 27 2594 (lw_Z below #[Value.ref sb] s) (F0 m 28 ls []) := by
  have hA : ∀ q : Nat, s.heap.size ≤ q → (fun q : Nat => s.heap.size ≤ q) q := fun _ h => h
  have hbA : ¬ (fun q : Nat => s.heap.size ≤ q) sb := Nat.not_le.mpr hbl
  intro n0
  induction n0 with
  | zero =>
    intro i hin hi3 H locs hJ ls hl
    obtain ⟨ws, hw⟩ := js_wd hJ
    refine lv_iload_n S.1 S.2.1 dL_law_28 rfl (lv_at hl 0 rfl) ?_
    refine lv_aload_n S.1 S.2.1 dL_law_29 rfl (lv_at hl 3 rfl) ?_
    refine sln S hX hbl hbA hw dL_law_30 ?_
    refine lv_iconst (v := nI 3) S.1 S.2.1 dL_law_31 (by decide) ?_
    refine lv_isub S.1 S.2.1 dL_law_32 ?_
    refine lv_icmp_gt (tgt := 408) S.1 S.2.1 dL_law_33 (by decide) (fun c33 => ?_) (fun c33 => ?_)
    · refine lv_iconst (v := 1) S.1 S.2.1 dL_law_408 (by decide) ?_
      refine va_forget (fun q hq => hw.2.2.2.2 q hq) ?_
      refine W.widen (k := 600000) (n := 7302250) (Nat.le_of_ble_eq_true rfl) (Nat.le_of_ble_eq_true rfl) ?_
      exact lw_ret S.1 S.2.1 hr hlocks dL_law_409
    · rw [lw_cmp (by omega) (by omega)] at c33
      exfalso; omega
  | succ n0 ih =>
    intro i hin hi3 H locs hJ ls hl
    obtain ⟨ws, hw⟩ := js_wd hJ
    refine lv_iload_n S.1 S.2.1 dL_law_28 rfl (lv_at hl 0 rfl) ?_
    refine lv_aload_n S.1 S.2.1 dL_law_29 rfl (lv_at hl 3 rfl) ?_
    refine sln S hX hbl hbA hw dL_law_30 ?_
    refine lv_iconst (v := nI 3) S.1 S.2.1 dL_law_31 (by decide) ?_
    refine lv_isub S.1 S.2.1 dL_law_32 ?_
    refine lv_icmp_gt (tgt := 408) S.1 S.2.1 dL_law_33 (by decide) (fun c33 => ?_) (fun c33 => ?_)
    · refine lv_iconst (v := 1) S.1 S.2.1 dL_law_408 (by decide) ?_
      refine va_forget (fun q hq => hw.2.2.2.2 q hq) ?_
      refine W.widen (k := 600000) (n := 7302250) (Nat.le_of_ble_eq_true rfl) (Nat.le_of_ble_eq_true rfl) ?_
      exact lw_ret S.1 S.2.1 hr hlocks dL_law_409
    · rw [lw_cmp (by omega) (by omega)] at c33
      have next : ∀ (H : Heap) (locs : List Loc), Js D cA o o2 (fun q => s.heap.size ≤ q) s.heap H locs → ∀ ls : Array Slot, lv_has ls 4 [(3, .int (nI i)), (2, .ref (o2 0)), (1, .ref (o 0)), (0, .ref sb)] → W p l e room_1 s m #[Value.ref sb] below meth c H locs 27 2594 (lw_Z below #[Value.ref sb] s) (F0 m 402 ls []) := by
        intro H locs hJ ls hl
        refine lv_iinc (v := nI (i + 3)) (lv' := [(3, .int (nI (i + 3))), (2, .ref (o2 0)), (1, .ref (o 0)), (0, .ref sb)]) S.1 S.2.1 dL_law_402 hl (k := 0) rfl (nI_add i 3) (by decide) rfl (fun ls hl => ?_)
        refine lv_goto (tgt := 28) S.1 S.2.1 dL_law_405 (by decide) ?_
        exact ih (i + 3) (by omega) (by omega) H locs hJ ls hl
      refine lv_aload_n S.1 S.2.1 dL_law_36 rfl (lv_at hl 3 rfl) ?_
      refine lv_iload_n S.1 S.2.1 dL_law_37 rfl (lv_at hl 0 rfl) ?_
      refine sl S hX hbl hbA hw i rfl (by omega) hL dL_law_38 ?_
      refine lv_bipush (v := nI 15) S.1 S.2.1 dL_law_39 (by decide) ?_
      refine lv_iand S.1 S.2.1 dL_law_41 ?_
      obtain ⟨j, hj, ej⟩ := pk_andE (xs i) (m := nI 15) 4 (by decide)
      refine te ej ?_
      rcases (show j = 0 ∨ j = 1 ∨ j = 2 ∨ j = 3 ∨ j = 4 ∨ j = 5 ∨ j = 6 ∨ j = 7 ∨ j = 8 ∨ j = 9 ∨ j = 10 ∨ j = 11 ∨ j = 12 ∨ j = 13 ∨ j = 14 ∨ j = 15 by omega) with rfl | rfl | rfl | rfl | rfl | rfl | rfl | rfl | rfl | rfl | rfl | rfl | rfl | rfl | rfl | rfl
      · refine lv_tableIn (tgt := 112) (off := 70) S.1 S.2.1 dL_law_42 (by decide) (by decide) (by decide) (by decide) ?_
        exact lc_setKeyWord S hK hA hX hbl hbA hL (by omega) hJ hl next
      · refine lv_tableIn (tgt := 145) (off := 103) S.1 S.2.1 dL_law_42 (by decide) (by decide) (by decide) (by decide) ?_
        exact lc_setNonceWord S hK hA hX hbl hbA hL (by omega) hJ hl next
      · refine lv_tableIn (tgt := 178) (off := 136) S.1 S.2.1 dL_law_42 (by decide) (by decide) (by decide) (by decide) ?_
        exact lc_begin S hK hA hX hbl hbA hL (by omega) hJ hl next
      · refine lv_tableIn (tgt := 201) (off := 159) S.1 S.2.1 dL_law_42 (by decide) (by decide) (by decide) (by decide) ?_
        exact lc_aad S hK hA hX hbl hbA hL (by omega) hJ hl next
      · refine lv_tableIn (tgt := 224) (off := 182) S.1 S.2.1 dL_law_42 (by decide) (by decide) (by decide) (by decide) ?_
        exact lc_data S hK hA hX hbl hbA hL (by omega) hJ hl next
      · refine lv_tableIn (tgt := 247) (off := 205) S.1 S.2.1 dL_law_42 (by decide) (by decide) (by decide) (by decide) ?_
        exact lc_finish S hK hA hX hbl hbA hL (by omega) hJ hl next
      · refine lv_tableIn (tgt := 260) (off := 218) S.1 S.2.1 dL_law_42 (by decide) (by decide) (by decide) (by decide) ?_
        exact lc_expectTag S hK hA hX hbl hbA hL (by omega) hJ hl next
      · refine lv_tableIn (tgt := 293) (off := 251) S.1 S.2.1 dL_law_42 (by decide) (by decide) (by decide) (by decide) ?_
        exact lc_verify S hK hA hX hbl hbA hL (by omega) hJ hl next
      · refine lv_tableIn (tgt := 306) (off := 264) S.1 S.2.1 dL_law_42 (by decide) (by decide) (by decide) (by decide) ?_
        exact lc_tag S hK hA hX hbl hbA hL (by omega) hJ hl next
      · refine lv_tableIn (tgt := 329) (off := 287) S.1 S.2.1 dL_law_42 (by decide) (by decide) (by decide) (by decide) ?_
        exact lc_out S hK hA hX hbl hbA hL (by omega) hJ hl next
      · refine lv_tableIn (tgt := 352) (off := 310) S.1 S.2.1 dL_law_42 (by decide) (by decide) (by decide) (by decide) ?_
        exact lc_length S hK hA hX hbl hbA hL (by omega) hJ hl next
      · refine lv_tableIn (tgt := 365) (off := 323) S.1 S.2.1 dL_law_42 (by decide) (by decide) (by decide) (by decide) ?_
        exact lc_added S hK hA hX hbl hbA hL (by omega) hJ hl next
      · refine lv_tableIn (tgt := 378) (off := 336) S.1 S.2.1 dL_law_42 (by decide) (by decide) (by decide) (by decide) ?_
        exact lc_phase S hK hA hX hbl hbA hL (by omega) hJ hl next
      · refine lv_tableIn (tgt := 391) (off := 349) S.1 S.2.1 dL_law_42 (by decide) (by decide) (by decide) (by decide) ?_
        exact lc_reset S hK hA hX hbl hbA hL (by omega) hJ hl next
      · refine lv_tableOut (tgt := 402) S.1 S.2.1 dL_law_42 (by decide) (by decide) ?_
        exact next H locs hJ ls hl
      · refine lv_tableOut (tgt := 402) S.1 S.2.1 dL_law_42 (by decide) (by decide) ?_
        exact next H locs hJ ls hl

theorem Rl_init {cap0 : Nat} (h : cap0 ≤ 400) : Rl 0 0 0 0 cap0 (fun _ => 0) (fun _ => 0) (fun _ => 0) (fun _ => 0) (fun _ => 0) (fun _ => 0) (upd (upd (upd (upd (fun _ => 0) 0 1634760805) 1 857760878) 2 2036477234) 3 1797285236) (fun _ => 0) (fun _ => 0) (fun _ => 0) (fun _ => 0) (fun _ => 0) (nI 0) := by
  have hz : ∀ j : Nat, (fun _ => 0 : Nat → Nat) j < 256 := fun _ => (by show 0 < 256; decide)
  refine ⟨⟨by omega, by omega, by omega, by omega, h⟩, ⟨hz, hz, hz, hz⟩, ?_, rfl, fun q => absurd q (by omega), fun q => absurd q (by omega)⟩
  intro j hj e
  rcases (show j = 0 ∨ j = 1 ∨ j = 2 ∨ j = 3 ∨ j = 4 ∨ j = 5 ∨ j = 6 ∨ j = 7 ∨ j = 8 ∨ j = 9 ∨ j = 10 ∨ j = 11 ∨ j = 12 ∨ j = 13 ∨ j = 14 ∨ j = 15 by omega) with rfl | rfl | rfl | rfl | rfl | rfl | rfl | rfl | rfl | rfl | rfl | rfl | rfl | rfl | rfl | rfl <;> first | rfl | exact absurd rfl e

