set_option maxHeartbeats 4000000 in
set_option maxRecDepth 100000 in
/-- THE LAW, from its entry -/
theorem whole_start {p : Program} {e : Env} {s : State} {m : MethodId} {below : List Frame} {meth : Method} {c : Code} (l : Launch) {b L : Nat} {xs : Nat → Int32} (hL : L ≤ 1537) (C0 : lw_At p s m meth c b L xs) : W p l e room_1 s m #[Value.ref b] below meth c s.heap [] 0 0 (lw_Z below #[Value.ref b] s) (entryFrame m ([Value.ref b] : List Value).toArray 4) := by
  obtain ⟨hx, hb, hr, hml, hown, hts, hX, hbl, hlocks, hgv⟩ := id C0
  have hA : ∀ q : Nat, s.heap.size ≤ q → (fun q : Nat => s.heap.size ≤ q) q := fun _ h => h
  have hbA : ¬ (fun q : Nat => s.heap.size ≤ q) b := Nat.not_le.mpr hbl
  have S : CallFix p m c code 4 s #[Value.ref b] wsL_law RL := ⟨hx, hb, hml, hown, fun w h => hts w (wsL_law_in w h)⟩
  have hNest : va_Nw (.methodLinkNest RX2 18 yX1_init "AeadBox") s := va_Nw.of rfl (hts _ nest_in)
  obtain ⟨cA, kA, comp, e1, e2, e3⟩ := Cond.arrayClass_spec (S.2.2.2.2 (.arrayClass .int) (List.mem_of_getElem? (i := 24) rfl))
  obtain ⟨d0, iS0, hKn0⟩ := u_known (C := RX0) (T := TX0) (N := 2) (n := 2) S.2.2.2.2 inlX0 (S.2.2.2.2 (.instantiable RX0 2) (List.mem_of_getElem? (i := 17) rfl))
  obtain ⟨d1, iS1, hKn1⟩ := u_known (C := RX1) (T := TX1) (N := 6) (n := 6) S.2.2.2.2 inlX1 (S.2.2.2.2 (.instantiable RX1 6) (List.mem_of_getElem? (i := 21) rfl))
  obtain ⟨d2, iS2, hKn2⟩ := u_known (C := RX2) (T := TX2) (N := 8) (n := 8) S.2.2.2.2 inlX2 (S.2.2.2.2 (.instantiable RX2 8) (List.mem_of_getElem? (i := 1) rfl))
  obtain ⟨d3, iS3, hKn3⟩ := u_known (C := RX3) (T := TX3) (N := 20) (n := 20) S.2.2.2.2 inlX3 (S.2.2.2.2 (.instantiable RX3 20) (List.mem_of_getElem? (i := 4) rfl))
  obtain ⟨dC, dI, hKc⟩ : ∃ (dC : Nat → ClassId) (dI : Nat → Nat → Nat), ∀ (k : Nat) (q : vw_C), vwCl[k]? = some q → u_Kn s q.1 q.2.1 q.2.2 (dC k) (dI k) := by
    refine ⟨fun k => match k with | 0 => d0 | 1 => d1 | 2 => d2 | _ => d3, fun k => match k with | 0 => iS0 | 1 => iS1 | 2 => iS2 | _ => iS3, ?_⟩
    intro k q hq
    match k, hq with
    | 0, hq => cases hq; exact hKn0
    | 1, hq => cases hq; exact hKn1
    | 2, hq => cases hq; exact hKn2
    | 3, hq => cases hq; exact hKn3
    | k + 4, hq => simp [vwCl] at hq
  have hK : va_K (dC, dI) vwCl [(cA, .int)] s := by
    refine ⟨hKc, fun k q hk => ?_⟩
    have hz : k < 1 := (List.getElem?_eq_some_iff.mp hk).1
    rw [show k = 0 by omega] at hk
    cases hk
    exact ⟨fun n z => ⟨fun k h => (by cases h), kA, e2, comp, e3⟩, e1⟩
  have hw : Wd (dC, dI) (fun q : Nat => s.heap.size ≤ q) s.heap s.heap [] [] := ⟨fun k q h => by simp at h, ⟨fun i j p q h => by simp at h, fun k q h => by simp at h⟩, va_S.rf⟩
  have hl := lv_entry ([.ref b]) (n := 4) (Nat.le_of_ble_eq_true rfl)
  rw [lg_entry_eq]
  generalize (lg_sl ([.ref b]) ++ List.replicate (4 - (lg_sl ([.ref b])).length) Slot.unset).toArray = ls at hl ⊢
  have hl : lv_has ls 4 [(0, .ref b)] := hl
  refine nw S hK hw hA (C := RX2) (T := TX2) (N := 8) (ci := 2) rfl inlX2 tyX2_ok (List.mem_of_getElem? (i := 0) rfl) (List.mem_of_getElem? (i := 1) rfl) (List.mem_of_getElem? (i := 2) rfl) [.null, .null, .null, .null, .int 0, .int 0, .int 0, .int 0] (fun j hj => by rcases (show j = 0 ∨ j = 1 ∨ j = 2 ∨ j = 3 ∨ j = 4 ∨ j = 5 ∨ j = 6 ∨ j = 7 by omega) with rfl | rfl | rfl | rfl | rfl | rfl | rfl | rfl <;> rfl) (Nat.le_of_ble_eq_true rfl) (Nat.le_of_ble_eq_true rfl) dL_law_0 (fun q0 H hw => ?_)
  have hw : Wd (dC, dI) (fun q : Nat => s.heap.size ≤ q) s.heap H _ [(q0, .inr (2, [.null, .null, .null, .null, .int 0, .int 0, .int 0, .int 0]))] := hw
  refine lv_dup S.1 S.2.1 dL_law_3 rfl ?_
  refine lv_aload_n S.1 S.2.1 dL_law_4 rfl (lv_at hl 0 rfl) ?_
  refine lv_iconst (v := nI 0) S.1 S.2.1 dL_law_5 (by decide) ?_
  refine call_cell S hX hbl hbA hL hw hl.1 (Nat.le_of_ble_eq_true rfl) ⟨Nat.le_of_ble_eq_true rfl, Nat.le_of_ble_eq_true rfl⟩ dL_law_6 (fun H locs hw => ?_)
  refine callCI (wr := []) (rest := [.ref q0]) S hK hw hA (kX2_init l (dC, dI) cA q0 (if 0 < L then xs 0 else nI 0)) (fun U g mk a h => va_Nw.same rfl (u := U) rfl h) (fun U hW => va_Nw.warmM hW hNest) gL_law_X2_init rfl (List.mem_of_getElem? (i := 2) rfl) (List.mem_of_getElem? (i := 10) rfl) (List.mem_of_getElem? (i := 11) rfl) rfl 1 rfl (by decide +kernel) ⟨rfl, rfl⟩ ⟨Nat.le_of_ble_eq_true rfl, Nat.le_of_ble_eq_true rfl⟩ ⟨Nat.le_of_ble_eq_true rfl, Nat.le_of_ble_eq_true rfl⟩ [0] rfl (by decide) [] rfl (by decide) (by decide) hl.1 (Nat.le_of_ble_eq_true rfl) dL_law_9 rfl (fun u1 H locs hp1 hw2 => ?_)
  subst hp1
  have hw : Wd (dC, dI) (fun q : Nat => s.heap.size ≤ q) s.heap H locs (wX2 u1 cA (capN (if 0 < L then xs 0 else nI 0)) (fun _ => 0) (fun _ => 0) (upd (upd (upd (upd (fun _ => 0) 0 1634760805) 1 857760878) 2 2036477234) 3 1797285236) (fun _ => 0) (fun _ => 0) (fun _ => 0) (fun _ => 0) (fun _ => 0) (fun _ => 0) (nI 0) (nI 0) (nI 0) (nI 0) (nI 0)) := hw2
  refine lv_astore_n (lv' := [(1, .ref (u1 0)), (0, .ref b)]) S.1 S.2.1 dL_law_12 rfl hl (by decide) rfl (fun ls hl => ?_)
  refine nw S hK hw hA (C := RX3) (T := TX3) (N := 20) (ci := 3) rfl inlX3 tyX3_ok (List.mem_of_getElem? (i := 3) rfl) (List.mem_of_getElem? (i := 4) rfl) (List.mem_of_getElem? (i := 5) rfl) [.int 0, .int 0, .null, .null, .int 0, .int 0, .null, .int 0, .null, .null, .int 0, .null, .null, .null, .null, .null, .null, .null, .null, .null] (fun j hj => by rcases (show j = 0 ∨ j = 1 ∨ j = 2 ∨ j = 3 ∨ j = 4 ∨ j = 5 ∨ j = 6 ∨ j = 7 ∨ j = 8 ∨ j = 9 ∨ j = 10 ∨ j = 11 ∨ j = 12 ∨ j = 13 ∨ j = 14 ∨ j = 15 ∨ j = 16 ∨ j = 17 ∨ j = 18 ∨ j = 19 by omega) with rfl | rfl | rfl | rfl | rfl | rfl | rfl | rfl | rfl | rfl | rfl | rfl | rfl | rfl | rfl | rfl | rfl | rfl | rfl | rfl <;> rfl) (Nat.le_of_ble_eq_true rfl) (Nat.le_of_ble_eq_true rfl) dL_law_13 (fun q13 H hw => ?_)
  refine lv_dup S.1 S.2.1 dL_law_16 rfl ?_
  refine lv_aload_n S.1 S.2.1 dL_law_17 rfl (lv_at hl 1 rfl) ?_
  refine lv_iconst (v := nI 0) S.1 S.2.1 dL_law_18 (by decide) ?_
  refine call_cell S hX hbl hbA hL hw hl.1 (Nat.le_of_ble_eq_true rfl) ⟨Nat.le_of_ble_eq_true rfl, Nat.le_of_ble_eq_true rfl⟩ dL_law_19 (fun H locs hw => ?_)
  refine callCI (wr := wX2 u1 cA (capN (if 0 < L then xs 0 else nI 0)) (fun _ => 0) (fun _ => 0) (upd (upd (upd (upd (fun _ => 0) 0 1634760805) 1 857760878) 2 2036477234) 3 1797285236) (fun _ => 0) (fun _ => 0) (fun _ => 0) (fun _ => 0) (fun _ => 0) (fun _ => 0) (nI 0) (nI 0) (nI 0) (nI 0) (nI 0)) (rest := [.ref q13]) S hK hw hA (kX3_init l (dC, dI) cA q13 (if 0 < L then xs 0 else nI 0)) (fun _ _ _ _ h => h) (fun _ _ => trivial) gL_law_X3_init rfl (List.mem_of_getElem? (i := 5) rfl) (List.mem_of_getElem? (i := 57) rfl) (List.mem_of_getElem? (i := 58) rfl) rfl 1 rfl (by decide +kernel) ⟨rfl, rfl⟩ ⟨Nat.le_of_ble_eq_true rfl, Nat.le_of_ble_eq_true rfl⟩ ⟨Nat.le_of_ble_eq_true rfl, Nat.le_of_ble_eq_true rfl⟩ [12] rfl (by decide) [0, 1, 2, 3, 4, 5, 6, 7, 8, 9, 10, 11] rfl (by decide) (by decide) hl.1 (Nat.le_of_ble_eq_true rfl) dL_law_22 rfl (fun u2 H locs hp2 hw2 => ?_)
  subst hp2
  have hw : Wd (dC, dI) (fun q : Nat => s.heap.size ≤ q) s.heap H locs (wX2 u1 cA (capN (if 0 < L then xs 0 else nI 0)) (fun j => nI ((fun _ => 0) j)) (fun j => nI ((fun _ => 0) j)) (upd (upd (upd (upd (fun _ => 0) 0 1634760805) 1 857760878) 2 2036477234) 3 1797285236) (fun _ => 0) (fun _ => 0) (fun _ => 0) (fun _ => 0) (fun _ => 0) (fun _ => 0) (nI 0) (nI 0) (nI 0) (nI 0) (nI 0) ++ wX3 u2 cA (nI 0) (nI (capN (if 0 < L then xs 0 else nI 0))) (nI 0) (nI 0) (nI 0) (nI 0) (fun _ => 0) (fun _ => 0) (fun j => nI ((fun _ => 0) j)) (fun j => nI ((fun _ => 0) j)) (fun j => nI ((fun _ => 0) j)) (fun j => nI ((fun _ => 0) j)) (fun _ => 0) (fun _ => 0) (fun _ => 0) (fun _ => 0) (fun _ => 0) (fun _ => 0) (fun _ => 0) (fun _ => 0)) := hw2
  refine lv_astore_n (lv' := [(2, .ref (u2 0)), (1, .ref (u1 0)), (0, .ref b)]) S.1 S.2.1 dL_law_25 rfl hl (by decide) rfl (fun ls hl => ?_)
  refine lv_iconst (v := nI 1) S.1 S.2.1 dL_law_26 (by decide) ?_
  refine lv_istore_n (lv' := [(3, .int (nI 1)), (2, .ref (u2 0)), (1, .ref (u1 0)), (0, .ref b)]) S.1 S.2.1 dL_law_27 rfl hl (by decide) rfl (fun ls hl => ?_)
  refine W.widen (k := 27) (n := 2594) (Nat.le_of_ble_eq_true rfl) (Nat.le_of_ble_eq_true rfl) ?_
  exact law_loop S hr hlocks hK hX hbl hL (L + 1) 1 (by omega) (by omega) H locs ⟨0, 0, 0, 0, capN (if 0 < L then xs 0 else nI 0), (fun _ => 0), (fun _ => 0), (fun _ => 0), (fun _ => 0), (fun _ => 0), (fun _ => 0), (upd (upd (upd (upd (fun _ => 0) 0 1634760805) 1 857760878) 2 2036477234) 3 1797285236), (fun _ => 0), (fun _ => 0), (fun _ => 0), (fun _ => 0), (fun _ => 0), (fun _ => 0), (nI 0), (fun _ => 0), (fun _ => 0), (fun _ => 0), (fun _ => 0), (fun _ => 0), (fun _ => 0), (fun _ => 0), (fun _ => 0), hw, Rl_init (capN_le _)⟩ ls hl
