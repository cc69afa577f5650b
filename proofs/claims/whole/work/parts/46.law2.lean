set_option maxHeartbeats 4000000 in
set_option maxRecDepth 100000 in
theorem lc_expectTag {p : Program} {l : Launch} {e : Env} {s : State} {m : MethodId} {ar : Array Value} {below : List Frame} {meth : Method} {c : Code} {D : va_G} {cA : ClassId} {A : Nat → Prop} {Q : State → Prop} {sb L : Nat} {xs : Nat → Int32} {o o2 : Nat → Nat} {H : Heap} {locs : List Loc} {ls : Array Slot} {i : Nat} (S : CallFix p m c code 4 s ar wsL_law RL) (hK : va_K D vwCl [(cA, .int)] s) (hA : ∀ q, s.heap.size ≤ q → A q) (hX : va_X sb L xs s s.heap) (hbl : sb < s.heap.size) (hbA : ¬ A sb) (hL : L ≤ 1537) (hi : i + 2 < L) (hJ : Js D cA o o2 A s.heap H locs) (hl : lv_has ls 4 [(3, .int (nI i)), (2, .ref (o2 0)), (1, .ref (o 0)), (0, .ref sb)]) (kk : ∀ (H : Heap) (locs : List Loc), Js D cA o o2 A s.heap H locs → ∀ ls : Array Slot, lv_has ls 4 [(3, .int (nI i)), (2, .ref (o2 0)), (1, .ref (o 0)), (0, .ref sb)] → W p l e room_1 s m ar below meth c H locs 27 2594 Q (F0 m 402 ls [])) : W p l e room_1 s m ar below meth c H locs 27 2594 Q (F0 m 260 ls []) := by
  obtain ⟨p0, op0, n, m0, cap0, a, b, t, x, fk, fn, fi, fb, ff, fa, fh, fp, ft, tk, g1, g2, g3, g4, g5, g6, g7, g8, hw, hR⟩ := hJ
  obtain ⟨hp0, hop, hn, hm, hcap⟩ := hR.1
  obtain ⟨ha, hb, ht, hx⟩ := hR.2.1
  by_cases hc : p0 = 3 ∧ op0 = 1 ∧ (∃ k, k < 16 ∧ xs (i + 1) = nI k) ∧ ∃ k, k < 256 ∧ xs (i + 2) = nI k
  · obtain ⟨hph, ho, ⟨k, hk, ek⟩, v, hv, ev⟩ := hc
    refine lv_aload_n S.1 S.2.1 dL_law_260 rfl (lv_at hl 2 rfl) ?_
    refine lv_aload_n S.1 S.2.1 dL_law_261 rfl (lv_at hl 3 rfl) ?_
    refine lv_iload_n S.1 S.2.1 dL_law_262 rfl (lv_at hl 0 rfl) ?_
    refine lv_iconst (v := nI 1) S.1 S.2.1 dL_law_263 (by decide) ?_
    refine lv_iadd S.1 S.2.1 dL_law_264 ?_
    refine te (nI_add _ _) ?_
    refine sl S hX hbl hbA hw (i + 1) rfl (by omega) hL dL_law_265 ?_
    refine te (y := nI k) ek ?_
    refine lv_aload_n S.1 S.2.1 dL_law_266 rfl (lv_at hl 3 rfl) ?_
    refine lv_iload_n S.1 S.2.1 dL_law_267 rfl (lv_at hl 0 rfl) ?_
    refine lv_iconst (v := nI 2) S.1 S.2.1 dL_law_268 (by decide) ?_
    refine lv_iadd S.1 S.2.1 dL_law_269 ?_
    refine te (nI_add _ _) ?_
    refine sl S hX hbl hbA hw (i + 2) rfl (by omega) hL dL_law_270 ?_
    refine te (y := nI v) ev ?_
    refine callVI (rest := []) S hK hw hA (kX2_expectTag_ok l D cA o p0 op0 n m0 cap0 t x tk fi fb ff fa fh fp ft k v hp0 hop hn hm hcap hk hv hph ho) gL_law_X2_expectTag rfl 2 rfl (by decide +kernel) ⟨rfl, rfl⟩ ⟨Nat.le_of_ble_eq_true rfl, Nat.le_of_ble_eq_true rfl⟩ ⟨Nat.le_of_ble_eq_true rfl, Nat.le_of_ble_eq_true rfl⟩ [0, 1, 2, 3, 4, 5, 6, 7, 8, 9, 10, 11] rfl (by decide) (fun _ => rfl) 0 rfl rfl rfl hl.1 (Nat.le_of_ble_eq_true rfl) dL_law_271 rfl (fun r1 u1 H locs hp1 hw => ?_)
    rw [sets_lo (by exact (rfl : (12 : Nat) = 12)) (by rfl)] at hw
    have hw : Wd D A s.heap H locs (wX2 o cA cap0 (fun j => nI (t j)) (fun j => nI (updN x k v j)) fi fb ff fa fh fp ft tk (nI p0) (nI op0) (nI m0) (nI n) ++ wX3 o2 cA (nI 0) (nI cap0) (nI p0) (nI op0) (nI n) (nI m0) fk fn (fun j => nI (a j)) (fun j => nI (b j)) (fun j => nI (t j)) (fun j => nI (x j)) g1 g2 g3 g4 g5 g6 g7 g8) := hw
    refine lv_aload_n S.1 S.2.1 dL_law_274 rfl (lv_at hl 1 rfl) ?_
    refine lv_aload_n S.1 S.2.1 dL_law_275 rfl (lv_at hl 3 rfl) ?_
    refine lv_iload_n S.1 S.2.1 dL_law_276 rfl (lv_at hl 0 rfl) ?_
    refine lv_iconst (v := nI 1) S.1 S.2.1 dL_law_277 (by decide) ?_
    refine lv_iadd S.1 S.2.1 dL_law_278 ?_
    refine te (nI_add _ _) ?_
    refine sl S hX hbl hbA hw (i + 1) rfl (by omega) hL dL_law_279 ?_
    refine te (y := nI k) ek ?_
    refine lv_aload_n S.1 S.2.1 dL_law_280 rfl (lv_at hl 3 rfl) ?_
    refine lv_iload_n S.1 S.2.1 dL_law_281 rfl (lv_at hl 0 rfl) ?_
    refine lv_iconst (v := nI 2) S.1 S.2.1 dL_law_282 (by decide) ?_
    refine lv_iadd S.1 S.2.1 dL_law_283 ?_
    refine te (nI_add _ _) ?_
    refine sl S hX hbl hbA hw (i + 2) rfl (by omega) hL dL_law_284 ?_
    refine te (y := nI v) ev ?_
    refine callVI (rest := [.int r1]) S hK hw hA (kX3_expectTag_ok l D cA o2 (nI 0) p0 op0 n m0 cap0 a b t x fk fn g1 g2 g3 g4 g5 g6 g7 g8 k v hp0 hop hn hm hcap hk hv hph ho) gL_law_X3_expectTag rfl 2 rfl (by decide +kernel) ⟨rfl, rfl⟩ ⟨Nat.le_of_ble_eq_true rfl, Nat.le_of_ble_eq_true rfl⟩ ⟨Nat.le_of_ble_eq_true rfl, Nat.le_of_ble_eq_true rfl⟩ [12, 13, 14, 15, 16, 17, 18, 19, 20, 21, 22, 23, 24, 25, 26] rfl (by decide) (fun _ => rfl) 12 rfl rfl rfl hl.1 (Nat.le_of_ble_eq_true rfl) dL_law_285 rfl (fun r2 u2 H locs hp2 hw => ?_)
    rw [sets_hi (by exact (rfl : (15 : Nat) = 15)) (by rfl)] at hw
    have hw : Wd D A s.heap H locs (wX2 o cA cap0 (fun j => nI (t j)) (fun j => nI (updN x k v j)) fi fb ff fa fh fp ft tk (nI p0) (nI op0) (nI m0) (nI n) ++ wX3 o2 cA (nI 0) (nI cap0) (nI p0) (nI op0) (nI n) (nI m0) fk fn (fun j => nI (a j)) (fun j => nI (b j)) (fun j => nI (t j)) (fun j => nI (updN x k v j)) g1 g2 g3 g4 g5 g6 g7 g8) := hw
    refine lv_icmp_eq (tgt := 402) S.1 S.2.1 dL_law_288 (by decide) (fun c9 => ?_) (fun c9 => ?_)
    · exact kk H locs ⟨p0, op0, n, m0, cap0, a, b, t, updN x k v, fk, fn, fi, fb, ff, fa, fh, fp, ft, tk, g1, g2, g3, g4, g5, g6, g7, g8, hw, Rl_exp hR hph k hv⟩ ls hl
    · exact absurd (hp1.trans hp2.symm) c9
  · skip
    refine lv_aload_n S.1 S.2.1 dL_law_260 rfl (lv_at hl 2 rfl) ?_
    refine lv_aload_n S.1 S.2.1 dL_law_261 rfl (lv_at hl 3 rfl) ?_
    refine lv_iload_n S.1 S.2.1 dL_law_262 rfl (lv_at hl 0 rfl) ?_
    refine lv_iconst (v := nI 1) S.1 S.2.1 dL_law_263 (by decide) ?_
    refine lv_iadd S.1 S.2.1 dL_law_264 ?_
    refine te (nI_add _ _) ?_
    refine sl S hX hbl hbA hw (i + 1) rfl (by omega) hL dL_law_265 ?_
    refine lv_aload_n S.1 S.2.1 dL_law_266 rfl (lv_at hl 3 rfl) ?_
    refine lv_iload_n S.1 S.2.1 dL_law_267 rfl (lv_at hl 0 rfl) ?_
    refine lv_iconst (v := nI 2) S.1 S.2.1 dL_law_268 (by decide) ?_
    refine lv_iadd S.1 S.2.1 dL_law_269 ?_
    refine te (nI_add _ _) ?_
    refine sl S hX hbl hbA hw (i + 2) rfl (by omega) hL dL_law_270 ?_
    refine callVI (rest := []) S hK hw hA (kX2_expectTag_no l D cA o p0 op0 n m0 cap0 t x tk fi fb ff fa fh fp ft (xs (i + 1)) (xs (i + 2)) hp0 hop hn hm hcap hc) gL_law_X2_expectTag rfl 2 rfl (by decide +kernel) ⟨rfl, rfl⟩ ⟨Nat.le_of_ble_eq_true rfl, Nat.le_of_ble_eq_true rfl⟩ ⟨Nat.le_of_ble_eq_true rfl, Nat.le_of_ble_eq_true rfl⟩ [0, 1, 2, 3, 4, 5, 6, 7, 8, 9, 10, 11] rfl (by decide) (fun _ => rfl) 0 rfl rfl rfl hl.1 (Nat.le_of_ble_eq_true rfl) dL_law_271 rfl (fun r1 u1 H locs hp1 hw => ?_)
    rw [sets_lo (by exact (rfl : (12 : Nat) = 12)) (by rfl)] at hw
    have hw : Wd D A s.heap H locs (wX2 o cA cap0 (fun j => nI (t j)) (fun j => nI (x j)) fi fb ff fa fh fp ft tk (nI p0) (nI op0) (nI m0) (nI n) ++ wX3 o2 cA (nI 0) (nI cap0) (nI p0) (nI op0) (nI n) (nI m0) fk fn (fun j => nI (a j)) (fun j => nI (b j)) (fun j => nI (t j)) (fun j => nI (x j)) g1 g2 g3 g4 g5 g6 g7 g8) := hw
    refine lv_aload_n S.1 S.2.1 dL_law_274 rfl (lv_at hl 1 rfl) ?_
    refine lv_aload_n S.1 S.2.1 dL_law_275 rfl (lv_at hl 3 rfl) ?_
    refine lv_iload_n S.1 S.2.1 dL_law_276 rfl (lv_at hl 0 rfl) ?_
    refine lv_iconst (v := nI 1) S.1 S.2.1 dL_law_277 (by decide) ?_
    refine lv_iadd S.1 S.2.1 dL_law_278 ?_
    refine te (nI_add _ _) ?_
    refine sl S hX hbl hbA hw (i + 1) rfl (by omega) hL dL_law_279 ?_
    refine lv_aload_n S.1 S.2.1 dL_law_280 rfl (lv_at hl 3 rfl) ?_
    refine lv_iload_n S.1 S.2.1 dL_law_281 rfl (lv_at hl 0 rfl) ?_
    refine lv_iconst (v := nI 2) S.1 S.2.1 dL_law_282 (by decide) ?_
    refine lv_iadd S.1 S.2.1 dL_law_283 ?_
    refine te (nI_add _ _) ?_
    refine sl S hX hbl hbA hw (i + 2) rfl (by omega) hL dL_law_284 ?_
    refine callVI (rest := [.int r1]) S hK hw hA (kX3_expectTag_no l D cA o2 (nI 0) p0 op0 n m0 cap0 a b t x fk fn g1 g2 g3 g4 g5 g6 g7 g8 (xs (i + 1)) (xs (i + 2)) hp0 hop hn hm hcap hc) gL_law_X3_expectTag rfl 2 rfl (by decide +kernel) ⟨rfl, rfl⟩ ⟨Nat.le_of_ble_eq_true rfl, Nat.le_of_ble_eq_true rfl⟩ ⟨Nat.le_of_ble_eq_true rfl, Nat.le_of_ble_eq_true rfl⟩ [12, 13, 14, 15, 16, 17, 18, 19, 20, 21, 22, 23, 24, 25, 26] rfl (by decide) (fun _ => rfl) 12 rfl rfl rfl hl.1 (Nat.le_of_ble_eq_true rfl) dL_law_285 rfl (fun r2 u2 H locs hp2 hw => ?_)
    rw [sets_hi (by exact (rfl : (15 : Nat) = 15)) (by rfl)] at hw
    have hw : Wd D A s.heap H locs (wX2 o cA cap0 (fun j => nI (t j)) (fun j => nI (x j)) fi fb ff fa fh fp ft tk (nI p0) (nI op0) (nI m0) (nI n) ++ wX3 o2 cA (nI 0) (nI cap0) (nI p0) (nI op0) (nI n) (nI m0) fk fn (fun j => nI (a j)) (fun j => nI (b j)) (fun j => nI (t j)) (fun j => nI (x j)) g1 g2 g3 g4 g5 g6 g7 g8) := hw
    refine lv_icmp_eq (tgt := 402) S.1 S.2.1 dL_law_288 (by decide) (fun c9 => ?_) (fun c9 => ?_)
    · exact kk H locs ⟨p0, op0, n, m0, cap0, a, b, t, x, fk, fn, fi, fb, ff, fa, fh, fp, ft, tk, g1, g2, g3, g4, g5, g6, g7, g8, hw, hR⟩ ls hl
    · exact absurd (hp1.trans hp2.symm) c9

set_option maxHeartbeats 4000000 in
set_option maxRecDepth 100000 in
theorem lc_verify {p : Program} {l : Launch} {e : Env} {s : State} {m : MethodId} {ar : Array Value} {below : List Frame} {meth : Method} {c : Code} {D : va_G} {cA : ClassId} {A : Nat → Prop} {Q : State → Prop} {sb L : Nat} {xs : Nat → Int32} {o o2 : Nat → Nat} {H : Heap} {locs : List Loc} {ls : Array Slot} {i : Nat} (S : CallFix p m c code 4 s ar wsL_law RL) (hK : va_K D vwCl [(cA, .int)] s) (hA : ∀ q, s.heap.size ≤ q → A q) (hX : va_X sb L xs s s.heap) (hbl : sb < s.heap.size) (hbA : ¬ A sb) (hL : L ≤ 1537) (hi : i + 2 < L) (hJ : Js D cA o o2 A s.heap H locs) (hl : lv_has ls 4 [(3, .int (nI i)), (2, .ref (o2 0)), (1, .ref (o 0)), (0, .ref sb)]) (kk : ∀ (H : Heap) (locs : List Loc), Js D cA o o2 A s.heap H locs → ∀ ls : Array Slot, lv_has ls 4 [(3, .int (nI i)), (2, .ref (o2 0)), (1, .ref (o 0)), (0, .ref sb)] → W p l e room_1 s m ar below meth c H locs 27 2594 Q (F0 m 402 ls [])) : W p l e room_1 s m ar below meth c H locs 27 2594 Q (F0 m 293 ls []) := by
  obtain ⟨p0, op0, n, m0, cap0, a, b, t, x, fk, fn, fi, fb, ff, fa, fh, fp, ft, tk, g1, g2, g3, g4, g5, g6, g7, g8, hw, hR⟩ := hJ
  obtain ⟨hp0, hop, hn, hm, hcap⟩ := hR.1
  obtain ⟨ha, hb, ht, hx⟩ := hR.2.1
  by_cases hc : p0 = 3 ∧ op0 = 1
  · obtain ⟨hph, ho⟩ := hc
    obtain rfl := hR.2.2.2.2.2 hph
    have hE : ∀ j, TG (MB (stF fk fn (nI 0)) g2) a n (dD op0 b t) m0 j = (TG (CB fk fn (nI 0)) a n (dD op0 b t) m0) j := TG_cong (e_mb (e_rf _) _ _) a n (dD op0 b t) m0
    by_cases hall : ∀ j, j < 16 → (TG (CB fk fn (nI 0)) a n (dD op0 b t) m0) j = x j
    · skip
      refine lv_aload_n S.1 S.2.1 dL_law_293 rfl (lv_at hl 2 rfl) ?_
      refine callVI (rest := []) S hK hw hA (kX2_verify_yes l D cA o p0 op0 n m0 cap0 t x tk (TG (CB fk fn (nI 0)) a n (dD op0 b t) m0) fi fb ff fa fh fp hp0 hop hn hm hcap hx (fun j => TG_lt _ _ _ _ _ j) hph ho hall) gL_law_X2_verify rfl 0 rfl (by decide +kernel) ⟨rfl, rfl⟩ ⟨Nat.le_of_ble_eq_true rfl, Nat.le_of_ble_eq_true rfl⟩ ⟨Nat.le_of_ble_eq_true rfl, Nat.le_of_ble_eq_true rfl⟩ [0, 1, 2, 3, 4, 5, 6, 7, 8, 9, 10, 11] rfl (by decide) (fun _ => rfl) 0 rfl rfl rfl hl.1 (Nat.le_of_ble_eq_true rfl) dL_law_294 rfl (fun r1 u1 H locs hp1 hw => ?_)
      rw [sets_lo (by exact (rfl : (12 : Nat) = 12)) (by rfl)] at hw
      have hw : Wd D A s.heap H locs (wX2 o cA cap0 (fun j => nI (t j)) (fun j => nI (x j)) fi fb ff fa fh fp (fun j => nI ((TG (CB fk fn (nI 0)) a n (dD op0 b t) m0) j)) tk (nI 4) (nI op0) (nI m0) (nI n) ++ wX3 o2 cA (nI 0) (nI cap0) (nI p0) (nI op0) (nI n) (nI m0) fk fn (fun j => nI (a j)) (fun j => nI (b j)) (fun j => nI (t j)) (fun j => nI (x j)) g1 g2 g3 g4 g5 g6 g7 g8) := hw
      refine lv_aload_n S.1 S.2.1 dL_law_297 rfl (lv_at hl 1 rfl) ?_
      refine callVI (rest := [.int r1]) S hK hw hA (kX3_verify_yes l D cA o2 (nI 0) p0 op0 n m0 cap0 a b t x fk fn g1 g2 g3 g4 g5 g6 g7 g8 hp0 hop hn hm hcap ha hb ht hx hph ho (fun j hj => (hE j).trans (hall j hj))) gL_law_X3_verify rfl 0 rfl (by decide +kernel) ⟨rfl, rfl⟩ ⟨Nat.le_of_ble_eq_true rfl, Nat.le_of_ble_eq_true rfl⟩ ⟨Nat.le_of_ble_eq_true rfl, Nat.le_of_ble_eq_true rfl⟩ [12, 13, 14, 15, 16, 17, 18, 19, 20, 21, 22, 23, 24, 25, 26] rfl (by decide) (fun _ => rfl) 12 rfl rfl rfl hl.1 (Nat.le_of_ble_eq_true rfl) dL_law_298 rfl (fun r2 u2 H locs hp2 hw => ?_)
      rw [sets_hi (by exact (rfl : (15 : Nat) = 15)) (by rfl)] at hw
      have hw : Wd D A s.heap H locs (wX2 o cA cap0 (fun j => nI (t j)) (fun j => nI (x j)) fi fb ff fa fh fp (fun j => nI ((TG (CB fk fn (nI 0)) a n (dD op0 b t) m0) j)) tk (nI 4) (nI op0) (nI m0) (nI n) ++ wX3 o2 cA (nI 0) (nI cap0) (nI 4) (nI op0) (nI n) (nI m0) fk fn (fun j => nI (a j)) (fun j => nI (b j)) (fun j => nI (t j)) (fun j => nI (x j)) (stF fk fn (nI 0)) (MB (stF fk fn (nI 0)) g2) u2.1 u2.2.1 u2.2.2.1 u2.2.2.2.1 u2.2.2.2.2.1 u2.2.2.2.2.2) := hw
      refine lv_icmp_eq (tgt := 402) S.1 S.2.1 dL_law_301 (by decide) (fun c9 => ?_) (fun c9 => ?_)
      · exact kk H locs ⟨4, op0, n, m0, cap0, a, b, t, x, fk, fn, fi, fb, ff, fa, fh, fp, fun j => nI ((TG (CB fk fn (nI 0)) a n (dD op0 b t) m0) j), tk, stF fk fn (nI 0), (MB (stF fk fn (nI 0)) g2), u2.1, u2.2.1, u2.2.2.1, u2.2.2.2.1, u2.2.2.2.2.1, u2.2.2.2.2.2, hw, Rl_ph hR (Or.inr rfl)⟩ ls hl
      · exact absurd (hp1.trans hp2.symm) c9
    · skip
      refine lv_aload_n S.1 S.2.1 dL_law_293 rfl (lv_at hl 2 rfl) ?_
      refine callVI (rest := []) S hK hw hA (kX2_verify_wrong l D cA o p0 op0 n m0 cap0 t x tk (TG (CB fk fn (nI 0)) a n (dD op0 b t) m0) fi fb ff fa fh fp hp0 hop hn hm hcap hx (fun j => TG_lt _ _ _ _ _ j) hph ho hall) gL_law_X2_verify rfl 0 rfl (by decide +kernel) ⟨rfl, rfl⟩ ⟨Nat.le_of_ble_eq_true rfl, Nat.le_of_ble_eq_true rfl⟩ ⟨Nat.le_of_ble_eq_true rfl, Nat.le_of_ble_eq_true rfl⟩ [0, 1, 2, 3, 4, 5, 6, 7, 8, 9, 10, 11] rfl (by decide) (fun _ => rfl) 0 rfl rfl rfl hl.1 (Nat.le_of_ble_eq_true rfl) dL_law_294 rfl (fun r1 u1 H locs hp1 hw => ?_)
      rw [sets_lo (by exact (rfl : (12 : Nat) = 12)) (by rfl)] at hw
      have hw : Wd D A s.heap H locs (wX2 o cA cap0 (fun j => nI (t j)) (fun j => nI (x j)) fi fb ff fa fh fp (fun j => nI ((TG (CB fk fn (nI 0)) a n (dD op0 b t) m0) j)) tk (nI p0) (nI op0) (nI m0) (nI n) ++ wX3 o2 cA (nI 0) (nI cap0) (nI p0) (nI op0) (nI n) (nI m0) fk fn (fun j => nI (a j)) (fun j => nI (b j)) (fun j => nI (t j)) (fun j => nI (x j)) g1 g2 g3 g4 g5 g6 g7 g8) := hw
      refine lv_aload_n S.1 S.2.1 dL_law_297 rfl (lv_at hl 1 rfl) ?_
      refine callVI (rest := [.int r1]) S hK hw hA (kX3_verify_wrong l D cA o2 (nI 0) p0 op0 n m0 cap0 a b t x fk fn g1 g2 g3 g4 g5 g6 g7 g8 hp0 hop hn hm hcap ha hb ht hx hph ho (fun z => hall (fun j hj => (hE j).symm.trans (z j hj)))) gL_law_X3_verify rfl 0 rfl (by decide +kernel) ⟨rfl, rfl⟩ ⟨Nat.le_of_ble_eq_true rfl, Nat.le_of_ble_eq_true rfl⟩ ⟨Nat.le_of_ble_eq_true rfl, Nat.le_of_ble_eq_true rfl⟩ [12, 13, 14, 15, 16, 17, 18, 19, 20, 21, 22, 23, 24, 25, 26] rfl (by decide) (fun _ => rfl) 12 rfl rfl rfl hl.1 (Nat.le_of_ble_eq_true rfl) dL_law_298 rfl (fun r2 u2 H locs hp2 hw => ?_)
      rw [sets_hi (by exact (rfl : (15 : Nat) = 15)) (by rfl)] at hw
      have hw : Wd D A s.heap H locs (wX2 o cA cap0 (fun j => nI (t j)) (fun j => nI (x j)) fi fb ff fa fh fp (fun j => nI ((TG (CB fk fn (nI 0)) a n (dD op0 b t) m0) j)) tk (nI p0) (nI op0) (nI m0) (nI n) ++ wX3 o2 cA (nI 0) (nI cap0) (nI p0) (nI op0) (nI n) (nI m0) fk fn (fun j => nI (a j)) (fun j => nI (b j)) (fun j => nI (t j)) (fun j => nI (x j)) (stF fk fn (nI 0)) (MB (stF fk fn (nI 0)) g2) u2.1 u2.2.1 u2.2.2.1 u2.2.2.2.1 u2.2.2.2.2.1 u2.2.2.2.2.2) := hw
      refine lv_icmp_eq (tgt := 402) S.1 S.2.1 dL_law_301 (by decide) (fun c9 => ?_) (fun c9 => ?_)
      · exact kk H locs ⟨p0, op0, n, m0, cap0, a, b, t, x, fk, fn, fi, fb, ff, fa, fh, fp, fun j => nI ((TG (CB fk fn (nI 0)) a n (dD op0 b t) m0) j), tk, stF fk fn (nI 0), (MB (stF fk fn (nI 0)) g2), u2.1, u2.2.1, u2.2.2.1, u2.2.2.2.1, u2.2.2.2.2.1, u2.2.2.2.2.2, hw, hR⟩ ls hl
      · exact absurd (hp1.trans hp2.symm) c9
  · skip
    refine lv_aload_n S.1 S.2.1 dL_law_293 rfl (lv_at hl 2 rfl) ?_
    refine callVI (rest := []) S hK hw hA (kX2_verify_no l D cA o p0 op0 n m0 cap0 t x tk fi fb ff fa fh fp ft hp0 hop hn hm hcap hc) gL_law_X2_verify rfl 0 rfl (by decide +kernel) ⟨rfl, rfl⟩ ⟨Nat.le_of_ble_eq_true rfl, Nat.le_of_ble_eq_true rfl⟩ ⟨Nat.le_of_ble_eq_true rfl, Nat.le_of_ble_eq_true rfl⟩ [0, 1, 2, 3, 4, 5, 6, 7, 8, 9, 10, 11] rfl (by decide) (fun _ => rfl) 0 rfl rfl rfl hl.1 (Nat.le_of_ble_eq_true rfl) dL_law_294 rfl (fun r1 u1 H locs hp1 hw => ?_)
    rw [sets_lo (by exact (rfl : (12 : Nat) = 12)) (by rfl)] at hw
    have hw : Wd D A s.heap H locs (wX2 o cA cap0 (fun j => nI (t j)) (fun j => nI (x j)) fi fb ff fa fh fp ft tk (nI p0) (nI op0) (nI m0) (nI n) ++ wX3 o2 cA (nI 0) (nI cap0) (nI p0) (nI op0) (nI n) (nI m0) fk fn (fun j => nI (a j)) (fun j => nI (b j)) (fun j => nI (t j)) (fun j => nI (x j)) g1 g2 g3 g4 g5 g6 g7 g8) := hw
    refine lv_aload_n S.1 S.2.1 dL_law_297 rfl (lv_at hl 1 rfl) ?_
    refine callVI (rest := [.int r1]) S hK hw hA (kX3_verify_no l D cA o2 (nI 0) p0 op0 n m0 cap0 a b t x fk fn g1 g2 g3 g4 g5 g6 g7 g8 hp0 hop hn hm hcap hc) gL_law_X3_verify rfl 0 rfl (by decide +kernel) ⟨rfl, rfl⟩ ⟨Nat.le_of_ble_eq_true rfl, Nat.le_of_ble_eq_true rfl⟩ ⟨Nat.le_of_ble_eq_true rfl, Nat.le_of_ble_eq_true rfl⟩ [12, 13, 14, 15, 16, 17, 18, 19, 20, 21, 22, 23, 24, 25, 26] rfl (by decide) (fun _ => rfl) 12 rfl rfl rfl hl.1 (Nat.le_of_ble_eq_true rfl) dL_law_298 rfl (fun r2 u2 H locs hp2 hw => ?_)
    rw [sets_hi (by exact (rfl : (15 : Nat) = 15)) (by rfl)] at hw
    have hw : Wd D A s.heap H locs (wX2 o cA cap0 (fun j => nI (t j)) (fun j => nI (x j)) fi fb ff fa fh fp ft tk (nI p0) (nI op0) (nI m0) (nI n) ++ wX3 o2 cA (nI 0) (nI cap0) (nI p0) (nI op0) (nI n) (nI m0) fk fn (fun j => nI (a j)) (fun j => nI (b j)) (fun j => nI (t j)) (fun j => nI (x j)) g1 g2 g3 g4 g5 g6 g7 g8) := hw
    refine lv_icmp_eq (tgt := 402) S.1 S.2.1 dL_law_301 (by decide) (fun c9 => ?_) (fun c9 => ?_)
    · exact kk H locs ⟨p0, op0, n, m0, cap0, a, b, t, x, fk, fn, fi, fb, ff, fa, fh, fp, ft, tk, g1, g2, g3, g4, g5, g6, g7, g8, hw, hR⟩ ls hl
    · exact absurd (hp1.trans hp2.symm) c9

set_option maxHeartbeats 4000000 in
set_option maxRecDepth 100000 in
theorem lc_tag {p : Program} {l : Launch} {e : Env} {s : State} {m : MethodId} {ar : Array Value} {below : List Frame} {meth : Method} {c : Code} {D : va_G} {cA : ClassId} {A : Nat → Prop} {Q : State → Prop} {sb L : Nat} {xs : Nat → Int32} {o o2 : Nat → Nat} {H : Heap} {locs : List Loc} {ls : Array Slot} {i : Nat} (S : CallFix p m c code 4 s ar wsL_law RL) (hK : va_K D vwCl [(cA, .int)] s) (hA : ∀ q, s.heap.size ≤ q → A q) (hX : va_X sb L xs s s.heap) (hbl : sb < s.heap.size) (hbA : ¬ A sb) (hL : L ≤ 1537) (hi : i + 2 < L) (hJ : Js D cA o o2 A s.heap H locs) (hl : lv_has ls 4 [(3, .int (nI i)), (2, .ref (o2 0)), (1, .ref (o 0)), (0, .ref sb)]) (kk : ∀ (H : Heap) (locs : List Loc), Js D cA o o2 A s.heap H locs → ∀ ls : Array Slot, lv_has ls 4 [(3, .int (nI i)), (2, .ref (o2 0)), (1, .ref (o 0)), (0, .ref sb)] → W p l e room_1 s m ar below meth c H locs 27 2594 Q (F0 m 402 ls [])) : W p l e room_1 s m ar below meth c H locs 27 2594 Q (F0 m 306 ls []) := by
  obtain ⟨p0, op0, n, m0, cap0, a, b, t, x, fk, fn, fi, fb, ff, fa, fh, fp, ft, tk, g1, g2, g3, g4, g5, g6, g7, g8, hw, hR⟩ := hJ
  obtain ⟨hp0, hop, hn, hm, hcap⟩ := hR.1
  obtain ⟨ha, hb, ht, hx⟩ := hR.2.1
  by_cases hc : p0 = 3 ∧ op0 = 0 ∧ ∃ k, k < 16 ∧ xs (i + 1) = nI k
  · obtain ⟨hph, ho, k, hk, ek⟩ := hc
    obtain rfl := hR.2.2.2.2.2 hph
    have hE : ∀ j, TG (MB (stF fk fn (nI 0)) g2) a n (dD op0 b t) m0 j = (TG (CB fk fn (nI 0)) a n (dD op0 b t) m0) j := TG_cong (e_mb (e_rf _) _ _) a n (dD op0 b t) m0
    refine lv_aload_n S.1 S.2.1 dL_law_306 rfl (lv_at hl 2 rfl) ?_
    refine lv_aload_n S.1 S.2.1 dL_law_307 rfl (lv_at hl 3 rfl) ?_
    refine lv_iload_n S.1 S.2.1 dL_law_308 rfl (lv_at hl 0 rfl) ?_
    refine lv_iconst (v := nI 1) S.1 S.2.1 dL_law_309 (by decide) ?_
    refine lv_iadd S.1 S.2.1 dL_law_310 ?_
    refine te (nI_add _ _) ?_
    refine sl S hX hbl hbA hw (i + 1) rfl (by omega) hL dL_law_311 ?_
    refine te (y := nI k) ek ?_
    refine callVI (rest := []) S hK hw hA (kX2_tag_ok l D cA o p0 op0 n m0 cap0 t x tk fi fb ff fa fh fp (fun j => nI ((TG (CB fk fn (nI 0)) a n (dD op0 b t) m0) j)) k hp0 hop hn hm hcap hk hph ho) gL_law_X2_tag rfl 1 rfl (by decide +kernel) ⟨rfl, rfl⟩ ⟨Nat.le_of_ble_eq_true rfl, Nat.le_of_ble_eq_true rfl⟩ ⟨Nat.le_of_ble_eq_true rfl, Nat.le_of_ble_eq_true rfl⟩ [0, 1, 2, 3, 4, 5, 6, 7, 8, 9, 10, 11] rfl (by decide) (fun _ => rfl) 0 rfl rfl rfl hl.1 (Nat.le_of_ble_eq_true rfl) dL_law_312 rfl (fun r1 u1 H locs hp1 hw => ?_)
    rw [sets_lo (by exact (rfl : (12 : Nat) = 12)) (by rfl)] at hw
    have hw : Wd D A s.heap H locs (wX2 o cA cap0 (fun j => nI (t j)) (fun j => nI (x j)) fi fb ff fa fh fp (fun j => nI ((TG (CB fk fn (nI 0)) a n (dD op0 b t) m0) j)) tk (nI p0) (nI op0) (nI m0) (nI n) ++ wX3 o2 cA (nI 0) (nI cap0) (nI p0) (nI op0) (nI n) (nI m0) fk fn (fun j => nI (a j)) (fun j => nI (b j)) (fun j => nI (t j)) (fun j => nI (x j)) g1 g2 g3 g4 g5 g6 g7 g8) := hw
    refine lv_aload_n S.1 S.2.1 dL_law_315 rfl (lv_at hl 1 rfl) ?_
    refine lv_aload_n S.1 S.2.1 dL_law_316 rfl (lv_at hl 3 rfl) ?_
    refine lv_iload_n S.1 S.2.1 dL_law_317 rfl (lv_at hl 0 rfl) ?_
    refine lv_iconst (v := nI 1) S.1 S.2.1 dL_law_318 (by decide) ?_
    refine lv_iadd S.1 S.2.1 dL_law_319 ?_
    refine te (nI_add _ _) ?_
    refine sl S hX hbl hbA hw (i + 1) rfl (by omega) hL dL_law_320 ?_
    refine te (y := nI k) ek ?_
    refine callVI (rest := [.int r1]) S hK hw hA (kX3_tag_ok l D cA o2 (nI 0) p0 op0 n m0 cap0 a b t x fk fn g1 g2 g3 g4 g5 g6 g7 g8 k hp0 hop hn hm hcap ha hb ht hk hph ho) gL_law_X3_tag rfl 1 rfl (by decide +kernel) ⟨rfl, rfl⟩ ⟨Nat.le_of_ble_eq_true rfl, Nat.le_of_ble_eq_true rfl⟩ ⟨Nat.le_of_ble_eq_true rfl, Nat.le_of_ble_eq_true rfl⟩ [12, 13, 14, 15, 16, 17, 18, 19, 20, 21, 22, 23, 24, 25, 26] rfl (by decide) (fun _ => rfl) 12 rfl rfl rfl hl.1 (Nat.le_of_ble_eq_true rfl) dL_law_321 rfl (fun r2 u2 H locs hp2 hw => ?_)
    rw [sets_hi (by exact (rfl : (15 : Nat) = 15)) (by rfl)] at hw
    have hw : Wd D A s.heap H locs (wX2 o cA cap0 (fun j => nI (t j)) (fun j => nI (x j)) fi fb ff fa fh fp (fun j => nI ((TG (CB fk fn (nI 0)) a n (dD op0 b t) m0) j)) tk (nI p0) (nI op0) (nI m0) (nI n) ++ wX3 o2 cA (nI 0) (nI cap0) (nI p0) (nI op0) (nI n) (nI m0) fk fn (fun j => nI (a j)) (fun j => nI (b j)) (fun j => nI (t j)) (fun j => nI (x j)) (stF fk fn (nI 0)) (MB (stF fk fn (nI 0)) g2) u2.1 u2.2.1 u2.2.2.1 u2.2.2.2.1 u2.2.2.2.2.1 u2.2.2.2.2.2) := hw
    refine lv_icmp_eq (tgt := 402) S.1 S.2.1 dL_law_324 (by decide) (fun c9 => ?_) (fun c9 => ?_)
    · exact kk H locs ⟨p0, op0, n, m0, cap0, a, b, t, x, fk, fn, fi, fb, ff, fa, fh, fp, fun j => nI ((TG (CB fk fn (nI 0)) a n (dD op0 b t) m0) j), tk, stF fk fn (nI 0), (MB (stF fk fn (nI 0)) g2), u2.1, u2.2.1, u2.2.2.1, u2.2.2.2.1, u2.2.2.2.2.1, u2.2.2.2.2.2, hw, hR⟩ ls hl
    · exact absurd (hp1.trans (by rw [hp2, hE])) c9
  · skip
    refine lv_aload_n S.1 S.2.1 dL_law_306 rfl (lv_at hl 2 rfl) ?_
    refine lv_aload_n S.1 S.2.1 dL_law_307 rfl (lv_at hl 3 rfl) ?_
    refine lv_iload_n S.1 S.2.1 dL_law_308 rfl (lv_at hl 0 rfl) ?_
    refine lv_iconst (v := nI 1) S.1 S.2.1 dL_law_309 (by decide) ?_
    refine lv_iadd S.1 S.2.1 dL_law_310 ?_
    refine te (nI_add _ _) ?_
    refine sl S hX hbl hbA hw (i + 1) rfl (by omega) hL dL_law_311 ?_
    refine callVI (rest := []) S hK hw hA (kX2_tag_no l D cA o p0 op0 n m0 cap0 t x tk fi fb ff fa fh fp ft (xs (i + 1)) hp0 hop hn hm hcap hc) gL_law_X2_tag rfl 1 rfl (by decide +kernel) ⟨rfl, rfl⟩ ⟨Nat.le_of_ble_eq_true rfl, Nat.le_of_ble_eq_true rfl⟩ ⟨Nat.le_of_ble_eq_true rfl, Nat.le_of_ble_eq_true rfl⟩ [0, 1, 2, 3, 4, 5, 6, 7, 8, 9, 10, 11] rfl (by decide) (fun _ => rfl) 0 rfl rfl rfl hl.1 (Nat.le_of_ble_eq_true rfl) dL_law_312 rfl (fun r1 u1 H locs hp1 hw => ?_)
    rw [sets_lo (by exact (rfl : (12 : Nat) = 12)) (by rfl)] at hw
    have hw : Wd D A s.heap H locs (wX2 o cA cap0 (fun j => nI (t j)) (fun j => nI (x j)) fi fb ff fa fh fp ft tk (nI p0) (nI op0) (nI m0) (nI n) ++ wX3 o2 cA (nI 0) (nI cap0) (nI p0) (nI op0) (nI n) (nI m0) fk fn (fun j => nI (a j)) (fun j => nI (b j)) (fun j => nI (t j)) (fun j => nI (x j)) g1 g2 g3 g4 g5 g6 g7 g8) := hw
    refine lv_aload_n S.1 S.2.1 dL_law_315 rfl (lv_at hl 1 rfl) ?_
    refine lv_aload_n S.1 S.2.1 dL_law_316 rfl (lv_at hl 3 rfl) ?_
    refine lv_iload_n S.1 S.2.1 dL_law_317 rfl (lv_at hl 0 rfl) ?_
    refine lv_iconst (v := nI 1) S.1 S.2.1 dL_law_318 (by decide) ?_
    refine lv_iadd S.1 S.2.1 dL_law_319 ?_
    refine te (nI_add _ _) ?_
    refine sl S hX hbl hbA hw (i + 1) rfl (by omega) hL dL_law_320 ?_
    refine callVI (rest := [.int r1]) S hK hw hA (kX3_tag_no l D cA o2 (nI 0) p0 op0 n m0 cap0 a b t x fk fn g1 g2 g3 g4 g5 g6 g7 g8 (xs (i + 1)) hp0 hop hn hm hcap hc) gL_law_X3_tag rfl 1 rfl (by decide +kernel) ⟨rfl, rfl⟩ ⟨Nat.le_of_ble_eq_true rfl, Nat.le_of_ble_eq_true rfl⟩ ⟨Nat.le_of_ble_eq_true rfl, Nat.le_of_ble_eq_true rfl⟩ [12, 13, 14, 15, 16, 17, 18, 19, 20, 21, 22, 23, 24, 25, 26] rfl (by decide) (fun _ => rfl) 12 rfl rfl rfl hl.1 (Nat.le_of_ble_eq_true rfl) dL_law_321 rfl (fun r2 u2 H locs hp2 hw => ?_)
    rw [sets_hi (by exact (rfl : (15 : Nat) = 15)) (by rfl)] at hw
    have hw : Wd D A s.heap H locs (wX2 o cA cap0 (fun j => nI (t j)) (fun j => nI (x j)) fi fb ff fa fh fp ft tk (nI p0) (nI op0) (nI m0) (nI n) ++ wX3 o2 cA (nI 0) (nI cap0) (nI p0) (nI op0) (nI n) (nI m0) fk fn (fun j => nI (a j)) (fun j => nI (b j)) (fun j => nI (t j)) (fun j => nI (x j)) g1 g2 g3 g4 g5 g6 g7 g8) := hw
    refine lv_icmp_eq (tgt := 402) S.1 S.2.1 dL_law_324 (by decide) (fun c9 => ?_) (fun c9 => ?_)
    · exact kk H locs ⟨p0, op0, n, m0, cap0, a, b, t, x, fk, fn, fi, fb, ff, fa, fh, fp, ft, tk, g1, g2, g3, g4, g5, g6, g7, g8, hw, hR⟩ ls hl
    · exact absurd (hp1.trans hp2.symm) c9

set_option maxHeartbeats 4000000 in
set_option maxRecDepth 100000 in
theorem lc_out {p : Program} {l : Launch} {e : Env} {s : State} {m : MethodId} {ar : Array Value} {below : List Frame} {meth : Method} {c : Code} {D : va_G} {cA : ClassId} {A : Nat → Prop} {Q : State → Prop} {sb L : Nat} {xs : Nat → Int32} {o o2 : Nat → Nat} {H : Heap} {locs : List Loc} {ls : Array Slot} {i : Nat} (S : CallFix p m c code 4 s ar wsL_law RL) (hK : va_K D vwCl [(cA, .int)] s) (hA : ∀ q, s.heap.size ≤ q → A q) (hX : va_X sb L xs s s.heap) (hbl : sb < s.heap.size) (hbA : ¬ A sb) (hL : L ≤ 1537) (hi : i + 2 < L) (hJ : Js D cA o o2 A s.heap H locs) (hl : lv_has ls 4 [(3, .int (nI i)), (2, .ref (o2 0)), (1, .ref (o 0)), (0, .ref sb)]) (kk : ∀ (H : Heap) (locs : List Loc), Js D cA o o2 A s.heap H locs → ∀ ls : Array Slot, lv_has ls 4 [(3, .int (nI i)), (2, .ref (o2 0)), (1, .ref (o 0)), (0, .ref sb)] → W p l e room_1 s m ar below meth c H locs 27 2594 Q (F0 m 402 ls [])) : W p l e room_1 s m ar below meth c H locs 27 2594 Q (F0 m 329 ls []) := by
  obtain ⟨p0, op0, n, m0, cap0, a, b, t, x, fk, fn, fi, fb, ff, fa, fh, fp, ft, tk, g1, g2, g3, g4, g5, g6, g7, g8, hw, hR⟩ := hJ
  obtain ⟨hp0, hop, hn, hm, hcap⟩ := hR.1
  obtain ⟨ha, hb, ht, hx⟩ := hR.2.1
  by_cases hc : (p0 = 3 ∧ op0 = 0 ∨ p0 = 4) ∧ ∃ k, k < m0 ∧ xs (i + 1) = nI k
  · obtain ⟨hc, k, hk, ek⟩ := hc
    refine lv_aload_n S.1 S.2.1 dL_law_329 rfl (lv_at hl 2 rfl) ?_
    refine lv_aload_n S.1 S.2.1 dL_law_330 rfl (lv_at hl 3 rfl) ?_
    refine lv_iload_n S.1 S.2.1 dL_law_331 rfl (lv_at hl 0 rfl) ?_
    refine lv_iconst (v := nI 1) S.1 S.2.1 dL_law_332 (by decide) ?_
    refine lv_iadd S.1 S.2.1 dL_law_333 ?_
    refine te (nI_add _ _) ?_
    refine sl S hX hbl hbA hw (i + 1) rfl (by omega) hL dL_law_334 ?_
    refine te (y := nI k) ek ?_
    refine callVI (rest := []) S hK hw hA (kX2_out_ok l D cA o p0 op0 n m0 cap0 t x tk fi fb ff fa fh fp ft k hp0 hop hn hm hcap hc hk) gL_law_X2_out rfl 1 rfl (by decide +kernel) ⟨rfl, rfl⟩ ⟨Nat.le_of_ble_eq_true rfl, Nat.le_of_ble_eq_true rfl⟩ ⟨Nat.le_of_ble_eq_true rfl, Nat.le_of_ble_eq_true rfl⟩ [0, 1, 2, 3, 4, 5, 6, 7, 8, 9, 10, 11] rfl (by decide) (fun _ => rfl) 0 rfl rfl rfl hl.1 (Nat.le_of_ble_eq_true rfl) dL_law_335 rfl (fun r1 u1 H locs hp1 hw => ?_)
    rw [sets_lo (by exact (rfl : (12 : Nat) = 12)) (by rfl)] at hw
    have hw : Wd D A s.heap H locs (wX2 o cA cap0 (fun j => nI (t j)) (fun j => nI (x j)) fi fb ff fa fh fp ft tk (nI p0) (nI op0) (nI m0) (nI n) ++ wX3 o2 cA (nI 0) (nI cap0) (nI p0) (nI op0) (nI n) (nI m0) fk fn (fun j => nI (a j)) (fun j => nI (b j)) (fun j => nI (t j)) (fun j => nI (x j)) g1 g2 g3 g4 g5 g6 g7 g8) := hw
    refine lv_aload_n S.1 S.2.1 dL_law_338 rfl (lv_at hl 1 rfl) ?_
    refine lv_aload_n S.1 S.2.1 dL_law_339 rfl (lv_at hl 3 rfl) ?_
    refine lv_iload_n S.1 S.2.1 dL_law_340 rfl (lv_at hl 0 rfl) ?_
    refine lv_iconst (v := nI 1) S.1 S.2.1 dL_law_341 (by decide) ?_
    refine lv_iadd S.1 S.2.1 dL_law_342 ?_
    refine te (nI_add _ _) ?_
    refine sl S hX hbl hbA hw (i + 1) rfl (by omega) hL dL_law_343 ?_
    refine te (y := nI k) ek ?_
    refine callVI (rest := [.int r1]) S hK hw hA (kX3_out_ok l D cA o2 (nI 0) p0 op0 n m0 cap0 a b t x fk fn g1 g2 g3 g4 g5 g6 g7 g8 k hp0 hop hn hm hcap hc hk) gL_law_X3_out rfl 1 rfl (by decide +kernel) ⟨rfl, rfl⟩ ⟨Nat.le_of_ble_eq_true rfl, Nat.le_of_ble_eq_true rfl⟩ ⟨Nat.le_of_ble_eq_true rfl, Nat.le_of_ble_eq_true rfl⟩ [12, 13, 14, 15, 16, 17, 18, 19, 20, 21, 22, 23, 24, 25, 26] rfl (by decide) (fun _ => rfl) 12 rfl rfl rfl hl.1 (Nat.le_of_ble_eq_true rfl) dL_law_344 rfl (fun r2 u2 H locs hp2 hw => ?_)
    rw [sets_hi (by exact (rfl : (15 : Nat) = 15)) (by rfl)] at hw
    have hw : Wd D A s.heap H locs (wX2 o cA cap0 (fun j => nI (t j)) (fun j => nI (x j)) fi fb ff fa fh fp ft tk (nI p0) (nI op0) (nI m0) (nI n) ++ wX3 o2 cA (nI 0) (nI cap0) (nI p0) (nI op0) (nI n) (nI m0) fk fn (fun j => nI (a j)) (fun j => nI (b j)) (fun j => nI (t j)) (fun j => nI (x j)) g1 g2 g3 g4 g5 g6 g7 g8) := hw
    refine lv_icmp_eq (tgt := 402) S.1 S.2.1 dL_law_347 (by decide) (fun c9 => ?_) (fun c9 => ?_)
    · exact kk H locs ⟨p0, op0, n, m0, cap0, a, b, t, x, fk, fn, fi, fb, ff, fa, fh, fp, ft, tk, g1, g2, g3, g4, g5, g6, g7, g8, hw, hR⟩ ls hl
    · exact absurd (hp1.trans hp2.symm) c9
  · skip
    refine lv_aload_n S.1 S.2.1 dL_law_329 rfl (lv_at hl 2 rfl) ?_
    refine lv_aload_n S.1 S.2.1 dL_law_330 rfl (lv_at hl 3 rfl) ?_
    refine lv_iload_n S.1 S.2.1 dL_law_331 rfl (lv_at hl 0 rfl) ?_
    refine lv_iconst (v := nI 1) S.1 S.2.1 dL_law_332 (by decide) ?_
    refine lv_iadd S.1 S.2.1 dL_law_333 ?_
    refine te (nI_add _ _) ?_
    refine sl S hX hbl hbA hw (i + 1) rfl (by omega) hL dL_law_334 ?_
    refine callVI (rest := []) S hK hw hA (kX2_out_no l D cA o p0 op0 n m0 cap0 t x tk fi fb ff fa fh fp ft (xs (i + 1)) hp0 hop hn hm hcap hc) gL_law_X2_out rfl 1 rfl (by decide +kernel) ⟨rfl, rfl⟩ ⟨Nat.le_of_ble_eq_true rfl, Nat.le_of_ble_eq_true rfl⟩ ⟨Nat.le_of_ble_eq_true rfl, Nat.le_of_ble_eq_true rfl⟩ [0, 1, 2, 3, 4, 5, 6, 7, 8, 9, 10, 11] rfl (by decide) (fun _ => rfl) 0 rfl rfl rfl hl.1 (Nat.le_of_ble_eq_true rfl) dL_law_335 rfl (fun r1 u1 H locs hp1 hw => ?_)
    rw [sets_lo (by exact (rfl : (12 : Nat) = 12)) (by rfl)] at hw
    have hw : Wd D A s.heap H locs (wX2 o cA cap0 (fun j => nI (t j)) (fun j => nI (x j)) fi fb ff fa fh fp ft tk (nI p0) (nI op0) (nI m0) (nI n) ++ wX3 o2 cA (nI 0) (nI cap0) (nI p0) (nI op0) (nI n) (nI m0) fk fn (fun j => nI (a j)) (fun j => nI (b j)) (fun j => nI (t j)) (fun j => nI (x j)) g1 g2 g3 g4 g5 g6 g7 g8) := hw
    refine lv_aload_n S.1 S.2.1 dL_law_338 rfl (lv_at hl 1 rfl) ?_
    refine lv_aload_n S.1 S.2.1 dL_law_339 rfl (lv_at hl 3 rfl) ?_
    refine lv_iload_n S.1 S.2.1 dL_law_340 rfl (lv_at hl 0 rfl) ?_
    refine lv_iconst (v := nI 1) S.1 S.2.1 dL_law_341 (by decide) ?_
    refine lv_iadd S.1 S.2.1 dL_law_342 ?_
    refine te (nI_add _ _) ?_
    refine sl S hX hbl hbA hw (i + 1) rfl (by omega) hL dL_law_343 ?_
    refine callVI (rest := [.int r1]) S hK hw hA (kX3_out_no l D cA o2 (nI 0) p0 op0 n m0 cap0 a b t x fk fn g1 g2 g3 g4 g5 g6 g7 g8 (xs (i + 1)) hp0 hop hn hm hcap hc) gL_law_X3_out rfl 1 rfl (by decide +kernel) ⟨rfl, rfl⟩ ⟨Nat.le_of_ble_eq_true rfl, Nat.le_of_ble_eq_true rfl⟩ ⟨Nat.le_of_ble_eq_true rfl, Nat.le_of_ble_eq_true rfl⟩ [12, 13, 14, 15, 16, 17, 18, 19, 20, 21, 22, 23, 24, 25, 26] rfl (by decide) (fun _ => rfl) 12 rfl rfl rfl hl.1 (Nat.le_of_ble_eq_true rfl) dL_law_344 rfl (fun r2 u2 H locs hp2 hw => ?_)
    rw [sets_hi (by exact (rfl : (15 : Nat) = 15)) (by rfl)] at hw
    have hw : Wd D A s.heap H locs (wX2 o cA cap0 (fun j => nI (t j)) (fun j => nI (x j)) fi fb ff fa fh fp ft tk (nI p0) (nI op0) (nI m0) (nI n) ++ wX3 o2 cA (nI 0) (nI cap0) (nI p0) (nI op0) (nI n) (nI m0) fk fn (fun j => nI (a j)) (fun j => nI (b j)) (fun j => nI (t j)) (fun j => nI (x j)) g1 g2 g3 g4 g5 g6 g7 g8) := hw
    refine lv_icmp_eq (tgt := 402) S.1 S.2.1 dL_law_347 (by decide) (fun c9 => ?_) (fun c9 => ?_)
    · exact kk H locs ⟨p0, op0, n, m0, cap0, a, b, t, x, fk, fn, fi, fb, ff, fa, fh, fp, ft, tk, g1, g2, g3, g4, g5, g6, g7, g8, hw, hR⟩ ls hl
    · exact absurd (hp1.trans hp2.symm) c9

set_option maxHeartbeats 4000000 in
set_option maxRecDepth 100000 in
theorem lc_length {p : Program} {l : Launch} {e : Env} {s : State} {m : MethodId} {ar : Array Value} {below : List Frame} {meth : Method} {c : Code} {D : va_G} {cA : ClassId} {A : Nat → Prop} {Q : State → Prop} {sb L : Nat} {xs : Nat → Int32} {o o2 : Nat → Nat} {H : Heap} {locs : List Loc} {ls : Array Slot} {i : Nat} (S : CallFix p m c code 4 s ar wsL_law RL) (hK : va_K D vwCl [(cA, .int)] s) (hA : ∀ q, s.heap.size ≤ q → A q) (hX : va_X sb L xs s s.heap) (hbl : sb < s.heap.size) (hbA : ¬ A sb) (hL : L ≤ 1537) (hi : i + 2 < L) (hJ : Js D cA o o2 A s.heap H locs) (hl : lv_has ls 4 [(3, .int (nI i)), (2, .ref (o2 0)), (1, .ref (o 0)), (0, .ref sb)]) (kk : ∀ (H : Heap) (locs : List Loc), Js D cA o o2 A s.heap H locs → ∀ ls : Array Slot, lv_has ls 4 [(3, .int (nI i)), (2, .ref (o2 0)), (1, .ref (o 0)), (0, .ref sb)] → W p l e room_1 s m ar below meth c H locs 27 2594 Q (F0 m 402 ls [])) : W p l e room_1 s m ar below meth c H locs 27 2594 Q (F0 m 352 ls []) := by
  obtain ⟨p0, op0, n, m0, cap0, a, b, t, x, fk, fn, fi, fb, ff, fa, fh, fp, ft, tk, g1, g2, g3, g4, g5, g6, g7, g8, hw, hR⟩ := hJ
  obtain ⟨hp0, hop, hn, hm, hcap⟩ := hR.1
  obtain ⟨ha, hb, ht, hx⟩ := hR.2.1
  refine lv_aload_n S.1 S.2.1 dL_law_352 rfl (lv_at hl 2 rfl) ?_
  refine callVI (rest := []) S hK hw hA (kX2_length l D cA o p0 op0 n m0 cap0 t x tk fi fb ff fa fh fp ft hp0 hop hn hm hcap) gL_law_X2_length rfl 0 rfl (by decide +kernel) ⟨rfl, rfl⟩ ⟨Nat.le_of_ble_eq_true rfl, Nat.le_of_ble_eq_true rfl⟩ ⟨Nat.le_of_ble_eq_true rfl, Nat.le_of_ble_eq_true rfl⟩ [0, 1, 2, 3, 4, 5, 6, 7, 8, 9, 10, 11] rfl (by decide) (fun _ => rfl) 0 rfl rfl rfl hl.1 (Nat.le_of_ble_eq_true rfl) dL_law_353 rfl (fun r1 u1 H locs hp1 hw => ?_)
  rw [sets_lo (by exact (rfl : (12 : Nat) = 12)) (by rfl)] at hw
  have hw : Wd D A s.heap H locs (wX2 o cA cap0 (fun j => nI (t j)) (fun j => nI (x j)) fi fb ff fa fh fp ft tk (nI p0) (nI op0) (nI m0) (nI n) ++ wX3 o2 cA (nI 0) (nI cap0) (nI p0) (nI op0) (nI n) (nI m0) fk fn (fun j => nI (a j)) (fun j => nI (b j)) (fun j => nI (t j)) (fun j => nI (x j)) g1 g2 g3 g4 g5 g6 g7 g8) := hw
  refine lv_aload_n S.1 S.2.1 dL_law_356 rfl (lv_at hl 1 rfl) ?_
  refine callVI (rest := [.int r1]) S hK hw hA (kX3_length l D cA o2 (nI 0) p0 op0 n m0 cap0 a b t x fk fn g1 g2 g3 g4 g5 g6 g7 g8 hp0 hop hn hm hcap) gL_law_X3_length rfl 0 rfl (by decide +kernel) ⟨rfl, rfl⟩ ⟨Nat.le_of_ble_eq_true rfl, Nat.le_of_ble_eq_true rfl⟩ ⟨Nat.le_of_ble_eq_true rfl, Nat.le_of_ble_eq_true rfl⟩ [12, 13, 14, 15, 16, 17, 18, 19, 20, 21, 22, 23, 24, 25, 26] rfl (by decide) (fun _ => rfl) 12 rfl rfl rfl hl.1 (Nat.le_of_ble_eq_true rfl) dL_law_357 rfl (fun r2 u2 H locs hp2 hw => ?_)
  rw [sets_hi (by exact (rfl : (15 : Nat) = 15)) (by rfl)] at hw
  have hw : Wd D A s.heap H locs (wX2 o cA cap0 (fun j => nI (t j)) (fun j => nI (x j)) fi fb ff fa fh fp ft tk (nI p0) (nI op0) (nI m0) (nI n) ++ wX3 o2 cA (nI 0) (nI cap0) (nI p0) (nI op0) (nI n) (nI m0) fk fn (fun j => nI (a j)) (fun j => nI (b j)) (fun j => nI (t j)) (fun j => nI (x j)) g1 g2 g3 g4 g5 g6 g7 g8) := hw
  refine lv_icmp_eq (tgt := 402) S.1 S.2.1 dL_law_360 (by decide) (fun c9 => ?_) (fun c9 => ?_)
  · exact kk H locs ⟨p0, op0, n, m0, cap0, a, b, t, x, fk, fn, fi, fb, ff, fa, fh, fp, ft, tk, g1, g2, g3, g4, g5, g6, g7, g8, hw, hR⟩ ls hl
  · exact absurd (hp1.trans hp2.symm) c9

set_option maxHeartbeats 4000000 in
set_option maxRecDepth 100000 in
theorem lc_added {p : Program} {l : Launch} {e : Env} {s : State} {m : MethodId} {ar : Array Value} {below : List Frame} {meth : Method} {c : Code} {D : va_G} {cA : ClassId} {A : Nat → Prop} {Q : State → Prop} {sb L : Nat} {xs : Nat → Int32} {o o2 : Nat → Nat} {H : Heap} {locs : List Loc} {ls : Array Slot} {i : Nat} (S : CallFix p m c code 4 s ar wsL_law RL) (hK : va_K D vwCl [(cA, .int)] s) (hA : ∀ q, s.heap.size ≤ q → A q) (hX : va_X sb L xs s s.heap) (hbl : sb < s.heap.size) (hbA : ¬ A sb) (hL : L ≤ 1537) (hi : i + 2 < L) (hJ : Js D cA o o2 A s.heap H locs) (hl : lv_has ls 4 [(3, .int (nI i)), (2, .ref (o2 0)), (1, .ref (o 0)), (0, .ref sb)]) (kk : ∀ (H : Heap) (locs : List Loc), Js D cA o o2 A s.heap H locs → ∀ ls : Array Slot, lv_has ls 4 [(3, .int (nI i)), (2, .ref (o2 0)), (1, .ref (o 0)), (0, .ref sb)] → W p l e room_1 s m ar below meth c H locs 27 2594 Q (F0 m 402 ls [])) : W p l e room_1 s m ar below meth c H locs 27 2594 Q (F0 m 365 ls []) := by
  obtain ⟨p0, op0, n, m0, cap0, a, b, t, x, fk, fn, fi, fb, ff, fa, fh, fp, ft, tk, g1, g2, g3, g4, g5, g6, g7, g8, hw, hR⟩ := hJ
  obtain ⟨hp0, hop, hn, hm, hcap⟩ := hR.1
  obtain ⟨ha, hb, ht, hx⟩ := hR.2.1
  refine lv_aload_n S.1 S.2.1 dL_law_365 rfl (lv_at hl 2 rfl) ?_
  refine callVI (rest := []) S hK hw hA (kX2_added l D cA o p0 op0 n m0 cap0 t x tk fi fb ff fa fh fp ft hp0 hop hn hm hcap) gL_law_X2_added rfl 0 rfl (by decide +kernel) ⟨rfl, rfl⟩ ⟨Nat.le_of_ble_eq_true rfl, Nat.le_of_ble_eq_true rfl⟩ ⟨Nat.le_of_ble_eq_true rfl, Nat.le_of_ble_eq_true rfl⟩ [0, 1, 2, 3, 4, 5, 6, 7, 8, 9, 10, 11] rfl (by decide) (fun _ => rfl) 0 rfl rfl rfl hl.1 (Nat.le_of_ble_eq_true rfl) dL_law_366 rfl (fun r1 u1 H locs hp1 hw => ?_)
  rw [sets_lo (by exact (rfl : (12 : Nat) = 12)) (by rfl)] at hw
  have hw : Wd D A s.heap H locs (wX2 o cA cap0 (fun j => nI (t j)) (fun j => nI (x j)) fi fb ff fa fh fp ft tk (nI p0) (nI op0) (nI m0) (nI n) ++ wX3 o2 cA (nI 0) (nI cap0) (nI p0) (nI op0) (nI n) (nI m0) fk fn (fun j => nI (a j)) (fun j => nI (b j)) (fun j => nI (t j)) (fun j => nI (x j)) g1 g2 g3 g4 g5 g6 g7 g8) := hw
  refine lv_aload_n S.1 S.2.1 dL_law_369 rfl (lv_at hl 1 rfl) ?_
  refine callVI (rest := [.int r1]) S hK hw hA (kX3_added l D cA o2 (nI 0) p0 op0 n m0 cap0 a b t x fk fn g1 g2 g3 g4 g5 g6 g7 g8 hp0 hop hn hm hcap) gL_law_X3_added rfl 0 rfl (by decide +kernel) ⟨rfl, rfl⟩ ⟨Nat.le_of_ble_eq_true rfl, Nat.le_of_ble_eq_true rfl⟩ ⟨Nat.le_of_ble_eq_true rfl, Nat.le_of_ble_eq_true rfl⟩ [12, 13, 14, 15, 16, 17, 18, 19, 20, 21, 22, 23, 24, 25, 26] rfl (by decide) (fun _ => rfl) 12 rfl rfl rfl hl.1 (Nat.le_of_ble_eq_true rfl) dL_law_370 rfl (fun r2 u2 H locs hp2 hw => ?_)
  rw [sets_hi (by exact (rfl : (15 : Nat) = 15)) (by rfl)] at hw
  have hw : Wd D A s.heap H locs (wX2 o cA cap0 (fun j => nI (t j)) (fun j => nI (x j)) fi fb ff fa fh fp ft tk (nI p0) (nI op0) (nI m0) (nI n) ++ wX3 o2 cA (nI 0) (nI cap0) (nI p0) (nI op0) (nI n) (nI m0) fk fn (fun j => nI (a j)) (fun j => nI (b j)) (fun j => nI (t j)) (fun j => nI (x j)) g1 g2 g3 g4 g5 g6 g7 g8) := hw
  refine lv_icmp_eq (tgt := 402) S.1 S.2.1 dL_law_373 (by decide) (fun c9 => ?_) (fun c9 => ?_)
  · exact kk H locs ⟨p0, op0, n, m0, cap0, a, b, t, x, fk, fn, fi, fb, ff, fa, fh, fp, ft, tk, g1, g2, g3, g4, g5, g6, g7, g8, hw, hR⟩ ls hl
  · exact absurd (hp1.trans hp2.symm) c9

set_option maxHeartbeats 4000000 in
set_option maxRecDepth 100000 in
theorem lc_phase {p : Program} {l : Launch} {e : Env} {s : State} {m : MethodId} {ar : Array Value} {below : List Frame} {meth : Method} {c : Code} {D : va_G} {cA : ClassId} {A : Nat → Prop} {Q : State → Prop} {sb L : Nat} {xs : Nat → Int32} {o o2 : Nat → Nat} {H : Heap} {locs : List Loc} {ls : Array Slot} {i : Nat} (S : CallFix p m c code 4 s ar wsL_law RL) (hK : va_K D vwCl [(cA, .int)] s) (hA : ∀ q, s.heap.size ≤ q → A q) (hX : va_X sb L xs s s.heap) (hbl : sb < s.heap.size) (hbA : ¬ A sb) (hL : L ≤ 1537) (hi : i + 2 < L) (hJ : Js D cA o o2 A s.heap H locs) (hl : lv_has ls 4 [(3, .int (nI i)), (2, .ref (o2 0)), (1, .ref (o 0)), (0, .ref sb)]) (kk : ∀ (H : Heap) (locs : List Loc), Js D cA o o2 A s.heap H locs → ∀ ls : Array Slot, lv_has ls 4 [(3, .int (nI i)), (2, .ref (o2 0)), (1, .ref (o 0)), (0, .ref sb)] → W p l e room_1 s m ar below meth c H locs 27 2594 Q (F0 m 402 ls [])) : W p l e room_1 s m ar below meth c H locs 27 2594 Q (F0 m 378 ls []) := by
  obtain ⟨p0, op0, n, m0, cap0, a, b, t, x, fk, fn, fi, fb, ff, fa, fh, fp, ft, tk, g1, g2, g3, g4, g5, g6, g7, g8, hw, hR⟩ := hJ
  obtain ⟨hp0, hop, hn, hm, hcap⟩ := hR.1
  obtain ⟨ha, hb, ht, hx⟩ := hR.2.1
  refine lv_aload_n S.1 S.2.1 dL_law_378 rfl (lv_at hl 2 rfl) ?_
  refine callVI (rest := []) S hK hw hA (kX2_phase l D cA o p0 op0 n m0 cap0 t x tk fi fb ff fa fh fp ft hp0 hop hn hm hcap) gL_law_X2_phase rfl 0 rfl (by decide +kernel) ⟨rfl, rfl⟩ ⟨Nat.le_of_ble_eq_true rfl, Nat.le_of_ble_eq_true rfl⟩ ⟨Nat.le_of_ble_eq_true rfl, Nat.le_of_ble_eq_true rfl⟩ [0, 1, 2, 3, 4, 5, 6, 7, 8, 9, 10, 11] rfl (by decide) (fun _ => rfl) 0 rfl rfl rfl hl.1 (Nat.le_of_ble_eq_true rfl) dL_law_379 rfl (fun r1 u1 H locs hp1 hw => ?_)
  rw [sets_lo (by exact (rfl : (12 : Nat) = 12)) (by rfl)] at hw
  have hw : Wd D A s.heap H locs (wX2 o cA cap0 (fun j => nI (t j)) (fun j => nI (x j)) fi fb ff fa fh fp ft tk (nI p0) (nI op0) (nI m0) (nI n) ++ wX3 o2 cA (nI 0) (nI cap0) (nI p0) (nI op0) (nI n) (nI m0) fk fn (fun j => nI (a j)) (fun j => nI (b j)) (fun j => nI (t j)) (fun j => nI (x j)) g1 g2 g3 g4 g5 g6 g7 g8) := hw
  refine lv_aload_n S.1 S.2.1 dL_law_382 rfl (lv_at hl 1 rfl) ?_
  refine callVI (rest := [.int r1]) S hK hw hA (kX3_phase l D cA o2 (nI 0) p0 op0 n m0 cap0 a b t x fk fn g1 g2 g3 g4 g5 g6 g7 g8 hp0 hop hn hm hcap) gL_law_X3_phase rfl 0 rfl (by decide +kernel) ⟨rfl, rfl⟩ ⟨Nat.le_of_ble_eq_true rfl, Nat.le_of_ble_eq_true rfl⟩ ⟨Nat.le_of_ble_eq_true rfl, Nat.le_of_ble_eq_true rfl⟩ [12, 13, 14, 15, 16, 17, 18, 19, 20, 21, 22, 23, 24, 25, 26] rfl (by decide) (fun _ => rfl) 12 rfl rfl rfl hl.1 (Nat.le_of_ble_eq_true rfl) dL_law_383 rfl (fun r2 u2 H locs hp2 hw => ?_)
  rw [sets_hi (by exact (rfl : (15 : Nat) = 15)) (by rfl)] at hw
  have hw : Wd D A s.heap H locs (wX2 o cA cap0 (fun j => nI (t j)) (fun j => nI (x j)) fi fb ff fa fh fp ft tk (nI p0) (nI op0) (nI m0) (nI n) ++ wX3 o2 cA (nI 0) (nI cap0) (nI p0) (nI op0) (nI n) (nI m0) fk fn (fun j => nI (a j)) (fun j => nI (b j)) (fun j => nI (t j)) (fun j => nI (x j)) g1 g2 g3 g4 g5 g6 g7 g8) := hw
  refine lv_icmp_eq (tgt := 402) S.1 S.2.1 dL_law_386 (by decide) (fun c9 => ?_) (fun c9 => ?_)
  · exact kk H locs ⟨p0, op0, n, m0, cap0, a, b, t, x, fk, fn, fi, fb, ff, fa, fh, fp, ft, tk, g1, g2, g3, g4, g5, g6, g7, g8, hw, hR⟩ ls hl
  · exact absurd (hp1.trans hp2.symm) c9

set_option maxHeartbeats 4000000 in
set_option maxRecDepth 100000 in
theorem lc_reset {p : Program} {l : Launch} {e : Env} {s : State} {m : MethodId} {ar : Array Value} {below : List Frame} {meth : Method} {c : Code} {D : va_G} {cA : ClassId} {A : Nat → Prop} {Q : State → Prop} {sb L : Nat} {xs : Nat → Int32} {o o2 : Nat → Nat} {H : Heap} {locs : List Loc} {ls : Array Slot} {i : Nat} (S : CallFix p m c code 4 s ar wsL_law RL) (hK : va_K D vwCl [(cA, .int)] s) (hA : ∀ q, s.heap.size ≤ q → A q) (hX : va_X sb L xs s s.heap) (hbl : sb < s.heap.size) (hbA : ¬ A sb) (hL : L ≤ 1537) (hi : i + 2 < L) (hJ : Js D cA o o2 A s.heap H locs) (hl : lv_has ls 4 [(3, .int (nI i)), (2, .ref (o2 0)), (1, .ref (o 0)), (0, .ref sb)]) (kk : ∀ (H : Heap) (locs : List Loc), Js D cA o o2 A s.heap H locs → ∀ ls : Array Slot, lv_has ls 4 [(3, .int (nI i)), (2, .ref (o2 0)), (1, .ref (o 0)), (0, .ref sb)] → W p l e room_1 s m ar below meth c H locs 27 2594 Q (F0 m 402 ls [])) : W p l e room_1 s m ar below meth c H locs 27 2594 Q (F0 m 391 ls []) := by
  obtain ⟨p0, op0, n, m0, cap0, a, b, t, x, fk, fn, fi, fb, ff, fa, fh, fp, ft, tk, g1, g2, g3, g4, g5, g6, g7, g8, hw, hR⟩ := hJ
  obtain ⟨hp0, hop, hn, hm, hcap⟩ := hR.1
  obtain ⟨ha, hb, ht, hx⟩ := hR.2.1
  refine lv_aload_n S.1 S.2.1 dL_law_391 rfl (lv_at hl 2 rfl) ?_
  refine callVV (rest := []) S hK hw hA (kX2_reset l D cA o p0 op0 n m0 cap0 t x tk fi fb ff fa fh fp ft hp0 hop hn hm hcap) gL_law_X2_reset rfl 0 rfl (by decide +kernel) ⟨rfl, rfl⟩ ⟨Nat.le_of_ble_eq_true rfl, Nat.le_of_ble_eq_true rfl⟩ ⟨Nat.le_of_ble_eq_true rfl, Nat.le_of_ble_eq_true rfl⟩ [0, 1, 2, 3, 4, 5, 6, 7, 8, 9, 10, 11] rfl (by decide) (fun _ => rfl) 0 rfl rfl rfl hl.1 (Nat.le_of_ble_eq_true rfl) dL_law_392 rfl (fun u1 H locs hp1 hw => ?_)
  rw [sets_lo (by exact (rfl : (12 : Nat) = 12)) (by rfl)] at hw
  have hw : Wd D A s.heap H locs (wX2 o cA cap0 (fun j => nI (t j)) (fun j => nI (x j)) fi fb ff fa fh fp ft tk (nI 0) (nI op0) (nI m0) (nI n) ++ wX3 o2 cA (nI 0) (nI cap0) (nI p0) (nI op0) (nI n) (nI m0) fk fn (fun j => nI (a j)) (fun j => nI (b j)) (fun j => nI (t j)) (fun j => nI (x j)) g1 g2 g3 g4 g5 g6 g7 g8) := hw
  refine lv_aload_n S.1 S.2.1 dL_law_395 rfl (lv_at hl 1 rfl) ?_
  refine callVV (rest := []) S hK hw hA (kX3_reset l D cA o2 (nI 0) p0 op0 n m0 cap0 a b t x fk fn g1 g2 g3 g4 g5 g6 g7 g8 hp0 hop hn hm hcap) gL_law_X3_reset rfl 0 rfl (by decide +kernel) ⟨rfl, rfl⟩ ⟨Nat.le_of_ble_eq_true rfl, Nat.le_of_ble_eq_true rfl⟩ ⟨Nat.le_of_ble_eq_true rfl, Nat.le_of_ble_eq_true rfl⟩ [12, 13, 14, 15, 16, 17, 18, 19, 20, 21, 22, 23, 24, 25, 26] rfl (by decide) (fun _ => rfl) 12 rfl rfl rfl hl.1 (Nat.le_of_ble_eq_true rfl) dL_law_396 rfl (fun u2 H locs hp2 hw => ?_)
  rw [sets_hi (by exact (rfl : (15 : Nat) = 15)) (by rfl)] at hw
  have hw : Wd D A s.heap H locs (wX2 o cA cap0 (fun j => nI (t j)) (fun j => nI (x j)) fi fb ff fa fh fp ft tk (nI 0) (nI op0) (nI m0) (nI n) ++ wX3 o2 cA (nI 0) (nI cap0) (nI 0) (nI op0) (nI n) (nI m0) fk fn (fun j => nI (a j)) (fun j => nI (b j)) (fun j => nI (t j)) (fun j => nI (x j)) g1 g2 g3 g4 g5 g6 g7 g8) := hw
  refine lv_goto (tgt := 402) S.1 S.2.1 dL_law_399 (by decide) ?_
  exact kk H locs ⟨0, op0, n, m0, cap0, a, b, t, x, fk, fn, fi, fb, ff, fa, fh, fp, ft, tk, g1, g2, g3, g4, g5, g6, g7, g8, hw, Rl_ph hR (Or.inl rfl)⟩ ls hl
