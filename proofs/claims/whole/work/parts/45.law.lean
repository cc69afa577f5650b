/-- box and reference stand side by side, related -/
def Js (D : va_G) (cA : ClassId) (o o2 : Nat → Nat) (A : Nat → Prop) (H0 H : Heap) (locs : List Loc) : Prop := ∃ (p0 op0 n m0 cap0 : Nat) (a b t x : Nat → Nat) (fk fn fi fb ff fa fh fp ft : Nat → Int32) (tk : Int32) (g1 g2 g3 g4 g5 g6 g7 g8 : Nat → Int32), Wd D A H0 H locs (wX2 o cA cap0 (fun j => nI (t j)) (fun j => nI (x j)) fi fb ff fa fh fp ft tk (nI p0) (nI op0) (nI m0) (nI n) ++ wX3 o2 cA (nI 0) (nI cap0) (nI p0) (nI op0) (nI n) (nI m0) fk fn (fun j => nI (a j)) (fun j => nI (b j)) (fun j => nI (t j)) (fun j => nI (x j)) g1 g2 g3 g4 g5 g6 g7 g8) ∧ Rl p0 op0 n m0 cap0 a b t x fk fn fi fb ff fa fh ft tk
section SC
variable {p : Program} {l : Launch} {e : Env} {R : Room} {s : State} {m : MethodId} {args : Array Value} {below : List Frame} {meth : Method} {c : Code} {H : Heap} {locs : List Loc} {cells slots : Nat} {Q : State → Prop} {pc : Nat} {ls : Array Slot} {rest : List Value} {D : va_G} {A : Nat → Prop} {ws : va_W} {cc : ByteArray} {nL : Nat} {Ts : List Cond} {own : String}
/-- the script's int k -/
theorem sl (S : CallFix p m c cc nL s args Ts own) {sb L : Nat} {xs : Nat → Int32} (hX : va_X sb L xs s s.heap) (hbl : sb < s.heap.size) (hbA : ¬ A sb) (hw : Wd D A s.heap H locs ws) {i : Int32} (k : Nat) (hi : i = nI k) (hk : k < L) (hL : L ≤ 1537) (hdg : decode cc pc = .ok (.iaload, 1))
    (kk : W p l e R s m args below meth c H locs cells slots Q (F0 m (pc + 1) ls (.int (xs k) :: rest))) : W p l e R s m args below meth c H locs cells slots Q (F0 m pc ls (.int i :: .ref sb :: rest)) := by
  subst hi
  refine va_sld S.1 S.2.1 hX hbl hbA hw.2.2 (vp_in_nI hk (by omega)) hdg ?_
  rw [nI_clamp (by omega)]
  exact kk
theorem sln (S : CallFix p m c cc nL s args Ts own) {sb L : Nat} {xs : Nat → Int32} (hX : va_X sb L xs s s.heap) (hbl : sb < s.heap.size) (hbA : ¬ A sb) (hw : Wd D A s.heap H locs ws) (hdg : decode cc pc = .ok (.arraylength, 1))
    (kk : W p l e R s m args below meth c H locs cells slots Q (F0 m (pc + 1) ls (.int (nI L) :: rest))) : W p l e R s m args below meth c H locs cells slots Q (F0 m pc ls (.ref sb :: rest)) := va_slen S.1 S.2.1 hX hbl hbA hw.2.2 hdg kk
end SC
set_option maxHeartbeats 4000000 in
set_option maxRecDepth 100000 in
theorem lc_setKeyWord {p : Program} {l : Launch} {e : Env} {s : State} {m : MethodId} {ar : Array Value} {below : List Frame} {meth : Method} {c : Code} {D : va_G} {cA : ClassId} {A : Nat → Prop} {Q : State → Prop} {sb L : Nat} {xs : Nat → Int32} {o o2 : Nat → Nat} {H : Heap} {locs : List Loc} {ls : Array Slot} {i : Nat} (S : CallFix p m c code 4 s ar wsL_law RL) (hK : va_K D vwCl [(cA, .int)] s) (hA : ∀ q, s.heap.size ≤ q → A q) (hX : va_X sb L xs s s.heap) (hbl : sb < s.heap.size) (hbA : ¬ A sb) (hL : L ≤ 1537) (hi : i + 2 < L) (hJ : Js D cA o o2 A s.heap H locs) (hl : lv_has ls 4 [(3, .int (nI i)), (2, .ref (o2 0)), (1, .ref (o 0)), (0, .ref sb)]) (kk : ∀ (H : Heap) (locs : List Loc), Js D cA o o2 A s.heap H locs → ∀ ls : Array Slot, lv_has ls 4 [(3, .int (nI i)), (2, .ref (o2 0)), (1, .ref (o 0)), (0, .ref sb)] → W p l e room_1 s m ar below meth c H locs 27 2594 Q (F0 m 402 ls [])) : W p l e room_1 s m ar below meth c H locs 27 2594 Q (F0 m 112 ls []) := by
  obtain ⟨p0, op0, n, m0, cap0, a, b, t, x, fk, fn, fi, fb, ff, fa, fh, fp, ft, tk, g1, g2, g3, g4, g5, g6, g7, g8, hw, hR⟩ := hJ
  obtain ⟨hp0, hop, hn, hm, hcap⟩ := hR.1
  obtain ⟨ha, hb, ht, hx⟩ := hR.2.1
  by_cases hc : p0 = 0 ∧ ∃ k, k < 8 ∧ xs (i + 1) = nI k
  · obtain ⟨hph, k, hk, ek⟩ := hc
    refine lv_aload_n S.1 S.2.1 dL_law_112 rfl (lv_at hl 2 rfl) ?_
    refine lv_aload_n S.1 S.2.1 dL_law_113 rfl (lv_at hl 3 rfl) ?_
    refine lv_iload_n S.1 S.2.1 dL_law_114 rfl (lv_at hl 0 rfl) ?_
    refine lv_iconst (v := nI 1) S.1 S.2.1 dL_law_115 (by decide) ?_
    refine lv_iadd S.1 S.2.1 dL_law_116 ?_
    refine te (nI_add _ _) ?_
    refine sl S hX hbl hbA hw (i + 1) rfl (by omega) hL dL_law_117 ?_
    refine te (y := nI k) ek ?_
    refine lv_aload_n S.1 S.2.1 dL_law_118 rfl (lv_at hl 3 rfl) ?_
    refine lv_iload_n S.1 S.2.1 dL_law_119 rfl (lv_at hl 0 rfl) ?_
    refine lv_iconst (v := nI 2) S.1 S.2.1 dL_law_120 (by decide) ?_
    refine lv_iadd S.1 S.2.1 dL_law_121 ?_
    refine te (nI_add _ _) ?_
    refine sl S hX hbl hbA hw (i + 2) rfl (by omega) hL dL_law_122 ?_
    refine callVI (rest := []) S hK hw hA (kX2_setKeyWord_ok l D cA o p0 op0 n m0 cap0 t x tk fi fb ff fa fh fp ft k (xs (i + 2)) hp0 hop hn hm hcap hk hph) gL_law_X2_setKeyWord rfl 2 rfl (by decide +kernel) ⟨rfl, rfl⟩ ⟨Nat.le_of_ble_eq_true rfl, Nat.le_of_ble_eq_true rfl⟩ ⟨Nat.le_of_ble_eq_true rfl, Nat.le_of_ble_eq_true rfl⟩ [0, 1, 2, 3, 4, 5, 6, 7, 8, 9, 10, 11] rfl (by decide) (fun _ => rfl) 0 rfl rfl rfl hl.1 (Nat.le_of_ble_eq_true rfl) dL_law_123 rfl (fun r1 u1 H locs hp1 hw => ?_)
    rw [sets_lo (by exact (rfl : (12 : Nat) = 12)) (by rfl)] at hw
    have hw : Wd D A s.heap H locs (wX2 o cA cap0 (fun j => nI (t j)) (fun j => nI (x j)) (upd fi (4 + k) (xs (i + 2))) fb ff fa fh fp ft tk (nI p0) (nI op0) (nI m0) (nI n) ++ wX3 o2 cA (nI 0) (nI cap0) (nI p0) (nI op0) (nI n) (nI m0) fk fn (fun j => nI (a j)) (fun j => nI (b j)) (fun j => nI (t j)) (fun j => nI (x j)) g1 g2 g3 g4 g5 g6 g7 g8) := hw
    refine lv_aload_n S.1 S.2.1 dL_law_126 rfl (lv_at hl 1 rfl) ?_
    refine lv_aload_n S.1 S.2.1 dL_law_127 rfl (lv_at hl 3 rfl) ?_
    refine lv_iload_n S.1 S.2.1 dL_law_128 rfl (lv_at hl 0 rfl) ?_
    refine lv_iconst (v := nI 1) S.1 S.2.1 dL_law_129 (by decide) ?_
    refine lv_iadd S.1 S.2.1 dL_law_130 ?_
    refine te (nI_add _ _) ?_
    refine sl S hX hbl hbA hw (i + 1) rfl (by omega) hL dL_law_131 ?_
    refine te (y := nI k) ek ?_
    refine lv_aload_n S.1 S.2.1 dL_law_132 rfl (lv_at hl 3 rfl) ?_
    refine lv_iload_n S.1 S.2.1 dL_law_133 rfl (lv_at hl 0 rfl) ?_
    refine lv_iconst (v := nI 2) S.1 S.2.1 dL_law_134 (by decide) ?_
    refine lv_iadd S.1 S.2.1 dL_law_135 ?_
    refine te (nI_add _ _) ?_
    refine sl S hX hbl hbA hw (i + 2) rfl (by omega) hL dL_law_136 ?_
    refine callVI (rest := [.int r1]) S hK hw hA (kX3_setKeyWord_ok l D cA o2 (nI 0) p0 op0 n m0 cap0 a b t x fk fn g1 g2 g3 g4 g5 g6 g7 g8 k (xs (i + 2)) hp0 hop hn hm hcap hk hph) gL_law_X3_setKeyWord rfl 2 rfl (by decide +kernel) ⟨rfl, rfl⟩ ⟨Nat.le_of_ble_eq_true rfl, Nat.le_of_ble_eq_true rfl⟩ ⟨Nat.le_of_ble_eq_true rfl, Nat.le_of_ble_eq_true rfl⟩ [12, 13, 14, 15, 16, 17, 18, 19, 20, 21, 22, 23, 24, 25, 26] rfl (by decide) (fun _ => rfl) 12 rfl rfl rfl hl.1 (Nat.le_of_ble_eq_true rfl) dL_law_137 rfl (fun r2 u2 H locs hp2 hw => ?_)
    rw [sets_hi (by exact (rfl : (15 : Nat) = 15)) (by rfl)] at hw
    have hw : Wd D A s.heap H locs (wX2 o cA cap0 (fun j => nI (t j)) (fun j => nI (x j)) (upd fi (4 + k) (xs (i + 2))) fb ff fa fh fp ft tk (nI p0) (nI op0) (nI m0) (nI n) ++ wX3 o2 cA (nI 0) (nI cap0) (nI p0) (nI op0) (nI n) (nI m0) (upd fk k (xs (i + 2))) fn (fun j => nI (a j)) (fun j => nI (b j)) (fun j => nI (t j)) (fun j => nI (x j)) g1 g2 g3 g4 g5 g6 g7 g8) := hw
    refine lv_icmp_eq (tgt := 402) S.1 S.2.1 dL_law_140 (by decide) (fun c9 => ?_) (fun c9 => ?_)
    · exact kk H locs ⟨p0, op0, n, m0, cap0, a, b, t, x, upd fk k (xs (i + 2)), fn, upd fi (4 + k) (xs (i + 2)), fb, ff, fa, fh, fp, ft, tk, g1, g2, g3, g4, g5, g6, g7, g8, hw, Rl_key hR hph hk _⟩ ls hl
    · exact absurd (hp1.trans hp2.symm) c9
  · skip
    refine lv_aload_n S.1 S.2.1 dL_law_112 rfl (lv_at hl 2 rfl) ?_
    refine lv_aload_n S.1 S.2.1 dL_law_113 rfl (lv_at hl 3 rfl) ?_
    refine lv_iload_n S.1 S.2.1 dL_law_114 rfl (lv_at hl 0 rfl) ?_
    refine lv_iconst (v := nI 1) S.1 S.2.1 dL_law_115 (by decide) ?_
    refine lv_iadd S.1 S.2.1 dL_law_116 ?_
    refine te (nI_add _ _) ?_
    refine sl S hX hbl hbA hw (i + 1) rfl (by omega) hL dL_law_117 ?_
    refine lv_aload_n S.1 S.2.1 dL_law_118 rfl (lv_at hl 3 rfl) ?_
    refine lv_iload_n S.1 S.2.1 dL_law_119 rfl (lv_at hl 0 rfl) ?_
    refine lv_iconst (v := nI 2) S.1 S.2.1 dL_law_120 (by decide) ?_
    refine lv_iadd S.1 S.2.1 dL_law_121 ?_
    refine te (nI_add _ _) ?_
    refine sl S hX hbl hbA hw (i + 2) rfl (by omega) hL dL_law_122 ?_
    refine callVI (rest := []) S hK hw hA (kX2_setKeyWord_no l D cA o p0 op0 n m0 cap0 t x tk fi fb ff fa fh fp ft (xs (i + 1)) (xs (i + 2)) hp0 hop hn hm hcap hc) gL_law_X2_setKeyWord rfl 2 rfl (by decide +kernel) ⟨rfl, rfl⟩ ⟨Nat.le_of_ble_eq_true rfl, Nat.le_of_ble_eq_true rfl⟩ ⟨Nat.le_of_ble_eq_true rfl, Nat.le_of_ble_eq_true rfl⟩ [0, 1, 2, 3, 4, 5, 6, 7, 8, 9, 10, 11] rfl (by decide) (fun _ => rfl) 0 rfl rfl rfl hl.1 (Nat.le_of_ble_eq_true rfl) dL_law_123 rfl (fun r1 u1 H locs hp1 hw => ?_)
    rw [sets_lo (by exact (rfl : (12 : Nat) = 12)) (by rfl)] at hw
    have hw : Wd D A s.heap H locs (wX2 o cA cap0 (fun j => nI (t j)) (fun j => nI (x j)) fi fb ff fa fh fp ft tk (nI p0) (nI op0) (nI m0) (nI n) ++ wX3 o2 cA (nI 0) (nI cap0) (nI p0) (nI op0) (nI n) (nI m0) fk fn (fun j => nI (a j)) (fun j => nI (b j)) (fun j => nI (t j)) (fun j => nI (x j)) g1 g2 g3 g4 g5 g6 g7 g8) := hw
    refine lv_aload_n S.1 S.2.1 dL_law_126 rfl (lv_at hl 1 rfl) ?_
    refine lv_aload_n S.1 S.2.1 dL_law_127 rfl (lv_at hl 3 rfl) ?_
    refine lv_iload_n S.1 S.2.1 dL_law_128 rfl (lv_at hl 0 rfl) ?_
    refine lv_iconst (v := nI 1) S.1 S.2.1 dL_law_129 (by decide) ?_
    refine lv_iadd S.1 S.2.1 dL_law_130 ?_
    refine te (nI_add _ _) ?_
    refine sl S hX hbl hbA hw (i + 1) rfl (by omega) hL dL_law_131 ?_
    refine lv_aload_n S.1 S.2.1 dL_law_132 rfl (lv_at hl 3 rfl) ?_
    refine lv_iload_n S.1 S.2.1 dL_law_133 rfl (lv_at hl 0 rfl) ?_
    refine lv_iconst (v := nI 2) S.1 S.2.1 dL_law_134 (by decide) ?_
    refine lv_iadd S.1 S.2.1 dL_law_135 ?_
    refine te (nI_add _ _) ?_
    refine sl S hX hbl hbA hw (i + 2) rfl (by omega) hL dL_law_136 ?_
    refine callVI (rest := [.int r1]) S hK hw hA (kX3_setKeyWord_no l D cA o2 (nI 0) p0 op0 n m0 cap0 a b t x fk fn g1 g2 g3 g4 g5 g6 g7 g8 (xs (i + 1)) (xs (i + 2)) hp0 hop hn hm hcap hc) gL_law_X3_setKeyWord rfl 2 rfl (by decide +kernel) ⟨rfl, rfl⟩ ⟨Nat.le_of_ble_eq_true rfl, Nat.le_of_ble_eq_true rfl⟩ ⟨Nat.le_of_ble_eq_true rfl, Nat.le_of_ble_eq_true rfl⟩ [12, 13, 14, 15, 16, 17, 18, 19, 20, 21, 22, 23, 24, 25, 26] rfl (by decide) (fun _ => rfl) 12 rfl rfl rfl hl.1 (Nat.le_of_ble_eq_true rfl) dL_law_137 rfl (fun r2 u2 H locs hp2 hw => ?_)
    rw [sets_hi (by exact (rfl : (15 : Nat) = 15)) (by rfl)] at hw
    have hw : Wd D A s.heap H locs (wX2 o cA cap0 (fun j => nI (t j)) (fun j => nI (x j)) fi fb ff fa fh fp ft tk (nI p0) (nI op0) (nI m0) (nI n) ++ wX3 o2 cA (nI 0) (nI cap0) (nI p0) (nI op0) (nI n) (nI m0) fk fn (fun j => nI (a j)) (fun j => nI (b j)) (fun j => nI (t j)) (fun j => nI (x j)) g1 g2 g3 g4 g5 g6 g7 g8) := hw
    refine lv_icmp_eq (tgt := 402) S.1 S.2.1 dL_law_140 (by decide) (fun c9 => ?_) (fun c9 => ?_)
    · exact kk H locs ⟨p0, op0, n, m0, cap0, a, b, t, x, fk, fn, fi, fb, ff, fa, fh, fp, ft, tk, g1, g2, g3, g4, g5, g6, g7, g8, hw, hR⟩ ls hl
    · exact absurd (hp1.trans hp2.symm) c9

set_option maxHeartbeats 4000000 in
set_option maxRecDepth 100000 in
theorem lc_setNonceWord {p : Program} {l : Launch} {e : Env} {s : State} {m : MethodId} {ar : Array Value} {below : List Frame} {meth : Method} {c : Code} {D : va_G} {cA : ClassId} {A : Nat → Prop} {Q : State → Prop} {sb L : Nat} {xs : Nat → Int32} {o o2 : Nat → Nat} {H : Heap} {locs : List Loc} {ls : Array Slot} {i : Nat} (S : CallFix p m c code 4 s ar wsL_law RL) (hK : va_K D vwCl [(cA, .int)] s) (hA : ∀ q, s.heap.size ≤ q → A q) (hX : va_X sb L xs s s.heap) (hbl : sb < s.heap.size) (hbA : ¬ A sb) (hL : L ≤ 1537) (hi : i + 2 < L) (hJ : Js D cA o o2 A s.heap H locs) (hl : lv_has ls 4 [(3, .int (nI i)), (2, .ref (o2 0)), (1, .ref (o 0)), (0, .ref sb)]) (kk : ∀ (H : Heap) (locs : List Loc), Js D cA o o2 A s.heap H locs → ∀ ls : Array Slot, lv_has ls 4 [(3, .int (nI i)), (2, .ref (o2 0)), (1, .ref (o 0)), (0, .ref sb)] → W p l e room_1 s m ar below meth c H locs 27 2594 Q (F0 m 402 ls [])) : W p l e room_1 s m ar below meth c H locs 27 2594 Q (F0 m 145 ls []) := by
  obtain ⟨p0, op0, n, m0, cap0, a, b, t, x, fk, fn, fi, fb, ff, fa, fh, fp, ft, tk, g1, g2, g3, g4, g5, g6, g7, g8, hw, hR⟩ := hJ
  obtain ⟨hp0, hop, hn, hm, hcap⟩ := hR.1
  obtain ⟨ha, hb, ht, hx⟩ := hR.2.1
  by_cases hc : p0 = 0 ∧ ∃ k, k < 3 ∧ xs (i + 1) = nI k
  · obtain ⟨hph, k, hk, ek⟩ := hc
    refine lv_aload_n S.1 S.2.1 dL_law_145 rfl (lv_at hl 2 rfl) ?_
    refine lv_aload_n S.1 S.2.1 dL_law_146 rfl (lv_at hl 3 rfl) ?_
    refine lv_iload_n S.1 S.2.1 dL_law_147 rfl (lv_at hl 0 rfl) ?_
    refine lv_iconst (v := nI 1) S.1 S.2.1 dL_law_148 (by decide) ?_
    refine lv_iadd S.1 S.2.1 dL_law_149 ?_
    refine te (nI_add _ _) ?_
    refine sl S hX hbl hbA hw (i + 1) rfl (by omega) hL dL_law_150 ?_
    refine te (y := nI k) ek ?_
    refine lv_aload_n S.1 S.2.1 dL_law_151 rfl (lv_at hl 3 rfl) ?_
    refine lv_iload_n S.1 S.2.1 dL_law_152 rfl (lv_at hl 0 rfl) ?_
    refine lv_iconst (v := nI 2) S.1 S.2.1 dL_law_153 (by decide) ?_
    refine lv_iadd S.1 S.2.1 dL_law_154 ?_
    refine te (nI_add _ _) ?_
    refine sl S hX hbl hbA hw (i + 2) rfl (by omega) hL dL_law_155 ?_
    refine callVI (rest := []) S hK hw hA (kX2_setNonceWord_ok l D cA o p0 op0 n m0 cap0 t x tk fi fb ff fa fh fp ft k (xs (i + 2)) hp0 hop hn hm hcap hk hph) gL_law_X2_setNonceWord rfl 2 rfl (by decide +kernel) ⟨rfl, rfl⟩ ⟨Nat.le_of_ble_eq_true rfl, Nat.le_of_ble_eq_true rfl⟩ ⟨Nat.le_of_ble_eq_true rfl, Nat.le_of_ble_eq_true rfl⟩ [0, 1, 2, 3, 4, 5, 6, 7, 8, 9, 10, 11] rfl (by decide) (fun _ => rfl) 0 rfl rfl rfl hl.1 (Nat.le_of_ble_eq_true rfl) dL_law_156 rfl (fun r1 u1 H locs hp1 hw => ?_)
    rw [sets_lo (by exact (rfl : (12 : Nat) = 12)) (by rfl)] at hw
    have hw : Wd D A s.heap H locs (wX2 o cA cap0 (fun j => nI (t j)) (fun j => nI (x j)) (upd fi (13 + k) (xs (i + 2))) fb ff fa fh fp ft tk (nI p0) (nI op0) (nI m0) (nI n) ++ wX3 o2 cA (nI 0) (nI cap0) (nI p0) (nI op0) (nI n) (nI m0) fk fn (fun j => nI (a j)) (fun j => nI (b j)) (fun j => nI (t j)) (fun j => nI (x j)) g1 g2 g3 g4 g5 g6 g7 g8) := hw
    refine lv_aload_n S.1 S.2.1 dL_law_159 rfl (lv_at hl 1 rfl) ?_
    refine lv_aload_n S.1 S.2.1 dL_law_160 rfl (lv_at hl 3 rfl) ?_
    refine lv_iload_n S.1 S.2.1 dL_law_161 rfl (lv_at hl 0 rfl) ?_
    refine lv_iconst (v := nI 1) S.1 S.2.1 dL_law_162 (by decide) ?_
    refine lv_iadd S.1 S.2.1 dL_law_163 ?_
    refine te (nI_add _ _) ?_
    refine sl S hX hbl hbA hw (i + 1) rfl (by omega) hL dL_law_164 ?_
    refine te (y := nI k) ek ?_
    refine lv_aload_n S.1 S.2.1 dL_law_165 rfl (lv_at hl 3 rfl) ?_
    refine lv_iload_n S.1 S.2.1 dL_law_166 rfl (lv_at hl 0 rfl) ?_
    refine lv_iconst (v := nI 2) S.1 S.2.1 dL_law_167 (by decide) ?_
    refine lv_iadd S.1 S.2.1 dL_law_168 ?_
    refine te (nI_add _ _) ?_
    refine sl S hX hbl hbA hw (i + 2) rfl (by omega) hL dL_law_169 ?_
    refine callVI (rest := [.int r1]) S hK hw hA (kX3_setNonceWord_ok l D cA o2 (nI 0) p0 op0 n m0 cap0 a b t x fk fn g1 g2 g3 g4 g5 g6 g7 g8 k (xs (i + 2)) hp0 hop hn hm hcap hk hph) gL_law_X3_setNonceWord rfl 2 rfl (by decide +kernel) ⟨rfl, rfl⟩ ⟨Nat.le_of_ble_eq_true rfl, Nat.le_of_ble_eq_true rfl⟩ ⟨Nat.le_of_ble_eq_true rfl, Nat.le_of_ble_eq_true rfl⟩ [12, 13, 14, 15, 16, 17, 18, 19, 20, 21, 22, 23, 24, 25, 26] rfl (by decide) (fun _ => rfl) 12 rfl rfl rfl hl.1 (Nat.le_of_ble_eq_true rfl) dL_law_170 rfl (fun r2 u2 H locs hp2 hw => ?_)
    rw [sets_hi (by exact (rfl : (15 : Nat) = 15)) (by rfl)] at hw
    have hw : Wd D A s.heap H locs (wX2 o cA cap0 (fun j => nI (t j)) (fun j => nI (x j)) (upd fi (13 + k) (xs (i + 2))) fb ff fa fh fp ft tk (nI p0) (nI op0) (nI m0) (nI n) ++ wX3 o2 cA (nI 0) (nI cap0) (nI p0) (nI op0) (nI n) (nI m0) fk (upd fn k (xs (i + 2))) (fun j => nI (a j)) (fun j => nI (b j)) (fun j => nI (t j)) (fun j => nI (x j)) g1 g2 g3 g4 g5 g6 g7 g8) := hw
    refine lv_icmp_eq (tgt := 402) S.1 S.2.1 dL_law_173 (by decide) (fun c9 => ?_) (fun c9 => ?_)
    · exact kk H locs ⟨p0, op0, n, m0, cap0, a, b, t, x, fk, upd fn k (xs (i + 2)), upd fi (13 + k) (xs (i + 2)), fb, ff, fa, fh, fp, ft, tk, g1, g2, g3, g4, g5, g6, g7, g8, hw, Rl_non hR hph hk _⟩ ls hl
    · exact absurd (hp1.trans hp2.symm) c9
  · skip
    refine lv_aload_n S.1 S.2.1 dL_law_145 rfl (lv_at hl 2 rfl) ?_
    refine lv_aload_n S.1 S.2.1 dL_law_146 rfl (lv_at hl 3 rfl) ?_
    refine lv_iload_n S.1 S.2.1 dL_law_147 rfl (lv_at hl 0 rfl) ?_
    refine lv_iconst (v := nI 1) S.1 S.2.1 dL_law_148 (by decide) ?_
    refine lv_iadd S.1 S.2.1 dL_law_149 ?_
    refine te (nI_add _ _) ?_
    refine sl S hX hbl hbA hw (i + 1) rfl (by omega) hL dL_law_150 ?_
    refine lv_aload_n S.1 S.2.1 dL_law_151 rfl (lv_at hl 3 rfl) ?_
    refine lv_iload_n S.1 S.2.1 dL_law_152 rfl (lv_at hl 0 rfl) ?_
    refine lv_iconst (v := nI 2) S.1 S.2.1 dL_law_153 (by decide) ?_
    refine lv_iadd S.1 S.2.1 dL_law_154 ?_
    refine te (nI_add _ _) ?_
    refine sl S hX hbl hbA hw (i + 2) rfl (by omega) hL dL_law_155 ?_
    refine callVI (rest := []) S hK hw hA (kX2_setNonceWord_no l D cA o p0 op0 n m0 cap0 t x tk fi fb ff fa fh fp ft (xs (i + 1)) (xs (i + 2)) hp0 hop hn hm hcap hc) gL_law_X2_setNonceWord rfl 2 rfl (by decide +kernel) ⟨rfl, rfl⟩ ⟨Nat.le_of_ble_eq_true rfl, Nat.le_of_ble_eq_true rfl⟩ ⟨Nat.le_of_ble_eq_true rfl, Nat.le_of_ble_eq_true rfl⟩ [0, 1, 2, 3, 4, 5, 6, 7, 8, 9, 10, 11] rfl (by decide) (fun _ => rfl) 0 rfl rfl rfl hl.1 (Nat.le_of_ble_eq_true rfl) dL_law_156 rfl (fun r1 u1 H locs hp1 hw => ?_)
    rw [sets_lo (by exact (rfl : (12 : Nat) = 12)) (by rfl)] at hw
    have hw : Wd D A s.heap H locs (wX2 o cA cap0 (fun j => nI (t j)) (fun j => nI (x j)) fi fb ff fa fh fp ft tk (nI p0) (nI op0) (nI m0) (nI n) ++ wX3 o2 cA (nI 0) (nI cap0) (nI p0) (nI op0) (nI n) (nI m0) fk fn (fun j => nI (a j)) (fun j => nI (b j)) (fun j => nI (t j)) (fun j => nI (x j)) g1 g2 g3 g4 g5 g6 g7 g8) := hw
    refine lv_aload_n S.1 S.2.1 dL_law_159 rfl (lv_at hl 1 rfl) ?_
    refine lv_aload_n S.1 S.2.1 dL_law_160 rfl (lv_at hl 3 rfl) ?_
    refine lv_iload_n S.1 S.2.1 dL_law_161 rfl (lv_at hl 0 rfl) ?_
    refine lv_iconst (v := nI 1) S.1 S.2.1 dL_law_162 (by decide) ?_
    refine lv_iadd S.1 S.2.1 dL_law_163 ?_
    refine te (nI_add _ _) ?_
    refine sl S hX hbl hbA hw (i + 1) rfl (by omega) hL dL_law_164 ?_
    refine lv_aload_n S.1 S.2.1 dL_law_165 rfl (lv_at hl 3 rfl) ?_
    refine lv_iload_n S.1 S.2.1 dL_law_166 rfl (lv_at hl 0 rfl) ?_
    refine lv_iconst (v := nI 2) S.1 S.2.1 dL_law_167 (by decide) ?_
    refine lv_iadd S.1 S.2.1 dL_law_168 ?_
    refine te (nI_add _ _) ?_
    refine sl S hX hbl hbA hw (i + 2) rfl (by omega) hL dL_law_169 ?_
    refine callVI (rest := [.int r1]) S hK hw hA (kX3_setNonceWord_no l D cA o2 (nI 0) p0 op0 n m0 cap0 a b t x fk fn g1 g2 g3 g4 g5 g6 g7 g8 (xs (i + 1)) (xs (i + 2)) hp0 hop hn hm hcap hc) gL_law_X3_setNonceWord rfl 2 rfl (by decide +kernel) ⟨rfl, rfl⟩ ⟨Nat.le_of_ble_eq_true rfl, Nat.le_of_ble_eq_true rfl⟩ ⟨Nat.le_of_ble_eq_true rfl, Nat.le_of_ble_eq_true rfl⟩ [12, 13, 14, 15, 16, 17, 18, 19, 20, 21, 22, 23, 24, 25, 26] rfl (by decide) (fun _ => rfl) 12 rfl rfl rfl hl.1 (Nat.le_of_ble_eq_true rfl) dL_law_170 rfl (fun r2 u2 H locs hp2 hw => ?_)
    rw [sets_hi (by exact (rfl : (15 : Nat) = 15)) (by rfl)] at hw
    have hw : Wd D A s.heap H locs (wX2 o cA cap0 (fun j => nI (t j)) (fun j => nI (x j)) fi fb ff fa fh fp ft tk (nI p0) (nI op0) (nI m0) (nI n) ++ wX3 o2 cA (nI 0) (nI cap0) (nI p0) (nI op0) (nI n) (nI m0) fk fn (fun j => nI (a j)) (fun j => nI (b j)) (fun j => nI (t j)) (fun j => nI (x j)) g1 g2 g3 g4 g5 g6 g7 g8) := hw
    refine lv_icmp_eq (tgt := 402) S.1 S.2.1 dL_law_173 (by decide) (fun c9 => ?_) (fun c9 => ?_)
    · exact kk H locs ⟨p0, op0, n, m0, cap0, a, b, t, x, fk, fn, fi, fb, ff, fa, fh, fp, ft, tk, g1, g2, g3, g4, g5, g6, g7, g8, hw, hR⟩ ls hl
    · exact absurd (hp1.trans hp2.symm) c9

set_option maxHeartbeats 4000000 in
set_option maxRecDepth 100000 in
theorem lc_begin {p : Program} {l : Launch} {e : Env} {s : State} {m : MethodId} {ar : Array Value} {below : List Frame} {meth : Method} {c : Code} {D : va_G} {cA : ClassId} {A : Nat → Prop} {Q : State → Prop} {sb L : Nat} {xs : Nat → Int32} {o o2 : Nat → Nat} {H : Heap} {locs : List Loc} {ls : Array Slot} {i : Nat} (S : CallFix p m c code 4 s ar wsL_law RL) (hK : va_K D vwCl [(cA, .int)] s) (hA : ∀ q, s.heap.size ≤ q → A q) (hX : va_X sb L xs s s.heap) (hbl : sb < s.heap.size) (hbA : ¬ A sb) (hL : L ≤ 1537) (hi : i + 2 < L) (hJ : Js D cA o o2 A s.heap H locs) (hl : lv_has ls 4 [(3, .int (nI i)), (2, .ref (o2 0)), (1, .ref (o 0)), (0, .ref sb)]) (kk : ∀ (H : Heap) (locs : List Loc), Js D cA o o2 A s.heap H locs → ∀ ls : Array Slot, lv_has ls 4 [(3, .int (nI i)), (2, .ref (o2 0)), (1, .ref (o 0)), (0, .ref sb)] → W p l e room_1 s m ar below meth c H locs 27 2594 Q (F0 m 402 ls [])) : W p l e room_1 s m ar below meth c H locs 27 2594 Q (F0 m 178 ls []) := by
  obtain ⟨p0, op0, n, m0, cap0, a, b, t, x, fk, fn, fi, fb, ff, fa, fh, fp, ft, tk, g1, g2, g3, g4, g5, g6, g7, g8, hw, hR⟩ := hJ
  obtain ⟨hp0, hop, hn, hm, hcap⟩ := hR.1
  obtain ⟨ha, hb, ht, hx⟩ := hR.2.1
  by_cases hc : p0 = 0 ∧ ∃ k, k < 2 ∧ xs (i + 1) = nI k
  · obtain ⟨hph, k, hk, ek⟩ := hc
    refine lv_aload_n S.1 S.2.1 dL_law_178 rfl (lv_at hl 2 rfl) ?_
    refine lv_aload_n S.1 S.2.1 dL_law_179 rfl (lv_at hl 3 rfl) ?_
    refine lv_iload_n S.1 S.2.1 dL_law_180 rfl (lv_at hl 0 rfl) ?_
    refine lv_iconst (v := nI 1) S.1 S.2.1 dL_law_181 (by decide) ?_
    refine lv_iadd S.1 S.2.1 dL_law_182 ?_
    refine te (nI_add _ _) ?_
    refine sl S hX hbl hbA hw (i + 1) rfl (by omega) hL dL_law_183 ?_
    refine te (y := nI k) ek ?_
    refine callVI (rest := []) S hK hw hA (kX2_begin_ok l D cA o p0 op0 n m0 cap0 t x tk fi fb ff fa fh fp ft k hp0 hop hn hm hcap (by omega) hph hR.2.2.2.1) gL_law_X2_begin rfl 1 rfl (by decide +kernel) ⟨rfl, rfl⟩ ⟨Nat.le_of_ble_eq_true rfl, Nat.le_of_ble_eq_true rfl⟩ ⟨Nat.le_of_ble_eq_true rfl, Nat.le_of_ble_eq_true rfl⟩ [0, 1, 2, 3, 4, 5, 6, 7, 8, 9, 10, 11] rfl (by decide) (fun _ => rfl) 0 rfl rfl rfl hl.1 (Nat.le_of_ble_eq_true rfl) dL_law_184 rfl (fun r1 u1 H locs hp1 hw => ?_)
    rw [sets_lo (by exact (rfl : (12 : Nat) = 12)) (by rfl)] at hw
    have hw : Wd D A s.heap H locs (wX2 o cA cap0 (fun j => nI (t j)) (fun j => nI ((fun _ => 0) j)) (upd fi 12 (nI 0)) (MB (upd fi 12 (nI 0)) fb) (fun j => nI (rF (MB (upd fi 12 (nI 0)) fb) j)) (fun j => nI (bbn (MB (upd fi 12 (nI 0)) fb) (16 + j))) (hF (0, (fun _ => 0), 0)) fp ft (nI 0) (nI 1) (nI k) (nI 0) (nI 0) ++ wX3 o2 cA (nI 0) (nI cap0) (nI p0) (nI op0) (nI n) (nI m0) fk fn (fun j => nI (a j)) (fun j => nI (b j)) (fun j => nI (t j)) (fun j => nI (x j)) g1 g2 g3 g4 g5 g6 g7 g8) := hw
    refine lv_aload_n S.1 S.2.1 dL_law_187 rfl (lv_at hl 1 rfl) ?_
    refine lv_aload_n S.1 S.2.1 dL_law_188 rfl (lv_at hl 3 rfl) ?_
    refine lv_iload_n S.1 S.2.1 dL_law_189 rfl (lv_at hl 0 rfl) ?_
    refine lv_iconst (v := nI 1) S.1 S.2.1 dL_law_190 (by decide) ?_
    refine lv_iadd S.1 S.2.1 dL_law_191 ?_
    refine te (nI_add _ _) ?_
    refine sl S hX hbl hbA hw (i + 1) rfl (by omega) hL dL_law_192 ?_
    refine te (y := nI k) ek ?_
    refine callVI (rest := [.int r1]) S hK hw hA (kX3_begin_ok l D cA o2 (nI 0) p0 op0 n m0 cap0 a b t x fk fn g1 g2 g3 g4 g5 g6 g7 g8 k hp0 hop hn hm hcap (by omega) hph) gL_law_X3_begin rfl 1 rfl (by decide +kernel) ⟨rfl, rfl⟩ ⟨Nat.le_of_ble_eq_true rfl, Nat.le_of_ble_eq_true rfl⟩ ⟨Nat.le_of_ble_eq_true rfl, Nat.le_of_ble_eq_true rfl⟩ [12, 13, 14, 15, 16, 17, 18, 19, 20, 21, 22, 23, 24, 25, 26] rfl (by decide) (fun _ => rfl) 12 rfl rfl rfl hl.1 (Nat.le_of_ble_eq_true rfl) dL_law_193 rfl (fun r2 u2 H locs hp2 hw => ?_)
    rw [sets_hi (by exact (rfl : (15 : Nat) = 15)) (by rfl)] at hw
    have hw : Wd D A s.heap H locs (wX2 o cA cap0 (fun j => nI (t j)) (fun j => nI ((fun _ => 0) j)) (upd fi 12 (nI 0)) (MB (upd fi 12 (nI 0)) fb) (fun j => nI (rF (MB (upd fi 12 (nI 0)) fb) j)) (fun j => nI (bbn (MB (upd fi 12 (nI 0)) fb) (16 + j))) (hF (0, (fun _ => 0), 0)) fp ft (nI 0) (nI 1) (nI k) (nI 0) (nI 0) ++ wX3 o2 cA (nI 0) (nI cap0) (nI 1) (nI k) (nI 0) (nI 0) fk fn (fun j => nI (a j)) (fun j => nI (b j)) (fun j => nI (t j)) (fun j => nI ((fun _ => 0) j)) g1 g2 g3 g4 g5 g6 g7 g8) := hw
    refine lv_icmp_eq (tgt := 402) S.1 S.2.1 dL_law_196 (by decide) (fun c9 => ?_) (fun c9 => ?_)
    · exact kk H locs ⟨1, k, 0, 0, cap0, a, b, t, (fun _ => 0), fk, fn, upd fi 12 (nI 0), (MB (upd fi 12 (nI 0)) fb), fun j => nI (rF (MB (upd fi 12 (nI 0)) fb) j), fun j => nI (bbn (MB (upd fi 12 (nI 0)) fb) (16 + j)), hF (0, (fun _ => 0), 0), fp, ft, nI 0, g1, g2, g3, g4, g5, g6, g7, g8, hw, Rl_begin hR (by omega)⟩ ls hl
    · exact absurd (hp1.trans hp2.symm) c9
  · skip
    refine lv_aload_n S.1 S.2.1 dL_law_178 rfl (lv_at hl 2 rfl) ?_
    refine lv_aload_n S.1 S.2.1 dL_law_179 rfl (lv_at hl 3 rfl) ?_
    refine lv_iload_n S.1 S.2.1 dL_law_180 rfl (lv_at hl 0 rfl) ?_
    refine lv_iconst (v := nI 1) S.1 S.2.1 dL_law_181 (by decide) ?_
    refine lv_iadd S.1 S.2.1 dL_law_182 ?_
    refine te (nI_add _ _) ?_
    refine sl S hX hbl hbA hw (i + 1) rfl (by omega) hL dL_law_183 ?_
    refine callVI (rest := []) S hK hw hA (kX2_begin_no l D cA o p0 op0 n m0 cap0 t x tk fi fb ff fa fh fp ft (xs (i + 1)) hp0 hop hn hm hcap hc) gL_law_X2_begin rfl 1 rfl (by decide +kernel) ⟨rfl, rfl⟩ ⟨Nat.le_of_ble_eq_true rfl, Nat.le_of_ble_eq_true rfl⟩ ⟨Nat.le_of_ble_eq_true rfl, Nat.le_of_ble_eq_true rfl⟩ [0, 1, 2, 3, 4, 5, 6, 7, 8, 9, 10, 11] rfl (by decide) (fun _ => rfl) 0 rfl rfl rfl hl.1 (Nat.le_of_ble_eq_true rfl) dL_law_184 rfl (fun r1 u1 H locs hp1 hw => ?_)
    rw [sets_lo (by exact (rfl : (12 : Nat) = 12)) (by rfl)] at hw
    have hw : Wd D A s.heap H locs (wX2 o cA cap0 (fun j => nI (t j)) (fun j => nI (x j)) fi fb ff fa fh fp ft tk (nI p0) (nI op0) (nI m0) (nI n) ++ wX3 o2 cA (nI 0) (nI cap0) (nI p0) (nI op0) (nI n) (nI m0) fk fn (fun j => nI (a j)) (fun j => nI (b j)) (fun j => nI (t j)) (fun j => nI (x j)) g1 g2 g3 g4 g5 g6 g7 g8) := hw
    refine lv_aload_n S.1 S.2.1 dL_law_187 rfl (lv_at hl 1 rfl) ?_
    refine lv_aload_n S.1 S.2.1 dL_law_188 rfl (lv_at hl 3 rfl) ?_
    refine lv_iload_n S.1 S.2.1 dL_law_189 rfl (lv_at hl 0 rfl) ?_
    refine lv_iconst (v := nI 1) S.1 S.2.1 dL_law_190 (by decide) ?_
    refine lv_iadd S.1 S.2.1 dL_law_191 ?_
    refine te (nI_add _ _) ?_
    refine sl S hX hbl hbA hw (i + 1) rfl (by omega) hL dL_law_192 ?_
    refine callVI (rest := [.int r1]) S hK hw hA (kX3_begin_no l D cA o2 (nI 0) p0 op0 n m0 cap0 a b t x fk fn g1 g2 g3 g4 g5 g6 g7 g8 (xs (i + 1)) hp0 hop hn hm hcap hc) gL_law_X3_begin rfl 1 rfl (by decide +kernel) ⟨rfl, rfl⟩ ⟨Nat.le_of_ble_eq_true rfl, Nat.le_of_ble_eq_true rfl⟩ ⟨Nat.le_of_ble_eq_true rfl, Nat.le_of_ble_eq_true rfl⟩ [12, 13, 14, 15, 16, 17, 18, 19, 20, 21, 22, 23, 24, 25, 26] rfl (by decide) (fun _ => rfl) 12 rfl rfl rfl hl.1 (Nat.le_of_ble_eq_true rfl) dL_law_193 rfl (fun r2 u2 H locs hp2 hw => ?_)
    rw [sets_hi (by exact (rfl : (15 : Nat) = 15)) (by rfl)] at hw
    have hw : Wd D A s.heap H locs (wX2 o cA cap0 (fun j => nI (t j)) (fun j => nI (x j)) fi fb ff fa fh fp ft tk (nI p0) (nI op0) (nI m0) (nI n) ++ wX3 o2 cA (nI 0) (nI cap0) (nI p0) (nI op0) (nI n) (nI m0) fk fn (fun j => nI (a j)) (fun j => nI (b j)) (fun j => nI (t j)) (fun j => nI (x j)) g1 g2 g3 g4 g5 g6 g7 g8) := hw
    refine lv_icmp_eq (tgt := 402) S.1 S.2.1 dL_law_196 (by decide) (fun c9 => ?_) (fun c9 => ?_)
    · exact kk H locs ⟨p0, op0, n, m0, cap0, a, b, t, x, fk, fn, fi, fb, ff, fa, fh, fp, ft, tk, g1, g2, g3, g4, g5, g6, g7, g8, hw, hR⟩ ls hl
    · exact absurd (hp1.trans hp2.symm) c9

set_option maxHeartbeats 4000000 in
set_option maxRecDepth 100000 in
theorem lc_aad {p : Program} {l : Launch} {e : Env} {s : State} {m : MethodId} {ar : Array Value} {below : List Frame} {meth : Method} {c : Code} {D : va_G} {cA : ClassId} {A : Nat → Prop} {Q : State → Prop} {sb L : Nat} {xs : Nat → Int32} {o o2 : Nat → Nat} {H : Heap} {locs : List Loc} {ls : Array Slot} {i : Nat} (S : CallFix p m c code 4 s ar wsL_law RL) (hK : va_K D vwCl [(cA, .int)] s) (hA : ∀ q, s.heap.size ≤ q → A q) (hX : va_X sb L xs s s.heap) (hbl : sb < s.heap.size) (hbA : ¬ A sb) (hL : L ≤ 1537) (hi : i + 2 < L) (hJ : Js D cA o o2 A s.heap H locs) (hl : lv_has ls 4 [(3, .int (nI i)), (2, .ref (o2 0)), (1, .ref (o 0)), (0, .ref sb)]) (kk : ∀ (H : Heap) (locs : List Loc), Js D cA o o2 A s.heap H locs → ∀ ls : Array Slot, lv_has ls 4 [(3, .int (nI i)), (2, .ref (o2 0)), (1, .ref (o 0)), (0, .ref sb)] → W p l e room_1 s m ar below meth c H locs 27 2594 Q (F0 m 402 ls [])) : W p l e room_1 s m ar below meth c H locs 27 2594 Q (F0 m 201 ls []) := by
  obtain ⟨p0, op0, n, m0, cap0, a, b, t, x, fk, fn, fi, fb, ff, fa, fh, fp, ft, tk, g1, g2, g3, g4, g5, g6, g7, g8, hw, hR⟩ := hJ
  obtain ⟨hp0, hop, hn, hm, hcap⟩ := hR.1
  obtain ⟨ha, hb, ht, hx⟩ := hR.2.1
  by_cases hc : p0 = 1 ∧ (∃ k, k < 256 ∧ xs (i + 1) = nI k) ∧ n < 1000
  · obtain ⟨hph, ⟨k, hk, ek⟩, hn2⟩ := hc
    obtain ⟨B0, T, hB, rfl, rfl, rfl, rfl, hok, h1, -⟩ := hR.2.2.2.2.1 (Or.inl hph)
    obtain ⟨hm0, hc1⟩ := h1 hph
    refine lv_aload_n S.1 S.2.1 dL_law_201 rfl (lv_at hl 2 rfl) ?_
    refine lv_aload_n S.1 S.2.1 dL_law_202 rfl (lv_at hl 3 rfl) ?_
    refine lv_iload_n S.1 S.2.1 dL_law_203 rfl (lv_at hl 0 rfl) ?_
    refine lv_iconst (v := nI 1) S.1 S.2.1 dL_law_204 (by decide) ?_
    refine lv_iadd S.1 S.2.1 dL_law_205 ?_
    refine te (nI_add _ _) ?_
    refine sl S hX hbl hbA hw (i + 1) rfl (by omega) hL dL_law_206 ?_
    refine te (y := nI k) ek ?_
    refine callVI (rest := []) S hK hw hA (kX2_aad_ok l D cA o p0 op0 n m0 cap0 t x (rF B0) (sB B0) T fi fb fp ft k hp0 hop hn hm hcap hok (fun j _ => rF_le B0 j) hk hph hn2) gL_law_X2_aad rfl 1 rfl (by decide +kernel) ⟨rfl, rfl⟩ ⟨Nat.le_of_ble_eq_true rfl, Nat.le_of_ble_eq_true rfl⟩ ⟨Nat.le_of_ble_eq_true rfl, Nat.le_of_ble_eq_true rfl⟩ [0, 1, 2, 3, 4, 5, 6, 7, 8, 9, 10, 11] rfl (by decide) (fun _ => rfl) 0 rfl rfl rfl hl.1 (Nat.le_of_ble_eq_true rfl) dL_law_207 rfl (fun r1 u1 H locs hp1 hw => ?_)
    rw [sets_lo (by exact (rfl : (12 : Nat) = 12)) (by rfl)] at hw
    have hw : Wd D A s.heap H locs (wX2 o cA cap0 (fun j => nI (t j)) (fun j => nI (x j)) fi fb (fun j => nI (rF B0 j)) (fun j => nI (sB B0 j)) (hF (tk1 (rF B0) T k)) u1 ft (nI (tk1 (rF B0) T k).2.2) (nI p0) (nI op0) (nI m0) (nI (n + 1)) ++ wX3 o2 cA (nI 0) (nI cap0) (nI p0) (nI op0) (nI n) (nI m0) fk fn (fun j => nI (a j)) (fun j => nI (b j)) (fun j => nI (t j)) (fun j => nI (x j)) g1 g2 g3 g4 g5 g6 g7 g8) := hw
    refine lv_aload_n S.1 S.2.1 dL_law_210 rfl (lv_at hl 1 rfl) ?_
    refine lv_aload_n S.1 S.2.1 dL_law_211 rfl (lv_at hl 3 rfl) ?_
    refine lv_iload_n S.1 S.2.1 dL_law_212 rfl (lv_at hl 0 rfl) ?_
    refine lv_iconst (v := nI 1) S.1 S.2.1 dL_law_213 (by decide) ?_
    refine lv_iadd S.1 S.2.1 dL_law_214 ?_
    refine te (nI_add _ _) ?_
    refine sl S hX hbl hbA hw (i + 1) rfl (by omega) hL dL_law_215 ?_
    refine te (y := nI k) ek ?_
    refine callVI (rest := [.int r1]) S hK hw hA (kX3_aad_ok l D cA o2 (nI 0) p0 op0 n m0 cap0 a b t x fk fn g1 g2 g3 g4 g5 g6 g7 g8 k hp0 hop hn hm hcap hk hph hn2) gL_law_X3_aad rfl 1 rfl (by decide +kernel) ⟨rfl, rfl⟩ ⟨Nat.le_of_ble_eq_true rfl, Nat.le_of_ble_eq_true rfl⟩ ⟨Nat.le_of_ble_eq_true rfl, Nat.le_of_ble_eq_true rfl⟩ [12, 13, 14, 15, 16, 17, 18, 19, 20, 21, 22, 23, 24, 25, 26] rfl (by decide) (fun _ => rfl) 12 rfl rfl rfl hl.1 (Nat.le_of_ble_eq_true rfl) dL_law_216 rfl (fun r2 u2 H locs hp2 hw => ?_)
    rw [sets_hi (by exact (rfl : (15 : Nat) = 15)) (by rfl)] at hw
    have hw : Wd D A s.heap H locs (wX2 o cA cap0 (fun j => nI (t j)) (fun j => nI (x j)) fi fb (fun j => nI (rF B0 j)) (fun j => nI (sB B0 j)) (hF (tk1 (rF B0) T k)) u1 ft (nI (tk1 (rF B0) T k).2.2) (nI p0) (nI op0) (nI m0) (nI (n + 1)) ++ wX3 o2 cA (nI 0) (nI cap0) (nI p0) (nI op0) (nI (n + 1)) (nI m0) fk fn (fun j => nI (updN a n k j)) (fun j => nI (b j)) (fun j => nI (t j)) (fun j => nI (x j)) g1 g2 g3 g4 g5 g6 g7 g8) := hw
    refine lv_icmp_eq (tgt := 402) S.1 S.2.1 dL_law_219 (by decide) (fun c9 => ?_) (fun c9 => ?_)
    · exact kk H locs ⟨p0, op0, n + 1, m0, cap0, updN a n k, b, t, x, fk, fn, fi, fb, fun j => nI (rF B0 j), fun j => nI (sB B0 j), hF (tk1 (rF B0) T k), u1, ft, nI (tk1 (rF B0) T k).2.2, g1, g2, g3, g4, g5, g6, g7, g8, hw, Rl_aad hR hB hok hph hn2 hk hm0 hc1⟩ ls hl
    · exact absurd (hp1.trans hp2.symm) c9
  · skip
    refine lv_aload_n S.1 S.2.1 dL_law_201 rfl (lv_at hl 2 rfl) ?_
    refine lv_aload_n S.1 S.2.1 dL_law_202 rfl (lv_at hl 3 rfl) ?_
    refine lv_iload_n S.1 S.2.1 dL_law_203 rfl (lv_at hl 0 rfl) ?_
    refine lv_iconst (v := nI 1) S.1 S.2.1 dL_law_204 (by decide) ?_
    refine lv_iadd S.1 S.2.1 dL_law_205 ?_
    refine te (nI_add _ _) ?_
    refine sl S hX hbl hbA hw (i + 1) rfl (by omega) hL dL_law_206 ?_
    refine callVI (rest := []) S hK hw hA (kX2_aad_no l D cA o p0 op0 n m0 cap0 t x tk fi fb ff fa fh fp ft (xs (i + 1)) hp0 hop hn hm hcap hc) gL_law_X2_aad rfl 1 rfl (by decide +kernel) ⟨rfl, rfl⟩ ⟨Nat.le_of_ble_eq_true rfl, Nat.le_of_ble_eq_true rfl⟩ ⟨Nat.le_of_ble_eq_true rfl, Nat.le_of_ble_eq_true rfl⟩ [0, 1, 2, 3, 4, 5, 6, 7, 8, 9, 10, 11] rfl (by decide) (fun _ => rfl) 0 rfl rfl rfl hl.1 (Nat.le_of_ble_eq_true rfl) dL_law_207 rfl (fun r1 u1 H locs hp1 hw => ?_)
    rw [sets_lo (by exact (rfl : (12 : Nat) = 12)) (by rfl)] at hw
    have hw : Wd D A s.heap H locs (wX2 o cA cap0 (fun j => nI (t j)) (fun j => nI (x j)) fi fb ff fa fh fp ft tk (nI p0) (nI op0) (nI m0) (nI n) ++ wX3 o2 cA (nI 0) (nI cap0) (nI p0) (nI op0) (nI n) (nI m0) fk fn (fun j => nI (a j)) (fun j => nI (b j)) (fun j => nI (t j)) (fun j => nI (x j)) g1 g2 g3 g4 g5 g6 g7 g8) := hw
    refine lv_aload_n S.1 S.2.1 dL_law_210 rfl (lv_at hl 1 rfl) ?_
    refine lv_aload_n S.1 S.2.1 dL_law_211 rfl (lv_at hl 3 rfl) ?_
    refine lv_iload_n S.1 S.2.1 dL_law_212 rfl (lv_at hl 0 rfl) ?_
    refine lv_iconst (v := nI 1) S.1 S.2.1 dL_law_213 (by decide) ?_
    refine lv_iadd S.1 S.2.1 dL_law_214 ?_
    refine te (nI_add _ _) ?_
    refine sl S hX hbl hbA hw (i + 1) rfl (by omega) hL dL_law_215 ?_
    refine callVI (rest := [.int r1]) S hK hw hA (kX3_aad_no l D cA o2 (nI 0) p0 op0 n m0 cap0 a b t x fk fn g1 g2 g3 g4 g5 g6 g7 g8 (xs (i + 1)) hp0 hop hn hm hcap hc) gL_law_X3_aad rfl 1 rfl (by decide +kernel) ⟨rfl, rfl⟩ ⟨Nat.le_of_ble_eq_true rfl, Nat.le_of_ble_eq_true rfl⟩ ⟨Nat.le_of_ble_eq_true rfl, Nat.le_of_ble_eq_true rfl⟩ [12, 13, 14, 15, 16, 17, 18, 19, 20, 21, 22, 23, 24, 25, 26] rfl (by decide) (fun _ => rfl) 12 rfl rfl rfl hl.1 (Nat.le_of_ble_eq_true rfl) dL_law_216 rfl (fun r2 u2 H locs hp2 hw => ?_)
    rw [sets_hi (by exact (rfl : (15 : Nat) = 15)) (by rfl)] at hw
    have hw : Wd D A s.heap H locs (wX2 o cA cap0 (fun j => nI (t j)) (fun j => nI (x j)) fi fb ff fa fh fp ft tk (nI p0) (nI op0) (nI m0) (nI n) ++ wX3 o2 cA (nI 0) (nI cap0) (nI p0) (nI op0) (nI n) (nI m0) fk fn (fun j => nI (a j)) (fun j => nI (b j)) (fun j => nI (t j)) (fun j => nI (x j)) g1 g2 g3 g4 g5 g6 g7 g8) := hw
    refine lv_icmp_eq (tgt := 402) S.1 S.2.1 dL_law_219 (by decide) (fun c9 => ?_) (fun c9 => ?_)
    · exact kk H locs ⟨p0, op0, n, m0, cap0, a, b, t, x, fk, fn, fi, fb, ff, fa, fh, fp, ft, tk, g1, g2, g3, g4, g5, g6, g7, g8, hw, hR⟩ ls hl
    · exact absurd (hp1.trans hp2.symm) c9

set_option maxHeartbeats 4000000 in
set_option maxRecDepth 100000 in
theorem lc_data {p : Program} {l : Launch} {e : Env} {s : State} {m : MethodId} {ar : Array Value} {below : List Frame} {meth : Method} {c : Code} {D : va_G} {cA : ClassId} {A : Nat → Prop} {Q : State → Prop} {sb L : Nat} {xs : Nat → Int32} {o o2 : Nat → Nat} {H : Heap} {locs : List Loc} {ls : Array Slot} {i : Nat} (S : CallFix p m c code 4 s ar wsL_law RL) (hK : va_K D vwCl [(cA, .int)] s) (hA : ∀ q, s.heap.size ≤ q → A q) (hX : va_X sb L xs s s.heap) (hbl : sb < s.heap.size) (hbA : ¬ A sb) (hL : L ≤ 1537) (hi : i + 2 < L) (hJ : Js D cA o o2 A s.heap H locs) (hl : lv_has ls 4 [(3, .int (nI i)), (2, .ref (o2 0)), (1, .ref (o 0)), (0, .ref sb)]) (kk : ∀ (H : Heap) (locs : List Loc), Js D cA o o2 A s.heap H locs → ∀ ls : Array Slot, lv_has ls 4 [(3, .int (nI i)), (2, .ref (o2 0)), (1, .ref (o 0)), (0, .ref sb)] → W p l e room_1 s m ar below meth c H locs 27 2594 Q (F0 m 402 ls [])) : W p l e room_1 s m ar below meth c H locs 27 2594 Q (F0 m 224 ls []) := by
  obtain ⟨p0, op0, n, m0, cap0, a, b, t, x, fk, fn, fi, fb, ff, fa, fh, fp, ft, tk, g1, g2, g3, g4, g5, g6, g7, g8, hw, hR⟩ := hJ
  obtain ⟨hp0, hop, hn, hm, hcap⟩ := hR.1
  obtain ⟨ha, hb, ht, hx⟩ := hR.2.1
  by_cases hc : (p0 = 1 ∨ p0 = 2) ∧ ∃ k, k < 256 ∧ xs (i + 1) = nI k
  · obtain ⟨hph, k, hk, ek⟩ := hc
    by_cases hm2 : m0 = cap0
    · skip
      refine lv_aload_n S.1 S.2.1 dL_law_224 rfl (lv_at hl 2 rfl) ?_
      refine lv_aload_n S.1 S.2.1 dL_law_225 rfl (lv_at hl 3 rfl) ?_
      refine lv_iload_n S.1 S.2.1 dL_law_226 rfl (lv_at hl 0 rfl) ?_
      refine lv_iconst (v := nI 1) S.1 S.2.1 dL_law_227 (by decide) ?_
      refine lv_iadd S.1 S.2.1 dL_law_228 ?_
      refine te (nI_add _ _) ?_
      refine sl S hX hbl hbA hw (i + 1) rfl (by omega) hL dL_law_229 ?_
      refine te (y := nI k) ek ?_
      refine callVI (rest := []) S hK hw hA (kX2_data_full l D cA o p0 op0 n m0 cap0 t x tk fi fb ff fa fh fp ft k hp0 hop hn hm hcap hk hph hm2) gL_law_X2_data rfl 1 rfl (by decide +kernel) ⟨rfl, rfl⟩ ⟨Nat.le_of_ble_eq_true rfl, Nat.le_of_ble_eq_true rfl⟩ ⟨Nat.le_of_ble_eq_true rfl, Nat.le_of_ble_eq_true rfl⟩ [0, 1, 2, 3, 4, 5, 6, 7, 8, 9, 10, 11] rfl (by decide) (fun _ => rfl) 0 rfl rfl rfl hl.1 (Nat.le_of_ble_eq_true rfl) dL_law_230 rfl (fun r1 u1 H locs hp1 hw => ?_)
      rw [sets_lo (by exact (rfl : (12 : Nat) = 12)) (by rfl)] at hw
      have hw : Wd D A s.heap H locs (wX2 o cA cap0 (fun j => nI (t j)) (fun j => nI (x j)) fi fb ff fa fh fp ft tk (nI p0) (nI op0) (nI m0) (nI n) ++ wX3 o2 cA (nI 0) (nI cap0) (nI p0) (nI op0) (nI n) (nI m0) fk fn (fun j => nI (a j)) (fun j => nI (b j)) (fun j => nI (t j)) (fun j => nI (x j)) g1 g2 g3 g4 g5 g6 g7 g8) := hw
      refine lv_aload_n S.1 S.2.1 dL_law_233 rfl (lv_at hl 1 rfl) ?_
      refine lv_aload_n S.1 S.2.1 dL_law_234 rfl (lv_at hl 3 rfl) ?_
      refine lv_iload_n S.1 S.2.1 dL_law_235 rfl (lv_at hl 0 rfl) ?_
      refine lv_iconst (v := nI 1) S.1 S.2.1 dL_law_236 (by decide) ?_
      refine lv_iadd S.1 S.2.1 dL_law_237 ?_
      refine te (nI_add _ _) ?_
      refine sl S hX hbl hbA hw (i + 1) rfl (by omega) hL dL_law_238 ?_
      refine te (y := nI k) ek ?_
      refine callVI (rest := [.int r1]) S hK hw hA (kX3_data_full l D cA o2 (nI 0) p0 op0 n m0 cap0 a b t x fk fn g1 g2 g3 g4 g5 g6 g7 g8 k hp0 hop hn hm hcap hk hph hm2) gL_law_X3_data rfl 1 rfl (by decide +kernel) ⟨rfl, rfl⟩ ⟨Nat.le_of_ble_eq_true rfl, Nat.le_of_ble_eq_true rfl⟩ ⟨Nat.le_of_ble_eq_true rfl, Nat.le_of_ble_eq_true rfl⟩ [12, 13, 14, 15, 16, 17, 18, 19, 20, 21, 22, 23, 24, 25, 26] rfl (by decide) (fun _ => rfl) 12 rfl rfl rfl hl.1 (Nat.le_of_ble_eq_true rfl) dL_law_239 rfl (fun r2 u2 H locs hp2 hw => ?_)
      rw [sets_hi (by exact (rfl : (15 : Nat) = 15)) (by rfl)] at hw
      have hw : Wd D A s.heap H locs (wX2 o cA cap0 (fun j => nI (t j)) (fun j => nI (x j)) fi fb ff fa fh fp ft tk (nI p0) (nI op0) (nI m0) (nI n) ++ wX3 o2 cA (nI 0) (nI cap0) (nI p0) (nI op0) (nI n) (nI m0) fk fn (fun j => nI (a j)) (fun j => nI (b j)) (fun j => nI (t j)) (fun j => nI (x j)) g1 g2 g3 g4 g5 g6 g7 g8) := hw
      refine lv_icmp_eq (tgt := 402) S.1 S.2.1 dL_law_242 (by decide) (fun c9 => ?_) (fun c9 => ?_)
      · exact kk H locs ⟨p0, op0, n, m0, cap0, a, b, t, x, fk, fn, fi, fb, ff, fa, fh, fp, ft, tk, g1, g2, g3, g4, g5, g6, g7, g8, hw, hR⟩ ls hl
      · exact absurd (hp1.trans hp2.symm) c9
    · have hm3 : m0 < cap0 := by omega
      obtain ⟨B0, T, hB, rfl, rfl, rfl, rfl, hok, h1, h2⟩ := hR.2.2.2.2.1 hph
      rcases hph with hph | hph
      · obtain ⟨hm0, hc1⟩ := h1 hph
        have hbl1 : ¬ m0 % 64 = 0 → E16 fb (CB fk fn (nI (1 + m0 / 64))) := fun z => absurd (show m0 % 64 = 0 by rw [hm0]) z
        have eb : bbn (MB (stF fk fn (nI (1 + m0 / 64))) g2) (m0 % 64) = (bbn (nfb fi fb m0) (m0 % 64)) := bbn_cong (e_tr (e_mb (e_rf _) _ (fun _ => 0)) (e_sy (nb_E hR.2.2.1 m0 hbl1))) (by omega)
        refine lv_aload_n S.1 S.2.1 dL_law_224 rfl (lv_at hl 2 rfl) ?_
        refine lv_aload_n S.1 S.2.1 dL_law_225 rfl (lv_at hl 3 rfl) ?_
        refine lv_iload_n S.1 S.2.1 dL_law_226 rfl (lv_at hl 0 rfl) ?_
        refine lv_iconst (v := nI 1) S.1 S.2.1 dL_law_227 (by decide) ?_
        refine lv_iadd S.1 S.2.1 dL_law_228 ?_
        refine te (nI_add _ _) ?_
        refine sl S hX hbl hbA hw (i + 1) rfl (by omega) hL dL_law_229 ?_
        refine te (y := nI k) ek ?_
        refine callVI (rest := []) S hK hw hA (kX2_data1_ok l D cA o p0 op0 n m0 cap0 t x (rF B0) (sB B0) T fi fb fp ft k hp0 hop hn hm hcap hok (fun j _ => rF_le B0 j) hk hph hm3) gL_law_X2_data rfl 1 rfl (by decide +kernel) ⟨rfl, rfl⟩ ⟨Nat.le_of_ble_eq_true rfl, Nat.le_of_ble_eq_true rfl⟩ ⟨Nat.le_of_ble_eq_true rfl, Nat.le_of_ble_eq_true rfl⟩ [0, 1, 2, 3, 4, 5, 6, 7, 8, 9, 10, 11] rfl (by decide) (fun _ => rfl) 0 rfl rfl rfl hl.1 (Nat.le_of_ble_eq_true rfl) dL_law_230 rfl (fun r1 u1 H locs hp1 hw => ?_)
        rw [sets_lo (by exact (rfl : (12 : Nat) = 12)) (by rfl)] at hw
        have hw : Wd D A s.heap H locs (wX2 o cA cap0 (fun j => nI (updN t m0 (k ^^^ (bbn (nfb fi fb m0) (m0 % 64))) j)) (fun j => nI (x j)) (nfi fi m0) (nfb fi fb m0) (fun j => nI (rF B0 j)) (fun j => nI (sB B0 j)) (hF (tk1 (rF B0) (fl1 (rF B0) T) (if op0 = 0 then (k ^^^ (bbn (nfb fi fb m0) (m0 % 64))) else k))) u1 ft (nI (tk1 (rF B0) (fl1 (rF B0) T) (if op0 = 0 then (k ^^^ (bbn (nfb fi fb m0) (m0 % 64))) else k)).2.2) (nI 2) (nI op0) (nI (m0 + 1)) (nI n) ++ wX3 o2 cA (nI 0) (nI cap0) (nI p0) (nI op0) (nI n) (nI m0) fk fn (fun j => nI (a j)) (fun j => nI (b j)) (fun j => nI (t j)) (fun j => nI (x j)) g1 g2 g3 g4 g5 g6 g7 g8) := hw
        refine lv_aload_n S.1 S.2.1 dL_law_233 rfl (lv_at hl 1 rfl) ?_
        refine lv_aload_n S.1 S.2.1 dL_law_234 rfl (lv_at hl 3 rfl) ?_
        refine lv_iload_n S.1 S.2.1 dL_law_235 rfl (lv_at hl 0 rfl) ?_
        refine lv_iconst (v := nI 1) S.1 S.2.1 dL_law_236 (by decide) ?_
        refine lv_iadd S.1 S.2.1 dL_law_237 ?_
        refine te (nI_add _ _) ?_
        refine sl S hX hbl hbA hw (i + 1) rfl (by omega) hL dL_law_238 ?_
        refine te (y := nI k) ek ?_
        refine callVI (rest := [.int r1]) S hK hw hA (kX3_data_ok l D cA o2 (nI 0) p0 op0 n m0 cap0 a b t x fk fn g1 g2 g3 g4 g5 g6 g7 g8 k hp0 hop hn hm hcap hk (Or.inl hph) hm3) gL_law_X3_data rfl 1 rfl (by decide +kernel) ⟨rfl, rfl⟩ ⟨Nat.le_of_ble_eq_true rfl, Nat.le_of_ble_eq_true rfl⟩ ⟨Nat.le_of_ble_eq_true rfl, Nat.le_of_ble_eq_true rfl⟩ [12, 13, 14, 15, 16, 17, 18, 19, 20, 21, 22, 23, 24, 25, 26] rfl (by decide) (fun _ => rfl) 12 rfl rfl rfl hl.1 (Nat.le_of_ble_eq_true rfl) dL_law_239 rfl (fun r2 u2 H locs hp2 hw => ?_)
        rw [sets_hi (by exact (rfl : (15 : Nat) = 15)) (by rfl)] at hw
        have hw : Wd D A s.heap H locs (wX2 o cA cap0 (fun j => nI (updN t m0 (k ^^^ (bbn (nfb fi fb m0) (m0 % 64))) j)) (fun j => nI (x j)) (nfi fi m0) (nfb fi fb m0) (fun j => nI (rF B0 j)) (fun j => nI (sB B0 j)) (hF (tk1 (rF B0) (fl1 (rF B0) T) (if op0 = 0 then (k ^^^ (bbn (nfb fi fb m0) (m0 % 64))) else k))) u1 ft (nI (tk1 (rF B0) (fl1 (rF B0) T) (if op0 = 0 then (k ^^^ (bbn (nfb fi fb m0) (m0 % 64))) else k)).2.2) (nI 2) (nI op0) (nI (m0 + 1)) (nI n) ++ wX3 o2 cA (nI 0) (nI cap0) (nI 2) (nI op0) (nI n) (nI (m0 + 1)) fk fn (fun j => nI (a j)) (fun j => nI (updN b m0 k j)) (fun j => nI (updN t m0 (k ^^^ bbn (MB (stF fk fn (nI (1 + m0 / 64))) g2) (m0 % 64)) j)) (fun j => nI (x j)) (stF fk fn (nI (1 + m0 / 64))) (MB (stF fk fn (nI (1 + m0 / 64))) g2) g3 g4 g5 g6 g7 g8) := hw
        rw [eb] at hw hp2
        refine lv_icmp_eq (tgt := 402) S.1 S.2.1 dL_law_242 (by decide) (fun c9 => ?_) (fun c9 => ?_)
        · exact kk H locs ⟨2, op0, n, m0 + 1, cap0, a, updN b m0 k, updN t m0 (k ^^^ (bbn (nfb fi fb m0) (m0 % 64))), x, fk, fn, nfi fi m0, nfb fi fb m0, fun j => nI (rF B0 j), fun j => nI (sB B0 j), hF (tk1 (rF B0) (fl1 (rF B0) T) (if op0 = 0 then (k ^^^ (bbn (nfb fi fb m0) (m0 % 64))) else k)), u1, ft, nI (tk1 (rF B0) (fl1 (rF B0) T) (if op0 = 0 then (k ^^^ (bbn (nfb fi fb m0) (m0 % 64))) else k)).2.2, stF fk fn (nI (1 + m0 / 64)), (MB (stF fk fn (nI (1 + m0 / 64))) g2), g3, g4, g5, g6, g7, g8, hw, Rl_data (T := T) hR hB (fl1_ok hok) hm3 hk (xor_lt hk (bbn_lt _ _)) (by subst hm0; exact relC_fill (fun j _ => rF_le B0 j) (rF_16 B0) hok hc1 _) hbl1⟩ ls hl
        · exact absurd (hp1.trans hp2.symm) c9
      · obtain ⟨hc1, hbl1⟩ := h2 hph
        have eb : bbn (MB (stF fk fn (nI (1 + m0 / 64))) g2) (m0 % 64) = (bbn (nfb fi fb m0) (m0 % 64)) := bbn_cong (e_tr (e_mb (e_rf _) _ (fun _ => 0)) (e_sy (nb_E hR.2.2.1 m0 hbl1))) (by omega)
        refine lv_aload_n S.1 S.2.1 dL_law_224 rfl (lv_at hl 2 rfl) ?_
        refine lv_aload_n S.1 S.2.1 dL_law_225 rfl (lv_at hl 3 rfl) ?_
        refine lv_iload_n S.1 S.2.1 dL_law_226 rfl (lv_at hl 0 rfl) ?_
        refine lv_iconst (v := nI 1) S.1 S.2.1 dL_law_227 (by decide) ?_
        refine lv_iadd S.1 S.2.1 dL_law_228 ?_
        refine te (nI_add _ _) ?_
        refine sl S hX hbl hbA hw (i + 1) rfl (by omega) hL dL_law_229 ?_
        refine te (y := nI k) ek ?_
        refine callVI (rest := []) S hK hw hA (kX2_data2_ok l D cA o p0 op0 n m0 cap0 t x (rF B0) (sB B0) T fi fb fp ft k hp0 hop hn hm hcap hok (fun j _ => rF_le B0 j) hk hph hm3) gL_law_X2_data rfl 1 rfl (by decide +kernel) ⟨rfl, rfl⟩ ⟨Nat.le_of_ble_eq_true rfl, Nat.le_of_ble_eq_true rfl⟩ ⟨Nat.le_of_ble_eq_true rfl, Nat.le_of_ble_eq_true rfl⟩ [0, 1, 2, 3, 4, 5, 6, 7, 8, 9, 10, 11] rfl (by decide) (fun _ => rfl) 0 rfl rfl rfl hl.1 (Nat.le_of_ble_eq_true rfl) dL_law_230 rfl (fun r1 u1 H locs hp1 hw => ?_)
        rw [sets_lo (by exact (rfl : (12 : Nat) = 12)) (by rfl)] at hw
        have hw : Wd D A s.heap H locs (wX2 o cA cap0 (fun j => nI (updN t m0 (k ^^^ (bbn (nfb fi fb m0) (m0 % 64))) j)) (fun j => nI (x j)) (nfi fi m0) (nfb fi fb m0) (fun j => nI (rF B0 j)) (fun j => nI (sB B0 j)) (hF (tk1 (rF B0) T (if op0 = 0 then (k ^^^ (bbn (nfb fi fb m0) (m0 % 64))) else k))) u1 ft (nI (tk1 (rF B0) T (if op0 = 0 then (k ^^^ (bbn (nfb fi fb m0) (m0 % 64))) else k)).2.2) (nI p0) (nI op0) (nI (m0 + 1)) (nI n) ++ wX3 o2 cA (nI 0) (nI cap0) (nI p0) (nI op0) (nI n) (nI m0) fk fn (fun j => nI (a j)) (fun j => nI (b j)) (fun j => nI (t j)) (fun j => nI (x j)) g1 g2 g3 g4 g5 g6 g7 g8) := hw
        refine lv_aload_n S.1 S.2.1 dL_law_233 rfl (lv_at hl 1 rfl) ?_
        refine lv_aload_n S.1 S.2.1 dL_law_234 rfl (lv_at hl 3 rfl) ?_
        refine lv_iload_n S.1 S.2.1 dL_law_235 rfl (lv_at hl 0 rfl) ?_
        refine lv_iconst (v := nI 1) S.1 S.2.1 dL_law_236 (by decide) ?_
        refine lv_iadd S.1 S.2.1 dL_law_237 ?_
        refine te (nI_add _ _) ?_
        refine sl S hX hbl hbA hw (i + 1) rfl (by omega) hL dL_law_238 ?_
        refine te (y := nI k) ek ?_
        refine callVI (rest := [.int r1]) S hK hw hA (kX3_data_ok l D cA o2 (nI 0) p0 op0 n m0 cap0 a b t x fk fn g1 g2 g3 g4 g5 g6 g7 g8 k hp0 hop hn hm hcap hk (Or.inr hph) hm3) gL_law_X3_data rfl 1 rfl (by decide +kernel) ⟨rfl, rfl⟩ ⟨Nat.le_of_ble_eq_true rfl, Nat.le_of_ble_eq_true rfl⟩ ⟨Nat.le_of_ble_eq_true rfl, Nat.le_of_ble_eq_true rfl⟩ [12, 13, 14, 15, 16, 17, 18, 19, 20, 21, 22, 23, 24, 25, 26] rfl (by decide) (fun _ => rfl) 12 rfl rfl rfl hl.1 (Nat.le_of_ble_eq_true rfl) dL_law_239 rfl (fun r2 u2 H locs hp2 hw => ?_)
        rw [sets_hi (by exact (rfl : (15 : Nat) = 15)) (by rfl)] at hw
        have hw : Wd D A s.heap H locs (wX2 o cA cap0 (fun j => nI (updN t m0 (k ^^^ (bbn (nfb fi fb m0) (m0 % 64))) j)) (fun j => nI (x j)) (nfi fi m0) (nfb fi fb m0) (fun j => nI (rF B0 j)) (fun j => nI (sB B0 j)) (hF (tk1 (rF B0) T (if op0 = 0 then (k ^^^ (bbn (nfb fi fb m0) (m0 % 64))) else k))) u1 ft (nI (tk1 (rF B0) T (if op0 = 0 then (k ^^^ (bbn (nfb fi fb m0) (m0 % 64))) else k)).2.2) (nI p0) (nI op0) (nI (m0 + 1)) (nI n) ++ wX3 o2 cA (nI 0) (nI cap0) (nI 2) (nI op0) (nI n) (nI (m0 + 1)) fk fn (fun j => nI (a j)) (fun j => nI (updN b m0 k j)) (fun j => nI (updN t m0 (k ^^^ bbn (MB (stF fk fn (nI (1 + m0 / 64))) g2) (m0 % 64)) j)) (fun j => nI (x j)) (stF fk fn (nI (1 + m0 / 64))) (MB (stF fk fn (nI (1 + m0 / 64))) g2) g3 g4 g5 g6 g7 g8) := hw
        rw [eb] at hw hp2
        rw [hph] at hw
        refine lv_icmp_eq (tgt := 402) S.1 S.2.1 dL_law_242 (by decide) (fun c9 => ?_) (fun c9 => ?_)
        · exact kk H locs ⟨2, op0, n, m0 + 1, cap0, a, updN b m0 k, updN t m0 (k ^^^ (bbn (nfb fi fb m0) (m0 % 64))), x, fk, fn, nfi fi m0, nfb fi fb m0, fun j => nI (rF B0 j), fun j => nI (sB B0 j), hF (tk1 (rF B0) T (if op0 = 0 then (k ^^^ (bbn (nfb fi fb m0) (m0 % 64))) else k)), u1, ft, nI (tk1 (rF B0) T (if op0 = 0 then (k ^^^ (bbn (nfb fi fb m0) (m0 % 64))) else k)).2.2, stF fk fn (nI (1 + m0 / 64)), (MB (stF fk fn (nI (1 + m0 / 64))) g2), g3, g4, g5, g6, g7, g8, hw, Rl_data (T := T) hR hB hok hm3 hk (xor_lt hk (bbn_lt _ _)) hc1 hbl1⟩ ls hl
        · exact absurd (hp1.trans hp2.symm) c9
  · skip
    refine lv_aload_n S.1 S.2.1 dL_law_224 rfl (lv_at hl 2 rfl) ?_
    refine lv_aload_n S.1 S.2.1 dL_law_225 rfl (lv_at hl 3 rfl) ?_
    refine lv_iload_n S.1 S.2.1 dL_law_226 rfl (lv_at hl 0 rfl) ?_
    refine lv_iconst (v := nI 1) S.1 S.2.1 dL_law_227 (by decide) ?_
    refine lv_iadd S.1 S.2.1 dL_law_228 ?_
    refine te (nI_add _ _) ?_
    refine sl S hX hbl hbA hw (i + 1) rfl (by omega) hL dL_law_229 ?_
    refine callVI (rest := []) S hK hw hA (kX2_data_no l D cA o p0 op0 n m0 cap0 t x tk fi fb ff fa fh fp ft (xs (i + 1)) hp0 hop hn hm hcap hc) gL_law_X2_data rfl 1 rfl (by decide +kernel) ⟨rfl, rfl⟩ ⟨Nat.le_of_ble_eq_true rfl, Nat.le_of_ble_eq_true rfl⟩ ⟨Nat.le_of_ble_eq_true rfl, Nat.le_of_ble_eq_true rfl⟩ [0, 1, 2, 3, 4, 5, 6, 7, 8, 9, 10, 11] rfl (by decide) (fun _ => rfl) 0 rfl rfl rfl hl.1 (Nat.le_of_ble_eq_true rfl) dL_law_230 rfl (fun r1 u1 H locs hp1 hw => ?_)
    rw [sets_lo (by exact (rfl : (12 : Nat) = 12)) (by rfl)] at hw
    have hw : Wd D A s.heap H locs (wX2 o cA cap0 (fun j => nI (t j)) (fun j => nI (x j)) fi fb ff fa fh fp ft tk (nI p0) (nI op0) (nI m0) (nI n) ++ wX3 o2 cA (nI 0) (nI cap0) (nI p0) (nI op0) (nI n) (nI m0) fk fn (fun j => nI (a j)) (fun j => nI (b j)) (fun j => nI (t j)) (fun j => nI (x j)) g1 g2 g3 g4 g5 g6 g7 g8) := hw
    refine lv_aload_n S.1 S.2.1 dL_law_233 rfl (lv_at hl 1 rfl) ?_
    refine lv_aload_n S.1 S.2.1 dL_law_234 rfl (lv_at hl 3 rfl) ?_
    refine lv_iload_n S.1 S.2.1 dL_law_235 rfl (lv_at hl 0 rfl) ?_
    refine lv_iconst (v := nI 1) S.1 S.2.1 dL_law_236 (by decide) ?_
    refine lv_iadd S.1 S.2.1 dL_law_237 ?_
    refine te (nI_add _ _) ?_
    refine sl S hX hbl hbA hw (i + 1) rfl (by omega) hL dL_law_238 ?_
    refine callVI (rest := [.int r1]) S hK hw hA (kX3_data_no l D cA o2 (nI 0) p0 op0 n m0 cap0 a b t x fk fn g1 g2 g3 g4 g5 g6 g7 g8 (xs (i + 1)) hp0 hop hn hm hcap hc) gL_law_X3_data rfl 1 rfl (by decide +kernel) ⟨rfl, rfl⟩ ⟨Nat.le_of_ble_eq_true rfl, Nat.le_of_ble_eq_true rfl⟩ ⟨Nat.le_of_ble_eq_true rfl, Nat.le_of_ble_eq_true rfl⟩ [12, 13, 14, 15, 16, 17, 18, 19, 20, 21, 22, 23, 24, 25, 26] rfl (by decide) (fun _ => rfl) 12 rfl rfl rfl hl.1 (Nat.le_of_ble_eq_true rfl) dL_law_239 rfl (fun r2 u2 H locs hp2 hw => ?_)
    rw [sets_hi (by exact (rfl : (15 : Nat) = 15)) (by rfl)] at hw
    have hw : Wd D A s.heap H locs (wX2 o cA cap0 (fun j => nI (t j)) (fun j => nI (x j)) fi fb ff fa fh fp ft tk (nI p0) (nI op0) (nI m0) (nI n) ++ wX3 o2 cA (nI 0) (nI cap0) (nI p0) (nI op0) (nI n) (nI m0) fk fn (fun j => nI (a j)) (fun j => nI (b j)) (fun j => nI (t j)) (fun j => nI (x j)) g1 g2 g3 g4 g5 g6 g7 g8) := hw
    refine lv_icmp_eq (tgt := 402) S.1 S.2.1 dL_law_242 (by decide) (fun c9 => ?_) (fun c9 => ?_)
    · exact kk H locs ⟨p0, op0, n, m0, cap0, a, b, t, x, fk, fn, fi, fb, ff, fa, fh, fp, ft, tk, g1, g2, g3, g4, g5, g6, g7, g8, hw, hR⟩ ls hl
    · exact absurd (hp1.trans hp2.symm) c9

set_option maxHeartbeats 4000000 in
set_option maxRecDepth 100000 in
theorem lc_finish {p : Program} {l : Launch} {e : Env} {s : State} {m : MethodId} {ar : Array Value} {below : List Frame} {meth : Method} {c : Code} {D : va_G} {cA : ClassId} {A : Nat → Prop} {Q : State → Prop} {sb L : Nat} {xs : Nat → Int32} {o o2 : Nat → Nat} {H : Heap} {locs : List Loc} {ls : Array Slot} {i : Nat} (S : CallFix p m c code 4 s ar wsL_law RL) (hK : va_K D vwCl [(cA, .int)] s) (hA : ∀ q, s.heap.size ≤ q → A q) (hX : va_X sb L xs s s.heap) (hbl : sb < s.heap.size) (hbA : ¬ A sb) (hL : L ≤ 1537) (hi : i + 2 < L) (hJ : Js D cA o o2 A s.heap H locs) (hl : lv_has ls 4 [(3, .int (nI i)), (2, .ref (o2 0)), (1, .ref (o 0)), (0, .ref sb)]) (kk : ∀ (H : Heap) (locs : List Loc), Js D cA o o2 A s.heap H locs → ∀ ls : Array Slot, lv_has ls 4 [(3, .int (nI i)), (2, .ref (o2 0)), (1, .ref (o 0)), (0, .ref sb)] → W p l e room_1 s m ar below meth c H locs 27 2594 Q (F0 m 402 ls [])) : W p l e room_1 s m ar below meth c H locs 27 2594 Q (F0 m 247 ls []) := by
  obtain ⟨p0, op0, n, m0, cap0, a, b, t, x, fk, fn, fi, fb, ff, fa, fh, fp, ft, tk, g1, g2, g3, g4, g5, g6, g7, g8, hw, hR⟩ := hJ
  obtain ⟨hp0, hop, hn, hm, hcap⟩ := hR.1
  obtain ⟨ha, hb, ht, hx⟩ := hR.2.1
  by_cases hph : p0 = 1 ∨ p0 = 2
  · obtain ⟨B0, T, hB, rfl, rfl, rfl, rfl, hok, h1, h2⟩ := hR.2.2.2.2.1 hph
    have hc0 : relC (vl 16 (rF B0)) (dD op0 b t) 0 (pol (vl 16 (rF B0)) (dD op0 b t) m0 (pol (vl 16 (rF B0)) a n 0 ((n + 15) / 16)) ((m0 + 15) / 16)) (fl1 (rF B0) T) := by
      rcases hph with hph | hph
      · obtain ⟨hm0, hc1⟩ := h1 hph
        have := relC_fill (fun j _ => rF_le B0 j) (rF_16 B0) hok hc1 (dD op0 b t)
        subst hm0
        exact this
      · exact relC_fill (fun j _ => rF_le B0 j) (rF_16 B0) hok (h2 hph).1 (dD op0 b t)
    obtain ⟨hV, eT⟩ := fin_tag (fk := fk) (fn := fn) hB hok rfl hc0
    refine lv_aload_n S.1 S.2.1 dL_law_247 rfl (lv_at hl 2 rfl) ?_
    refine callVI (rest := []) S hK hw hA (kX2_finish_ok l D cA o p0 op0 n m0 cap0 t x (rF B0) (sB B0) T fi fb fp ft hp0 hop hn hm hcap hok (fun j _ => rF_le B0 j) hph hV (fun j _ => Nat.le_of_lt_succ (bbn_lt _ _))) gL_law_X2_finish rfl 0 rfl (by decide +kernel) ⟨rfl, rfl⟩ ⟨Nat.le_of_ble_eq_true rfl, Nat.le_of_ble_eq_true rfl⟩ ⟨Nat.le_of_ble_eq_true rfl, Nat.le_of_ble_eq_true rfl⟩ [0, 1, 2, 3, 4, 5, 6, 7, 8, 9, 10, 11] rfl (by decide) (fun _ => rfl) 0 rfl rfl rfl hl.1 (Nat.le_of_ble_eq_true rfl) dL_law_248 rfl (fun r1 u1 H locs hp1 hw => ?_)
    rw [sets_lo (by exact (rfl : (12 : Nat) = 12)) (by rfl)] at hw
    have hw : Wd D A s.heap H locs (wX2 o cA cap0 (fun j => nI (t j)) (fun j => nI (x j)) fi fb (fun j => nI (rF B0 j)) (fun j => nI (sB B0 j)) (fun j => nI (dg (clV (fT (rF B0) T n m0).1) j)) u1 (fun j => nI (dg (0 + vl 16 (xS (fT (rF B0) T n m0).1 (sB B0))) j)) (nI (fT (rF B0) T n m0).2.2) (nI 3) (nI op0) (nI m0) (nI n) ++ wX3 o2 cA (nI 0) (nI cap0) (nI p0) (nI op0) (nI n) (nI m0) fk fn (fun j => nI (a j)) (fun j => nI (b j)) (fun j => nI (t j)) (fun j => nI (x j)) g1 g2 g3 g4 g5 g6 g7 g8) := hw
    refine lv_aload_n S.1 S.2.1 dL_law_251 rfl (lv_at hl 1 rfl) ?_
    refine callVI (rest := [.int r1]) S hK hw hA (kX3_finish_ok l D cA o2 (nI 0) p0 op0 n m0 cap0 a b t x fk fn g1 g2 g3 g4 g5 g6 g7 g8 hp0 hop hn hm hcap hph) gL_law_X3_finish rfl 0 rfl (by decide +kernel) ⟨rfl, rfl⟩ ⟨Nat.le_of_ble_eq_true rfl, Nat.le_of_ble_eq_true rfl⟩ ⟨Nat.le_of_ble_eq_true rfl, Nat.le_of_ble_eq_true rfl⟩ [12, 13, 14, 15, 16, 17, 18, 19, 20, 21, 22, 23, 24, 25, 26] rfl (by decide) (fun _ => rfl) 12 rfl rfl rfl hl.1 (Nat.le_of_ble_eq_true rfl) dL_law_252 rfl (fun r2 u2 H locs hp2 hw => ?_)
    rw [sets_hi (by exact (rfl : (15 : Nat) = 15)) (by rfl)] at hw
    have hw : Wd D A s.heap H locs (wX2 o cA cap0 (fun j => nI (t j)) (fun j => nI (x j)) fi fb (fun j => nI (rF B0 j)) (fun j => nI (sB B0 j)) (fun j => nI (dg (clV (fT (rF B0) T n m0).1) j)) u1 (fun j => nI (dg (0 + vl 16 (xS (fT (rF B0) T n m0).1 (sB B0))) j)) (nI (fT (rF B0) T n m0).2.2) (nI 3) (nI op0) (nI m0) (nI n) ++ wX3 o2 cA (nI 0) (nI cap0) (nI 3) (nI op0) (nI n) (nI m0) fk fn (fun j => nI (a j)) (fun j => nI (b j)) (fun j => nI (t j)) (fun j => nI (x j)) g1 g2 g3 g4 g5 g6 g7 g8) := hw
    rw [eT] at hw
    refine lv_icmp_eq (tgt := 402) S.1 S.2.1 dL_law_255 (by decide) (fun c9 => ?_) (fun c9 => ?_)
    · exact kk H locs ⟨3, op0, n, m0, cap0, a, b, t, x, fk, fn, fi, fb, fun j => nI (rF B0 j), fun j => nI (sB B0 j), fun j => nI (dg (clV (fT (rF B0) T n m0).1) j), u1, fun j => nI (TG (CB fk fn (nI 0)) a n (dD op0 b t) m0 j), nI (fT (rF B0) T n m0).2.2, g1, g2, g3, g4, g5, g6, g7, g8, hw, Rl_fin hR⟩ ls hl
    · exact absurd (hp1.trans hp2.symm) c9
  · skip
    refine lv_aload_n S.1 S.2.1 dL_law_247 rfl (lv_at hl 2 rfl) ?_
    refine callVI (rest := []) S hK hw hA (kX2_finish_no l D cA o p0 op0 n m0 cap0 t x tk fi fb ff fa fh fp ft hp0 hop hn hm hcap hph) gL_law_X2_finish rfl 0 rfl (by decide +kernel) ⟨rfl, rfl⟩ ⟨Nat.le_of_ble_eq_true rfl, Nat.le_of_ble_eq_true rfl⟩ ⟨Nat.le_of_ble_eq_true rfl, Nat.le_of_ble_eq_true rfl⟩ [0, 1, 2, 3, 4, 5, 6, 7, 8, 9, 10, 11] rfl (by decide) (fun _ => rfl) 0 rfl rfl rfl hl.1 (Nat.le_of_ble_eq_true rfl) dL_law_248 rfl (fun r1 u1 H locs hp1 hw => ?_)
    rw [sets_lo (by exact (rfl : (12 : Nat) = 12)) (by rfl)] at hw
    have hw : Wd D A s.heap H locs (wX2 o cA cap0 (fun j => nI (t j)) (fun j => nI (x j)) fi fb ff fa fh fp ft tk (nI p0) (nI op0) (nI m0) (nI n) ++ wX3 o2 cA (nI 0) (nI cap0) (nI p0) (nI op0) (nI n) (nI m0) fk fn (fun j => nI (a j)) (fun j => nI (b j)) (fun j => nI (t j)) (fun j => nI (x j)) g1 g2 g3 g4 g5 g6 g7 g8) := hw
    refine lv_aload_n S.1 S.2.1 dL_law_251 rfl (lv_at hl 1 rfl) ?_
    refine callVI (rest := [.int r1]) S hK hw hA (kX3_finish_no l D cA o2 (nI 0) p0 op0 n m0 cap0 a b t x fk fn g1 g2 g3 g4 g5 g6 g7 g8 hp0 hop hn hm hcap hph) gL_law_X3_finish rfl 0 rfl (by decide +kernel) ⟨rfl, rfl⟩ ⟨Nat.le_of_ble_eq_true rfl, Nat.le_of_ble_eq_true rfl⟩ ⟨Nat.le_of_ble_eq_true rfl, Nat.le_of_ble_eq_true rfl⟩ [12, 13, 14, 15, 16, 17, 18, 19, 20, 21, 22, 23, 24, 25, 26] rfl (by decide) (fun _ => rfl) 12 rfl rfl rfl hl.1 (Nat.le_of_ble_eq_true rfl) dL_law_252 rfl (fun r2 u2 H locs hp2 hw => ?_)
    rw [sets_hi (by exact (rfl : (15 : Nat) = 15)) (by rfl)] at hw
    have hw : Wd D A s.heap H locs (wX2 o cA cap0 (fun j => nI (t j)) (fun j => nI (x j)) fi fb ff fa fh fp ft tk (nI p0) (nI op0) (nI m0) (nI n) ++ wX3 o2 cA (nI 0) (nI cap0) (nI p0) (nI op0) (nI n) (nI m0) fk fn (fun j => nI (a j)) (fun j => nI (b j)) (fun j => nI (t j)) (fun j => nI (x j)) g1 g2 g3 g4 g5 g6 g7 g8) := hw
    refine lv_icmp_eq (tgt := 402) S.1 S.2.1 dL_law_255 (by decide) (fun c9 => ?_) (fun c9 => ?_)
    · exact kk H locs ⟨p0, op0, n, m0, cap0, a, b, t, x, fk, fn, fi, fb, ff, fa, fh, fp, ft, tk, g1, g2, g3, g4, g5, g6, g7, g8, hw, hR⟩ ls hl
    · exact absurd (hp1.trans hp2.symm) c9
