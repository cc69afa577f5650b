set_option maxHeartbeats 4000000 in
set_option maxRecDepth 100000 in
theorem kX3_tag0 (l : Launch) (D : va_G) (cA : ClassId) (o : Nat → Nat) (cd cap ph : Int32) (fk fn fe ft fw fh ff fp fg fr fx : Nat → Int32) (n m0 op0 : Nat) (a b t : Nat → Nat) (hn : n ≤ 1000) (hm : m0 ≤ 400) (hop : op0 ≤ 1) (ha : ∀ j, a j < 256) (hb : ∀ j, b j < 256) (ht : ∀ j, t j < 256) : CV l D cA yX3_tag0 wsX3_tag0 { frames := 3, cells := 0, slots := 0, locals := 68 } [.ref (o 0)] (wX3 o cA cd cap ph (nI op0) (nI n) (nI m0) fk fn (fun j => nI (a j)) (fun j => nI (b j)) (fun j => nI (t j)) fe ft fw fh ff fp fg fr fx) (fun _ => True) (fun u : (Nat → Int32) × (Nat → Int32) × (Nat → Int32) => wX3 o cA cd cap ph (nI op0) (nI n) (nI m0) fk fn (fun j => nI (a j)) (fun j => nI (b j)) (fun j => nI (t j)) fe (stF fk fn (nI 0)) (MB (stF fk fn (nI 0)) fw) (fun j => nI (dg (hAll (MB (stF fk fn (nI 0)) fw) a n (dD op0 b t) m0) j)) (fun j => nI (rF (MB (stF fk fn (nI 0)) fw) j)) u.1 u.2.1 (fun j => nI (TG (MB (stF fk fn (nI 0)) fw) a n (dD op0 b t) m0 j)) u.2.2) := by
  refine cv_of (by decide) rfl (Nat.le_of_ble_eq_true rfl) ?_
  intro p e s m below meth c ls A ar Q S hK hw hA hr hlk hl hQ
  have hl : lv_has ls 3 [(0, .ref (o 0))] := hl
  have hiX3 : ∀ w ∈ wsX30, w ∈ wsX3_tag0 := fun _ h => List.mem_cons_of_mem _ (List.mem_append_right _ h)
  refine lv_aload_n S.1 S.2.1 dX3_tag0_0 rfl (lv_at hl 0 rfl) ?_
  refine lv_iconst (v := nI 0) S.1 S.2.1 dX3_tag0_1 (by decide) ?_
  refine callVV (rest := []) S hK hw hA (kX3_block l D cA o cd cap ph (nI op0) (nI n) (nI m0) fk fn (fun j => nI (a j)) (fun j => nI (b j)) (fun j => nI (t j)) fe ft fw fh ff fp fg fr fx (nI 0)) gX3_tag0_X3_block rfl 1 rfl (by decide +kernel) ⟨rfl, rfl⟩ ⟨by decide, by decide⟩ ⟨Nat.zero_le _, Nat.zero_le _⟩ [0, 1, 2, 3, 4, 5, 6, 7, 8, 9, 10, 11, 12, 13, 14] rfl (by decide) (fun _ => rfl) 0 rfl rfl rfl hl.1 (Nat.le_of_ble_eq_true rfl) dX3_tag0_2 rfl (fun u2 H locs hp hw => ?_)
  have hw : Wd D A s.heap H locs (wX3 o cA cd cap ph (nI op0) (nI n) (nI m0) fk fn (fun j => nI (a j)) (fun j => nI (b j)) (fun j => nI (t j)) fe (stF fk fn (nI 0)) (MB (stF fk fn (nI 0)) fw) fh ff fp fg fr fx) := hw
  refine lv_iconst (v := nI 0) S.1 S.2.1 dX3_tag0_5 (by decide) ?_
  refine lv_istore_n (lv' := [(1, .int (nI 0)), (0, .ref (o 0))]) S.1 S.2.1 dX3_tag0_6 rfl hl (by decide) rfl (fun ls hl => ?_)
  have lp7 : ∀ (n0 k : Nat), k + n0 = 16 → ∀ (H : Heap) (locs : List Loc), Wd D A s.heap H locs (wX3 o cA cd cap ph (nI op0) (nI n) (nI m0) fk fn (fun j => nI (a j)) (fun j => nI (b j)) (fun j => nI (t j)) fe (stF fk fn (nI 0)) (MB (stF fk fn (nI 0)) fw) fh (mixf k (fun j => nI (rF (MB (stF fk fn (nI 0)) fw) j)) ff) fp fg (mixf k (fun j => nI (sB (MB (stF fk fn (nI 0)) fw) j)) fr) fx) → ∀ ls : Array Slot, lv_has ls 3 [(1, .int (nI k)), (0, .ref (o 0))] → W p l e { frames := 3, cells := 0, slots := 0, locals := 68 } s m ar below meth c H locs 0 0 Q (F0 m 7 ls []) := by
    intro n0
    induction n0 with
    | zero =>
      intro k hn0 H locs hw ls hl
      have hn0 : k = 16 := by omega
      subst hn0
      have hw := hw.cong 10 (g := fun j => nI (rF (MB (stF fk fn (nI 0)) fw) j)) rfl (fun j hj => mixf_n hj)
      have hw := hw.cong 13 (g := fun j => nI (sB (MB (stF fk fn (nI 0)) fw) j)) rfl (fun j hj => mixf_n hj)
      have hw : Wd D A s.heap H locs (wX3 o cA cd cap ph (nI op0) (nI n) (nI m0) fk fn (fun j => nI (a j)) (fun j => nI (b j)) (fun j => nI (t j)) fe (stF fk fn (nI 0)) (MB (stF fk fn (nI 0)) fw) fh (fun j => nI (rF (MB (stF fk fn (nI 0)) fw) j)) fp fg (fun j => nI (sB (MB (stF fk fn (nI 0)) fw) j)) fx) := hw
      refine lv_iload_n S.1 S.2.1 dX3_tag0_7 rfl (lv_at hl 0 rfl) ?_
      refine lv_bipush (v := nI 16) S.1 S.2.1 dX3_tag0_8 (by decide) ?_
      refine lv_icmp_ge (tgt := 78) S.1 S.2.1 dX3_tag0_10 (by decide) (fun c10 => ?_) (fun c10 => ?_)
      · rw [nI_leI (by omega) (by omega)] at c10
        refine lv_iconst (v := nI 0) S.1 S.2.1 dX3_tag0_78 (by decide) ?_
        refine lv_istore_n (lv' := [(1, .int (nI 0)), (0, .ref (o 0))]) S.1 S.2.1 dX3_tag0_79 rfl hl (by decide) rfl (fun ls hl => ?_)
        have lp80 : ∀ (n0 k : Nat), k + n0 = 40 → ∀ (H : Heap) (locs : List Loc), Wd D A s.heap H locs (wX3 o cA cd cap ph (nI op0) (nI n) (nI m0) fk fn (fun j => nI (a j)) (fun j => nI (b j)) (fun j => nI (t j)) fe (stF fk fn (nI 0)) (MB (stF fk fn (nI 0)) fw) (mixf k (fun j => nI 0) fh) (fun j => nI (rF (MB (stF fk fn (nI 0)) fw) j)) fp fg (fun j => nI (sB (MB (stF fk fn (nI 0)) fw) j)) fx) → ∀ ls : Array Slot, lv_has ls 3 [(1, .int (nI k)), (0, .ref (o 0))] → W p l e { frames := 3, cells := 0, slots := 0, locals := 68 } s m ar below meth c H locs 0 0 Q (F0 m 80 ls []) := by
          intro n0
          induction n0 with
          | zero =>
            intro k hn0 H locs hw ls hl
            have hn0 : k = 40 := by omega
            subst hn0
            have hw := hw.cong 9 (g := fun j => nI (dg 0 j)) rfl mix_h040
            have hw : Wd D A s.heap H locs (wX3 o cA cd cap ph (nI op0) (nI n) (nI m0) fk fn (fun j => nI (a j)) (fun j => nI (b j)) (fun j => nI (t j)) fe (stF fk fn (nI 0)) (MB (stF fk fn (nI 0)) fw) (fun j => nI (dg 0 j)) (fun j => nI (rF (MB (stF fk fn (nI 0)) fw) j)) fp fg (fun j => nI (sB (MB (stF fk fn (nI 0)) fw) j)) fx) := hw
            refine lv_iload_n S.1 S.2.1 dX3_tag0_80 rfl (lv_at hl 0 rfl) ?_
            refine lv_bipush (v := nI 40) S.1 S.2.1 dX3_tag0_81 (by decide) ?_
            refine lv_icmp_ge (tgt := 99) S.1 S.2.1 dX3_tag0_83 (by decide) (fun c83 => ?_) (fun c83 => ?_)
            · rw [nI_leI (by omega) (by omega)] at c83
              refine lv_iconst (v := nI 0) S.1 S.2.1 dX3_tag0_99 (by decide) ?_
              refine lv_istore_n (lv' := [(1, .int (nI 0)), (0, .ref (o 0))]) S.1 S.2.1 dX3_tag0_100 rfl hl (by decide) rfl (fun ls hl => ?_)
              have lp101 : ∀ (n0 q : Nat) (y1 : Nat → Int32) (y2 : Nat → Int32) (y3 : Nat → Int32), q + n0 = ((n + 15) / 16) → ∀ (H : Heap) (locs : List Loc), Wd D A s.heap H locs (wX3 o cA cd cap ph (nI op0) (nI n) (nI m0) fk fn (fun j => nI (a j)) (fun j => nI (b j)) (fun j => nI (t j)) fe (stF fk fn (nI 0)) (MB (stF fk fn (nI 0)) fw) (fun j => nI (dg (pol (vl 16 (rF (MB (stF fk fn (nI 0)) fw))) a n 0 q) j)) (fun j => nI (rF (MB (stF fk fn (nI 0)) fw) j)) y1 y2 (fun j => nI (sB (MB (stF fk fn (nI 0)) fw) j)) y3) → ∀ ls : Array Slot, lv_has ls 3 [(1, .int (nI (16 * q))), (0, .ref (o 0))] → W p l e { frames := 3, cells := 0, slots := 0, locals := 68 } s m ar below meth c H locs 0 0 Q (F0 m 101 ls []) := by
                intro n0
                induction n0 with
                | zero =>
                  intro q y1 y2 y3 hn0 H locs hw ls hl
                  have hn0 : q = ((n + 15) / 16) := by omega
                  subst hn0
                  refine lv_iload_n S.1 S.2.1 dX3_tag0_101 rfl (lv_at hl 0 rfl) ?_
                  refine lv_aload_n S.1 S.2.1 dX3_tag0_102 rfl (lv_at hl 1 rfl) ?_
                  refine mg S hK hw 0 rfl rfl hiX3 7 (by decide) (List.mem_of_getElem? (i := 4) rfl) rfl dX3_tag0_103 ?_
                  refine lv_icmp_ge (tgt := 161) S.1 S.2.1 dX3_tag0_106 (by decide) (fun c106 => ?_) (fun c106 => ?_)
                  · rw [nI_leI (by omega) (by omega)] at c106
                    refine lv_iconst (v := nI 0) S.1 S.2.1 dX3_tag0_161 (by decide) ?_
                    refine lv_istore_n (lv' := [(1, .int (nI 0)), (0, .ref (o 0))]) S.1 S.2.1 dX3_tag0_162 rfl hl (by decide) rfl (fun ls hl => ?_)
                    have lp163 : ∀ (n0 q : Nat) (y1 : Nat → Int32) (y2 : Nat → Int32) (y3 : Nat → Int32), q + n0 = ((m0 + 15) / 16) → ∀ (H : Heap) (locs : List Loc), Wd D A s.heap H locs (wX3 o cA cd cap ph (nI op0) (nI n) (nI m0) fk fn (fun j => nI (a j)) (fun j => nI (b j)) (fun j => nI (t j)) fe (stF fk fn (nI 0)) (MB (stF fk fn (nI 0)) fw) (fun j => nI (dg (pol (vl 16 (rF (MB (stF fk fn (nI 0)) fw))) (dD op0 b t) m0 (pol (vl 16 (rF (MB (stF fk fn (nI 0)) fw))) a n 0 ((n + 15) / 16)) q) j)) (fun j => nI (rF (MB (stF fk fn (nI 0)) fw) j)) y1 y2 (fun j => nI (sB (MB (stF fk fn (nI 0)) fw) j)) y3) → ∀ ls : Array Slot, lv_has ls 3 [(1, .int (nI (16 * q))), (0, .ref (o 0))] → W p l e { frames := 3, cells := 0, slots := 0, locals := 68 } s m ar below meth c H locs 0 0 Q (F0 m 163 ls []) := by
                      intro n0
                      induction n0 with
                      | zero =>
                        intro q y1 y2 y3 hn0 H locs hw ls hl
                        have hn0 : q = ((m0 + 15) / 16) := by omega
                        subst hn0
                        refine lv_iload_n S.1 S.2.1 dX3_tag0_163 rfl (lv_at hl 0 rfl) ?_
                        refine lv_aload_n S.1 S.2.1 dX3_tag0_164 rfl (lv_at hl 1 rfl) ?_
                        refine mg S hK hw 0 rfl rfl hiX3 10 (by decide) (List.mem_of_getElem? (i := 7) rfl) rfl dX3_tag0_165 ?_
                        refine lv_icmp_ge (tgt := 241) S.1 S.2.1 dX3_tag0_168 (by decide) (fun c168 => ?_) (fun c168 => ?_)
                        · rw [nI_leI (by omega) (by omega)] at c168
                          refine lv_iconst (v := nI 0) S.1 S.2.1 dX3_tag0_241 (by decide) ?_
                          refine lv_istore_n (lv' := [(1, .int (nI 0)), (0, .ref (o 0))]) S.1 S.2.1 dX3_tag0_242 rfl hl (by decide) rfl (fun ls hl => ?_)
                          have lp243 : ∀ (n0 k : Nat), k + n0 = 16 → ∀ (H : Heap) (locs : List Loc), Wd D A s.heap H locs (wX3 o cA cd cap ph (nI op0) (nI n) (nI m0) fk fn (fun j => nI (a j)) (fun j => nI (b j)) (fun j => nI (t j)) fe (stF fk fn (nI 0)) (MB (stF fk fn (nI 0)) fw) (fun j => nI (dg (pol (vl 16 (rF (MB (stF fk fn (nI 0)) fw))) (dD op0 b t) m0 (pol (vl 16 (rF (MB (stF fk fn (nI 0)) fw))) a n 0 ((n + 15) / 16)) ((m0 + 15) / 16)) j)) (fun j => nI (rF (MB (stF fk fn (nI 0)) fw) j)) y1 y2 (fun j => nI (sB (MB (stF fk fn (nI 0)) fw) j)) (mixf k (fun j => nI (lenb n m0 j)) y3)) → ∀ ls : Array Slot, lv_has ls 3 [(1, .int (nI k)), (0, .ref (o 0))] → W p l e { frames := 3, cells := 0, slots := 0, locals := 68 } s m ar below meth c H locs 0 0 Q (F0 m 243 ls []) := by
                            intro n0
                            induction n0 with
                            | zero =>
                              intro k hn0 H locs hw ls hl
                              have hn0 : k = 16 := by omega
                              subst hn0
                              have hw := hw.cong 14 (g := fun j => nI (lenb n m0 j)) rfl (fun j hj => mixf_n hj)
                              have hw : Wd D A s.heap H locs (wX3 o cA cd cap ph (nI op0) (nI n) (nI m0) fk fn (fun j => nI (a j)) (fun j => nI (b j)) (fun j => nI (t j)) fe (stF fk fn (nI 0)) (MB (stF fk fn (nI 0)) fw) (fun j => nI (dg (pol (vl 16 (rF (MB (stF fk fn (nI 0)) fw))) (dD op0 b t) m0 (pol (vl 16 (rF (MB (stF fk fn (nI 0)) fw))) a n 0 ((n + 15) / 16)) ((m0 + 15) / 16)) j)) (fun j => nI (rF (MB (stF fk fn (nI 0)) fw) j)) y1 y2 (fun j => nI (sB (MB (stF fk fn (nI 0)) fw) j)) (fun j => nI (lenb n m0 j))) := hw
                              refine lv_iload_n S.1 S.2.1 dX3_tag0_243 rfl (lv_at hl 0 rfl) ?_
                              refine lv_bipush (v := nI 16) S.1 S.2.1 dX3_tag0_244 (by decide) ?_
                              refine lv_icmp_ge (tgt := 304) S.1 S.2.1 dX3_tag0_246 (by decide) (fun c246 => ?_) (fun c246 => ?_)
                              · rw [nI_leI (by omega) (by omega)] at c246
                                refine lv_aload_n S.1 S.2.1 dX3_tag0_304 rfl (lv_at hl 1 rfl) ?_
                                refine callVV (rest := []) S hK hw hA (kX3_take l D cA o cd cap ph (nI op0) (nI n) (nI m0) fk fn (fun j => nI (a j)) (fun j => nI (b j)) (fun j => nI (t j)) fe (stF fk fn (nI 0)) (MB (stF fk fn (nI 0)) fw) y1 y2 (fun j => nI (sB (MB (stF fk fn (nI 0)) fw) j)) (pol (vl 16 (rF (MB (stF fk fn (nI 0)) fw))) (dD op0 b t) m0 (pol (vl 16 (rF (MB (stF fk fn (nI 0)) fw))) a n 0 ((n + 15) / 16)) ((m0 + 15) / 16)) (rF (MB (stF fk fn (nI 0)) fw)) (lenb n m0) (pol_lt (pol_lt pP_pos _) _) (fun j _ => rF_le _ j) (lenb_le n m0)) gX3_tag0_X3_take rfl 0 rfl (by decide +kernel) ⟨rfl, rfl⟩ ⟨by decide, by decide⟩ ⟨Nat.zero_le _, Nat.zero_le _⟩ [0, 1, 2, 3, 4, 5, 6, 7, 8, 9, 10, 11, 12, 13, 14] rfl (by decide) (fun _ => rfl) 0 rfl rfl rfl hl.1 (Nat.le_of_ble_eq_true rfl) dX3_tag0_305 rfl (fun u305 H locs hp hw => ?_)
                                have hw : Wd D A s.heap H locs (wX3 o cA cd cap ph (nI op0) (nI n) (nI m0) fk fn (fun j => nI (a j)) (fun j => nI (b j)) (fun j => nI (t j)) fe (stF fk fn (nI 0)) (MB (stF fk fn (nI 0)) fw) (fun j => nI (dg (tV (pol (vl 16 (rF (MB (stF fk fn (nI 0)) fw))) (dD op0 b t) m0 (pol (vl 16 (rF (MB (stF fk fn (nI 0)) fw))) a n 0 ((n + 15) / 16)) ((m0 + 15) / 16)) (lenb n m0) * vl 16 (rF (MB (stF fk fn (nI 0)) fw)) % pP) j)) (fun j => nI (rF (MB (stF fk fn (nI 0)) fw) j)) u305.1 u305.2 (fun j => nI (sB (MB (stF fk fn (nI 0)) fw) j)) (fun j => nI (lenb n m0 j))) := hw
                                refine lv_iconst (v := nI 0) S.1 S.2.1 dX3_tag0_308 (by decide) ?_
                                refine te (y := nI (cs 0 (xM (hAll (MB (stF fk fn (nI 0)) fw) a n (dD op0 b t) m0) (sB (MB (stF fk fn (nI 0)) fw))) 0)) (by rw [cs_0]) ?_
                                refine lv_istore_n (lv' := [(1, .int (nI (cs 0 (xM (hAll (MB (stF fk fn (nI 0)) fw) a n (dD op0 b t) m0) (sB (MB (stF fk fn (nI 0)) fw))) 0))), (0, .ref (o 0))]) S.1 S.2.1 dX3_tag0_309 rfl hl (by decide) rfl (fun ls hl => ?_)
                                refine lv_iconst (v := nI 0) S.1 S.2.1 dX3_tag0_310 (by decide) ?_
                                refine lv_istore_n (lv' := [(2, .int (nI 0)), (1, .int (nI (cs 0 (xM (hAll (MB (stF fk fn (nI 0)) fw) a n (dD op0 b t) m0) (sB (MB (stF fk fn (nI 0)) fw))) 0))), (0, .ref (o 0))]) S.1 S.2.1 dX3_tag0_311 rfl hl (by decide) rfl (fun ls hl => ?_)
                                have lp312 : ∀ (n0 i : Nat), i + n0 = 16 → ∀ (H : Heap) (locs : List Loc), Wd D A s.heap H locs (wX3 o cA cd cap ph (nI op0) (nI n) (nI m0) fk fn (fun j => nI (a j)) (fun j => nI (b j)) (fun j => nI (t j)) fe (stF fk fn (nI 0)) (MB (stF fk fn (nI 0)) fw) (fun j => nI (dg (tV (pol (vl 16 (rF (MB (stF fk fn (nI 0)) fw))) (dD op0 b t) m0 (pol (vl 16 (rF (MB (stF fk fn (nI 0)) fw))) a n 0 ((n + 15) / 16)) ((m0 + 15) / 16)) (lenb n m0) * vl 16 (rF (MB (stF fk fn (nI 0)) fw)) % pP) j)) (fun j => nI (rF (MB (stF fk fn (nI 0)) fw) j)) u305.1 u305.2 (mixf i (fun j => nI (dg (0 + vl 16 (xM (hAll (MB (stF fk fn (nI 0)) fw) a n (dD op0 b t) m0) (sB (MB (stF fk fn (nI 0)) fw)))) j)) (fun j => nI (sB (MB (stF fk fn (nI 0)) fw) j))) (fun j => nI (lenb n m0 j))) → ∀ ls : Array Slot, lv_has ls 3 [(2, .int (nI i)), (1, .int (nI (cs 0 (xM (hAll (MB (stF fk fn (nI 0)) fw) a n (dD op0 b t) m0) (sB (MB (stF fk fn (nI 0)) fw))) i))), (0, .ref (o 0))] → W p l e { frames := 3, cells := 0, slots := 0, locals := 68 } s m ar below meth c H locs 0 0 Q (F0 m 312 ls []) := by
                                  intro n0
                                  induction n0 with
                                  | zero =>
                                    intro i hn0 H locs hw ls hl
                                    have hn0 : i = 16 := by omega
                                    subst hn0
                                    have hw := hw.cong 13 (g := fun j => nI (dg (0 + vl 16 (xM (hAll (MB (stF fk fn (nI 0)) fw) a n (dD op0 b t) m0) (sB (MB (stF fk fn (nI 0)) fw)))) j)) rfl (fun j hj => mixf_n hj)
                                    have hw : Wd D A s.heap H locs (wX3 o cA cd cap ph (nI op0) (nI n) (nI m0) fk fn (fun j => nI (a j)) (fun j => nI (b j)) (fun j => nI (t j)) fe (stF fk fn (nI 0)) (MB (stF fk fn (nI 0)) fw) (fun j => nI (dg (tV (pol (vl 16 (rF (MB (stF fk fn (nI 0)) fw))) (dD op0 b t) m0 (pol (vl 16 (rF (MB (stF fk fn (nI 0)) fw))) a n 0 ((n + 15) / 16)) ((m0 + 15) / 16)) (lenb n m0) * vl 16 (rF (MB (stF fk fn (nI 0)) fw)) % pP) j)) (fun j => nI (rF (MB (stF fk fn (nI 0)) fw) j)) u305.1 u305.2 (fun j => nI (dg (0 + vl 16 (xM (hAll (MB (stF fk fn (nI 0)) fw) a n (dD op0 b t) m0) (sB (MB (stF fk fn (nI 0)) fw)))) j)) (fun j => nI (lenb n m0 j))) := hw
                                    refine lv_iload_n S.1 S.2.1 dX3_tag0_312 rfl (lv_at hl 0 rfl) ?_
                                    refine lv_bipush (v := nI 16) S.1 S.2.1 dX3_tag0_313 (by decide) ?_
                                    refine lv_icmp_ge (tgt := 356) S.1 S.2.1 dX3_tag0_315 (by decide) (fun c315 => ?_) (fun c315 => ?_)
                                    · rw [nI_leI (by omega) (by omega)] at c315
                                      exact cv_ret S hr hlk hQ hw (u305.1, u305.2, fun j => nI (lenb n m0 j)) rfl trivial dX3_tag0_356
                                    · rw [nI_leI (by omega) (by omega)] at c315
                                      exfalso; omega
                                  | succ n0 ih =>
                                    intro i hn0 H locs hw ls hl
                                    have hlt : i < 16 := by omega
                                    have hc1 := cs_le (c := 0) (B := 510) (n := 16) (x := (xM (hAll (MB (stF fk fn (nI 0)) fw) a n (dD op0 b t) m0) (sB (MB (stF fk fn (nI 0)) fw)))) (by decide) (fun j hj => by show dg _ j + bbn _ _ ≤ 510; have := dg_lt (hAll (MB (stF fk fn (nI 0)) fw) a n (dD op0 b t) m0) j; have := bbn_lt (MB (stF fk fn (nI 0)) fw) (16 + j); omega) i (by omega)
                                    have hx1 : (xM (hAll (MB (stF fk fn (nI 0)) fw) a n (dD op0 b t) m0) (sB (MB (stF fk fn (nI 0)) fw))) i ≤ 510 := by show dg _ i + bbn _ _ ≤ 510; have := dg_lt (hAll (MB (stF fk fn (nI 0)) fw) a n (dD op0 b t) m0) i; have := bbn_lt (MB (stF fk fn (nI 0)) fw) (16 + i); omega
                                    refine lv_iload_n S.1 S.2.1 dX3_tag0_312 rfl (lv_at hl 0 rfl) ?_
                                    refine lv_bipush (v := nI 16) S.1 S.2.1 dX3_tag0_313 (by decide) ?_
                                    refine lv_icmp_ge (tgt := 356) S.1 S.2.1 dX3_tag0_315 (by decide) (fun c315 => ?_) (fun c315 => ?_)
                                    · rw [nI_leI (by omega) (by omega)] at c315
                                      exfalso; omega
                                    · rw [nI_leI (by omega) (by omega)] at c315
                                      refine lv_iload_n S.1 S.2.1 dX3_tag0_318 rfl (lv_at hl 1 rfl) ?_
                                      refine lv_aload_n S.1 S.2.1 dX3_tag0_319 rfl (lv_at hl 2 rfl) ?_
                                      refine mg S hK hw 0 rfl rfl hiX3 14 (by decide) (List.mem_of_getElem? (i := 3) rfl) rfl dX3_tag0_320 ?_
                                      refine lv_iload_n S.1 S.2.1 dX3_tag0_323 rfl (lv_at hl 0 rfl) ?_
                                      refine ag S hK hw 9 rfl i rfl (by omega) (by decide) dX3_tag0_324 ?_
                                      refine te (y := nI ((dg (tV (pol (vl 16 (rF (MB (stF fk fn (nI 0)) fw))) (dD op0 b t) m0 (pol (vl 16 (rF (MB (stF fk fn (nI 0)) fw))) a n 0 ((n + 15) / 16)) ((m0 + 15) / 16)) (lenb n m0) * vl 16 (rF (MB (stF fk fn (nI 0)) fw)) % pP)) i)) rfl ?_
                                      refine lv_aload_n S.1 S.2.1 dX3_tag0_325 rfl (lv_at hl 2 rfl) ?_
                                      refine mg S hK hw 0 rfl rfl hiX3 18 (by decide) (List.mem_of_getElem? (i := 2) rfl) rfl dX3_tag0_326 ?_
                                      refine lv_iload_n S.1 S.2.1 dX3_tag0_329 rfl (lv_at hl 0 rfl) ?_
                                      refine ag S hK hw 13 rfl i rfl (by omega) (by decide) dX3_tag0_330 ?_
                                      refine te (y := nI ((sB (MB (stF fk fn (nI 0)) fw)) i)) (mixf_at _ _ _) ?_
                                      refine lv_iadd S.1 S.2.1 dX3_tag0_331 ?_
                                      refine te (y := nI ((xM (hAll (MB (stF fk fn (nI 0)) fw) a n (dD op0 b t) m0) (sB (MB (stF fk fn (nI 0)) fw))) i)) (nI_add _ _) ?_
                                      refine lv_iadd S.1 S.2.1 dX3_tag0_332 ?_
                                      refine te (nI_add _ _) ?_
                                      refine lv_istore_n (lv' := [(1, .int (nI ((cs 0 (xM (hAll (MB (stF fk fn (nI 0)) fw) a n (dD op0 b t) m0) (sB (MB (stF fk fn (nI 0)) fw))) i) + ((xM (hAll (MB (stF fk fn (nI 0)) fw) a n (dD op0 b t) m0) (sB (MB (stF fk fn (nI 0)) fw))) i)))), (2, .int (nI i)), (0, .ref (o 0))]) S.1 S.2.1 dX3_tag0_333 rfl hl (by decide) rfl (fun ls hl => ?_)
                                      refine lv_aload_n S.1 S.2.1 dX3_tag0_334 rfl (lv_at hl 2 rfl) ?_
                                      refine mg S hK hw 0 rfl rfl hiX3 18 (by decide) (List.mem_of_getElem? (i := 2) rfl) rfl dX3_tag0_335 ?_
                                      refine lv_iload_n S.1 S.2.1 dX3_tag0_338 rfl (lv_at hl 1 rfl) ?_
                                      refine lv_iload_n S.1 S.2.1 dX3_tag0_339 rfl (lv_at hl 0 rfl) ?_
                                      refine lv_sipush (v := nI 255) S.1 S.2.1 dX3_tag0_340 (by decide) ?_
                                      refine lv_iand S.1 S.2.1 dX3_tag0_343 ?_
                                      refine te (y := nI ((cs 0 (xM (hAll (MB (stF fk fn (nI 0)) fw) a n (dD op0 b t) m0) (sB (MB (stF fk fn (nI 0)) fw))) i + (xM (hAll (MB (stF fk fn (nI 0)) fw) a n (dD op0 b t) m0) (sB (MB (stF fk fn (nI 0)) fw))) i) % 256)) (and255 (by omega)) ?_
                                      refine ap S hK hw 13 rfl i rfl (by omega) (by decide) dX3_tag0_344 (fun H locs hw => ?_)
                                      have hw : Wd D A s.heap H locs (wX3 o cA cd cap ph (nI op0) (nI n) (nI m0) fk fn (fun j => nI (a j)) (fun j => nI (b j)) (fun j => nI (t j)) fe (stF fk fn (nI 0)) (MB (stF fk fn (nI 0)) fw) (fun j => nI (dg (tV (pol (vl 16 (rF (MB (stF fk fn (nI 0)) fw))) (dD op0 b t) m0 (pol (vl 16 (rF (MB (stF fk fn (nI 0)) fw))) a n 0 ((n + 15) / 16)) ((m0 + 15) / 16)) (lenb n m0) * vl 16 (rF (MB (stF fk fn (nI 0)) fw)) % pP) j)) (fun j => nI (rF (MB (stF fk fn (nI 0)) fw) j)) u305.1 u305.2 (upd (mixf i (fun j => nI (dg (0 + vl 16 (xM (hAll (MB (stF fk fn (nI 0)) fw) a n (dD op0 b t) m0) (sB (MB (stF fk fn (nI 0)) fw)))) j)) (fun j => nI (sB (MB (stF fk fn (nI 0)) fw) j))) i (nI ((cs 0 (xM (hAll (MB (stF fk fn (nI 0)) fw) a n (dD op0 b t) m0) (sB (MB (stF fk fn (nI 0)) fw))) i + (xM (hAll (MB (stF fk fn (nI 0)) fw) a n (dD op0 b t) m0) (sB (MB (stF fk fn (nI 0)) fw))) i) % 256))) (fun j => nI (lenb n m0 j))) := hw
                                      have hw := hw.cong 13 (g := mixf (i + 1) (fun j => nI (dg (0 + vl 16 (xM (hAll (MB (stF fk fn (nI 0)) fw) a n (dD op0 b t) m0) (sB (MB (stF fk fn (nI 0)) fw)))) j)) (fun j => nI (sB (MB (stF fk fn (nI 0)) fw) j))) rfl (fun j _ => mixf_put (by exact (congrArg nI (dg_at 0 (xM (hAll (MB (stF fk fn (nI 0)) fw) a n (dD op0 b t) m0) (sB (MB (stF fk fn (nI 0)) fw))) hlt).symm)) j)
                                      have hw : Wd D A s.heap H locs (wX3 o cA cd cap ph (nI op0) (nI n) (nI m0) fk fn (fun j => nI (a j)) (fun j => nI (b j)) (fun j => nI (t j)) fe (stF fk fn (nI 0)) (MB (stF fk fn (nI 0)) fw) (fun j => nI (dg (tV (pol (vl 16 (rF (MB (stF fk fn (nI 0)) fw))) (dD op0 b t) m0 (pol (vl 16 (rF (MB (stF fk fn (nI 0)) fw))) a n 0 ((n + 15) / 16)) ((m0 + 15) / 16)) (lenb n m0) * vl 16 (rF (MB (stF fk fn (nI 0)) fw)) % pP) j)) (fun j => nI (rF (MB (stF fk fn (nI 0)) fw) j)) u305.1 u305.2 (mixf (i + 1) (fun j => nI (dg (0 + vl 16 (xM (hAll (MB (stF fk fn (nI 0)) fw) a n (dD op0 b t) m0) (sB (MB (stF fk fn (nI 0)) fw)))) j)) (fun j => nI (sB (MB (stF fk fn (nI 0)) fw) j))) (fun j => nI (lenb n m0 j))) := hw
                                      refine lv_iload_n S.1 S.2.1 dX3_tag0_345 rfl (lv_at hl 0 rfl) ?_
                                      refine lv_bipush (v := nI 8) S.1 S.2.1 dX3_tag0_346 (by decide) ?_
                                      refine lv_ishr S.1 S.2.1 dX3_tag0_348 ?_
                                      refine te (y := nI (cs 0 (xM (hAll (MB (stF fk fn (nI 0)) fw) a n (dD op0 b t) m0) (sB (MB (stF fk fn (nI 0)) fw))) (i + 1))) (by rw [cs_succ]; exact shr8 (by omega)) ?_
                                      refine lv_istore_n (lv' := [(1, .int (nI (cs 0 (xM (hAll (MB (stF fk fn (nI 0)) fw) a n (dD op0 b t) m0) (sB (MB (stF fk fn (nI 0)) fw))) (i + 1)))), (2, .int (nI i)), (0, .ref (o 0))]) S.1 S.2.1 dX3_tag0_349 rfl hl (by decide) rfl (fun ls hl => ?_)
                                      refine lv_iinc (v := nI (i + 1)) (lv' := [(2, .int (nI (i + 1))), (1, .int (nI (cs 0 (xM (hAll (MB (stF fk fn (nI 0)) fw) a n (dD op0 b t) m0) (sB (MB (stF fk fn (nI 0)) fw))) (i + 1)))), (0, .ref (o 0))]) S.1 S.2.1 dX3_tag0_350 hl (k := 1) rfl (nI_add i 1) (by decide) rfl (fun ls hl => ?_)
                                      refine lv_goto (tgt := 312) S.1 S.2.1 dX3_tag0_353 (by decide) ?_
                                      exact ih (i + 1)  (by omega)  _ _ hw _ hl
                                have hw := hw.cong 13 (g := mixf 0 (fun j => nI (dg (0 + vl 16 (xM (hAll (MB (stF fk fn (nI 0)) fw) a n (dD op0 b t) m0) (sB (MB (stF fk fn (nI 0)) fw)))) j)) (fun j => nI (sB (MB (stF fk fn (nI 0)) fw) j))) rfl (fun j _ => mixf_0 (fun j => nI (dg (0 + vl 16 (xM (hAll (MB (stF fk fn (nI 0)) fw) a n (dD op0 b t) m0) (sB (MB (stF fk fn (nI 0)) fw)))) j)) (fun j => nI (sB (MB (stF fk fn (nI 0)) fw) j)) j)
                                exact lp312 16 0  (by omega)  _ _ hw _ hl
                              · rw [nI_leI (by omega) (by omega)] at c246
                                exfalso; omega
                            | succ n0 ih =>
                              intro k hn0 H locs hw ls hl
                              have hlt : k < 16 := by omega
                              refine lv_iload_n S.1 S.2.1 dX3_tag0_243 rfl (lv_at hl 0 rfl) ?_
                              refine lv_bipush (v := nI 16) S.1 S.2.1 dX3_tag0_244 (by decide) ?_
                              refine lv_icmp_ge (tgt := 304) S.1 S.2.1 dX3_tag0_246 (by decide) (fun c246 => ?_) (fun c246 => ?_)
                              · rw [nI_leI (by omega) (by omega)] at c246
                                exfalso; omega
                              · rw [nI_leI (by omega) (by omega)] at c246
                                refine lv_iload_n S.1 S.2.1 dX3_tag0_249 rfl (lv_at hl 0 rfl) ?_
                                refine lv_bipush (v := nI 8) S.1 S.2.1 dX3_tag0_250 (by decide) ?_
                                refine lv_icmp_ge (tgt := 262) S.1 S.2.1 dX3_tag0_252 (by decide) (fun c252 => ?_) (fun c252 => ?_)
                                · rw [nI_leI (by omega) (by omega)] at c252
                                  refine lv_aload_n S.1 S.2.1 dX3_tag0_262 rfl (lv_at hl 1 rfl) ?_
                                  refine mg S hK hw 0 rfl rfl hiX3 10 (by decide) (List.mem_of_getElem? (i := 7) rfl) rfl dX3_tag0_263 ?_
                                  refine lv_istore_n (lv' := [(2, .int (nI m0)), (1, .int (nI k)), (0, .ref (o 0))]) S.1 S.2.1 dX3_tag0_266 rfl hl (by decide) rfl (fun ls hl => ?_)
                                  refine lv_aload_n S.1 S.2.1 dX3_tag0_267 rfl (lv_at hl 2 rfl) ?_
                                  refine mg S hK hw 0 rfl rfl hiX3 19 (by decide) (List.mem_of_getElem? (i := 5) rfl) rfl dX3_tag0_268 ?_
                                  refine lv_iload_n S.1 S.2.1 dX3_tag0_271 rfl (lv_at hl 1 rfl) ?_
                                  refine lv_iload_n S.1 S.2.1 dX3_tag0_272 rfl (lv_at hl 1 rfl) ?_
                                  refine lv_bipush (v := nI 8) S.1 S.2.1 dX3_tag0_273 (by decide) ?_
                                  refine lv_irem S.1 S.2.1 dX3_tag0_275 (by decide) ?_
                                  refine te (pk_rem (by omega) (by decide) (by decide)) ?_
                                  refine lv_iconst (v := nI 4) S.1 S.2.1 dX3_tag0_276 (by decide) ?_
                                  refine lv_icmp_ge (tgt := 296) S.1 S.2.1 dX3_tag0_277 (by decide) (fun c277 => ?_) (fun c277 => ?_)
                                  · rw [nI_leI (by omega) (by omega)] at c277
                                    refine lv_iconst (v := nI 0) S.1 S.2.1 dX3_tag0_296 (by decide) ?_
                                    refine te (y := nI (lenb n m0 k)) (by first | exact len_a (by omega) | exact len_b (by omega) (by omega) | exact len_c (by omega) (by omega) (by omega) (by omega)) ?_
                                    refine ap S hK hw 14 rfl k rfl (by omega) (by decide) dX3_tag0_297 (fun H locs hw => ?_)
                                    have hw : Wd D A s.heap H locs (wX3 o cA cd cap ph (nI op0) (nI n) (nI m0) fk fn (fun j => nI (a j)) (fun j => nI (b j)) (fun j => nI (t j)) fe (stF fk fn (nI 0)) (MB (stF fk fn (nI 0)) fw) (fun j => nI (dg (pol (vl 16 (rF (MB (stF fk fn (nI 0)) fw))) (dD op0 b t) m0 (pol (vl 16 (rF (MB (stF fk fn (nI 0)) fw))) a n 0 ((n + 15) / 16)) ((m0 + 15) / 16)) j)) (fun j => nI (rF (MB (stF fk fn (nI 0)) fw) j)) y1 y2 (fun j => nI (sB (MB (stF fk fn (nI 0)) fw) j)) (upd (mixf k (fun j => nI (lenb n m0 j)) y3) k (nI (lenb n m0 k)))) := hw
                                    have hw := hw.cong 14 (g := mixf (k + 1) (fun j => nI (lenb n m0 j)) y3) rfl (fun j _ => mixf_put (by exact rfl) j)
                                    have hw : Wd D A s.heap H locs (wX3 o cA cd cap ph (nI op0) (nI n) (nI m0) fk fn (fun j => nI (a j)) (fun j => nI (b j)) (fun j => nI (t j)) fe (stF fk fn (nI 0)) (MB (stF fk fn (nI 0)) fw) (fun j => nI (dg (pol (vl 16 (rF (MB (stF fk fn (nI 0)) fw))) (dD op0 b t) m0 (pol (vl 16 (rF (MB (stF fk fn (nI 0)) fw))) a n 0 ((n + 15) / 16)) ((m0 + 15) / 16)) j)) (fun j => nI (rF (MB (stF fk fn (nI 0)) fw) j)) y1 y2 (fun j => nI (sB (MB (stF fk fn (nI 0)) fw) j)) (mixf (k + 1) (fun j => nI (lenb n m0 j)) y3)) := hw
                                    refine lv_iinc (v := nI (k + 1)) (lv' := [(1, .int (nI (k + 1))), (2, .int (nI m0)), (0, .ref (o 0))]) S.1 S.2.1 dX3_tag0_298 hl (k := 1) rfl (nI_add k 1) (by decide) rfl (fun ls hl => ?_)
                                    refine lv_goto (tgt := 243) S.1 S.2.1 dX3_tag0_301 (by decide) ?_
                                    exact ih (k + 1)  (by omega)  _ _ hw _ (lv_sub hl [0, 2] rfl)
                                  · rw [nI_leI (by omega) (by omega)] at c277
                                    refine lv_iload_n S.1 S.2.1 dX3_tag0_280 rfl (lv_at hl 0 rfl) ?_
                                    refine lv_bipush (v := nI 8) S.1 S.2.1 dX3_tag0_281 (by decide) ?_
                                    refine lv_iload_n S.1 S.2.1 dX3_tag0_283 rfl (lv_at hl 1 rfl) ?_
                                    refine lv_bipush (v := nI 8) S.1 S.2.1 dX3_tag0_284 (by decide) ?_
                                    refine lv_irem S.1 S.2.1 dX3_tag0_286 (by decide) ?_
                                    refine te (pk_rem (by omega) (by decide) (by decide)) ?_
                                    refine lv_imul S.1 S.2.1 dX3_tag0_287 ?_
                                    refine te (pk_mul _ _) ?_
                                    refine lv_ishr S.1 S.2.1 dX3_tag0_288 ?_
                                    refine lv_sipush (v := nI 255) S.1 S.2.1 dX3_tag0_289 (by decide) ?_
                                    refine lv_iand S.1 S.2.1 dX3_tag0_292 ?_
                                    refine te (y := nI (dg m0 (k % 8))) (cnt_shr (by omega) (by omega)) ?_
                                    refine lv_goto (tgt := 297) S.1 S.2.1 dX3_tag0_293 (by decide) ?_
                                    refine te (y := nI (lenb n m0 k)) (by first | exact len_a (by omega) | exact len_b (by omega) (by omega) | exact len_c (by omega) (by omega) (by omega) (by omega)) ?_
                                    refine ap S hK hw 14 rfl k rfl (by omega) (by decide) dX3_tag0_297 (fun H locs hw => ?_)
                                    have hw : Wd D A s.heap H locs (wX3 o cA cd cap ph (nI op0) (nI n) (nI m0) fk fn (fun j => nI (a j)) (fun j => nI (b j)) (fun j => nI (t j)) fe (stF fk fn (nI 0)) (MB (stF fk fn (nI 0)) fw) (fun j => nI (dg (pol (vl 16 (rF (MB (stF fk fn (nI 0)) fw))) (dD op0 b t) m0 (pol (vl 16 (rF (MB (stF fk fn (nI 0)) fw))) a n 0 ((n + 15) / 16)) ((m0 + 15) / 16)) j)) (fun j => nI (rF (MB (stF fk fn (nI 0)) fw) j)) y1 y2 (fun j => nI (sB (MB (stF fk fn (nI 0)) fw) j)) (upd (mixf k (fun j => nI (lenb n m0 j)) y3) k (nI (lenb n m0 k)))) := hw
                                    have hw := hw.cong 14 (g := mixf (k + 1) (fun j => nI (lenb n m0 j)) y3) rfl (fun j _ => mixf_put (by exact rfl) j)
                                    have hw : Wd D A s.heap H locs (wX3 o cA cd cap ph (nI op0) (nI n) (nI m0) fk fn (fun j => nI (a j)) (fun j => nI (b j)) (fun j => nI (t j)) fe (stF fk fn (nI 0)) (MB (stF fk fn (nI 0)) fw) (fun j => nI (dg (pol (vl 16 (rF (MB (stF fk fn (nI 0)) fw))) (dD op0 b t) m0 (pol (vl 16 (rF (MB (stF fk fn (nI 0)) fw))) a n 0 ((n + 15) / 16)) ((m0 + 15) / 16)) j)) (fun j => nI (rF (MB (stF fk fn (nI 0)) fw) j)) y1 y2 (fun j => nI (sB (MB (stF fk fn (nI 0)) fw) j)) (mixf (k + 1) (fun j => nI (lenb n m0 j)) y3)) := hw
                                    refine lv_iinc (v := nI (k + 1)) (lv' := [(1, .int (nI (k + 1))), (2, .int (nI m0)), (0, .ref (o 0))]) S.1 S.2.1 dX3_tag0_298 hl (k := 1) rfl (nI_add k 1) (by decide) rfl (fun ls hl => ?_)
                                    refine lv_goto (tgt := 243) S.1 S.2.1 dX3_tag0_301 (by decide) ?_
                                    exact ih (k + 1)  (by omega)  _ _ hw _ (lv_sub hl [0, 2] rfl)
                                · rw [nI_leI (by omega) (by omega)] at c252
                                  refine lv_aload_n S.1 S.2.1 dX3_tag0_255 rfl (lv_at hl 1 rfl) ?_
                                  refine mg S hK hw 0 rfl rfl hiX3 7 (by decide) (List.mem_of_getElem? (i := 4) rfl) rfl dX3_tag0_256 ?_
                                  refine lv_goto (tgt := 266) S.1 S.2.1 dX3_tag0_259 (by decide) ?_
                                  refine lv_istore_n (lv' := [(2, .int (nI n)), (1, .int (nI k)), (0, .ref (o 0))]) S.1 S.2.1 dX3_tag0_266 rfl hl (by decide) rfl (fun ls hl => ?_)
                                  refine lv_aload_n S.1 S.2.1 dX3_tag0_267 rfl (lv_at hl 2 rfl) ?_
                                  refine mg S hK hw 0 rfl rfl hiX3 19 (by decide) (List.mem_of_getElem? (i := 5) rfl) rfl dX3_tag0_268 ?_
                                  refine lv_iload_n S.1 S.2.1 dX3_tag0_271 rfl (lv_at hl 1 rfl) ?_
                                  refine lv_iload_n S.1 S.2.1 dX3_tag0_272 rfl (lv_at hl 1 rfl) ?_
                                  refine lv_bipush (v := nI 8) S.1 S.2.1 dX3_tag0_273 (by decide) ?_
                                  refine lv_irem S.1 S.2.1 dX3_tag0_275 (by decide) ?_
                                  refine te (pk_rem (by omega) (by decide) (by decide)) ?_
                                  refine lv_iconst (v := nI 4) S.1 S.2.1 dX3_tag0_276 (by decide) ?_
                                  refine lv_icmp_ge (tgt := 296) S.1 S.2.1 dX3_tag0_277 (by decide) (fun c277 => ?_) (fun c277 => ?_)
                                  · rw [nI_leI (by omega) (by omega)] at c277
                                    refine lv_iconst (v := nI 0) S.1 S.2.1 dX3_tag0_296 (by decide) ?_
                                    refine te (y := nI (lenb n m0 k)) (by first | exact len_a (by omega) | exact len_b (by omega) (by omega) | exact len_c (by omega) (by omega) (by omega) (by omega)) ?_
                                    refine ap S hK hw 14 rfl k rfl (by omega) (by decide) dX3_tag0_297 (fun H locs hw => ?_)
                                    have hw : Wd D A s.heap H locs (wX3 o cA cd cap ph (nI op0) (nI n) (nI m0) fk fn (fun j => nI (a j)) (fun j => nI (b j)) (fun j => nI (t j)) fe (stF fk fn (nI 0)) (MB (stF fk fn (nI 0)) fw) (fun j => nI (dg (pol (vl 16 (rF (MB (stF fk fn (nI 0)) fw))) (dD op0 b t) m0 (pol (vl 16 (rF (MB (stF fk fn (nI 0)) fw))) a n 0 ((n + 15) / 16)) ((m0 + 15) / 16)) j)) (fun j => nI (rF (MB (stF fk fn (nI 0)) fw) j)) y1 y2 (fun j => nI (sB (MB (stF fk fn (nI 0)) fw) j)) (upd (mixf k (fun j => nI (lenb n m0 j)) y3) k (nI (lenb n m0 k)))) := hw
                                    have hw := hw.cong 14 (g := mixf (k + 1) (fun j => nI (lenb n m0 j)) y3) rfl (fun j _ => mixf_put (by exact rfl) j)
                                    have hw : Wd D A s.heap H locs (wX3 o cA cd cap ph (nI op0) (nI n) (nI m0) fk fn (fun j => nI (a j)) (fun j => nI (b j)) (fun j => nI (t j)) fe (stF fk fn (nI 0)) (MB (stF fk fn (nI 0)) fw) (fun j => nI (dg (pol (vl 16 (rF (MB (stF fk fn (nI 0)) fw))) (dD op0 b t) m0 (pol (vl 16 (rF (MB (stF fk fn (nI 0)) fw))) a n 0 ((n + 15) / 16)) ((m0 + 15) / 16)) j)) (fun j => nI (rF (MB (stF fk fn (nI 0)) fw) j)) y1 y2 (fun j => nI (sB (MB (stF fk fn (nI 0)) fw) j)) (mixf (k + 1) (fun j => nI (lenb n m0 j)) y3)) := hw
                                    refine lv_iinc (v := nI (k + 1)) (lv' := [(1, .int (nI (k + 1))), (2, .int (nI n)), (0, .ref (o 0))]) S.1 S.2.1 dX3_tag0_298 hl (k := 1) rfl (nI_add k 1) (by decide) rfl (fun ls hl => ?_)
                                    refine lv_goto (tgt := 243) S.1 S.2.1 dX3_tag0_301 (by decide) ?_
                                    exact ih (k + 1)  (by omega)  _ _ hw _ (lv_sub hl [0, 2] rfl)
                                  · rw [nI_leI (by omega) (by omega)] at c277
                                    refine lv_iload_n S.1 S.2.1 dX3_tag0_280 rfl (lv_at hl 0 rfl) ?_
                                    refine lv_bipush (v := nI 8) S.1 S.2.1 dX3_tag0_281 (by decide) ?_
                                    refine lv_iload_n S.1 S.2.1 dX3_tag0_283 rfl (lv_at hl 1 rfl) ?_
                                    refine lv_bipush (v := nI 8) S.1 S.2.1 dX3_tag0_284 (by decide) ?_
                                    refine lv_irem S.1 S.2.1 dX3_tag0_286 (by decide) ?_
                                    refine te (pk_rem (by omega) (by decide) (by decide)) ?_
                                    refine lv_imul S.1 S.2.1 dX3_tag0_287 ?_
                                    refine te (pk_mul _ _) ?_
                                    refine lv_ishr S.1 S.2.1 dX3_tag0_288 ?_
                                    refine lv_sipush (v := nI 255) S.1 S.2.1 dX3_tag0_289 (by decide) ?_
                                    refine lv_iand S.1 S.2.1 dX3_tag0_292 ?_
                                    refine te (y := nI (dg n (k % 8))) (cnt_shr (by omega) (by omega)) ?_
                                    refine lv_goto (tgt := 297) S.1 S.2.1 dX3_tag0_293 (by decide) ?_
                                    refine te (y := nI (lenb n m0 k)) (by first | exact len_a (by omega) | exact len_b (by omega) (by omega) | exact len_c (by omega) (by omega) (by omega) (by omega)) ?_
                                    refine ap S hK hw 14 rfl k rfl (by omega) (by decide) dX3_tag0_297 (fun H locs hw => ?_)
                                    have hw : Wd D A s.heap H locs (wX3 o cA cd cap ph (nI op0) (nI n) (nI m0) fk fn (fun j => nI (a j)) (fun j => nI (b j)) (fun j => nI (t j)) fe (stF fk fn (nI 0)) (MB (stF fk fn (nI 0)) fw) (fun j => nI (dg (pol (vl 16 (rF (MB (stF fk fn (nI 0)) fw))) (dD op0 b t) m0 (pol (vl 16 (rF (MB (stF fk fn (nI 0)) fw))) a n 0 ((n + 15) / 16)) ((m0 + 15) / 16)) j)) (fun j => nI (rF (MB (stF fk fn (nI 0)) fw) j)) y1 y2 (fun j => nI (sB (MB (stF fk fn (nI 0)) fw) j)) (upd (mixf k (fun j => nI (lenb n m0 j)) y3) k (nI (lenb n m0 k)))) := hw
                                    have hw := hw.cong 14 (g := mixf (k + 1) (fun j => nI (lenb n m0 j)) y3) rfl (fun j _ => mixf_put (by exact rfl) j)
                                    have hw : Wd D A s.heap H locs (wX3 o cA cd cap ph (nI op0) (nI n) (nI m0) fk fn (fun j => nI (a j)) (fun j => nI (b j)) (fun j => nI (t j)) fe (stF fk fn (nI 0)) (MB (stF fk fn (nI 0)) fw) (fun j => nI (dg (pol (vl 16 (rF (MB (stF fk fn (nI 0)) fw))) (dD op0 b t) m0 (pol (vl 16 (rF (MB (stF fk fn (nI 0)) fw))) a n 0 ((n + 15) / 16)) ((m0 + 15) / 16)) j)) (fun j => nI (rF (MB (stF fk fn (nI 0)) fw) j)) y1 y2 (fun j => nI (sB (MB (stF fk fn (nI 0)) fw) j)) (mixf (k + 1) (fun j => nI (lenb n m0 j)) y3)) := hw
                                    refine lv_iinc (v := nI (k + 1)) (lv' := [(1, .int (nI (k + 1))), (2, .int (nI n)), (0, .ref (o 0))]) S.1 S.2.1 dX3_tag0_298 hl (k := 1) rfl (nI_add k 1) (by decide) rfl (fun ls hl => ?_)
                                    refine lv_goto (tgt := 243) S.1 S.2.1 dX3_tag0_301 (by decide) ?_
                                    exact ih (k + 1)  (by omega)  _ _ hw _ (lv_sub hl [0, 2] rfl)
                          have hw := hw.cong 14 (g := mixf 0 (fun j => nI (lenb n m0 j)) y3) rfl (fun j _ => mixf_0 (fun j => nI (lenb n m0 j)) y3 j)
                          exact lp243 16 0  (by omega)  _ _ hw _ hl
                        · rw [nI_leI (by omega) (by omega)] at c168
                          exfalso; omega
                      | succ n0 ih =>
                        intro q y1 y2 y3 hn0 H locs hw ls hl
                        have hlt : q < ((m0 + 15) / 16) := by omega
                        refine lv_iload_n S.1 S.2.1 dX3_tag0_163 rfl (lv_at hl 0 rfl) ?_
                        refine lv_aload_n S.1 S.2.1 dX3_tag0_164 rfl (lv_at hl 1 rfl) ?_
                        refine mg S hK hw 0 rfl rfl hiX3 10 (by decide) (List.mem_of_getElem? (i := 7) rfl) rfl dX3_tag0_165 ?_
                        refine lv_icmp_ge (tgt := 241) S.1 S.2.1 dX3_tag0_168 (by decide) (fun c168 => ?_) (fun c168 => ?_)
                        · rw [nI_leI (by omega) (by omega)] at c168
                          exfalso; omega
                        · rw [nI_leI (by omega) (by omega)] at c168
                          refine lv_iconst (v := nI 0) S.1 S.2.1 dX3_tag0_171 (by decide) ?_
                          refine lv_istore_n (lv' := [(2, .int (nI 0)), (1, .int (nI (16 * q))), (0, .ref (o 0))]) S.1 S.2.1 dX3_tag0_172 rfl hl (by decide) rfl (fun ls hl => ?_)
                          have lp173 : ∀ (n0 k : Nat), k + n0 = 16 → ∀ (H : Heap) (locs : List Loc), Wd D A s.heap H locs (wX3 o cA cd cap ph (nI op0) (nI n) (nI m0) fk fn (fun j => nI (a j)) (fun j => nI (b j)) (fun j => nI (t j)) fe (stF fk fn (nI 0)) (MB (stF fk fn (nI 0)) fw) (fun j => nI (dg (pol (vl 16 (rF (MB (stF fk fn (nI 0)) fw))) (dD op0 b t) m0 (pol (vl 16 (rF (MB (stF fk fn (nI 0)) fw))) a n 0 ((n + 15) / 16)) q) j)) (fun j => nI (rF (MB (stF fk fn (nI 0)) fw) j)) y1 y2 (fun j => nI (sB (MB (stF fk fn (nI 0)) fw) j)) (mixf k (fun j => nI (cb (dD op0 b t) m0 q j)) y3)) → ∀ ls : Array Slot, lv_has ls 3 [(2, .int (nI k)), (1, .int (nI (16 * q))), (0, .ref (o 0))] → W p l e { frames := 3, cells := 0, slots := 0, locals := 68 } s m ar below meth c H locs 0 0 Q (F0 m 173 ls []) := by
                            intro n0
                            induction n0 with
                            | zero =>
                              intro k hn0 H locs hw ls hl
                              have hn0 : k = 16 := by omega
                              subst hn0
                              have hw := hw.cong 14 (g := fun j => nI (cb (dD op0 b t) m0 q j)) rfl (fun j hj => mixf_n hj)
                              have hw : Wd D A s.heap H locs (wX3 o cA cd cap ph (nI op0) (nI n) (nI m0) fk fn (fun j => nI (a j)) (fun j => nI (b j)) (fun j => nI (t j)) fe (stF fk fn (nI 0)) (MB (stF fk fn (nI 0)) fw) (fun j => nI (dg (pol (vl 16 (rF (MB (stF fk fn (nI 0)) fw))) (dD op0 b t) m0 (pol (vl 16 (rF (MB (stF fk fn (nI 0)) fw))) a n 0 ((n + 15) / 16)) q) j)) (fun j => nI (rF (MB (stF fk fn (nI 0)) fw) j)) y1 y2 (fun j => nI (sB (MB (stF fk fn (nI 0)) fw) j)) (fun j => nI (cb (dD op0 b t) m0 q j))) := hw
                              refine lv_iload_n S.1 S.2.1 dX3_tag0_173 rfl (lv_at hl 0 rfl) ?_
                              refine lv_bipush (v := nI 16) S.1 S.2.1 dX3_tag0_174 (by decide) ?_
                              refine lv_icmp_ge (tgt := 231) S.1 S.2.1 dX3_tag0_176 (by decide) (fun c176 => ?_) (fun c176 => ?_)
                              · rw [nI_leI (by omega) (by omega)] at c176
                                refine lv_aload_n S.1 S.2.1 dX3_tag0_231 rfl (lv_at hl 2 rfl) ?_
                                refine callVV (rest := []) S hK hw hA (kX3_take l D cA o cd cap ph (nI op0) (nI n) (nI m0) fk fn (fun j => nI (a j)) (fun j => nI (b j)) (fun j => nI (t j)) fe (stF fk fn (nI 0)) (MB (stF fk fn (nI 0)) fw) y1 y2 (fun j => nI (sB (MB (stF fk fn (nI 0)) fw) j)) (pol (vl 16 (rF (MB (stF fk fn (nI 0)) fw))) (dD op0 b t) m0 (pol (vl 16 (rF (MB (stF fk fn (nI 0)) fw))) a n 0 ((n + 15) / 16)) q) (rF (MB (stF fk fn (nI 0)) fw)) (cb (dD op0 b t) m0 q) (pol_lt (pol_lt pP_pos _) q) (fun j _ => rF_le _ j) (cb_le (dD_lt hb ht) m0 q)) gX3_tag0_X3_take rfl 0 rfl (by decide +kernel) ⟨rfl, rfl⟩ ⟨by decide, by decide⟩ ⟨Nat.zero_le _, Nat.zero_le _⟩ [0, 1, 2, 3, 4, 5, 6, 7, 8, 9, 10, 11, 12, 13, 14] rfl (by decide) (fun _ => rfl) 0 rfl rfl rfl hl.1 (Nat.le_of_ble_eq_true rfl) dX3_tag0_232 rfl (fun u232 H locs hp hw => ?_)
                                have hw : Wd D A s.heap H locs (wX3 o cA cd cap ph (nI op0) (nI n) (nI m0) fk fn (fun j => nI (a j)) (fun j => nI (b j)) (fun j => nI (t j)) fe (stF fk fn (nI 0)) (MB (stF fk fn (nI 0)) fw) (fun j => nI (dg (tV (pol (vl 16 (rF (MB (stF fk fn (nI 0)) fw))) (dD op0 b t) m0 (pol (vl 16 (rF (MB (stF fk fn (nI 0)) fw))) a n 0 ((n + 15) / 16)) q) (cb (dD op0 b t) m0 q) * vl 16 (rF (MB (stF fk fn (nI 0)) fw)) % pP) j)) (fun j => nI (rF (MB (stF fk fn (nI 0)) fw) j)) u232.1 u232.2 (fun j => nI (sB (MB (stF fk fn (nI 0)) fw) j)) (fun j => nI (cb (dD op0 b t) m0 q j))) := hw
                                refine lv_iinc (v := nI ((16 * q) + 16)) (lv' := [(1, .int (nI ((16 * q) + 16))), (2, .int (nI 16)), (0, .ref (o 0))]) S.1 S.2.1 dX3_tag0_235 hl (k := 1) rfl (nI_add (16 * q) 16) (by decide) rfl (fun ls hl => ?_)
                                refine lv_goto (tgt := 163) S.1 S.2.1 dX3_tag0_238 (by decide) ?_
                                exact ih (q + 1) _ _ _ (by omega)  _ _ hw _ (lv_sub hl [0, 2] rfl)
                              · rw [nI_leI (by omega) (by omega)] at c176
                                exfalso; omega
                            | succ n0 ih =>
                              intro k hn0 H locs hw ls hl
                              have hlt : k < 16 := by omega
                              refine lv_iload_n S.1 S.2.1 dX3_tag0_173 rfl (lv_at hl 0 rfl) ?_
                              refine lv_bipush (v := nI 16) S.1 S.2.1 dX3_tag0_174 (by decide) ?_
                              refine lv_icmp_ge (tgt := 231) S.1 S.2.1 dX3_tag0_176 (by decide) (fun c176 => ?_) (fun c176 => ?_)
                              · rw [nI_leI (by omega) (by omega)] at c176
                                exfalso; omega
                              · rw [nI_leI (by omega) (by omega)] at c176
                                refine lv_aload_n S.1 S.2.1 dX3_tag0_179 rfl (lv_at hl 2 rfl) ?_
                                refine mg S hK hw 0 rfl rfl hiX3 19 (by decide) (List.mem_of_getElem? (i := 5) rfl) rfl dX3_tag0_180 ?_
                                refine lv_iload_n S.1 S.2.1 dX3_tag0_183 rfl (lv_at hl 0 rfl) ?_
                                refine lv_iload_n S.1 S.2.1 dX3_tag0_184 rfl (lv_at hl 1 rfl) ?_
                                refine lv_iload_n S.1 S.2.1 dX3_tag0_185 rfl (lv_at hl 0 rfl) ?_
                                refine lv_iadd S.1 S.2.1 dX3_tag0_186 ?_
                                refine te (nI_add _ _) ?_
                                refine lv_aload_n S.1 S.2.1 dX3_tag0_187 rfl (lv_at hl 2 rfl) ?_
                                refine mg S hK hw 0 rfl rfl hiX3 10 (by decide) (List.mem_of_getElem? (i := 7) rfl) rfl dX3_tag0_188 ?_
                                refine lv_icmp_ge (tgt := 223) S.1 S.2.1 dX3_tag0_191 (by decide) (fun c191 => ?_) (fun c191 => ?_)
                                · rw [nI_leI (by omega) (by omega)] at c191
                                  refine lv_iconst (v := nI 0) S.1 S.2.1 dX3_tag0_223 (by decide) ?_
                                  refine te (y := nI (cb (dD op0 b t) m0 q k)) (by unfold cb dD; first | rw [if_pos (by omega), if_neg (by omega)] | rw [if_pos (by omega), if_pos (by omega)] | rw [if_neg (by omega)]) ?_
                                  refine ap S hK hw 14 rfl k rfl (by omega) (by decide) dX3_tag0_224 (fun H locs hw => ?_)
                                  have hw : Wd D A s.heap H locs (wX3 o cA cd cap ph (nI op0) (nI n) (nI m0) fk fn (fun j => nI (a j)) (fun j => nI (b j)) (fun j => nI (t j)) fe (stF fk fn (nI 0)) (MB (stF fk fn (nI 0)) fw) (fun j => nI (dg (pol (vl 16 (rF (MB (stF fk fn (nI 0)) fw))) (dD op0 b t) m0 (pol (vl 16 (rF (MB (stF fk fn (nI 0)) fw))) a n 0 ((n + 15) / 16)) q) j)) (fun j => nI (rF (MB (stF fk fn (nI 0)) fw) j)) y1 y2 (fun j => nI (sB (MB (stF fk fn (nI 0)) fw) j)) (upd (mixf k (fun j => nI (cb (dD op0 b t) m0 q j)) y3) k (nI (cb (dD op0 b t) m0 q k)))) := hw
                                  have hw := hw.cong 14 (g := mixf (k + 1) (fun j => nI (cb (dD op0 b t) m0 q j)) y3) rfl (fun j _ => mixf_put (by exact rfl) j)
                                  have hw : Wd D A s.heap H locs (wX3 o cA cd cap ph (nI op0) (nI n) (nI m0) fk fn (fun j => nI (a j)) (fun j => nI (b j)) (fun j => nI (t j)) fe (stF fk fn (nI 0)) (MB (stF fk fn (nI 0)) fw) (fun j => nI (dg (pol (vl 16 (rF (MB (stF fk fn (nI 0)) fw))) (dD op0 b t) m0 (pol (vl 16 (rF (MB (stF fk fn (nI 0)) fw))) a n 0 ((n + 15) / 16)) q) j)) (fun j => nI (rF (MB (stF fk fn (nI 0)) fw) j)) y1 y2 (fun j => nI (sB (MB (stF fk fn (nI 0)) fw) j)) (mixf (k + 1) (fun j => nI (cb (dD op0 b t) m0 q j)) y3)) := hw
                                  refine lv_iinc (v := nI (k + 1)) (lv' := [(2, .int (nI (k + 1))), (1, .int (nI (16 * q))), (0, .ref (o 0))]) S.1 S.2.1 dX3_tag0_225 hl (k := 0) rfl (nI_add k 1) (by decide) rfl (fun ls hl => ?_)
                                  refine lv_goto (tgt := 173) S.1 S.2.1 dX3_tag0_228 (by decide) ?_
                                  exact ih (k + 1)  (by omega)  _ _ hw _ hl
                                · rw [nI_leI (by omega) (by omega)] at c191
                                  refine lv_aload_n S.1 S.2.1 dX3_tag0_194 rfl (lv_at hl 2 rfl) ?_
                                  refine mg S hK hw 0 rfl rfl hiX3 5 (by decide) (List.mem_of_getElem? (i := 8) rfl) rfl dX3_tag0_195 ?_
                                  refine lv_if_eq (tgt := 212) S.1 S.2.1 dX3_tag0_198 (by decide) (fun c198 => ?_) (fun c198 => ?_)
                                  · rw [← nI_0, nI_eq (by omega) (by omega)] at c198
                                    refine lv_aload_n S.1 S.2.1 dX3_tag0_212 rfl (lv_at hl 2 rfl) ?_
                                    refine mg S hK hw 0 rfl rfl hiX3 9 (by decide) (List.mem_of_getElem? (i := 10) rfl) rfl dX3_tag0_213 ?_
                                    refine lv_iload_n S.1 S.2.1 dX3_tag0_216 rfl (lv_at hl 1 rfl) ?_
                                    refine lv_iload_n S.1 S.2.1 dX3_tag0_217 rfl (lv_at hl 0 rfl) ?_
                                    refine lv_iadd S.1 S.2.1 dX3_tag0_218 ?_
                                    refine te (nI_add _ _) ?_
                                    refine ag S hK hw 5 rfl ((16 * q) + k) rfl (by omega) (by decide) dX3_tag0_219 ?_
                                    refine te (y := nI (t ((16 * q) + k))) rfl ?_
                                    refine lv_goto (tgt := 224) S.1 S.2.1 dX3_tag0_220 (by decide) ?_
                                    refine te (y := nI (cb (dD op0 b t) m0 q k)) (by unfold cb dD; first | rw [if_pos (by omega), if_neg (by omega)] | rw [if_pos (by omega), if_pos (by omega)] | rw [if_neg (by omega)]) ?_
                                    refine ap S hK hw 14 rfl k rfl (by omega) (by decide) dX3_tag0_224 (fun H locs hw => ?_)
                                    have hw : Wd D A s.heap H locs (wX3 o cA cd cap ph (nI op0) (nI n) (nI m0) fk fn (fun j => nI (a j)) (fun j => nI (b j)) (fun j => nI (t j)) fe (stF fk fn (nI 0)) (MB (stF fk fn (nI 0)) fw) (fun j => nI (dg (pol (vl 16 (rF (MB (stF fk fn (nI 0)) fw))) (dD op0 b t) m0 (pol (vl 16 (rF (MB (stF fk fn (nI 0)) fw))) a n 0 ((n + 15) / 16)) q) j)) (fun j => nI (rF (MB (stF fk fn (nI 0)) fw) j)) y1 y2 (fun j => nI (sB (MB (stF fk fn (nI 0)) fw) j)) (upd (mixf k (fun j => nI (cb (dD op0 b t) m0 q j)) y3) k (nI (cb (dD op0 b t) m0 q k)))) := hw
                                    have hw := hw.cong 14 (g := mixf (k + 1) (fun j => nI (cb (dD op0 b t) m0 q j)) y3) rfl (fun j _ => mixf_put (by exact rfl) j)
                                    have hw : Wd D A s.heap H locs (wX3 o cA cd cap ph (nI op0) (nI n) (nI m0) fk fn (fun j => nI (a j)) (fun j => nI (b j)) (fun j => nI (t j)) fe (stF fk fn (nI 0)) (MB (stF fk fn (nI 0)) fw) (fun j => nI (dg (pol (vl 16 (rF (MB (stF fk fn (nI 0)) fw))) (dD op0 b t) m0 (pol (vl 16 (rF (MB (stF fk fn (nI 0)) fw))) a n 0 ((n + 15) / 16)) q) j)) (fun j => nI (rF (MB (stF fk fn (nI 0)) fw) j)) y1 y2 (fun j => nI (sB (MB (stF fk fn (nI 0)) fw) j)) (mixf (k + 1) (fun j => nI (cb (dD op0 b t) m0 q j)) y3)) := hw
                                    refine lv_iinc (v := nI (k + 1)) (lv' := [(2, .int (nI (k + 1))), (1, .int (nI (16 * q))), (0, .ref (o 0))]) S.1 S.2.1 dX3_tag0_225 hl (k := 0) rfl (nI_add k 1) (by decide) rfl (fun ls hl => ?_)
                                    refine lv_goto (tgt := 173) S.1 S.2.1 dX3_tag0_228 (by decide) ?_
                                    exact ih (k + 1)  (by omega)  _ _ hw _ hl
                                  · rw [← nI_0, nI_eq (by omega) (by omega)] at c198
                                    refine lv_aload_n S.1 S.2.1 dX3_tag0_201 rfl (lv_at hl 2 rfl) ?_
                                    refine mg S hK hw 0 rfl rfl hiX3 8 (by decide) (List.mem_of_getElem? (i := 9) rfl) rfl dX3_tag0_202 ?_
                                    refine lv_iload_n S.1 S.2.1 dX3_tag0_205 rfl (lv_at hl 1 rfl) ?_
                                    refine lv_iload_n S.1 S.2.1 dX3_tag0_206 rfl (lv_at hl 0 rfl) ?_
                                    refine lv_iadd S.1 S.2.1 dX3_tag0_207 ?_
                                    refine te (nI_add _ _) ?_
                                    refine ag S hK hw 4 rfl ((16 * q) + k) rfl (by omega) (by decide) dX3_tag0_208 ?_
                                    refine te (y := nI (b ((16 * q) + k))) rfl ?_
                                    refine lv_goto (tgt := 224) S.1 S.2.1 dX3_tag0_209 (by decide) ?_
                                    refine te (y := nI (cb (dD op0 b t) m0 q k)) (by unfold cb dD; first | rw [if_pos (by omega), if_neg (by omega)] | rw [if_pos (by omega), if_pos (by omega)] | rw [if_neg (by omega)]) ?_
                                    refine ap S hK hw 14 rfl k rfl (by omega) (by decide) dX3_tag0_224 (fun H locs hw => ?_)
                                    have hw : Wd D A s.heap H locs (wX3 o cA cd cap ph (nI op0) (nI n) (nI m0) fk fn (fun j => nI (a j)) (fun j => nI (b j)) (fun j => nI (t j)) fe (stF fk fn (nI 0)) (MB (stF fk fn (nI 0)) fw) (fun j => nI (dg (pol (vl 16 (rF (MB (stF fk fn (nI 0)) fw))) (dD op0 b t) m0 (pol (vl 16 (rF (MB (stF fk fn (nI 0)) fw))) a n 0 ((n + 15) / 16)) q) j)) (fun j => nI (rF (MB (stF fk fn (nI 0)) fw) j)) y1 y2 (fun j => nI (sB (MB (stF fk fn (nI 0)) fw) j)) (upd (mixf k (fun j => nI (cb (dD op0 b t) m0 q j)) y3) k (nI (cb (dD op0 b t) m0 q k)))) := hw
                                    have hw := hw.cong 14 (g := mixf (k + 1) (fun j => nI (cb (dD op0 b t) m0 q j)) y3) rfl (fun j _ => mixf_put (by exact rfl) j)
                                    have hw : Wd D A s.heap H locs (wX3 o cA cd cap ph (nI op0) (nI n) (nI m0) fk fn (fun j => nI (a j)) (fun j => nI (b j)) (fun j => nI (t j)) fe (stF fk fn (nI 0)) (MB (stF fk fn (nI 0)) fw) (fun j => nI (dg (pol (vl 16 (rF (MB (stF fk fn (nI 0)) fw))) (dD op0 b t) m0 (pol (vl 16 (rF (MB (stF fk fn (nI 0)) fw))) a n 0 ((n + 15) / 16)) q) j)) (fun j => nI (rF (MB (stF fk fn (nI 0)) fw) j)) y1 y2 (fun j => nI (sB (MB (stF fk fn (nI 0)) fw) j)) (mixf (k + 1) (fun j => nI (cb (dD op0 b t) m0 q j)) y3)) := hw
                                    refine lv_iinc (v := nI (k + 1)) (lv' := [(2, .int (nI (k + 1))), (1, .int (nI (16 * q))), (0, .ref (o 0))]) S.1 S.2.1 dX3_tag0_225 hl (k := 0) rfl (nI_add k 1) (by decide) rfl (fun ls hl => ?_)
                                    refine lv_goto (tgt := 173) S.1 S.2.1 dX3_tag0_228 (by decide) ?_
                                    exact ih (k + 1)  (by omega)  _ _ hw _ hl
                          have hw := hw.cong 14 (g := mixf 0 (fun j => nI (cb (dD op0 b t) m0 q j)) y3) rfl (fun j _ => mixf_0 (fun j => nI (cb (dD op0 b t) m0 q j)) y3 j)
                          exact lp173 16 0  (by omega)  _ _ hw _ hl
                    exact lp163 ((m0 + 15) / 16) 0 _ _ _ (by omega)  _ _ hw _ hl
                  · rw [nI_leI (by omega) (by omega)] at c106
                    exfalso; omega
                | succ n0 ih =>
                  intro q y1 y2 y3 hn0 H locs hw ls hl
                  have hlt : q < ((n + 15) / 16) := by omega
                  refine lv_iload_n S.1 S.2.1 dX3_tag0_101 rfl (lv_at hl 0 rfl) ?_
                  refine lv_aload_n S.1 S.2.1 dX3_tag0_102 rfl (lv_at hl 1 rfl) ?_
                  refine mg S hK hw 0 rfl rfl hiX3 7 (by decide) (List.mem_of_getElem? (i := 4) rfl) rfl dX3_tag0_103 ?_
                  refine lv_icmp_ge (tgt := 161) S.1 S.2.1 dX3_tag0_106 (by decide) (fun c106 => ?_) (fun c106 => ?_)
                  · rw [nI_leI (by omega) (by omega)] at c106
                    exfalso; omega
                  · rw [nI_leI (by omega) (by omega)] at c106
                    refine lv_iconst (v := nI 0) S.1 S.2.1 dX3_tag0_109 (by decide) ?_
                    refine lv_istore_n (lv' := [(2, .int (nI 0)), (1, .int (nI (16 * q))), (0, .ref (o 0))]) S.1 S.2.1 dX3_tag0_110 rfl hl (by decide) rfl (fun ls hl => ?_)
                    have lp111 : ∀ (n0 k : Nat), k + n0 = 16 → ∀ (H : Heap) (locs : List Loc), Wd D A s.heap H locs (wX3 o cA cd cap ph (nI op0) (nI n) (nI m0) fk fn (fun j => nI (a j)) (fun j => nI (b j)) (fun j => nI (t j)) fe (stF fk fn (nI 0)) (MB (stF fk fn (nI 0)) fw) (fun j => nI (dg (pol (vl 16 (rF (MB (stF fk fn (nI 0)) fw))) a n 0 q) j)) (fun j => nI (rF (MB (stF fk fn (nI 0)) fw) j)) y1 y2 (fun j => nI (sB (MB (stF fk fn (nI 0)) fw) j)) (mixf k (fun j => nI (cb a n q j)) y3)) → ∀ ls : Array Slot, lv_has ls 3 [(2, .int (nI k)), (1, .int (nI (16 * q))), (0, .ref (o 0))] → W p l e { frames := 3, cells := 0, slots := 0, locals := 68 } s m ar below meth c H locs 0 0 Q (F0 m 111 ls []) := by
                      intro n0
                      induction n0 with
                      | zero =>
                        intro k hn0 H locs hw ls hl
                        have hn0 : k = 16 := by omega
                        subst hn0
                        have hw := hw.cong 14 (g := fun j => nI (cb a n q j)) rfl (fun j hj => mixf_n hj)
                        have hw : Wd D A s.heap H locs (wX3 o cA cd cap ph (nI op0) (nI n) (nI m0) fk fn (fun j => nI (a j)) (fun j => nI (b j)) (fun j => nI (t j)) fe (stF fk fn (nI 0)) (MB (stF fk fn (nI 0)) fw) (fun j => nI (dg (pol (vl 16 (rF (MB (stF fk fn (nI 0)) fw))) a n 0 q) j)) (fun j => nI (rF (MB (stF fk fn (nI 0)) fw) j)) y1 y2 (fun j => nI (sB (MB (stF fk fn (nI 0)) fw) j)) (fun j => nI (cb a n q j))) := hw
                        refine lv_iload_n S.1 S.2.1 dX3_tag0_111 rfl (lv_at hl 0 rfl) ?_
                        refine lv_bipush (v := nI 16) S.1 S.2.1 dX3_tag0_112 (by decide) ?_
                        refine lv_icmp_ge (tgt := 151) S.1 S.2.1 dX3_tag0_114 (by decide) (fun c114 => ?_) (fun c114 => ?_)
                        · rw [nI_leI (by omega) (by omega)] at c114
                          refine lv_aload_n S.1 S.2.1 dX3_tag0_151 rfl (lv_at hl 2 rfl) ?_
                          refine callVV (rest := []) S hK hw hA (kX3_take l D cA o cd cap ph (nI op0) (nI n) (nI m0) fk fn (fun j => nI (a j)) (fun j => nI (b j)) (fun j => nI (t j)) fe (stF fk fn (nI 0)) (MB (stF fk fn (nI 0)) fw) y1 y2 (fun j => nI (sB (MB (stF fk fn (nI 0)) fw) j)) (pol (vl 16 (rF (MB (stF fk fn (nI 0)) fw))) a n 0 q) (rF (MB (stF fk fn (nI 0)) fw)) (cb a n q) (pol_lt pP_pos q) (fun j _ => rF_le _ j) (cb_le ha n q)) gX3_tag0_X3_take rfl 0 rfl (by decide +kernel) ⟨rfl, rfl⟩ ⟨by decide, by decide⟩ ⟨Nat.zero_le _, Nat.zero_le _⟩ [0, 1, 2, 3, 4, 5, 6, 7, 8, 9, 10, 11, 12, 13, 14] rfl (by decide) (fun _ => rfl) 0 rfl rfl rfl hl.1 (Nat.le_of_ble_eq_true rfl) dX3_tag0_152 rfl (fun u152 H locs hp hw => ?_)
                          have hw : Wd D A s.heap H locs (wX3 o cA cd cap ph (nI op0) (nI n) (nI m0) fk fn (fun j => nI (a j)) (fun j => nI (b j)) (fun j => nI (t j)) fe (stF fk fn (nI 0)) (MB (stF fk fn (nI 0)) fw) (fun j => nI (dg (tV (pol (vl 16 (rF (MB (stF fk fn (nI 0)) fw))) a n 0 q) (cb a n q) * vl 16 (rF (MB (stF fk fn (nI 0)) fw)) % pP) j)) (fun j => nI (rF (MB (stF fk fn (nI 0)) fw) j)) u152.1 u152.2 (fun j => nI (sB (MB (stF fk fn (nI 0)) fw) j)) (fun j => nI (cb a n q j))) := hw
                          refine lv_iinc (v := nI ((16 * q) + 16)) (lv' := [(1, .int (nI ((16 * q) + 16))), (2, .int (nI 16)), (0, .ref (o 0))]) S.1 S.2.1 dX3_tag0_155 hl (k := 1) rfl (nI_add (16 * q) 16) (by decide) rfl (fun ls hl => ?_)
                          refine lv_goto (tgt := 101) S.1 S.2.1 dX3_tag0_158 (by decide) ?_
                          exact ih (q + 1) _ _ _ (by omega)  _ _ hw _ (lv_sub hl [0, 2] rfl)
                        · rw [nI_leI (by omega) (by omega)] at c114
                          exfalso; omega
                      | succ n0 ih =>
                        intro k hn0 H locs hw ls hl
                        have hlt : k < 16 := by omega
                        refine lv_iload_n S.1 S.2.1 dX3_tag0_111 rfl (lv_at hl 0 rfl) ?_
                        refine lv_bipush (v := nI 16) S.1 S.2.1 dX3_tag0_112 (by decide) ?_
                        refine lv_icmp_ge (tgt := 151) S.1 S.2.1 dX3_tag0_114 (by decide) (fun c114 => ?_) (fun c114 => ?_)
                        · rw [nI_leI (by omega) (by omega)] at c114
                          exfalso; omega
                        · rw [nI_leI (by omega) (by omega)] at c114
                          refine lv_aload_n S.1 S.2.1 dX3_tag0_117 rfl (lv_at hl 2 rfl) ?_
                          refine mg S hK hw 0 rfl rfl hiX3 19 (by decide) (List.mem_of_getElem? (i := 5) rfl) rfl dX3_tag0_118 ?_
                          refine lv_iload_n S.1 S.2.1 dX3_tag0_121 rfl (lv_at hl 0 rfl) ?_
                          refine lv_iload_n S.1 S.2.1 dX3_tag0_122 rfl (lv_at hl 1 rfl) ?_
                          refine lv_iload_n S.1 S.2.1 dX3_tag0_123 rfl (lv_at hl 0 rfl) ?_
                          refine lv_iadd S.1 S.2.1 dX3_tag0_124 ?_
                          refine te (nI_add _ _) ?_
                          refine lv_aload_n S.1 S.2.1 dX3_tag0_125 rfl (lv_at hl 2 rfl) ?_
                          refine mg S hK hw 0 rfl rfl hiX3 7 (by decide) (List.mem_of_getElem? (i := 4) rfl) rfl dX3_tag0_126 ?_
                          refine lv_icmp_ge (tgt := 143) S.1 S.2.1 dX3_tag0_129 (by decide) (fun c129 => ?_) (fun c129 => ?_)
                          · rw [nI_leI (by omega) (by omega)] at c129
                            refine lv_iconst (v := nI 0) S.1 S.2.1 dX3_tag0_143 (by decide) ?_
                            refine te (y := nI (cb a n q k)) (by unfold cb; first | rw [if_pos (by omega)] | rw [if_neg (by omega)]) ?_
                            refine ap S hK hw 14 rfl k rfl (by omega) (by decide) dX3_tag0_144 (fun H locs hw => ?_)
                            have hw : Wd D A s.heap H locs (wX3 o cA cd cap ph (nI op0) (nI n) (nI m0) fk fn (fun j => nI (a j)) (fun j => nI (b j)) (fun j => nI (t j)) fe (stF fk fn (nI 0)) (MB (stF fk fn (nI 0)) fw) (fun j => nI (dg (pol (vl 16 (rF (MB (stF fk fn (nI 0)) fw))) a n 0 q) j)) (fun j => nI (rF (MB (stF fk fn (nI 0)) fw) j)) y1 y2 (fun j => nI (sB (MB (stF fk fn (nI 0)) fw) j)) (upd (mixf k (fun j => nI (cb a n q j)) y3) k (nI (cb a n q k)))) := hw
                            have hw := hw.cong 14 (g := mixf (k + 1) (fun j => nI (cb a n q j)) y3) rfl (fun j _ => mixf_put (by exact rfl) j)
                            have hw : Wd D A s.heap H locs (wX3 o cA cd cap ph (nI op0) (nI n) (nI m0) fk fn (fun j => nI (a j)) (fun j => nI (b j)) (fun j => nI (t j)) fe (stF fk fn (nI 0)) (MB (stF fk fn (nI 0)) fw) (fun j => nI (dg (pol (vl 16 (rF (MB (stF fk fn (nI 0)) fw))) a n 0 q) j)) (fun j => nI (rF (MB (stF fk fn (nI 0)) fw) j)) y1 y2 (fun j => nI (sB (MB (stF fk fn (nI 0)) fw) j)) (mixf (k + 1) (fun j => nI (cb a n q j)) y3)) := hw
                            refine lv_iinc (v := nI (k + 1)) (lv' := [(2, .int (nI (k + 1))), (1, .int (nI (16 * q))), (0, .ref (o 0))]) S.1 S.2.1 dX3_tag0_145 hl (k := 0) rfl (nI_add k 1) (by decide) rfl (fun ls hl => ?_)
                            refine lv_goto (tgt := 111) S.1 S.2.1 dX3_tag0_148 (by decide) ?_
                            exact ih (k + 1)  (by omega)  _ _ hw _ hl
                          · rw [nI_leI (by omega) (by omega)] at c129
                            refine lv_aload_n S.1 S.2.1 dX3_tag0_132 rfl (lv_at hl 2 rfl) ?_
                            refine mg S hK hw 0 rfl rfl hiX3 6 (by decide) (List.mem_of_getElem? (i := 6) rfl) rfl dX3_tag0_133 ?_
                            refine lv_iload_n S.1 S.2.1 dX3_tag0_136 rfl (lv_at hl 1 rfl) ?_
                            refine lv_iload_n S.1 S.2.1 dX3_tag0_137 rfl (lv_at hl 0 rfl) ?_
                            refine lv_iadd S.1 S.2.1 dX3_tag0_138 ?_
                            refine te (nI_add _ _) ?_
                            refine ag S hK hw 3 rfl ((16 * q) + k) rfl (by omega) (by decide) dX3_tag0_139 ?_
                            refine te (y := nI (a ((16 * q) + k))) rfl ?_
                            refine lv_goto (tgt := 144) S.1 S.2.1 dX3_tag0_140 (by decide) ?_
                            refine te (y := nI (cb a n q k)) (by unfold cb; first | rw [if_pos (by omega)] | rw [if_neg (by omega)]) ?_
                            refine ap S hK hw 14 rfl k rfl (by omega) (by decide) dX3_tag0_144 (fun H locs hw => ?_)
                            have hw : Wd D A s.heap H locs (wX3 o cA cd cap ph (nI op0) (nI n) (nI m0) fk fn (fun j => nI (a j)) (fun j => nI (b j)) (fun j => nI (t j)) fe (stF fk fn (nI 0)) (MB (stF fk fn (nI 0)) fw) (fun j => nI (dg (pol (vl 16 (rF (MB (stF fk fn (nI 0)) fw))) a n 0 q) j)) (fun j => nI (rF (MB (stF fk fn (nI 0)) fw) j)) y1 y2 (fun j => nI (sB (MB (stF fk fn (nI 0)) fw) j)) (upd (mixf k (fun j => nI (cb a n q j)) y3) k (nI (cb a n q k)))) := hw
                            have hw := hw.cong 14 (g := mixf (k + 1) (fun j => nI (cb a n q j)) y3) rfl (fun j _ => mixf_put (by exact rfl) j)
                            have hw : Wd D A s.heap H locs (wX3 o cA cd cap ph (nI op0) (nI n) (nI m0) fk fn (fun j => nI (a j)) (fun j => nI (b j)) (fun j => nI (t j)) fe (stF fk fn (nI 0)) (MB (stF fk fn (nI 0)) fw) (fun j => nI (dg (pol (vl 16 (rF (MB (stF fk fn (nI 0)) fw))) a n 0 q) j)) (fun j => nI (rF (MB (stF fk fn (nI 0)) fw) j)) y1 y2 (fun j => nI (sB (MB (stF fk fn (nI 0)) fw) j)) (mixf (k + 1) (fun j => nI (cb a n q j)) y3)) := hw
                            refine lv_iinc (v := nI (k + 1)) (lv' := [(2, .int (nI (k + 1))), (1, .int (nI (16 * q))), (0, .ref (o 0))]) S.1 S.2.1 dX3_tag0_145 hl (k := 0) rfl (nI_add k 1) (by decide) rfl (fun ls hl => ?_)
                            refine lv_goto (tgt := 111) S.1 S.2.1 dX3_tag0_148 (by decide) ?_
                            exact ih (k + 1)  (by omega)  _ _ hw _ hl
                    have hw := hw.cong 14 (g := mixf 0 (fun j => nI (cb a n q j)) y3) rfl (fun j _ => mixf_0 (fun j => nI (cb a n q j)) y3 j)
                    exact lp111 16 0  (by omega)  _ _ hw _ hl
              exact lp101 ((n + 15) / 16) 0 _ _ _ (by omega)  _ _ hw _ hl
            · rw [nI_leI (by omega) (by omega)] at c83
              exfalso; omega
          | succ n0 ih =>
            intro k hn0 H locs hw ls hl
            have hlt : k < 40 := by omega
            refine lv_iload_n S.1 S.2.1 dX3_tag0_80 rfl (lv_at hl 0 rfl) ?_
            refine lv_bipush (v := nI 40) S.1 S.2.1 dX3_tag0_81 (by decide) ?_
            refine lv_icmp_ge (tgt := 99) S.1 S.2.1 dX3_tag0_83 (by decide) (fun c83 => ?_) (fun c83 => ?_)
            · rw [nI_leI (by omega) (by omega)] at c83
              exfalso; omega
            · rw [nI_leI (by omega) (by omega)] at c83
              refine lv_aload_n S.1 S.2.1 dX3_tag0_86 rfl (lv_at hl 1 rfl) ?_
              refine mg S hK hw 0 rfl rfl hiX3 14 (by decide) (List.mem_of_getElem? (i := 3) rfl) rfl dX3_tag0_87 ?_
              refine lv_iload_n S.1 S.2.1 dX3_tag0_90 rfl (lv_at hl 0 rfl) ?_
              refine lv_iconst (v := nI 0) S.1 S.2.1 dX3_tag0_91 (by decide) ?_
              refine ap S hK hw 9 rfl k rfl (by omega) (by decide) dX3_tag0_92 (fun H locs hw => ?_)
              have hw : Wd D A s.heap H locs (wX3 o cA cd cap ph (nI op0) (nI n) (nI m0) fk fn (fun j => nI (a j)) (fun j => nI (b j)) (fun j => nI (t j)) fe (stF fk fn (nI 0)) (MB (stF fk fn (nI 0)) fw) (upd (mixf k (fun j => nI 0) fh) k (nI 0)) (fun j => nI (rF (MB (stF fk fn (nI 0)) fw) j)) fp fg (fun j => nI (sB (MB (stF fk fn (nI 0)) fw) j)) fx) := hw
              have hw := hw.cong 9 (g := mixf (k + 1) (fun j => nI 0) fh) rfl (fun j _ => mixf_put (by exact rfl) j)
              have hw : Wd D A s.heap H locs (wX3 o cA cd cap ph (nI op0) (nI n) (nI m0) fk fn (fun j => nI (a j)) (fun j => nI (b j)) (fun j => nI (t j)) fe (stF fk fn (nI 0)) (MB (stF fk fn (nI 0)) fw) (mixf (k + 1) (fun j => nI 0) fh) (fun j => nI (rF (MB (stF fk fn (nI 0)) fw) j)) fp fg (fun j => nI (sB (MB (stF fk fn (nI 0)) fw) j)) fx) := hw
              refine lv_iinc (v := nI (k + 1)) (lv' := [(1, .int (nI (k + 1))), (0, .ref (o 0))]) S.1 S.2.1 dX3_tag0_93 hl (k := 0) rfl (nI_add k 1) (by decide) rfl (fun ls hl => ?_)
              refine lv_goto (tgt := 80) S.1 S.2.1 dX3_tag0_96 (by decide) ?_
              exact ih (k + 1)  (by omega)  _ _ hw _ hl
        have hw := hw.cong 9 (g := mixf 0 (fun j => nI 0) fh) rfl (fun j _ => mixf_0 (fun j => nI 0) fh j)
        exact lp80 40 0  (by omega)  _ _ hw _ hl
      · rw [nI_leI (by omega) (by omega)] at c10
        exfalso; omega
    | succ n0 ih =>
      intro k hn0 H locs hw ls hl
      have hlt : k < 16 := by omega
      refine lv_iload_n S.1 S.2.1 dX3_tag0_7 rfl (lv_at hl 0 rfl) ?_
      refine lv_bipush (v := nI 16) S.1 S.2.1 dX3_tag0_8 (by decide) ?_
      refine lv_icmp_ge (tgt := 78) S.1 S.2.1 dX3_tag0_10 (by decide) (fun c10 => ?_) (fun c10 => ?_)
      · rw [nI_leI (by omega) (by omega)] at c10
        exfalso; omega
      · rw [nI_leI (by omega) (by omega)] at c10
        refine lv_aload_n S.1 S.2.1 dX3_tag0_13 rfl (lv_at hl 1 rfl) ?_
        refine lv_iload_n S.1 S.2.1 dX3_tag0_14 rfl (lv_at hl 0 rfl) ?_
        refine callVI (rest := []) S hK hw hA (kX3_byteOf l D cA o cd cap ph (nI op0) (nI n) (nI m0) fk fn (fun j => nI (a j)) (fun j => nI (b j)) (fun j => nI (t j)) fe (stF fk fn (nI 0)) (MB (stF fk fn (nI 0)) fw) fh (mixf k (fun j => nI (rF (MB (stF fk fn (nI 0)) fw) j)) ff) fp fg (mixf k (fun j => nI (sB (MB (stF fk fn (nI 0)) fw) j)) fr) fx k (by omega)) gX3_tag0_X3_byteOf rfl 1 rfl (by decide +kernel) ⟨rfl, rfl⟩ ⟨by decide, by decide⟩ ⟨Nat.zero_le _, Nat.zero_le _⟩ [0, 1, 2, 3, 4, 5, 6, 7, 8, 9, 10, 11, 12, 13, 14] rfl (by decide) (fun _ => rfl) 0 rfl rfl rfl hl.1 (Nat.le_of_ble_eq_true rfl) dX3_tag0_15 rfl (fun r u15 H locs hp hw => ?_)
        have hw : Wd D A s.heap H locs (wX3 o cA cd cap ph (nI op0) (nI n) (nI m0) fk fn (fun j => nI (a j)) (fun j => nI (b j)) (fun j => nI (t j)) fe (stF fk fn (nI 0)) (MB (stF fk fn (nI 0)) fw) fh (mixf k (fun j => nI (rF (MB (stF fk fn (nI 0)) fw) j)) ff) fp fg (mixf k (fun j => nI (sB (MB (stF fk fn (nI 0)) fw) j)) fr) fx) := hw
        subst hp
        refine lv_istore_n (lv' := [(2, .int (nI (bbn (MB (stF fk fn (nI 0)) fw) k))), (1, .int (nI k)), (0, .ref (o 0))]) S.1 S.2.1 dX3_tag0_18 rfl hl (by decide) rfl (fun ls hl => ?_)
        refine lv_aload_n S.1 S.2.1 dX3_tag0_19 rfl (lv_at hl 2 rfl) ?_
        refine mg S hK hw 0 rfl rfl hiX3 15 (by decide) (List.mem_of_getElem? (i := 1) rfl) rfl dX3_tag0_20 ?_
        refine lv_iload_n S.1 S.2.1 dX3_tag0_23 rfl (lv_at hl 1 rfl) ?_
        refine lv_iload_n S.1 S.2.1 dX3_tag0_24 rfl (lv_at hl 1 rfl) ?_
        refine lv_iconst (v := nI 4) S.1 S.2.1 dX3_tag0_25 (by decide) ?_
        refine lv_irem S.1 S.2.1 dX3_tag0_26 (by decide) ?_
        refine te (pk_rem (by omega) (by decide) (by decide)) ?_
        refine lv_iconst (v := nI 3) S.1 S.2.1 dX3_tag0_27 (by decide) ?_
        refine lv_icmp_ne (tgt := 38) S.1 S.2.1 dX3_tag0_28 (by decide) (fun c28 => ?_) (fun c28 => ?_)
        · rw [nI_eq (by omega) (by omega)] at c28
          refine lv_iload_n S.1 S.2.1 dX3_tag0_38 rfl (lv_at hl 1 rfl) ?_
          refine lv_iconst (v := nI 4) S.1 S.2.1 dX3_tag0_39 (by decide) ?_
          refine lv_irem S.1 S.2.1 dX3_tag0_40 (by decide) ?_
          refine te (pk_rem (by omega) (by decide) (by decide)) ?_
          refine lv_if_ne (tgt := 56) S.1 S.2.1 dX3_tag0_41 (by decide) (fun c41 => ?_) (fun c41 => ?_)
          · rw [← nI_0, nI_eq (by omega) (by omega)] at c41
            refine lv_iload_n S.1 S.2.1 dX3_tag0_56 rfl (lv_at hl 0 rfl) ?_
            refine te (y := nI (rF (MB (stF fk fn (nI 0)) fw) k)) (by first | exact rf_a hlt c28 | exact rf_b hlt (by omega) (by omega) | exact rf_c hlt (by omega) (by omega)) ?_
            refine ap S hK hw 10 rfl k rfl (by omega) (by decide) dX3_tag0_57 (fun H locs hw => ?_)
            have hw : Wd D A s.heap H locs (wX3 o cA cd cap ph (nI op0) (nI n) (nI m0) fk fn (fun j => nI (a j)) (fun j => nI (b j)) (fun j => nI (t j)) fe (stF fk fn (nI 0)) (MB (stF fk fn (nI 0)) fw) fh (upd (mixf k (fun j => nI (rF (MB (stF fk fn (nI 0)) fw) j)) ff) k (nI (rF (MB (stF fk fn (nI 0)) fw) k))) fp fg (mixf k (fun j => nI (sB (MB (stF fk fn (nI 0)) fw) j)) fr) fx) := hw
            have hw := hw.cong 10 (g := mixf (k + 1) (fun j => nI (rF (MB (stF fk fn (nI 0)) fw) j)) ff) rfl (fun j _ => mixf_put (by exact rfl) j)
            have hw : Wd D A s.heap H locs (wX3 o cA cd cap ph (nI op0) (nI n) (nI m0) fk fn (fun j => nI (a j)) (fun j => nI (b j)) (fun j => nI (t j)) fe (stF fk fn (nI 0)) (MB (stF fk fn (nI 0)) fw) fh (mixf (k + 1) (fun j => nI (rF (MB (stF fk fn (nI 0)) fw) j)) ff) fp fg (mixf k (fun j => nI (sB (MB (stF fk fn (nI 0)) fw) j)) fr) fx) := hw
            refine lv_aload_n S.1 S.2.1 dX3_tag0_58 rfl (lv_at hl 2 rfl) ?_
            refine mg S hK hw 0 rfl rfl hiX3 18 (by decide) (List.mem_of_getElem? (i := 2) rfl) rfl dX3_tag0_59 ?_
            refine lv_iload_n S.1 S.2.1 dX3_tag0_62 rfl (lv_at hl 1 rfl) ?_
            refine lv_aload_n S.1 S.2.1 dX3_tag0_63 rfl (lv_at hl 2 rfl) ?_
            refine lv_bipush (v := nI 16) S.1 S.2.1 dX3_tag0_64 (by decide) ?_
            refine lv_iload_n S.1 S.2.1 dX3_tag0_66 rfl (lv_at hl 1 rfl) ?_
            refine lv_iadd S.1 S.2.1 dX3_tag0_67 ?_
            refine te (nI_add _ _) ?_
            refine callVI (rest := [.int (nI k), .ref (o 13)]) S hK hw hA (kX3_byteOf l D cA o cd cap ph (nI op0) (nI n) (nI m0) fk fn (fun j => nI (a j)) (fun j => nI (b j)) (fun j => nI (t j)) fe (stF fk fn (nI 0)) (MB (stF fk fn (nI 0)) fw) fh (mixf (k + 1) (fun j => nI (rF (MB (stF fk fn (nI 0)) fw) j)) ff) fp fg (mixf k (fun j => nI (sB (MB (stF fk fn (nI 0)) fw) j)) fr) fx (16 + k) (by omega)) gX3_tag0_X3_byteOf rfl 1 rfl (by decide +kernel) ⟨rfl, rfl⟩ ⟨by decide, by decide⟩ ⟨Nat.zero_le _, Nat.zero_le _⟩ [0, 1, 2, 3, 4, 5, 6, 7, 8, 9, 10, 11, 12, 13, 14] rfl (by decide) (fun _ => rfl) 0 rfl rfl rfl hl.1 (Nat.le_of_ble_eq_true rfl) dX3_tag0_68 rfl (fun r u68 H locs hp hw => ?_)
            have hw : Wd D A s.heap H locs (wX3 o cA cd cap ph (nI op0) (nI n) (nI m0) fk fn (fun j => nI (a j)) (fun j => nI (b j)) (fun j => nI (t j)) fe (stF fk fn (nI 0)) (MB (stF fk fn (nI 0)) fw) fh (mixf (k + 1) (fun j => nI (rF (MB (stF fk fn (nI 0)) fw) j)) ff) fp fg (mixf k (fun j => nI (sB (MB (stF fk fn (nI 0)) fw) j)) fr) fx) := hw
            subst hp
            refine ap S hK hw 13 rfl k rfl (by omega) (by decide) dX3_tag0_71 (fun H locs hw => ?_)
            have hw : Wd D A s.heap H locs (wX3 o cA cd cap ph (nI op0) (nI n) (nI m0) fk fn (fun j => nI (a j)) (fun j => nI (b j)) (fun j => nI (t j)) fe (stF fk fn (nI 0)) (MB (stF fk fn (nI 0)) fw) fh (mixf (k + 1) (fun j => nI (rF (MB (stF fk fn (nI 0)) fw) j)) ff) fp fg (upd (mixf k (fun j => nI (sB (MB (stF fk fn (nI 0)) fw) j)) fr) k (nI (bbn (MB (stF fk fn (nI 0)) fw) (16 + k)))) fx) := hw
            have hw := hw.cong 13 (g := mixf (k + 1) (fun j => nI (sB (MB (stF fk fn (nI 0)) fw) j)) fr) rfl (fun j _ => mixf_put (by exact rfl) j)
            have hw : Wd D A s.heap H locs (wX3 o cA cd cap ph (nI op0) (nI n) (nI m0) fk fn (fun j => nI (a j)) (fun j => nI (b j)) (fun j => nI (t j)) fe (stF fk fn (nI 0)) (MB (stF fk fn (nI 0)) fw) fh (mixf (k + 1) (fun j => nI (rF (MB (stF fk fn (nI 0)) fw) j)) ff) fp fg (mixf (k + 1) (fun j => nI (sB (MB (stF fk fn (nI 0)) fw) j)) fr) fx) := hw
            refine lv_iinc (v := nI (k + 1)) (lv' := [(1, .int (nI (k + 1))), (2, .int (nI (bbn (MB (stF fk fn (nI 0)) fw) k))), (0, .ref (o 0))]) S.1 S.2.1 dX3_tag0_72 hl (k := 1) rfl (nI_add k 1) (by decide) rfl (fun ls hl => ?_)
            refine lv_goto (tgt := 7) S.1 S.2.1 dX3_tag0_75 (by decide) ?_
            exact ih (k + 1)  (by omega)  _ _ hw _ (lv_sub hl [0, 2] rfl)
          · rw [← nI_0, nI_eq (by omega) (by omega)] at c41
            refine lv_iload_n S.1 S.2.1 dX3_tag0_44 rfl (lv_at hl 1 rfl) ?_
            refine lv_if_le (tgt := 56) S.1 S.2.1 dX3_tag0_45 (by decide) (fun c45 => ?_) (fun c45 => ?_)
            · rw [← nI_0, nI_leI (by omega) (by omega)] at c45
              refine lv_iload_n S.1 S.2.1 dX3_tag0_56 rfl (lv_at hl 0 rfl) ?_
              refine te (y := nI (rF (MB (stF fk fn (nI 0)) fw) k)) (by first | exact rf_a hlt c28 | exact rf_b hlt (by omega) (by omega) | exact rf_c hlt (by omega) (by omega)) ?_
              refine ap S hK hw 10 rfl k rfl (by omega) (by decide) dX3_tag0_57 (fun H locs hw => ?_)
              have hw : Wd D A s.heap H locs (wX3 o cA cd cap ph (nI op0) (nI n) (nI m0) fk fn (fun j => nI (a j)) (fun j => nI (b j)) (fun j => nI (t j)) fe (stF fk fn (nI 0)) (MB (stF fk fn (nI 0)) fw) fh (upd (mixf k (fun j => nI (rF (MB (stF fk fn (nI 0)) fw) j)) ff) k (nI (rF (MB (stF fk fn (nI 0)) fw) k))) fp fg (mixf k (fun j => nI (sB (MB (stF fk fn (nI 0)) fw) j)) fr) fx) := hw
              have hw := hw.cong 10 (g := mixf (k + 1) (fun j => nI (rF (MB (stF fk fn (nI 0)) fw) j)) ff) rfl (fun j _ => mixf_put (by exact rfl) j)
              have hw : Wd D A s.heap H locs (wX3 o cA cd cap ph (nI op0) (nI n) (nI m0) fk fn (fun j => nI (a j)) (fun j => nI (b j)) (fun j => nI (t j)) fe (stF fk fn (nI 0)) (MB (stF fk fn (nI 0)) fw) fh (mixf (k + 1) (fun j => nI (rF (MB (stF fk fn (nI 0)) fw) j)) ff) fp fg (mixf k (fun j => nI (sB (MB (stF fk fn (nI 0)) fw) j)) fr) fx) := hw
              refine lv_aload_n S.1 S.2.1 dX3_tag0_58 rfl (lv_at hl 2 rfl) ?_
              refine mg S hK hw 0 rfl rfl hiX3 18 (by decide) (List.mem_of_getElem? (i := 2) rfl) rfl dX3_tag0_59 ?_
              refine lv_iload_n S.1 S.2.1 dX3_tag0_62 rfl (lv_at hl 1 rfl) ?_
              refine lv_aload_n S.1 S.2.1 dX3_tag0_63 rfl (lv_at hl 2 rfl) ?_
              refine lv_bipush (v := nI 16) S.1 S.2.1 dX3_tag0_64 (by decide) ?_
              refine lv_iload_n S.1 S.2.1 dX3_tag0_66 rfl (lv_at hl 1 rfl) ?_
              refine lv_iadd S.1 S.2.1 dX3_tag0_67 ?_
              refine te (nI_add _ _) ?_
              refine callVI (rest := [.int (nI k), .ref (o 13)]) S hK hw hA (kX3_byteOf l D cA o cd cap ph (nI op0) (nI n) (nI m0) fk fn (fun j => nI (a j)) (fun j => nI (b j)) (fun j => nI (t j)) fe (stF fk fn (nI 0)) (MB (stF fk fn (nI 0)) fw) fh (mixf (k + 1) (fun j => nI (rF (MB (stF fk fn (nI 0)) fw) j)) ff) fp fg (mixf k (fun j => nI (sB (MB (stF fk fn (nI 0)) fw) j)) fr) fx (16 + k) (by omega)) gX3_tag0_X3_byteOf rfl 1 rfl (by decide +kernel) ⟨rfl, rfl⟩ ⟨by decide, by decide⟩ ⟨Nat.zero_le _, Nat.zero_le _⟩ [0, 1, 2, 3, 4, 5, 6, 7, 8, 9, 10, 11, 12, 13, 14] rfl (by decide) (fun _ => rfl) 0 rfl rfl rfl hl.1 (Nat.le_of_ble_eq_true rfl) dX3_tag0_68 rfl (fun r u68 H locs hp hw => ?_)
              have hw : Wd D A s.heap H locs (wX3 o cA cd cap ph (nI op0) (nI n) (nI m0) fk fn (fun j => nI (a j)) (fun j => nI (b j)) (fun j => nI (t j)) fe (stF fk fn (nI 0)) (MB (stF fk fn (nI 0)) fw) fh (mixf (k + 1) (fun j => nI (rF (MB (stF fk fn (nI 0)) fw) j)) ff) fp fg (mixf k (fun j => nI (sB (MB (stF fk fn (nI 0)) fw) j)) fr) fx) := hw
              subst hp
              refine ap S hK hw 13 rfl k rfl (by omega) (by decide) dX3_tag0_71 (fun H locs hw => ?_)
              have hw : Wd D A s.heap H locs (wX3 o cA cd cap ph (nI op0) (nI n) (nI m0) fk fn (fun j => nI (a j)) (fun j => nI (b j)) (fun j => nI (t j)) fe (stF fk fn (nI 0)) (MB (stF fk fn (nI 0)) fw) fh (mixf (k + 1) (fun j => nI (rF (MB (stF fk fn (nI 0)) fw) j)) ff) fp fg (upd (mixf k (fun j => nI (sB (MB (stF fk fn (nI 0)) fw) j)) fr) k (nI (bbn (MB (stF fk fn (nI 0)) fw) (16 + k)))) fx) := hw
              have hw := hw.cong 13 (g := mixf (k + 1) (fun j => nI (sB (MB (stF fk fn (nI 0)) fw) j)) fr) rfl (fun j _ => mixf_put (by exact rfl) j)
              have hw : Wd D A s.heap H locs (wX3 o cA cd cap ph (nI op0) (nI n) (nI m0) fk fn (fun j => nI (a j)) (fun j => nI (b j)) (fun j => nI (t j)) fe (stF fk fn (nI 0)) (MB (stF fk fn (nI 0)) fw) fh (mixf (k + 1) (fun j => nI (rF (MB (stF fk fn (nI 0)) fw) j)) ff) fp fg (mixf (k + 1) (fun j => nI (sB (MB (stF fk fn (nI 0)) fw) j)) fr) fx) := hw
              refine lv_iinc (v := nI (k + 1)) (lv' := [(1, .int (nI (k + 1))), (2, .int (nI (bbn (MB (stF fk fn (nI 0)) fw) k))), (0, .ref (o 0))]) S.1 S.2.1 dX3_tag0_72 hl (k := 1) rfl (nI_add k 1) (by decide) rfl (fun ls hl => ?_)
              refine lv_goto (tgt := 7) S.1 S.2.1 dX3_tag0_75 (by decide) ?_
              exact ih (k + 1)  (by omega)  _ _ hw _ (lv_sub hl [0, 2] rfl)
            · rw [← nI_0, nI_leI (by omega) (by omega)] at c45
              refine lv_iload_n S.1 S.2.1 dX3_tag0_48 rfl (lv_at hl 0 rfl) ?_
              refine lv_sipush (v := nI 252) S.1 S.2.1 dX3_tag0_49 (by decide) ?_
              refine lv_iand S.1 S.2.1 dX3_tag0_52 ?_
              refine lv_goto (tgt := 57) S.1 S.2.1 dX3_tag0_53 (by decide) ?_
              refine te (y := nI (rF (MB (stF fk fn (nI 0)) fw) k)) (by first | exact rf_a hlt c28 | exact rf_b hlt (by omega) (by omega) | exact rf_c hlt (by omega) (by omega)) ?_
              refine ap S hK hw 10 rfl k rfl (by omega) (by decide) dX3_tag0_57 (fun H locs hw => ?_)
              have hw : Wd D A s.heap H locs (wX3 o cA cd cap ph (nI op0) (nI n) (nI m0) fk fn (fun j => nI (a j)) (fun j => nI (b j)) (fun j => nI (t j)) fe (stF fk fn (nI 0)) (MB (stF fk fn (nI 0)) fw) fh (upd (mixf k (fun j => nI (rF (MB (stF fk fn (nI 0)) fw) j)) ff) k (nI (rF (MB (stF fk fn (nI 0)) fw) k))) fp fg (mixf k (fun j => nI (sB (MB (stF fk fn (nI 0)) fw) j)) fr) fx) := hw
              have hw := hw.cong 10 (g := mixf (k + 1) (fun j => nI (rF (MB (stF fk fn (nI 0)) fw) j)) ff) rfl (fun j _ => mixf_put (by exact rfl) j)
              have hw : Wd D A s.heap H locs (wX3 o cA cd cap ph (nI op0) (nI n) (nI m0) fk fn (fun j => nI (a j)) (fun j => nI (b j)) (fun j => nI (t j)) fe (stF fk fn (nI 0)) (MB (stF fk fn (nI 0)) fw) fh (mixf (k + 1) (fun j => nI (rF (MB (stF fk fn (nI 0)) fw) j)) ff) fp fg (mixf k (fun j => nI (sB (MB (stF fk fn (nI 0)) fw) j)) fr) fx) := hw
              refine lv_aload_n S.1 S.2.1 dX3_tag0_58 rfl (lv_at hl 2 rfl) ?_
              refine mg S hK hw 0 rfl rfl hiX3 18 (by decide) (List.mem_of_getElem? (i := 2) rfl) rfl dX3_tag0_59 ?_
              refine lv_iload_n S.1 S.2.1 dX3_tag0_62 rfl (lv_at hl 1 rfl) ?_
              refine lv_aload_n S.1 S.2.1 dX3_tag0_63 rfl (lv_at hl 2 rfl) ?_
              refine lv_bipush (v := nI 16) S.1 S.2.1 dX3_tag0_64 (by decide) ?_
              refine lv_iload_n S.1 S.2.1 dX3_tag0_66 rfl (lv_at hl 1 rfl) ?_
              refine lv_iadd S.1 S.2.1 dX3_tag0_67 ?_
              refine te (nI_add _ _) ?_
              refine callVI (rest := [.int (nI k), .ref (o 13)]) S hK hw hA (kX3_byteOf l D cA o cd cap ph (nI op0) (nI n) (nI m0) fk fn (fun j => nI (a j)) (fun j => nI (b j)) (fun j => nI (t j)) fe (stF fk fn (nI 0)) (MB (stF fk fn (nI 0)) fw) fh (mixf (k + 1) (fun j => nI (rF (MB (stF fk fn (nI 0)) fw) j)) ff) fp fg (mixf k (fun j => nI (sB (MB (stF fk fn (nI 0)) fw) j)) fr) fx (16 + k) (by omega)) gX3_tag0_X3_byteOf rfl 1 rfl (by decide +kernel) ⟨rfl, rfl⟩ ⟨by decide, by decide⟩ ⟨Nat.zero_le _, Nat.zero_le _⟩ [0, 1, 2, 3, 4, 5, 6, 7, 8, 9, 10, 11, 12, 13, 14] rfl (by decide) (fun _ => rfl) 0 rfl rfl rfl hl.1 (Nat.le_of_ble_eq_true rfl) dX3_tag0_68 rfl (fun r u68 H locs hp hw => ?_)
              have hw : Wd D A s.heap H locs (wX3 o cA cd cap ph (nI op0) (nI n) (nI m0) fk fn (fun j => nI (a j)) (fun j => nI (b j)) (fun j => nI (t j)) fe (stF fk fn (nI 0)) (MB (stF fk fn (nI 0)) fw) fh (mixf (k + 1) (fun j => nI (rF (MB (stF fk fn (nI 0)) fw) j)) ff) fp fg (mixf k (fun j => nI (sB (MB (stF fk fn (nI 0)) fw) j)) fr) fx) := hw
              subst hp
              refine ap S hK hw 13 rfl k rfl (by omega) (by decide) dX3_tag0_71 (fun H locs hw => ?_)
              have hw : Wd D A s.heap H locs (wX3 o cA cd cap ph (nI op0) (nI n) (nI m0) fk fn (fun j => nI (a j)) (fun j => nI (b j)) (fun j => nI (t j)) fe (stF fk fn (nI 0)) (MB (stF fk fn (nI 0)) fw) fh (mixf (k + 1) (fun j => nI (rF (MB (stF fk fn (nI 0)) fw) j)) ff) fp fg (upd (mixf k (fun j => nI (sB (MB (stF fk fn (nI 0)) fw) j)) fr) k (nI (bbn (MB (stF fk fn (nI 0)) fw) (16 + k)))) fx) := hw
              have hw := hw.cong 13 (g := mixf (k + 1) (fun j => nI (sB (MB (stF fk fn (nI 0)) fw) j)) fr) rfl (fun j _ => mixf_put (by exact rfl) j)
              have hw : Wd D A s.heap H locs (wX3 o cA cd cap ph (nI op0) (nI n) (nI m0) fk fn (fun j => nI (a j)) (fun j => nI (b j)) (fun j => nI (t j)) fe (stF fk fn (nI 0)) (MB (stF fk fn (nI 0)) fw) fh (mixf (k + 1) (fun j => nI (rF (MB (stF fk fn (nI 0)) fw) j)) ff) fp fg (mixf (k + 1) (fun j => nI (sB (MB (stF fk fn (nI 0)) fw) j)) fr) fx) := hw
              refine lv_iinc (v := nI (k + 1)) (lv' := [(1, .int (nI (k + 1))), (2, .int (nI (bbn (MB (stF fk fn (nI 0)) fw) k))), (0, .ref (o 0))]) S.1 S.2.1 dX3_tag0_72 hl (k := 1) rfl (nI_add k 1) (by decide) rfl (fun ls hl => ?_)
              refine lv_goto (tgt := 7) S.1 S.2.1 dX3_tag0_75 (by decide) ?_
              exact ih (k + 1)  (by omega)  _ _ hw _ (lv_sub hl [0, 2] rfl)
        · rw [nI_eq (by omega) (by omega)] at c28
          refine lv_iload_n S.1 S.2.1 dX3_tag0_31 rfl (lv_at hl 0 rfl) ?_
          refine lv_bipush (v := nI 15) S.1 S.2.1 dX3_tag0_32 (by decide) ?_
          refine lv_iand S.1 S.2.1 dX3_tag0_34 ?_
          refine lv_goto (tgt := 57) S.1 S.2.1 dX3_tag0_35 (by decide) ?_
          refine te (y := nI (rF (MB (stF fk fn (nI 0)) fw) k)) (by first | exact rf_a hlt c28 | exact rf_b hlt (by omega) (by omega) | exact rf_c hlt (by omega) (by omega)) ?_
          refine ap S hK hw 10 rfl k rfl (by omega) (by decide) dX3_tag0_57 (fun H locs hw => ?_)
          have hw : Wd D A s.heap H locs (wX3 o cA cd cap ph (nI op0) (nI n) (nI m0) fk fn (fun j => nI (a j)) (fun j => nI (b j)) (fun j => nI (t j)) fe (stF fk fn (nI 0)) (MB (stF fk fn (nI 0)) fw) fh (upd (mixf k (fun j => nI (rF (MB (stF fk fn (nI 0)) fw) j)) ff) k (nI (rF (MB (stF fk fn (nI 0)) fw) k))) fp fg (mixf k (fun j => nI (sB (MB (stF fk fn (nI 0)) fw) j)) fr) fx) := hw
          have hw := hw.cong 10 (g := mixf (k + 1) (fun j => nI (rF (MB (stF fk fn (nI 0)) fw) j)) ff) rfl (fun j _ => mixf_put (by exact rfl) j)
          have hw : Wd D A s.heap H locs (wX3 o cA cd cap ph (nI op0) (nI n) (nI m0) fk fn (fun j => nI (a j)) (fun j => nI (b j)) (fun j => nI (t j)) fe (stF fk fn (nI 0)) (MB (stF fk fn (nI 0)) fw) fh (mixf (k + 1) (fun j => nI (rF (MB (stF fk fn (nI 0)) fw) j)) ff) fp fg (mixf k (fun j => nI (sB (MB (stF fk fn (nI 0)) fw) j)) fr) fx) := hw
          refine lv_aload_n S.1 S.2.1 dX3_tag0_58 rfl (lv_at hl 2 rfl) ?_
          refine mg S hK hw 0 rfl rfl hiX3 18 (by decide) (List.mem_of_getElem? (i := 2) rfl) rfl dX3_tag0_59 ?_
          refine lv_iload_n S.1 S.2.1 dX3_tag0_62 rfl (lv_at hl 1 rfl) ?_
          refine lv_aload_n S.1 S.2.1 dX3_tag0_63 rfl (lv_at hl 2 rfl) ?_
          refine lv_bipush (v := nI 16) S.1 S.2.1 dX3_tag0_64 (by decide) ?_
          refine lv_iload_n S.1 S.2.1 dX3_tag0_66 rfl (lv_at hl 1 rfl) ?_
          refine lv_iadd S.1 S.2.1 dX3_tag0_67 ?_
          refine te (nI_add _ _) ?_
          refine callVI (rest := [.int (nI k), .ref (o 13)]) S hK hw hA (kX3_byteOf l D cA o cd cap ph (nI op0) (nI n) (nI m0) fk fn (fun j => nI (a j)) (fun j => nI (b j)) (fun j => nI (t j)) fe (stF fk fn (nI 0)) (MB (stF fk fn (nI 0)) fw) fh (mixf (k + 1) (fun j => nI (rF (MB (stF fk fn (nI 0)) fw) j)) ff) fp fg (mixf k (fun j => nI (sB (MB (stF fk fn (nI 0)) fw) j)) fr) fx (16 + k) (by omega)) gX3_tag0_X3_byteOf rfl 1 rfl (by decide +kernel) ⟨rfl, rfl⟩ ⟨by decide, by decide⟩ ⟨Nat.zero_le _, Nat.zero_le _⟩ [0, 1, 2, 3, 4, 5, 6, 7, 8, 9, 10, 11, 12, 13, 14] rfl (by decide) (fun _ => rfl) 0 rfl rfl rfl hl.1 (Nat.le_of_ble_eq_true rfl) dX3_tag0_68 rfl (fun r u68 H locs hp hw => ?_)
          have hw : Wd D A s.heap H locs (wX3 o cA cd cap ph (nI op0) (nI n) (nI m0) fk fn (fun j => nI (a j)) (fun j => nI (b j)) (fun j => nI (t j)) fe (stF fk fn (nI 0)) (MB (stF fk fn (nI 0)) fw) fh (mixf (k + 1) (fun j => nI (rF (MB (stF fk fn (nI 0)) fw) j)) ff) fp fg (mixf k (fun j => nI (sB (MB (stF fk fn (nI 0)) fw) j)) fr) fx) := hw
          subst hp
          refine ap S hK hw 13 rfl k rfl (by omega) (by decide) dX3_tag0_71 (fun H locs hw => ?_)
          have hw : Wd D A s.heap H locs (wX3 o cA cd cap ph (nI op0) (nI n) (nI m0) fk fn (fun j => nI (a j)) (fun j => nI (b j)) (fun j => nI (t j)) fe (stF fk fn (nI 0)) (MB (stF fk fn (nI 0)) fw) fh (mixf (k + 1) (fun j => nI (rF (MB (stF fk fn (nI 0)) fw) j)) ff) fp fg (upd (mixf k (fun j => nI (sB (MB (stF fk fn (nI 0)) fw) j)) fr) k (nI (bbn (MB (stF fk fn (nI 0)) fw) (16 + k)))) fx) := hw
          have hw := hw.cong 13 (g := mixf (k + 1) (fun j => nI (sB (MB (stF fk fn (nI 0)) fw) j)) fr) rfl (fun j _ => mixf_put (by exact rfl) j)
          have hw : Wd D A s.heap H locs (wX3 o cA cd cap ph (nI op0) (nI n) (nI m0) fk fn (fun j => nI (a j)) (fun j => nI (b j)) (fun j => nI (t j)) fe (stF fk fn (nI 0)) (MB (stF fk fn (nI 0)) fw) fh (mixf (k + 1) (fun j => nI (rF (MB (stF fk fn (nI 0)) fw) j)) ff) fp fg (mixf (k + 1) (fun j => nI (sB (MB (stF fk fn (nI 0)) fw) j)) fr) fx) := hw
          refine lv_iinc (v := nI (k + 1)) (lv' := [(1, .int (nI (k + 1))), (2, .int (nI (bbn (MB (stF fk fn (nI 0)) fw) k))), (0, .ref (o 0))]) S.1 S.2.1 dX3_tag0_72 hl (k := 1) rfl (nI_add k 1) (by decide) rfl (fun ls hl => ?_)
          refine lv_goto (tgt := 7) S.1 S.2.1 dX3_tag0_75 (by decide) ?_
          exact ih (k + 1)  (by omega)  _ _ hw _ (lv_sub hl [0, 2] rfl)
  have hw := hw.cong 10 (g := mixf 0 (fun j => nI (rF (MB (stF fk fn (nI 0)) fw) j)) ff) rfl (fun j _ => mixf_0 (fun j => nI (rF (MB (stF fk fn (nI 0)) fw) j)) ff j)
  have hw := hw.cong 13 (g := mixf 0 (fun j => nI (sB (MB (stF fk fn (nI 0)) fw) j)) fr) rfl (fun j _ => mixf_0 (fun j => nI (sB (MB (stF fk fn (nI 0)) fw) j)) fr j)
  exact lp7 16 0  (by omega)  _ _ hw _ hl
