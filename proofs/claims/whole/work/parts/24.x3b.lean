set_option maxHeartbeats 4000000 in
set_option maxRecDepth 100000 in
theorem kX3_rest (l : Launch) (D : va_G) (cA : ClassId) (o : Nat → Nat) (cd cap ph op nn mm : Int32) (fk fn fs fc fd fe ft fw ff fp fg fr fx : Nat → Int32) (x : Nat → Nat) (hx : ∀ j, j < 40 → x j ≤ 2 ^ 30) (hV : vl 40 x < 256 ^ 40) : CV l D cA yX3_rest wsX3_rest { frames := 1, cells := 0, slots := 0, locals := 22 } [.ref (o 0)] (wX3 o cA cd cap ph op nn mm fk fn fs fc fd fe ft fw (fun j => nI (x j)) ff fp fg fr fx) (fun _ => True) (fun u : Nat → Int32 => wX3 o cA cd cap ph op nn mm fk fn fs fc fd fe ft fw (fun j => nI (dg (vl 40 x % pP) j)) ff fp u fr fx) := by
  refine cv_of (by decide) rfl (Nat.le_of_ble_eq_true rfl) ?_
  intro p e s m below meth c ls A ar Q S hK hw hA hr hlk hl hQ
  have hl : lv_has ls 4 [(0, .ref (o 0))] := hl
  have hiX3 : ∀ w ∈ wsX30, w ∈ wsX3_rest := fun _ h => List.mem_cons_of_mem _ (List.mem_append_right _ h)
  refine lv_aload_n S.1 S.2.1 dX3_rest_0 rfl (lv_at hl 0 rfl) ?_
  refine callVV (rest := []) S hK hw hA (kX3_carryN l D cA o cd cap ph op nn mm fk fn fs fc fd fe ft fw ff fp fg fr fx x hx) gX3_rest_X3_carry rfl 0 rfl (by decide +kernel) ⟨rfl, rfl⟩ ⟨by decide, by decide⟩ ⟨Nat.zero_le _, Nat.zero_le _⟩ [0, 1, 2, 3, 4, 5, 6, 7, 8, 9, 10, 11, 12, 13, 14] rfl (by decide) (fun _ => rfl) 0 rfl rfl rfl hl.1 (Nat.le_of_ble_eq_true rfl) dX3_rest_1 rfl (fun u1 H locs hp hw => ?_)
  have hw : Wd D A s.heap H locs (wX3 o cA cd cap ph op nn mm fk fn fs fc fd fe ft fw (fun j => nI (dg (vl 40 x) j)) ff fp fg fr fx) := hw
  have lp4 : ∀ (n0 : Nat) (V : Nat) (g : Nat → Int32), V < n0 → V < 256 ^ 40 → V % pP = vl 40 x % pP → ∀ (H : Heap) (locs : List Loc), Wd D A s.heap H locs (wX3 o cA cd cap ph op nn mm fk fn fs fc fd fe ft fw (fun j => nI (dg V j)) ff fp g fr fx) → ∀ ls : Array Slot, lv_has ls 4 [(0, .ref (o 0))] → W p l e { frames := 1, cells := 0, slots := 0, locals := 22 } s m ar below meth c H locs 0 0 Q (F0 m 4 ls []) := by
    intro n0
    induction n0 with
    | zero =>
      intro V g hn0 hV2 hVm
      exact absurd hn0 (by omega)
    | succ n0 ih =>
      intro V g hn0 hV2 hVm H locs hw ls hl
      refine lv_aload_n S.1 S.2.1 dX3_rest_4 rfl (lv_at hl 0 rfl) ?_
      refine callVI (rest := []) S hK hw hA (kX3_isAbove l D cA o cd cap ph op nn mm fk fn fs fc fd fe ft fw ff fp g fr fx V hV2) gX3_rest_X3_isAbove rfl 0 rfl (by decide +kernel) ⟨rfl, rfl⟩ ⟨by decide, by decide⟩ ⟨Nat.zero_le _, Nat.zero_le _⟩ [0, 1, 2, 3, 4, 5, 6, 7, 8, 9, 10, 11, 12, 13, 14] rfl (by decide) (fun _ => rfl) 0 rfl rfl rfl hl.1 (Nat.le_of_ble_eq_true rfl) dX3_rest_5 rfl (fun r u5 H locs hp hw => ?_)
      have hw : Wd D A s.heap H locs (wX3 o cA cd cap ph op nn mm fk fn fs fc fd fe ft fw (fun j => nI (dg V j)) ff fp g fr fx) := hw
      subst hp
      refine lv_if_eq (tgt := 158) S.1 S.2.1 dX3_rest_8 (by decide) (fun c8 => ?_) (fun c8 => ?_)
      · skip
        have hnab := ifone_0 c8
        refine lv_aload_n S.1 S.2.1 dX3_rest_158 rfl (lv_at hl 0 rfl) ?_
        refine mg S hK hw 0 rfl rfl hiX3 14 (by decide) (List.mem_of_getElem? (i := 1) rfl) rfl dX3_rest_159 ?_
        refine lv_iconst (v := nI 0) S.1 S.2.1 dX3_rest_162 (by decide) ?_
        refine lv_dup2_11 S.1 S.2.1 dX3_rest_163 rfl rfl ?_
        refine ag S hK hw 9 rfl 0 rfl (by omega) (by decide) dX3_rest_164 ?_
        refine te (y := nI ((dg V) 0)) rfl ?_
        refine lv_iconst (v := nI 5) S.1 S.2.1 dX3_rest_165 (by decide) ?_
        refine lv_iadd S.1 S.2.1 dX3_rest_166 ?_
        refine te (nI_add _ _) ?_
        refine ap S hK hw 9 rfl 0 rfl (by omega) (by decide) dX3_rest_167 (fun H locs hw => ?_)
        have hw : Wd D A s.heap H locs (wX3 o cA cd cap ph op nn mm fk fn fs fc fd fe ft fw (upd (fun j => nI (dg V j)) 0 (nI (((dg V) 0) + 5))) ff fp g fr fx) := hw
        have hw := hw.cong 9 (g := fun j => nI (updN (dg V) 0 (dg V 0 + 5) j)) rfl (fun j _ => upd_nI 0 (dg V 0 + 5) j)
        have hw : Wd D A s.heap H locs (wX3 o cA cd cap ph op nn mm fk fn fs fc fd fe ft fw (fun j => nI (updN (dg V) 0 (dg V 0 + 5) j)) ff fp g fr fx) := hw
        refine lv_aload_n S.1 S.2.1 dX3_rest_168 rfl (lv_at hl 0 rfl) ?_
        refine callVV (rest := []) S hK hw hA (kX3_carryN l D cA o cd cap ph op nn mm fk fn fs fc fd fe ft fw ff fp g fr fx (updN (dg V) 0 (dg V 0 + 5)) (fun j _ => by unfold updN; have := dg_lt V 0; have := dg_lt V j; split <;> omega)) gX3_rest_X3_carry rfl 0 rfl (by decide +kernel) ⟨rfl, rfl⟩ ⟨by decide, by decide⟩ ⟨Nat.zero_le _, Nat.zero_le _⟩ [0, 1, 2, 3, 4, 5, 6, 7, 8, 9, 10, 11, 12, 13, 14] rfl (by decide) (fun _ => rfl) 0 rfl rfl rfl hl.1 (Nat.le_of_ble_eq_true rfl) dX3_rest_169 rfl (fun u169 H locs hp hw => ?_)
        rw [show vl 40 (updN (dg V) 0 (dg V 0 + 5)) = V + 5 from (by rw [vl_upd (by decide), vl_dg, Nat.mod_eq_of_lt hV2, Nat.pow_zero, Nat.mul_one])] at hw
        have hw : Wd D A s.heap H locs (wX3 o cA cd cap ph op nn mm fk fn fs fc fd fe ft fw (fun j => nI (dg (V + 5) j)) ff fp g fr fx) := hw
        refine lv_aload_n S.1 S.2.1 dX3_rest_172 rfl (lv_at hl 0 rfl) ?_
        refine callVI (rest := []) S hK hw hA (kX3_isAbove l D cA o cd cap ph op nn mm fk fn fs fc fd fe ft fw ff fp g fr fx (V + 5) (by rw [p256_40]; omega)) gX3_rest_X3_isAbove rfl 0 rfl (by decide +kernel) ⟨rfl, rfl⟩ ⟨by decide, by decide⟩ ⟨Nat.zero_le _, Nat.zero_le _⟩ [0, 1, 2, 3, 4, 5, 6, 7, 8, 9, 10, 11, 12, 13, 14] rfl (by decide) (fun _ => rfl) 0 rfl rfl rfl hl.1 (Nat.le_of_ble_eq_true rfl) dX3_rest_173 rfl (fun r u173 H locs hp hw => ?_)
        have hw : Wd D A s.heap H locs (wX3 o cA cd cap ph op nn mm fk fn fs fc fd fe ft fw (fun j => nI (dg (V + 5) j)) ff fp g fr fx) := hw
        subst hp
        refine lv_istore_n (lv' := [(1, .int (nI (if 2 ^ 130 ≤ (V + 5) then 1 else 0))), (0, .ref (o 0))]) S.1 S.2.1 dX3_rest_176 rfl hl (by decide) rfl (fun ls hl => ?_)
        refine lv_iload_n S.1 S.2.1 dX3_rest_177 rfl (lv_at hl 0 rfl) ?_
        refine lv_if_eq (tgt := 195) S.1 S.2.1 dX3_rest_178 (by decide) (fun c178 => ?_) (fun c178 => ?_)
        · skip
          have h5 := ifone_0 c178
          refine lv_aload_n S.1 S.2.1 dX3_rest_195 rfl (lv_at hl 1 rfl) ?_
          refine mg S hK hw 0 rfl rfl hiX3 14 (by decide) (List.mem_of_getElem? (i := 1) rfl) rfl dX3_rest_196 ?_
          refine lv_iconst (v := nI 0) S.1 S.2.1 dX3_rest_199 (by decide) ?_
          refine lv_dup2_11 S.1 S.2.1 dX3_rest_200 rfl rfl ?_
          refine ag S hK hw 9 rfl 0 rfl (by omega) (by decide) dX3_rest_201 ?_
          refine te (y := nI ((dg (V + 5)) 0)) rfl ?_
          refine lv_iconst (v := nI 5) S.1 S.2.1 dX3_rest_202 (by decide) ?_
          refine lv_isub S.1 S.2.1 dX3_rest_203 ?_
          refine te (y := iZ (((dg (V + 5) 0 : Nat) : Int) + (-5))) (by rw [iZ_sub]; rfl) ?_
          refine ap S hK hw 9 rfl 0 rfl (by omega) (by decide) dX3_rest_204 (fun H locs hw => ?_)
          have hw : Wd D A s.heap H locs (wX3 o cA cd cap ph op nn mm fk fn fs fc fd fe ft fw (upd (fun j => nI (dg (V + 5) j)) 0 (iZ (((dg (V + 5) 0 : Nat) : Int) + (-5)))) ff fp g fr fx) := hw
          have hw := hw.cong 9 (g := fun j => iZ (if j = 0 then ((dg (V + 5) 0 : Nat) : Int) + (-5) else ((dg (V + 5) j : Nat) : Int))) rfl (fun j _ => upd_iZ 0 _ j)
          have hw : Wd D A s.heap H locs (wX3 o cA cd cap ph op nn mm fk fn fs fc fd fe ft fw (fun j => iZ (if j = 0 then ((dg (V + 5) 0 : Nat) : Int) + (-5) else ((dg (V + 5) j : Nat) : Int))) ff fp g fr fx) := hw
          refine lv_aload_n S.1 S.2.1 dX3_rest_205 rfl (lv_at hl 1 rfl) ?_
          refine callVV (rest := []) S hK hw hA (kX3_carry l D cA o cd cap ph op nn mm fk fn fs fc fd fe ft fw ff fp g fr fx (fun j => if j = 0 then ((dg (V + 5) 0 : Nat) : Int) + (-5) else ((dg (V + 5) j : Nat) : Int)) V (fun j _ => by have h1 := dg_lt (V + 5) 0; have h2 := dg_lt (V + 5) j; show _ ≤ (if j = 0 then ((dg (V + 5) 0 : Nat) : Int) + (-5) else ((dg (V + 5) j : Nat) : Int)) ∧ (if j = 0 then ((dg (V + 5) 0 : Nat) : Int) + (-5) else ((dg (V + 5) j : Nat) : Int)) ≤ _; split <;> omega) (dn_val hV2 (by omega))) gX3_rest_X3_carry rfl 0 rfl (by decide +kernel) ⟨rfl, rfl⟩ ⟨by decide, by decide⟩ ⟨Nat.zero_le _, Nat.zero_le _⟩ [0, 1, 2, 3, 4, 5, 6, 7, 8, 9, 10, 11, 12, 13, 14] rfl (by decide) (fun _ => rfl) 0 rfl rfl rfl hl.1 (Nat.le_of_ble_eq_true rfl) dX3_rest_206 rfl (fun u206 H locs hp hw => ?_)
          have hw : Wd D A s.heap H locs (wX3 o cA cd cap ph op nn mm fk fn fs fc fd fe ft fw (fun j => nI (dg V j)) ff fp g fr fx) := hw
          exact cv_ret S hr hlk hQ hw g (by first | (rw [← hVm]; done) | rw [← hVm, ← (red_fin (V := V) (by omega)).2 h5]) trivial dX3_rest_209
        · skip
          have h5 := ifone_1 c178
          refine lv_aload_n S.1 S.2.1 dX3_rest_181 rfl (lv_at hl 1 rfl) ?_
          refine mg S hK hw 0 rfl rfl hiX3 14 (by decide) (List.mem_of_getElem? (i := 1) rfl) rfl dX3_rest_182 ?_
          refine lv_bipush (v := nI 16) S.1 S.2.1 dX3_rest_185 (by decide) ?_
          refine lv_dup2_11 S.1 S.2.1 dX3_rest_187 rfl rfl ?_
          refine ag S hK hw 9 rfl 16 rfl (by omega) (by decide) dX3_rest_188 ?_
          refine te (y := nI ((dg (V + 5)) 16)) rfl ?_
          refine lv_iconst (v := nI 3) S.1 S.2.1 dX3_rest_189 (by decide) ?_
          refine lv_iand S.1 S.2.1 dX3_rest_190 ?_
          refine te (y := nI (dg (V + 5) 16 % 4)) (and3 (by have := dg_lt (V + 5) 16; omega)) ?_
          refine ap S hK hw 9 rfl 16 rfl (by omega) (by decide) dX3_rest_191 (fun H locs hw => ?_)
          have hw : Wd D A s.heap H locs (wX3 o cA cd cap ph op nn mm fk fn fs fc fd fe ft fw (upd (fun j => nI (dg (V + 5) j)) 16 (nI (dg (V + 5) 16 % 4))) ff fp g fr fx) := hw
          have hw := hw.cong 9 (g := fun j => nI (dg (V % pP) j)) rfl (fin_up (by omega) h5)
          have hw : Wd D A s.heap H locs (wX3 o cA cd cap ph op nn mm fk fn fs fc fd fe ft fw (fun j => nI (dg (V % pP) j)) ff fp g fr fx) := hw
          refine lv_goto (tgt := 209) S.1 S.2.1 dX3_rest_192 (by decide) ?_
          exact cv_ret S hr hlk hQ hw g (by first | (rw [← hVm]; done) | rw [← hVm, ← (red_fin (V := V) (by omega)).2 h5]) trivial dX3_rest_209
      · skip
        have hab := ifone_1 c8
        refine lv_iconst (v := nI 0) S.1 S.2.1 dX3_rest_11 (by decide) ?_
        refine lv_istore_n (lv' := [(1, .int (nI 0)), (0, .ref (o 0))]) S.1 S.2.1 dX3_rest_12 rfl hl (by decide) rfl (fun ls hl => ?_)
        have lp13 : ∀ (n0 k : Nat), k + n0 = 40 → ∀ (H : Heap) (locs : List Loc), Wd D A s.heap H locs (wX3 o cA cd cap ph op nn mm fk fn fs fc fd fe ft fw (fun j => nI (dg V j)) ff fp (mixf k (fun j => nI (dg (V / 2 ^ 130) j)) g) fr fx) → ∀ ls : Array Slot, lv_has ls 4 [(1, .int (nI k)), (0, .ref (o 0))] → W p l e { frames := 1, cells := 0, slots := 0, locals := 22 } s m ar below meth c H locs 0 0 Q (F0 m 13 ls []) := by
          intro n0
          induction n0 with
          | zero =>
            intro k hn0 H locs hw ls hl
            have hn0 : k = 40 := by omega
            subst hn0
            have hw := hw.cong 12 (g := fun j => nI (dg (V / 2 ^ 130) j)) rfl (fun j hj => mixf_n hj)
            have hw : Wd D A s.heap H locs (wX3 o cA cd cap ph op nn mm fk fn fs fc fd fe ft fw (fun j => nI (dg V j)) ff fp (fun j => nI (dg (V / 2 ^ 130) j)) fr fx) := hw
            refine lv_iload_n S.1 S.2.1 dX3_rest_13 rfl (lv_at hl 0 rfl) ?_
            refine lv_bipush (v := nI 40) S.1 S.2.1 dX3_rest_14 (by decide) ?_
            refine lv_icmp_ge (tgt := 87) S.1 S.2.1 dX3_rest_16 (by decide) (fun c16 => ?_) (fun c16 => ?_)
            · rw [nI_leI (by omega) (by omega)] at c16
              refine lv_bipush (v := nI 17) S.1 S.2.1 dX3_rest_87 (by decide) ?_
              refine lv_istore_n (lv' := [(1, .int (nI 17)), (0, .ref (o 0))]) S.1 S.2.1 dX3_rest_89 rfl hl (by decide) rfl (fun ls hl => ?_)
              have lp90 : ∀ (n0 t : Nat), t + n0 = 23 → ∀ (H : Heap) (locs : List Loc), Wd D A s.heap H locs (wX3 o cA cd cap ph op nn mm fk fn fs fc fd fe ft fw (fun j => nI (if 17 ≤ j ∧ j < 17 + t then 0 else dg V j)) ff fp (fun j => nI (dg (V / 2 ^ 130) j)) fr fx) → ∀ ls : Array Slot, lv_has ls 4 [(1, .int (nI (17 + t))), (0, .ref (o 0))] → W p l e { frames := 1, cells := 0, slots := 0, locals := 22 } s m ar below meth c H locs 0 0 Q (F0 m 90 ls []) := by
                intro n0
                induction n0 with
                | zero =>
                  intro t hn0 H locs hw ls hl
                  have hn0 : t = 23 := by omega
                  subst hn0
                  refine lv_iload_n S.1 S.2.1 dX3_rest_90 rfl (lv_at hl 0 rfl) ?_
                  refine lv_bipush (v := nI 40) S.1 S.2.1 dX3_rest_91 (by decide) ?_
                  refine lv_icmp_ge (tgt := 109) S.1 S.2.1 dX3_rest_93 (by decide) (fun c93 => ?_) (fun c93 => ?_)
                  · rw [nI_leI (by omega) (by omega)] at c93
                    refine lv_aload_n S.1 S.2.1 dX3_rest_109 rfl (lv_at hl 1 rfl) ?_
                    refine mg S hK hw 0 rfl rfl hiX3 14 (by decide) (List.mem_of_getElem? (i := 1) rfl) rfl dX3_rest_110 ?_
                    refine lv_bipush (v := nI 16) S.1 S.2.1 dX3_rest_113 (by decide) ?_
                    refine lv_dup2_11 S.1 S.2.1 dX3_rest_115 rfl rfl ?_
                    refine ag S hK hw 9 rfl 16 rfl (by omega) (by decide) dX3_rest_116 ?_
                    refine te (y := nI (dg V 16)) (congrArg nI (if_neg (by omega))) ?_
                    refine lv_iconst (v := nI 3) S.1 S.2.1 dX3_rest_117 (by decide) ?_
                    refine lv_iand S.1 S.2.1 dX3_rest_118 ?_
                    refine te (y := nI (dg V 16 % 4)) (and3 (by have := dg_lt V 16; omega)) ?_
                    refine ap S hK hw 9 rfl 16 rfl (by omega) (by decide) dX3_rest_119 (fun H locs hw => ?_)
                    have hw : Wd D A s.heap H locs (wX3 o cA cd cap ph op nn mm fk fn fs fc fd fe ft fw (upd (fun j => nI (if 17 ≤ j ∧ j < 17 + 23 then 0 else dg V j)) 16 (nI (dg V 16 % 4))) ff fp (fun j => nI (dg (V / 2 ^ 130) j)) fr fx) := hw
                    have hw := hw.cong 9 (g := fun j => nI (dg (V % 2 ^ 130) j)) rfl (low_dig40 V)
                    have hw : Wd D A s.heap H locs (wX3 o cA cd cap ph op nn mm fk fn fs fc fd fe ft fw (fun j => nI (dg (V % 2 ^ 130) j)) ff fp (fun j => nI (dg (V / 2 ^ 130) j)) fr fx) := hw
                    refine lv_iconst (v := nI 0) S.1 S.2.1 dX3_rest_120 (by decide) ?_
                    refine lv_istore_n (lv' := [(1, .int (nI 0)), (0, .ref (o 0))]) S.1 S.2.1 dX3_rest_121 rfl hl (by decide) rfl (fun ls hl => ?_)
                    have lp122 : ∀ (n0 k : Nat), k + n0 = 40 → ∀ (H : Heap) (locs : List Loc), Wd D A s.heap H locs (wX3 o cA cd cap ph op nn mm fk fn fs fc fd fe ft fw (mixf k (fun j => nI (dg (V % 2 ^ 130) j + 5 * dg (V / 2 ^ 130) j)) (fun j => nI (dg (V % 2 ^ 130) j))) ff fp (fun j => nI (dg (V / 2 ^ 130) j)) fr fx) → ∀ ls : Array Slot, lv_has ls 4 [(1, .int (nI k)), (0, .ref (o 0))] → W p l e { frames := 1, cells := 0, slots := 0, locals := 22 } s m ar below meth c H locs 0 0 Q (F0 m 122 ls []) := by
                      intro n0
                      induction n0 with
                      | zero =>
                        intro k hn0 H locs hw ls hl
                        have hn0 : k = 40 := by omega
                        subst hn0
                        have hw := hw.cong 9 (g := fun j => nI (dg (V % 2 ^ 130) j + 5 * dg (V / 2 ^ 130) j)) rfl (fun j hj => mixf_n hj)
                        have hw : Wd D A s.heap H locs (wX3 o cA cd cap ph op nn mm fk fn fs fc fd fe ft fw (fun j => nI (dg (V % 2 ^ 130) j + 5 * dg (V / 2 ^ 130) j)) ff fp (fun j => nI (dg (V / 2 ^ 130) j)) fr fx) := hw
                        refine lv_iload_n S.1 S.2.1 dX3_rest_122 rfl (lv_at hl 0 rfl) ?_
                        refine lv_bipush (v := nI 40) S.1 S.2.1 dX3_rest_123 (by decide) ?_
                        refine lv_icmp_ge (tgt := 151) S.1 S.2.1 dX3_rest_125 (by decide) (fun c125 => ?_) (fun c125 => ?_)
                        · rw [nI_leI (by omega) (by omega)] at c125
                          refine lv_aload_n S.1 S.2.1 dX3_rest_151 rfl (lv_at hl 1 rfl) ?_
                          refine callVV (rest := []) S hK hw hA (kX3_carryN l D cA o cd cap ph op nn mm fk fn fs fc fd fe ft fw ff fp (fun j => nI (dg (V / 2 ^ 130) j)) fr fx (fun j => dg (V % 2 ^ 130) j + 5 * dg (V / 2 ^ 130) j) (fun j _ => by have := dg_lt (V % 2 ^ 130) j; have := dg_lt (V / 2 ^ 130) j; show dg (V % 2 ^ 130) j + 5 * dg (V / 2 ^ 130) j ≤ 2 ^ 30; omega)) gX3_rest_X3_carry rfl 0 rfl (by decide +kernel) ⟨rfl, rfl⟩ ⟨by decide, by decide⟩ ⟨Nat.zero_le _, Nat.zero_le _⟩ [0, 1, 2, 3, 4, 5, 6, 7, 8, 9, 10, 11, 12, 13, 14] rfl (by decide) (fun _ => rfl) 0 rfl rfl rfl hl.1 (Nat.le_of_ble_eq_true rfl) dX3_rest_152 rfl (fun u152 H locs hp hw => ?_)
                          rw [show vl 40 (fun j => dg (V % 2 ^ 130) j + 5 * dg (V / 2 ^ 130) j) = red V from vl_red hV2] at hw
                          have hw : Wd D A s.heap H locs (wX3 o cA cd cap ph op nn mm fk fn fs fc fd fe ft fw (fun j => nI (dg (red V) j)) ff fp (fun j => nI (dg (V / 2 ^ 130) j)) fr fx) := hw
                          refine lv_goto (tgt := 4) S.1 S.2.1 dX3_rest_155 (by decide) ?_
                          exact ih (red V) _ (by have := red_lt hab; omega) (Nat.lt_trans (red_lt hab) hV2) (by rw [red_mod]; exact hVm) _ _ hw _ (lv_sub hl [1] rfl)
                        · rw [nI_leI (by omega) (by omega)] at c125
                          exfalso; omega
                      | succ n0 ih =>
                        intro k hn0 H locs hw ls hl
                        have hlt : k < 40 := by omega
                        refine lv_iload_n S.1 S.2.1 dX3_rest_122 rfl (lv_at hl 0 rfl) ?_
                        refine lv_bipush (v := nI 40) S.1 S.2.1 dX3_rest_123 (by decide) ?_
                        refine lv_icmp_ge (tgt := 151) S.1 S.2.1 dX3_rest_125 (by decide) (fun c125 => ?_) (fun c125 => ?_)
                        · rw [nI_leI (by omega) (by omega)] at c125
                          exfalso; omega
                        · rw [nI_leI (by omega) (by omega)] at c125
                          refine lv_aload_n S.1 S.2.1 dX3_rest_128 rfl (lv_at hl 1 rfl) ?_
                          refine mg S hK hw 0 rfl rfl hiX3 14 (by decide) (List.mem_of_getElem? (i := 1) rfl) rfl dX3_rest_129 ?_
                          refine lv_iload_n S.1 S.2.1 dX3_rest_132 rfl (lv_at hl 0 rfl) ?_
                          refine lv_dup2_11 S.1 S.2.1 dX3_rest_133 rfl rfl ?_
                          refine ag S hK hw 9 rfl k rfl (by omega) (by decide) dX3_rest_134 ?_
                          refine te (y := nI ((dg (V % 2 ^ 130)) k)) (mixf_at _ _ _) ?_
                          refine lv_iconst (v := nI 5) S.1 S.2.1 dX3_rest_135 (by decide) ?_
                          refine lv_aload_n S.1 S.2.1 dX3_rest_136 rfl (lv_at hl 1 rfl) ?_
                          refine mg S hK hw 0 rfl rfl hiX3 17 (by decide) (List.mem_of_getElem? (i := 2) rfl) rfl dX3_rest_137 ?_
                          refine lv_iload_n S.1 S.2.1 dX3_rest_140 rfl (lv_at hl 0 rfl) ?_
                          refine ag S hK hw 12 rfl k rfl (by omega) (by decide) dX3_rest_141 ?_
                          refine te (y := nI ((dg (V / 2 ^ 130)) k)) rfl ?_
                          refine lv_imul S.1 S.2.1 dX3_rest_142 ?_
                          refine te (pk_mul _ _) ?_
                          refine lv_iadd S.1 S.2.1 dX3_rest_143 ?_
                          refine te (nI_add _ _) ?_
                          refine ap S hK hw 9 rfl k rfl (by omega) (by decide) dX3_rest_144 (fun H locs hw => ?_)
                          have hw : Wd D A s.heap H locs (wX3 o cA cd cap ph op nn mm fk fn fs fc fd fe ft fw (upd (mixf k (fun j => nI (dg (V % 2 ^ 130) j + 5 * dg (V / 2 ^ 130) j)) (fun j => nI (dg (V % 2 ^ 130) j))) k (nI (((dg (V % 2 ^ 130)) k) + (5 * ((dg (V / 2 ^ 130)) k))))) ff fp (fun j => nI (dg (V / 2 ^ 130) j)) fr fx) := hw
                          have hw := hw.cong 9 (g := mixf (k + 1) (fun j => nI (dg (V % 2 ^ 130) j + 5 * dg (V / 2 ^ 130) j)) (fun j => nI (dg (V % 2 ^ 130) j))) rfl (fun j _ => mixf_put (by exact rfl) j)
                          have hw : Wd D A s.heap H locs (wX3 o cA cd cap ph op nn mm fk fn fs fc fd fe ft fw (mixf (k + 1) (fun j => nI (dg (V % 2 ^ 130) j + 5 * dg (V / 2 ^ 130) j)) (fun j => nI (dg (V % 2 ^ 130) j))) ff fp (fun j => nI (dg (V / 2 ^ 130) j)) fr fx) := hw
                          refine lv_iinc (v := nI (k + 1)) (lv' := [(1, .int (nI (k + 1))), (0, .ref (o 0))]) S.1 S.2.1 dX3_rest_145 hl (k := 0) rfl (nI_add k 1) (by decide) rfl (fun ls hl => ?_)
                          refine lv_goto (tgt := 122) S.1 S.2.1 dX3_rest_148 (by decide) ?_
                          exact ih (k + 1)  (by omega)  _ _ hw _ hl
                    have hw := hw.cong 9 (g := mixf 0 (fun j => nI (dg (V % 2 ^ 130) j + 5 * dg (V / 2 ^ 130) j)) (fun j => nI (dg (V % 2 ^ 130) j))) rfl (fun j _ => mixf_0 (fun j => nI (dg (V % 2 ^ 130) j + 5 * dg (V / 2 ^ 130) j)) (fun j => nI (dg (V % 2 ^ 130) j)) j)
                    exact lp122 40 0  (by omega)  _ _ hw _ hl
                  · rw [nI_leI (by omega) (by omega)] at c93
                    exfalso; omega
                | succ n0 ih =>
                  intro t hn0 H locs hw ls hl
                  have hlt : t < 23 := by omega
                  refine lv_iload_n S.1 S.2.1 dX3_rest_90 rfl (lv_at hl 0 rfl) ?_
                  refine lv_bipush (v := nI 40) S.1 S.2.1 dX3_rest_91 (by decide) ?_
                  refine lv_icmp_ge (tgt := 109) S.1 S.2.1 dX3_rest_93 (by decide) (fun c93 => ?_) (fun c93 => ?_)
                  · rw [nI_leI (by omega) (by omega)] at c93
                    exfalso; omega
                  · rw [nI_leI (by omega) (by omega)] at c93
                    refine lv_aload_n S.1 S.2.1 dX3_rest_96 rfl (lv_at hl 1 rfl) ?_
                    refine mg S hK hw 0 rfl rfl hiX3 14 (by decide) (List.mem_of_getElem? (i := 1) rfl) rfl dX3_rest_97 ?_
                    refine lv_iload_n S.1 S.2.1 dX3_rest_100 rfl (lv_at hl 0 rfl) ?_
                    refine lv_iconst (v := nI 0) S.1 S.2.1 dX3_rest_101 (by decide) ?_
                    refine ap S hK hw 9 rfl (17 + t) rfl (by omega) (by decide) dX3_rest_102 (fun H locs hw => ?_)
                    have hw : Wd D A s.heap H locs (wX3 o cA cd cap ph op nn mm fk fn fs fc fd fe ft fw (upd (fun j => nI (if 17 ≤ j ∧ j < 17 + t then 0 else dg V j)) (17 + t) (nI 0)) ff fp (fun j => nI (dg (V / 2 ^ 130) j)) fr fx) := hw
                    have hw := hw.cong 9 (g := fun j => nI (if 17 ≤ j ∧ j < 17 + (t + 1) then 0 else dg V j)) rfl (fun j _ => zr_put V t j)
                    have hw : Wd D A s.heap H locs (wX3 o cA cd cap ph op nn mm fk fn fs fc fd fe ft fw (fun j => nI (if 17 ≤ j ∧ j < 17 + (t + 1) then 0 else dg V j)) ff fp (fun j => nI (dg (V / 2 ^ 130) j)) fr fx) := hw
                    refine lv_iinc (v := nI ((17 + t) + 1)) (lv' := [(1, .int (nI ((17 + t) + 1))), (0, .ref (o 0))]) S.1 S.2.1 dX3_rest_103 hl (k := 0) rfl (nI_add (17 + t) 1) (by decide) rfl (fun ls hl => ?_)
                    refine lv_goto (tgt := 90) S.1 S.2.1 dX3_rest_106 (by decide) ?_
                    exact ih (t + 1)  (by omega)  _ _ hw _ hl
              have hw := hw.cong 9 (g := fun j => nI (if 17 ≤ j ∧ j < 17 + 0 then 0 else dg V j)) rfl (fun j _ => zr_0 V j)
              exact lp90 23 0  (by omega)  _ _ hw _ hl
            · rw [nI_leI (by omega) (by omega)] at c16
              exfalso; omega
          | succ n0 ih =>
            intro k hn0 H locs hw ls hl
            have hlt : k < 40 := by omega
            refine lv_iload_n S.1 S.2.1 dX3_rest_13 rfl (lv_at hl 0 rfl) ?_
            refine lv_bipush (v := nI 40) S.1 S.2.1 dX3_rest_14 (by decide) ?_
            refine lv_icmp_ge (tgt := 87) S.1 S.2.1 dX3_rest_16 (by decide) (fun c16 => ?_) (fun c16 => ?_)
            · rw [nI_leI (by omega) (by omega)] at c16
              exfalso; omega
            · rw [nI_leI (by omega) (by omega)] at c16
              refine lv_iload_n S.1 S.2.1 dX3_rest_19 rfl (lv_at hl 0 rfl) ?_
              refine lv_bipush (v := nI 16) S.1 S.2.1 dX3_rest_20 (by decide) ?_
              refine lv_iadd S.1 S.2.1 dX3_rest_22 ?_
              refine te (nI_add _ _) ?_
              refine lv_bipush (v := nI 40) S.1 S.2.1 dX3_rest_23 (by decide) ?_
              refine lv_icmp_ge (tgt := 42) S.1 S.2.1 dX3_rest_25 (by decide) (fun c25 => ?_) (fun c25 => ?_)
              · rw [nI_leI (by omega) (by omega)] at c25
                refine lv_iconst (v := nI 0) S.1 S.2.1 dX3_rest_42 (by decide) ?_
                refine te (y := nI (dg V (k + 16) / 4)) (by rw [dg_ge hV2 (by omega), Nat.zero_div]) ?_
                refine lv_istore_n (lv' := [(2, .int (nI (dg V (k + 16) / 4))), (1, .int (nI k)), (0, .ref (o 0))]) S.1 S.2.1 dX3_rest_43 rfl hl (by decide) rfl (fun ls hl => ?_)
                refine lv_iload_n S.1 S.2.1 dX3_rest_44 rfl (lv_at hl 1 rfl) ?_
                refine lv_bipush (v := nI 17) S.1 S.2.1 dX3_rest_45 (by decide) ?_
                refine lv_iadd S.1 S.2.1 dX3_rest_47 ?_
                refine te (nI_add _ _) ?_
                refine lv_bipush (v := nI 40) S.1 S.2.1 dX3_rest_48 (by decide) ?_
                refine lv_icmp_ge (tgt := 70) S.1 S.2.1 dX3_rest_50 (by decide) (fun c50 => ?_) (fun c50 => ?_)
                · rw [nI_leI (by omega) (by omega)] at c50
                  refine lv_iconst (v := nI 0) S.1 S.2.1 dX3_rest_70 (by decide) ?_
                  refine te (y := nI (dg V (k + 17) % 4 * 64)) (by rw [dg_ge hV2 (by omega), Nat.zero_mod, Nat.zero_mul]) ?_
                  refine lv_istore_n (lv' := [(3, .int (nI (dg V (k + 17) % 4 * 64))), (2, .int (nI (dg V (k + 16) / 4))), (1, .int (nI k)), (0, .ref (o 0))]) S.1 S.2.1 dX3_rest_71 rfl hl (by decide) rfl (fun ls hl => ?_)
                  refine lv_aload_n S.1 S.2.1 dX3_rest_72 rfl (lv_at hl 3 rfl) ?_
                  refine mg S hK hw 0 rfl rfl hiX3 17 (by decide) (List.mem_of_getElem? (i := 2) rfl) rfl dX3_rest_73 ?_
                  refine lv_iload_n S.1 S.2.1 dX3_rest_76 rfl (lv_at hl 2 rfl) ?_
                  refine lv_iload_n S.1 S.2.1 dX3_rest_77 rfl (lv_at hl 1 rfl) ?_
                  refine lv_iload_n S.1 S.2.1 dX3_rest_78 rfl (lv_at hl 0 rfl) ?_
                  refine lv_ior S.1 S.2.1 dX3_rest_79 ?_
                  refine te (y := nI (dg (V / 2 ^ 130) k)) (hi_or V k) ?_
                  refine ap S hK hw 12 rfl k rfl (by omega) (by decide) dX3_rest_80 (fun H locs hw => ?_)
                  have hw : Wd D A s.heap H locs (wX3 o cA cd cap ph op nn mm fk fn fs fc fd fe ft fw (fun j => nI (dg V j)) ff fp (upd (mixf k (fun j => nI (dg (V / 2 ^ 130) j)) g) k (nI (dg (V / 2 ^ 130) k))) fr fx) := hw
                  have hw := hw.cong 12 (g := mixf (k + 1) (fun j => nI (dg (V / 2 ^ 130) j)) g) rfl (fun j _ => mixf_put (by exact rfl) j)
                  have hw : Wd D A s.heap H locs (wX3 o cA cd cap ph op nn mm fk fn fs fc fd fe ft fw (fun j => nI (dg V j)) ff fp (mixf (k + 1) (fun j => nI (dg (V / 2 ^ 130) j)) g) fr fx) := hw
                  refine lv_iinc (v := nI (k + 1)) (lv' := [(1, .int (nI (k + 1))), (3, .int (nI (dg V (k + 17) % 4 * 64))), (2, .int (nI (dg V (k + 16) / 4))), (0, .ref (o 0))]) S.1 S.2.1 dX3_rest_81 hl (k := 2) rfl (nI_add k 1) (by decide) rfl (fun ls hl => ?_)
                  refine lv_goto (tgt := 13) S.1 S.2.1 dX3_rest_84 (by decide) ?_
                  exact ih (k + 1)  (by omega)  _ _ hw _ (lv_sub hl [0, 3] rfl)
                · rw [nI_leI (by omega) (by omega)] at c50
                  refine lv_aload_n S.1 S.2.1 dX3_rest_53 rfl (lv_at hl 2 rfl) ?_
                  refine mg S hK hw 0 rfl rfl hiX3 14 (by decide) (List.mem_of_getElem? (i := 1) rfl) rfl dX3_rest_54 ?_
                  refine lv_iload_n S.1 S.2.1 dX3_rest_57 rfl (lv_at hl 1 rfl) ?_
                  refine lv_bipush (v := nI 17) S.1 S.2.1 dX3_rest_58 (by decide) ?_
                  refine lv_iadd S.1 S.2.1 dX3_rest_60 ?_
                  refine te (nI_add _ _) ?_
                  refine ag S hK hw 9 rfl (k + 17) rfl (by omega) (by decide) dX3_rest_61 ?_
                  refine te (y := nI ((dg V) (k + 17))) rfl ?_
                  refine lv_iconst (v := nI 3) S.1 S.2.1 dX3_rest_62 (by decide) ?_
                  refine lv_iand S.1 S.2.1 dX3_rest_63 ?_
                  refine te (y := nI (dg V (k + 17) % 4)) (and3 (by have := dg_lt V (k + 17); omega)) ?_
                  refine lv_bipush (v := nI 6) S.1 S.2.1 dX3_rest_64 (by decide) ?_
                  refine lv_ishl S.1 S.2.1 dX3_rest_66 ?_
                  refine te (y := nI (dg V (k + 17) % 4 * 64)) (shl6 (by omega)) ?_
                  refine lv_goto (tgt := 71) S.1 S.2.1 dX3_rest_67 (by decide) ?_
                  refine lv_istore_n (lv' := [(3, .int (nI (dg V (k + 17) % 4 * 64))), (2, .int (nI (dg V (k + 16) / 4))), (1, .int (nI k)), (0, .ref (o 0))]) S.1 S.2.1 dX3_rest_71 rfl hl (by decide) rfl (fun ls hl => ?_)
                  refine lv_aload_n S.1 S.2.1 dX3_rest_72 rfl (lv_at hl 3 rfl) ?_
                  refine mg S hK hw 0 rfl rfl hiX3 17 (by decide) (List.mem_of_getElem? (i := 2) rfl) rfl dX3_rest_73 ?_
                  refine lv_iload_n S.1 S.2.1 dX3_rest_76 rfl (lv_at hl 2 rfl) ?_
                  refine lv_iload_n S.1 S.2.1 dX3_rest_77 rfl (lv_at hl 1 rfl) ?_
                  refine lv_iload_n S.1 S.2.1 dX3_rest_78 rfl (lv_at hl 0 rfl) ?_
                  refine lv_ior S.1 S.2.1 dX3_rest_79 ?_
                  refine te (y := nI (dg (V / 2 ^ 130) k)) (hi_or V k) ?_
                  refine ap S hK hw 12 rfl k rfl (by omega) (by decide) dX3_rest_80 (fun H locs hw => ?_)
                  have hw : Wd D A s.heap H locs (wX3 o cA cd cap ph op nn mm fk fn fs fc fd fe ft fw (fun j => nI (dg V j)) ff fp (upd (mixf k (fun j => nI (dg (V / 2 ^ 130) j)) g) k (nI (dg (V / 2 ^ 130) k))) fr fx) := hw
                  have hw := hw.cong 12 (g := mixf (k + 1) (fun j => nI (dg (V / 2 ^ 130) j)) g) rfl (fun j _ => mixf_put (by exact rfl) j)
                  have hw : Wd D A s.heap H locs (wX3 o cA cd cap ph op nn mm fk fn fs fc fd fe ft fw (fun j => nI (dg V j)) ff fp (mixf (k + 1) (fun j => nI (dg (V / 2 ^ 130) j)) g) fr fx) := hw
                  refine lv_iinc (v := nI (k + 1)) (lv' := [(1, .int (nI (k + 1))), (3, .int (nI (dg V (k + 17) % 4 * 64))), (2, .int (nI (dg V (k + 16) / 4))), (0, .ref (o 0))]) S.1 S.2.1 dX3_rest_81 hl (k := 2) rfl (nI_add k 1) (by decide) rfl (fun ls hl => ?_)
                  refine lv_goto (tgt := 13) S.1 S.2.1 dX3_rest_84 (by decide) ?_
                  exact ih (k + 1)  (by omega)  _ _ hw _ (lv_sub hl [0, 3] rfl)
              · rw [nI_leI (by omega) (by omega)] at c25
                refine lv_aload_n S.1 S.2.1 dX3_rest_28 rfl (lv_at hl 1 rfl) ?_
                refine mg S hK hw 0 rfl rfl hiX3 14 (by decide) (List.mem_of_getElem? (i := 1) rfl) rfl dX3_rest_29 ?_
                refine lv_iload_n S.1 S.2.1 dX3_rest_32 rfl (lv_at hl 0 rfl) ?_
                refine lv_bipush (v := nI 16) S.1 S.2.1 dX3_rest_33 (by decide) ?_
                refine lv_iadd S.1 S.2.1 dX3_rest_35 ?_
                refine te (nI_add _ _) ?_
                refine ag S hK hw 9 rfl (k + 16) rfl (by omega) (by decide) dX3_rest_36 ?_
                refine te (y := nI ((dg V) (k + 16))) rfl ?_
                refine lv_iconst (v := nI 2) S.1 S.2.1 dX3_rest_37 (by decide) ?_
                refine lv_ishr S.1 S.2.1 dX3_rest_38 ?_
                refine te (y := nI (dg V (k + 16) / 4)) (shr2 (by have := dg_lt V (k + 16); omega)) ?_
                refine lv_goto (tgt := 43) S.1 S.2.1 dX3_rest_39 (by decide) ?_
                refine lv_istore_n (lv' := [(2, .int (nI (dg V (k + 16) / 4))), (1, .int (nI k)), (0, .ref (o 0))]) S.1 S.2.1 dX3_rest_43 rfl hl (by decide) rfl (fun ls hl => ?_)
                refine lv_iload_n S.1 S.2.1 dX3_rest_44 rfl (lv_at hl 1 rfl) ?_
                refine lv_bipush (v := nI 17) S.1 S.2.1 dX3_rest_45 (by decide) ?_
                refine lv_iadd S.1 S.2.1 dX3_rest_47 ?_
                refine te (nI_add _ _) ?_
                refine lv_bipush (v := nI 40) S.1 S.2.1 dX3_rest_48 (by decide) ?_
                refine lv_icmp_ge (tgt := 70) S.1 S.2.1 dX3_rest_50 (by decide) (fun c50 => ?_) (fun c50 => ?_)
                · rw [nI_leI (by omega) (by omega)] at c50
                  refine lv_iconst (v := nI 0) S.1 S.2.1 dX3_rest_70 (by decide) ?_
                  refine te (y := nI (dg V (k + 17) % 4 * 64)) (by rw [dg_ge hV2 (by omega), Nat.zero_mod, Nat.zero_mul]) ?_
                  refine lv_istore_n (lv' := [(3, .int (nI (dg V (k + 17) % 4 * 64))), (2, .int (nI (dg V (k + 16) / 4))), (1, .int (nI k)), (0, .ref (o 0))]) S.1 S.2.1 dX3_rest_71 rfl hl (by decide) rfl (fun ls hl => ?_)
                  refine lv_aload_n S.1 S.2.1 dX3_rest_72 rfl (lv_at hl 3 rfl) ?_
                  refine mg S hK hw 0 rfl rfl hiX3 17 (by decide) (List.mem_of_getElem? (i := 2) rfl) rfl dX3_rest_73 ?_
                  refine lv_iload_n S.1 S.2.1 dX3_rest_76 rfl (lv_at hl 2 rfl) ?_
                  refine lv_iload_n S.1 S.2.1 dX3_rest_77 rfl (lv_at hl 1 rfl) ?_
                  refine lv_iload_n S.1 S.2.1 dX3_rest_78 rfl (lv_at hl 0 rfl) ?_
                  refine lv_ior S.1 S.2.1 dX3_rest_79 ?_
                  refine te (y := nI (dg (V / 2 ^ 130) k)) (hi_or V k) ?_
                  refine ap S hK hw 12 rfl k rfl (by omega) (by decide) dX3_rest_80 (fun H locs hw => ?_)
                  have hw : Wd D A s.heap H locs (wX3 o cA cd cap ph op nn mm fk fn fs fc fd fe ft fw (fun j => nI (dg V j)) ff fp (upd (mixf k (fun j => nI (dg (V / 2 ^ 130) j)) g) k (nI (dg (V / 2 ^ 130) k))) fr fx) := hw
                  have hw := hw.cong 12 (g := mixf (k + 1) (fun j => nI (dg (V / 2 ^ 130) j)) g) rfl (fun j _ => mixf_put (by exact rfl) j)
                  have hw : Wd D A s.heap H locs (wX3 o cA cd cap ph op nn mm fk fn fs fc fd fe ft fw (fun j => nI (dg V j)) ff fp (mixf (k + 1) (fun j => nI (dg (V / 2 ^ 130) j)) g) fr fx) := hw
                  refine lv_iinc (v := nI (k + 1)) (lv' := [(1, .int (nI (k + 1))), (3, .int (nI (dg V (k + 17) % 4 * 64))), (2, .int (nI (dg V (k + 16) / 4))), (0, .ref (o 0))]) S.1 S.2.1 dX3_rest_81 hl (k := 2) rfl (nI_add k 1) (by decide) rfl (fun ls hl => ?_)
                  refine lv_goto (tgt := 13) S.1 S.2.1 dX3_rest_84 (by decide) ?_
                  exact ih (k + 1)  (by omega)  _ _ hw _ (lv_sub hl [0, 3] rfl)
                · rw [nI_leI (by omega) (by omega)] at c50
                  refine lv_aload_n S.1 S.2.1 dX3_rest_53 rfl (lv_at hl 2 rfl) ?_
                  refine mg S hK hw 0 rfl rfl hiX3 14 (by decide) (List.mem_of_getElem? (i := 1) rfl) rfl dX3_rest_54 ?_
                  refine lv_iload_n S.1 S.2.1 dX3_rest_57 rfl (lv_at hl 1 rfl) ?_
                  refine lv_bipush (v := nI 17) S.1 S.2.1 dX3_rest_58 (by decide) ?_
                  refine lv_iadd S.1 S.2.1 dX3_rest_60 ?_
                  refine te (nI_add _ _) ?_
                  refine ag S hK hw 9 rfl (k + 17) rfl (by omega) (by decide) dX3_rest_61 ?_
                  refine te (y := nI ((dg V) (k + 17))) rfl ?_
                  refine lv_iconst (v := nI 3) S.1 S.2.1 dX3_rest_62 (by decide) ?_
                  refine lv_iand S.1 S.2.1 dX3_rest_63 ?_
                  refine te (y := nI (dg V (k + 17) % 4)) (and3 (by have := dg_lt V (k + 17); omega)) ?_
                  refine lv_bipush (v := nI 6) S.1 S.2.1 dX3_rest_64 (by decide) ?_
                  refine lv_ishl S.1 S.2.1 dX3_rest_66 ?_
                  refine te (y := nI (dg V (k + 17) % 4 * 64)) (shl6 (by omega)) ?_
                  refine lv_goto (tgt := 71) S.1 S.2.1 dX3_rest_67 (by decide) ?_
                  refine lv_istore_n (lv' := [(3, .int (nI (dg V (k + 17) % 4 * 64))), (2, .int (nI (dg V (k + 16) / 4))), (1, .int (nI k)), (0, .ref (o 0))]) S.1 S.2.1 dX3_rest_71 rfl hl (by decide) rfl (fun ls hl => ?_)
                  refine lv_aload_n S.1 S.2.1 dX3_rest_72 rfl (lv_at hl 3 rfl) ?_
                  refine mg S hK hw 0 rfl rfl hiX3 17 (by decide) (List.mem_of_getElem? (i := 2) rfl) rfl dX3_rest_73 ?_
                  refine lv_iload_n S.1 S.2.1 dX3_rest_76 rfl (lv_at hl 2 rfl) ?_
                  refine lv_iload_n S.1 S.2.1 dX3_rest_77 rfl (lv_at hl 1 rfl) ?_
                  refine lv_iload_n S.1 S.2.1 dX3_rest_78 rfl (lv_at hl 0 rfl) ?_
                  refine lv_ior S.1 S.2.1 dX3_rest_79 ?_
                  refine te (y := nI (dg (V / 2 ^ 130) k)) (hi_or V k) ?_
                  refine ap S hK hw 12 rfl k rfl (by omega) (by decide) dX3_rest_80 (fun H locs hw => ?_)
                  have hw : Wd D A s.heap H locs (wX3 o cA cd cap ph op nn mm fk fn fs fc fd fe ft fw (fun j => nI (dg V j)) ff fp (upd (mixf k (fun j => nI (dg (V / 2 ^ 130) j)) g) k (nI (dg (V / 2 ^ 130) k))) fr fx) := hw
                  have hw := hw.cong 12 (g := mixf (k + 1) (fun j => nI (dg (V / 2 ^ 130) j)) g) rfl (fun j _ => mixf_put (by exact rfl) j)
                  have hw : Wd D A s.heap H locs (wX3 o cA cd cap ph op nn mm fk fn fs fc fd fe ft fw (fun j => nI (dg V j)) ff fp (mixf (k + 1) (fun j => nI (dg (V / 2 ^ 130) j)) g) fr fx) := hw
                  refine lv_iinc (v := nI (k + 1)) (lv' := [(1, .int (nI (k + 1))), (3, .int (nI (dg V (k + 17) % 4 * 64))), (2, .int (nI (dg V (k + 16) / 4))), (0, .ref (o 0))]) S.1 S.2.1 dX3_rest_81 hl (k := 2) rfl (nI_add k 1) (by decide) rfl (fun ls hl => ?_)
                  refine lv_goto (tgt := 13) S.1 S.2.1 dX3_rest_84 (by decide) ?_
                  exact ih (k + 1)  (by omega)  _ _ hw _ (lv_sub hl [0, 3] rfl)
        have hw := hw.cong 12 (g := mixf 0 (fun j => nI (dg (V / 2 ^ 130) j)) g) rfl (fun j _ => mixf_0 (fun j => nI (dg (V / 2 ^ 130) j)) g j)
        exact lp13 40 0  (by omega)  _ _ hw _ hl
  exact lp4 (vl 40 x + 1) (vl 40 x) fg (by omega) hV rfl _ _ hw _ hl

set_option maxHeartbeats 4000000 in
set_option maxRecDepth 100000 in
theorem kX3_take (l : Launch) (D : va_G) (cA : ClassId) (o : Nat → Nat) (cd cap ph op nn mm : Int32) (fk fn fs fc fd fe ft fw fp fg fr : Nat → Int32) (Hh : Nat) (r b : Nat → Nat) (hH : Hh < pP) (hr0 : ∀ j, j < 16 → r j ≤ 255) (hb : ∀ j, j < 16 → b j ≤ 255) : CV l D cA yX3_take wsX3_take { frames := 2, cells := 0, slots := 0, locals := 45 } [.ref (o 0)] (wX3 o cA cd cap ph op nn mm fk fn fs fc fd fe ft fw (fun j => nI (dg Hh j)) (fun j => nI (r j)) fp fg fr (fun j => nI (b j))) (fun _ => True) (fun u : (Nat → Int32) × (Nat → Int32) => wX3 o cA cd cap ph op nn mm fk fn fs fc fd fe ft fw (fun j => nI (dg (tV Hh b * vl 16 r % pP) j)) (fun j => nI (r j)) u.1 u.2 fr (fun j => nI (b j))) := by
  refine cv_of (by decide) rfl (Nat.le_of_ble_eq_true rfl) ?_
  intro p e s m below meth c ls A ar Q S hK hw hA hr hlk hl hQ
  have hl : lv_has ls 3 [(0, .ref (o 0))] := hl
  have hiX3 : ∀ w ∈ wsX30, w ∈ wsX3_take := fun _ h => List.mem_cons_of_mem _ (List.mem_append_right _ h)
  refine lv_iconst (v := nI 0) S.1 S.2.1 dX3_take_0 (by decide) ?_
  refine lv_istore_n (lv' := [(1, .int (nI 0)), (0, .ref (o 0))]) S.1 S.2.1 dX3_take_1 rfl hl (by decide) rfl (fun ls hl => ?_)
  have lp2 : ∀ (n0 k : Nat), k + n0 = 16 → ∀ (H : Heap) (locs : List Loc), Wd D A s.heap H locs (wX3 o cA cd cap ph op nn mm fk fn fs fc fd fe ft fw (mixf k (fun j => nI (dg Hh j + b j)) (fun j => nI (dg Hh j))) (fun j => nI (r j)) fp fg fr (fun j => nI (b j))) → ∀ ls : Array Slot, lv_has ls 3 [(1, .int (nI k)), (0, .ref (o 0))] → W p l e { frames := 2, cells := 0, slots := 0, locals := 45 } s m ar below meth c H locs 0 0 Q (F0 m 2 ls []) := by
    intro n0
    induction n0 with
    | zero =>
      intro k hn0 H locs hw ls hl
      have hn0 : k = 16 := by omega
      subst hn0
      have hw := hw.cong 9 (g := fun j => nI (chL Hh b j)) rfl (chL_mix Hh b)
      have hw : Wd D A s.heap H locs (wX3 o cA cd cap ph op nn mm fk fn fs fc fd fe ft fw (fun j => nI (chL Hh b j)) (fun j => nI (r j)) fp fg fr (fun j => nI (b j))) := hw
      refine lv_iload_n S.1 S.2.1 dX3_take_2 rfl (lv_at hl 0 rfl) ?_
      refine lv_bipush (v := nI 16) S.1 S.2.1 dX3_take_3 (by decide) ?_
      refine lv_icmp_ge (tgt := 29) S.1 S.2.1 dX3_take_5 (by decide) (fun c5 => ?_) (fun c5 => ?_)
      · rw [nI_leI (by omega) (by omega)] at c5
        refine lv_aload_n S.1 S.2.1 dX3_take_29 rfl (lv_at hl 1 rfl) ?_
        refine mg S hK hw 0 rfl rfl hiX3 14 (by decide) (List.mem_of_getElem? (i := 1) rfl) rfl dX3_take_30 ?_
        refine lv_bipush (v := nI 16) S.1 S.2.1 dX3_take_33 (by decide) ?_
        refine lv_dup2_11 S.1 S.2.1 dX3_take_35 rfl rfl ?_
        refine ag S hK hw 9 rfl 16 rfl (by omega) (by decide) dX3_take_36 ?_
        refine te (y := nI ((chL Hh b) 16)) rfl ?_
        refine lv_iconst (v := nI 1) S.1 S.2.1 dX3_take_37 (by decide) ?_
        refine lv_iadd S.1 S.2.1 dX3_take_38 ?_
        refine te (nI_add _ _) ?_
        refine ap S hK hw 9 rfl 16 rfl (by omega) (by decide) dX3_take_39 (fun H locs hw => ?_)
        have hw : Wd D A s.heap H locs (wX3 o cA cd cap ph op nn mm fk fn fs fc fd fe ft fw (upd (fun j => nI (chL Hh b j)) 16 (nI (((chL Hh b) 16) + 1))) (fun j => nI (r j)) fp fg fr (fun j => nI (b j))) := hw
        have hw := hw.cong 9 (g := fun j => nI (updN (chL Hh b) 16 (chL Hh b 16 + 1) j)) rfl (fun j _ => upd_nI 16 (chL Hh b 16 + 1) j)
        have hw : Wd D A s.heap H locs (wX3 o cA cd cap ph op nn mm fk fn fs fc fd fe ft fw (fun j => nI (updN (chL Hh b) 16 (chL Hh b 16 + 1) j)) (fun j => nI (r j)) fp fg fr (fun j => nI (b j))) := hw
        refine lv_aload_n S.1 S.2.1 dX3_take_40 rfl (lv_at hl 1 rfl) ?_
        refine callVV (rest := []) S hK hw hA (kX3_carryN l D cA o cd cap ph op nn mm fk fn fs fc fd fe ft fw (fun j => nI (r j)) fp fg fr (fun j => nI (b j)) (updN (chL Hh b) 16 (chL Hh b 16 + 1)) (chL_le hb)) gX3_take_X3_carry rfl 0 rfl (by decide +kernel) ⟨rfl, rfl⟩ ⟨by decide, by decide⟩ ⟨Nat.zero_le _, Nat.zero_le _⟩ [0, 1, 2, 3, 4, 5, 6, 7, 8, 9, 10, 11, 12, 13, 14] rfl (by decide) (fun _ => rfl) 0 rfl rfl rfl hl.1 (Nat.le_of_ble_eq_true rfl) dX3_take_41 rfl (fun u41 H locs hp hw => ?_)
        rw [show vl 40 (updN (chL Hh b) 16 (chL Hh b 16 + 1)) = tV Hh b from tk_val (Nat.lt_trans hH (by decide))] at hw
        have hw : Wd D A s.heap H locs (wX3 o cA cd cap ph op nn mm fk fn fs fc fd fe ft fw (fun j => nI (dg (tV Hh b) j)) (fun j => nI (r j)) fp fg fr (fun j => nI (b j))) := hw
        refine lv_iconst (v := nI 0) S.1 S.2.1 dX3_take_44 (by decide) ?_
        refine lv_istore_n (lv' := [(1, .int (nI 0)), (0, .ref (o 0))]) S.1 S.2.1 dX3_take_45 rfl hl (by decide) rfl (fun ls hl => ?_)
        have lp46 : ∀ (n0 k : Nat), k + n0 = 40 → ∀ (H : Heap) (locs : List Loc), Wd D A s.heap H locs (wX3 o cA cd cap ph op nn mm fk fn fs fc fd fe ft fw (fun j => nI (dg (tV Hh b) j)) (fun j => nI (r j)) (mixf k (fun j => nI 0) fp) fg fr (fun j => nI (b j))) → ∀ ls : Array Slot, lv_has ls 3 [(1, .int (nI k)), (0, .ref (o 0))] → W p l e { frames := 2, cells := 0, slots := 0, locals := 45 } s m ar below meth c H locs 0 0 Q (F0 m 46 ls []) := by
          intro n0
          induction n0 with
          | zero =>
            intro k hn0 H locs hw ls hl
            have hn0 : k = 40 := by omega
            subst hn0
            have hw := hw.cong 11 (g := fun j => nI ((fun _ => 0) j)) rfl (fun j hj => mixf_n hj)
            have hw : Wd D A s.heap H locs (wX3 o cA cd cap ph op nn mm fk fn fs fc fd fe ft fw (fun j => nI (dg (tV Hh b) j)) (fun j => nI (r j)) (fun j => nI ((fun _ => 0) j)) fg fr (fun j => nI (b j))) := hw
            refine lv_iload_n S.1 S.2.1 dX3_take_46 rfl (lv_at hl 0 rfl) ?_
            refine lv_bipush (v := nI 40) S.1 S.2.1 dX3_take_47 (by decide) ?_
            refine lv_icmp_ge (tgt := 65) S.1 S.2.1 dX3_take_49 (by decide) (fun c49 => ?_) (fun c49 => ?_)
            · rw [nI_leI (by omega) (by omega)] at c49
              refine lv_iconst (v := nI 0) S.1 S.2.1 dX3_take_65 (by decide) ?_
              refine lv_istore_n (lv' := [(1, .int (nI 0)), (0, .ref (o 0))]) S.1 S.2.1 dX3_take_66 rfl hl (by decide) rfl (fun ls hl => ?_)
              have lp67 : ∀ (n0 i : Nat) (y : Nat → Nat), i + n0 = 18 → vl 40 y = vl i (dg (tV Hh b)) * vl 16 r → (∀ j, j < 40 → y j ≤ 16 * i * 65025) → ∀ (H : Heap) (locs : List Loc), Wd D A s.heap H locs (wX3 o cA cd cap ph op nn mm fk fn fs fc fd fe ft fw (fun j => nI (dg (tV Hh b) j)) (fun j => nI (r j)) (fun j => nI (y j)) fg fr (fun j => nI (b j))) → ∀ ls : Array Slot, lv_has ls 3 [(1, .int (nI i)), (0, .ref (o 0))] → W p l e { frames := 2, cells := 0, slots := 0, locals := 45 } s m ar below meth c H locs 0 0 Q (F0 m 67 ls []) := by
                intro n0
                induction n0 with
                | zero =>
                  intro i y hn0 hy hyb H locs hw ls hl
                  have hn0 : i = 18 := by omega
                  subst hn0
                  refine lv_iload_n S.1 S.2.1 dX3_take_67 rfl (lv_at hl 0 rfl) ?_
                  refine lv_bipush (v := nI 18) S.1 S.2.1 dX3_take_68 (by decide) ?_
                  refine lv_icmp_ge (tgt := 117) S.1 S.2.1 dX3_take_70 (by decide) (fun c70 => ?_) (fun c70 => ?_)
                  · rw [nI_leI (by omega) (by omega)] at c70
                    refine lv_iconst (v := nI 0) S.1 S.2.1 dX3_take_117 (by decide) ?_
                    refine lv_istore_n (lv' := [(1, .int (nI 0)), (0, .ref (o 0))]) S.1 S.2.1 dX3_take_118 rfl hl (by decide) rfl (fun ls hl => ?_)
                    have lp119 : ∀ (n0 k : Nat), k + n0 = 40 → ∀ (H : Heap) (locs : List Loc), Wd D A s.heap H locs (wX3 o cA cd cap ph op nn mm fk fn fs fc fd fe ft fw (mixf k (fun j => nI (y j)) (fun j => nI (dg (tV Hh b) j))) (fun j => nI (r j)) (fun j => nI (y j)) fg fr (fun j => nI (b j))) → ∀ ls : Array Slot, lv_has ls 3 [(1, .int (nI k)), (0, .ref (o 0))] → W p l e { frames := 2, cells := 0, slots := 0, locals := 45 } s m ar below meth c H locs 0 0 Q (F0 m 119 ls []) := by
                      intro n0
                      induction n0 with
                      | zero =>
                        intro k hn0 H locs hw ls hl
                        have hn0 : k = 40 := by omega
                        subst hn0
                        have hw := hw.cong 9 (g := fun j => nI (y j)) rfl (fun j hj => mixf_n hj)
                        have hw : Wd D A s.heap H locs (wX3 o cA cd cap ph op nn mm fk fn fs fc fd fe ft fw (fun j => nI (y j)) (fun j => nI (r j)) (fun j => nI (y j)) fg fr (fun j => nI (b j))) := hw
                        refine lv_iload_n S.1 S.2.1 dX3_take_119 rfl (lv_at hl 0 rfl) ?_
                        refine lv_bipush (v := nI 40) S.1 S.2.1 dX3_take_120 (by decide) ?_
                        refine lv_icmp_ge (tgt := 143) S.1 S.2.1 dX3_take_122 (by decide) (fun c122 => ?_) (fun c122 => ?_)
                        · rw [nI_leI (by omega) (by omega)] at c122
                          refine lv_aload_n S.1 S.2.1 dX3_take_143 rfl (lv_at hl 1 rfl) ?_
                          refine callVV (rest := []) S hK hw hA (kX3_rest l D cA o cd cap ph op nn mm fk fn fs fc fd fe ft fw (fun j => nI (r j)) (fun j => nI (y j)) fg fr (fun j => nI (b j)) y (fun j hj => by have := hyb j hj; omega) (y_tot hH hb hr0 hy).2) gX3_take_X3_rest rfl 0 rfl (by decide +kernel) ⟨rfl, rfl⟩ ⟨by decide, by decide⟩ ⟨Nat.zero_le _, Nat.zero_le _⟩ [0, 1, 2, 3, 4, 5, 6, 7, 8, 9, 10, 11, 12, 13, 14] rfl (by decide) (fun _ => rfl) 0 rfl rfl rfl hl.1 (Nat.le_of_ble_eq_true rfl) dX3_take_144 rfl (fun u144 H locs hp hw => ?_)
                          rw [show vl 40 y = tV Hh b * vl 16 r from (y_tot hH hb hr0 hy).1] at hw
                          have hw : Wd D A s.heap H locs (wX3 o cA cd cap ph op nn mm fk fn fs fc fd fe ft fw (fun j => nI (dg (tV Hh b * vl 16 r % pP) j)) (fun j => nI (r j)) (fun j => nI (y j)) u144 fr (fun j => nI (b j))) := hw
                          exact cv_ret S hr hlk hQ hw (fun j => nI (y j), u144) rfl trivial dX3_take_147
                        · rw [nI_leI (by omega) (by omega)] at c122
                          exfalso; omega
                      | succ n0 ih =>
                        intro k hn0 H locs hw ls hl
                        have hlt : k < 40 := by omega
                        refine lv_iload_n S.1 S.2.1 dX3_take_119 rfl (lv_at hl 0 rfl) ?_
                        refine lv_bipush (v := nI 40) S.1 S.2.1 dX3_take_120 (by decide) ?_
                        refine lv_icmp_ge (tgt := 143) S.1 S.2.1 dX3_take_122 (by decide) (fun c122 => ?_) (fun c122 => ?_)
                        · rw [nI_leI (by omega) (by omega)] at c122
                          exfalso; omega
                        · rw [nI_leI (by omega) (by omega)] at c122
                          refine lv_aload_n S.1 S.2.1 dX3_take_125 rfl (lv_at hl 1 rfl) ?_
                          refine mg S hK hw 0 rfl rfl hiX3 14 (by decide) (List.mem_of_getElem? (i := 1) rfl) rfl dX3_take_126 ?_
                          refine lv_iload_n S.1 S.2.1 dX3_take_129 rfl (lv_at hl 0 rfl) ?_
                          refine lv_aload_n S.1 S.2.1 dX3_take_130 rfl (lv_at hl 1 rfl) ?_
                          refine mg S hK hw 0 rfl rfl hiX3 16 (by decide) (List.mem_of_getElem? (i := 3) rfl) rfl dX3_take_131 ?_
                          refine lv_iload_n S.1 S.2.1 dX3_take_134 rfl (lv_at hl 0 rfl) ?_
                          refine ag S hK hw 11 rfl k rfl (by omega) (by decide) dX3_take_135 ?_
                          refine te (y := nI (y k)) rfl ?_
                          refine ap S hK hw 9 rfl k rfl (by omega) (by decide) dX3_take_136 (fun H locs hw => ?_)
                          have hw : Wd D A s.heap H locs (wX3 o cA cd cap ph op nn mm fk fn fs fc fd fe ft fw (upd (mixf k (fun j => nI (y j)) (fun j => nI (dg (tV Hh b) j))) k (nI (y k))) (fun j => nI (r j)) (fun j => nI (y j)) fg fr (fun j => nI (b j))) := hw
                          have hw := hw.cong 9 (g := mixf (k + 1) (fun j => nI (y j)) (fun j => nI (dg (tV Hh b) j))) rfl (fun j _ => mixf_put (by exact rfl) j)
                          have hw : Wd D A s.heap H locs (wX3 o cA cd cap ph op nn mm fk fn fs fc fd fe ft fw (mixf (k + 1) (fun j => nI (y j)) (fun j => nI (dg (tV Hh b) j))) (fun j => nI (r j)) (fun j => nI (y j)) fg fr (fun j => nI (b j))) := hw
                          refine lv_iinc (v := nI (k + 1)) (lv' := [(1, .int (nI (k + 1))), (0, .ref (o 0))]) S.1 S.2.1 dX3_take_137 hl (k := 0) rfl (nI_add k 1) (by decide) rfl (fun ls hl => ?_)
                          refine lv_goto (tgt := 119) S.1 S.2.1 dX3_take_140 (by decide) ?_
                          exact ih (k + 1)  (by omega)  _ _ hw _ hl
                    have hw := hw.cong 9 (g := mixf 0 (fun j => nI (y j)) (fun j => nI (dg (tV Hh b) j))) rfl (fun j _ => mixf_0 (fun j => nI (y j)) (fun j => nI (dg (tV Hh b) j)) j)
                    exact lp119 40 0  (by omega)  _ _ hw _ hl
                  · rw [nI_leI (by omega) (by omega)] at c70
                    exfalso; omega
                | succ n0 ih =>
                  intro i y hn0 hy hyb H locs hw ls hl
                  have hlt : i < 18 := by omega
                  refine lv_iload_n S.1 S.2.1 dX3_take_67 rfl (lv_at hl 0 rfl) ?_
                  refine lv_bipush (v := nI 18) S.1 S.2.1 dX3_take_68 (by decide) ?_
                  refine lv_icmp_ge (tgt := 117) S.1 S.2.1 dX3_take_70 (by decide) (fun c70 => ?_) (fun c70 => ?_)
                  · rw [nI_leI (by omega) (by omega)] at c70
                    exfalso; omega
                  · rw [nI_leI (by omega) (by omega)] at c70
                    refine lv_iconst (v := nI 0) S.1 S.2.1 dX3_take_73 (by decide) ?_
                    refine lv_istore_n (lv' := [(2, .int (nI 0)), (1, .int (nI i)), (0, .ref (o 0))]) S.1 S.2.1 dX3_take_74 rfl hl (by decide) rfl (fun ls hl => ?_)
                    have lp75 : ∀ (n0 q : Nat) (y2 : Nat → Nat), q + n0 = 16 → vl 40 y2 = vl i (dg (tV Hh b)) * vl 16 r + dg (tV Hh b) i * vl q r * 256 ^ i → (∀ j, j < 40 → y2 j ≤ (16 * i + q) * 65025) → ∀ (H : Heap) (locs : List Loc), Wd D A s.heap H locs (wX3 o cA cd cap ph op nn mm fk fn fs fc fd fe ft fw (fun j => nI (dg (tV Hh b) j)) (fun j => nI (r j)) (fun j => nI (y2 j)) fg fr (fun j => nI (b j))) → ∀ ls : Array Slot, lv_has ls 3 [(2, .int (nI q)), (1, .int (nI i)), (0, .ref (o 0))] → W p l e { frames := 2, cells := 0, slots := 0, locals := 45 } s m ar below meth c H locs 0 0 Q (F0 m 75 ls []) := by
                      intro n0
                      induction n0 with
                      | zero =>
                        intro q y2 hn0 hy2 hyb2 H locs hw ls hl
                        have hn0 : q = 16 := by omega
                        subst hn0
                        refine lv_iload_n S.1 S.2.1 dX3_take_75 rfl (lv_at hl 0 rfl) ?_
                        refine lv_bipush (v := nI 16) S.1 S.2.1 dX3_take_76 (by decide) ?_
                        refine lv_icmp_ge (tgt := 111) S.1 S.2.1 dX3_take_78 (by decide) (fun c78 => ?_) (fun c78 => ?_)
                        · rw [nI_leI (by omega) (by omega)] at c78
                          refine lv_iinc (v := nI (i + 1)) (lv' := [(1, .int (nI (i + 1))), (2, .int (nI 16)), (0, .ref (o 0))]) S.1 S.2.1 dX3_take_111 hl (k := 1) rfl (nI_add i 1) (by decide) rfl (fun ls hl => ?_)
                          refine lv_goto (tgt := 67) S.1 S.2.1 dX3_take_114 (by decide) ?_
                          exact ih (i + 1) y2 (by omega) (by rw [hy2]; exact out_step _ _ _ _) (fun j hj => by have := hyb2 j hj; omega) _ _ hw _ (lv_sub hl [0, 2] rfl)
                        · rw [nI_leI (by omega) (by omega)] at c78
                          exfalso; omega
                      | succ n0 ih =>
                        intro q y2 hn0 hy2 hyb2 H locs hw ls hl
                        have hlt : q < 16 := by omega
                        refine lv_iload_n S.1 S.2.1 dX3_take_75 rfl (lv_at hl 0 rfl) ?_
                        refine lv_bipush (v := nI 16) S.1 S.2.1 dX3_take_76 (by decide) ?_
                        refine lv_icmp_ge (tgt := 111) S.1 S.2.1 dX3_take_78 (by decide) (fun c78 => ?_) (fun c78 => ?_)
                        · rw [nI_leI (by omega) (by omega)] at c78
                          exfalso; omega
                        · rw [nI_leI (by omega) (by omega)] at c78
                          refine lv_aload_n S.1 S.2.1 dX3_take_81 rfl (lv_at hl 2 rfl) ?_
                          refine mg S hK hw 0 rfl rfl hiX3 16 (by decide) (List.mem_of_getElem? (i := 3) rfl) rfl dX3_take_82 ?_
                          refine lv_iload_n S.1 S.2.1 dX3_take_85 rfl (lv_at hl 1 rfl) ?_
                          refine lv_iload_n S.1 S.2.1 dX3_take_86 rfl (lv_at hl 0 rfl) ?_
                          refine lv_iadd S.1 S.2.1 dX3_take_87 ?_
                          refine te (nI_add _ _) ?_
                          refine lv_dup2_11 S.1 S.2.1 dX3_take_88 rfl rfl ?_
                          refine ag S hK hw 11 rfl (i + q) rfl (by omega) (by decide) dX3_take_89 ?_
                          refine te (y := nI (y2 (i + q))) rfl ?_
                          refine lv_aload_n S.1 S.2.1 dX3_take_90 rfl (lv_at hl 2 rfl) ?_
                          refine mg S hK hw 0 rfl rfl hiX3 14 (by decide) (List.mem_of_getElem? (i := 1) rfl) rfl dX3_take_91 ?_
                          refine lv_iload_n S.1 S.2.1 dX3_take_94 rfl (lv_at hl 1 rfl) ?_
                          refine ag S hK hw 9 rfl i rfl (by omega) (by decide) dX3_take_95 ?_
                          refine te (y := nI ((dg (tV Hh b)) i)) rfl ?_
                          refine lv_aload_n S.1 S.2.1 dX3_take_96 rfl (lv_at hl 2 rfl) ?_
                          refine mg S hK hw 0 rfl rfl hiX3 15 (by decide) (List.mem_of_getElem? (i := 4) rfl) rfl dX3_take_97 ?_
                          refine lv_iload_n S.1 S.2.1 dX3_take_100 rfl (lv_at hl 0 rfl) ?_
                          refine ag S hK hw 10 rfl q rfl (by omega) (by decide) dX3_take_101 ?_
                          refine te (y := nI (r q)) rfl ?_
                          refine lv_imul S.1 S.2.1 dX3_take_102 ?_
                          refine te (pk_mul _ _) ?_
                          refine lv_iadd S.1 S.2.1 dX3_take_103 ?_
                          refine te (nI_add _ _) ?_
                          refine ap S hK hw 11 rfl (i + q) rfl (by omega) (by decide) dX3_take_104 (fun H locs hw => ?_)
                          have hw : Wd D A s.heap H locs (wX3 o cA cd cap ph op nn mm fk fn fs fc fd fe ft fw (fun j => nI (dg (tV Hh b) j)) (fun j => nI (r j)) (upd (fun j => nI (y2 j)) (i + q) (nI ((y2 (i + q)) + (((dg (tV Hh b)) i) * (r q))))) fg fr (fun j => nI (b j))) := hw
                          have hw := hw.cong 11 (g := fun j => nI (updN y2 (i + q) (y2 (i + q) + dg (tV Hh b) i * r q) j)) rfl (fun j _ => upd_nI _ _ j)
                          have hw : Wd D A s.heap H locs (wX3 o cA cd cap ph op nn mm fk fn fs fc fd fe ft fw (fun j => nI (dg (tV Hh b) j)) (fun j => nI (r j)) (fun j => nI (updN y2 (i + q) (y2 (i + q) + dg (tV Hh b) i * r q) j)) fg fr (fun j => nI (b j))) := hw
                          refine lv_iinc (v := nI (q + 1)) (lv' := [(2, .int (nI (q + 1))), (1, .int (nI i)), (0, .ref (o 0))]) S.1 S.2.1 dX3_take_105 hl (k := 0) rfl (nI_add q 1) (by decide) rfl (fun ls hl => ?_)
                          refine lv_goto (tgt := 75) S.1 S.2.1 dX3_take_108 (by decide) ?_
                          exact ih (q + 1) _ (by omega) (by rw [vl_upd (y := y2) (by omega), hy2, vl_succ]; exact in_step _ _ _ _ _ _) (y_le (by omega) (hr0 q hlt) hyb2) _ _ hw _ hl
                    exact lp75 16 0 y (by omega) (by rw [hy, show vl 0 r = 0 from rfl, Nat.mul_zero, Nat.zero_mul, Nat.add_zero]) hyb _ _ hw _ hl
              exact lp67 18 0 (fun _ => 0) (by omega) (by rw [vl_0]; exact (Nat.zero_mul _).symm) (fun j _ => Nat.zero_le _) _ _ hw _ hl
            · rw [nI_leI (by omega) (by omega)] at c49
              exfalso; omega
          | succ n0 ih =>
            intro k hn0 H locs hw ls hl
            have hlt : k < 40 := by omega
            refine lv_iload_n S.1 S.2.1 dX3_take_46 rfl (lv_at hl 0 rfl) ?_
            refine lv_bipush (v := nI 40) S.1 S.2.1 dX3_take_47 (by decide) ?_
            refine lv_icmp_ge (tgt := 65) S.1 S.2.1 dX3_take_49 (by decide) (fun c49 => ?_) (fun c49 => ?_)
            · rw [nI_leI (by omega) (by omega)] at c49
              exfalso; omega
            · rw [nI_leI (by omega) (by omega)] at c49
              refine lv_aload_n S.1 S.2.1 dX3_take_52 rfl (lv_at hl 1 rfl) ?_
              refine mg S hK hw 0 rfl rfl hiX3 16 (by decide) (List.mem_of_getElem? (i := 3) rfl) rfl dX3_take_53 ?_
              refine lv_iload_n S.1 S.2.1 dX3_take_56 rfl (lv_at hl 0 rfl) ?_
              refine lv_iconst (v := nI 0) S.1 S.2.1 dX3_take_57 (by decide) ?_
              refine ap S hK hw 11 rfl k rfl (by omega) (by decide) dX3_take_58 (fun H locs hw => ?_)
              have hw : Wd D A s.heap H locs (wX3 o cA cd cap ph op nn mm fk fn fs fc fd fe ft fw (fun j => nI (dg (tV Hh b) j)) (fun j => nI (r j)) (upd (mixf k (fun j => nI 0) fp) k (nI 0)) fg fr (fun j => nI (b j))) := hw
              have hw := hw.cong 11 (g := mixf (k + 1) (fun j => nI 0) fp) rfl (fun j _ => mixf_put (by exact rfl) j)
              have hw : Wd D A s.heap H locs (wX3 o cA cd cap ph op nn mm fk fn fs fc fd fe ft fw (fun j => nI (dg (tV Hh b) j)) (fun j => nI (r j)) (mixf (k + 1) (fun j => nI 0) fp) fg fr (fun j => nI (b j))) := hw
              refine lv_iinc (v := nI (k + 1)) (lv' := [(1, .int (nI (k + 1))), (0, .ref (o 0))]) S.1 S.2.1 dX3_take_59 hl (k := 0) rfl (nI_add k 1) (by decide) rfl (fun ls hl => ?_)
              refine lv_goto (tgt := 46) S.1 S.2.1 dX3_take_62 (by decide) ?_
              exact ih (k + 1)  (by omega)  _ _ hw _ hl
        have hw := hw.cong 11 (g := mixf 0 (fun j => nI 0) fp) rfl (fun j _ => mixf_0 (fun j => nI 0) fp j)
        exact lp46 40 0  (by omega)  _ _ hw _ hl
      · rw [nI_leI (by omega) (by omega)] at c5
        exfalso; omega
    | succ n0 ih =>
      intro k hn0 H locs hw ls hl
      have hlt : k < 16 := by omega
      refine lv_iload_n S.1 S.2.1 dX3_take_2 rfl (lv_at hl 0 rfl) ?_
      refine lv_bipush (v := nI 16) S.1 S.2.1 dX3_take_3 (by decide) ?_
      refine lv_icmp_ge (tgt := 29) S.1 S.2.1 dX3_take_5 (by decide) (fun c5 => ?_) (fun c5 => ?_)
      · rw [nI_leI (by omega) (by omega)] at c5
        exfalso; omega
      · rw [nI_leI (by omega) (by omega)] at c5
        refine lv_aload_n S.1 S.2.1 dX3_take_8 rfl (lv_at hl 1 rfl) ?_
        refine mg S hK hw 0 rfl rfl hiX3 14 (by decide) (List.mem_of_getElem? (i := 1) rfl) rfl dX3_take_9 ?_
        refine lv_iload_n S.1 S.2.1 dX3_take_12 rfl (lv_at hl 0 rfl) ?_
        refine lv_dup2_11 S.1 S.2.1 dX3_take_13 rfl rfl ?_
        refine ag S hK hw 9 rfl k rfl (by omega) (by decide) dX3_take_14 ?_
        refine te (y := nI ((dg Hh) k)) (mixf_at _ _ _) ?_
        refine lv_aload_n S.1 S.2.1 dX3_take_15 rfl (lv_at hl 1 rfl) ?_
        refine mg S hK hw 0 rfl rfl hiX3 19 (by decide) (List.mem_of_getElem? (i := 2) rfl) rfl dX3_take_16 ?_
        refine lv_iload_n S.1 S.2.1 dX3_take_19 rfl (lv_at hl 0 rfl) ?_
        refine ag S hK hw 14 rfl k rfl (by omega) (by decide) dX3_take_20 ?_
        refine te (y := nI (b k)) rfl ?_
        refine lv_iadd S.1 S.2.1 dX3_take_21 ?_
        refine te (nI_add _ _) ?_
        refine ap S hK hw 9 rfl k rfl (by omega) (by decide) dX3_take_22 (fun H locs hw => ?_)
        have hw : Wd D A s.heap H locs (wX3 o cA cd cap ph op nn mm fk fn fs fc fd fe ft fw (upd (mixf k (fun j => nI (dg Hh j + b j)) (fun j => nI (dg Hh j))) k (nI (((dg Hh) k) + (b k)))) (fun j => nI (r j)) fp fg fr (fun j => nI (b j))) := hw
        have hw := hw.cong 9 (g := mixf (k + 1) (fun j => nI (dg Hh j + b j)) (fun j => nI (dg Hh j))) rfl (fun j _ => mixf_put (by exact rfl) j)
        have hw : Wd D A s.heap H locs (wX3 o cA cd cap ph op nn mm fk fn fs fc fd fe ft fw (mixf (k + 1) (fun j => nI (dg Hh j + b j)) (fun j => nI (dg Hh j))) (fun j => nI (r j)) fp fg fr (fun j => nI (b j))) := hw
        refine lv_iinc (v := nI (k + 1)) (lv' := [(1, .int (nI (k + 1))), (0, .ref (o 0))]) S.1 S.2.1 dX3_take_23 hl (k := 0) rfl (nI_add k 1) (by decide) rfl (fun ls hl => ?_)
        refine lv_goto (tgt := 2) S.1 S.2.1 dX3_take_26 (by decide) ?_
        exact ih (k + 1)  (by omega)  _ _ hw _ hl
  have hw := hw.cong 9 (g := mixf 0 (fun j => nI (dg Hh j + b j)) (fun j => nI (dg Hh j))) rfl (fun j _ => mixf_0 (fun j => nI (dg Hh j + b j)) (fun j => nI (dg Hh j)) j)
  exact lp2 16 0  (by omega)  _ _ hw _ hl
