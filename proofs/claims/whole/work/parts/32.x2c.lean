set_option maxHeartbeats 4000000 in
set_option maxRecDepth 100000 in
theorem kX2_finish_ok (l : Launch) (D : va_G) (cA : ClassId) (o : Nat → Nat) (p0 op0 n m0 cap0 : Nat) (t x : Nat → Nat) (rr sd : Nat → Nat) (T0 : TS) (fi fb fp ft : Nat → Int32)  (hp0 : p0 ≤ 4) (hop : op0 ≤ 1) (hn : n ≤ 1000) (hm : m0 ≤ cap0) (hcap : cap0 ≤ 400) (hT : okT T0) (hr0 : ∀ j, j < 17 → rr j ≤ 255) (hph : p0 = 1 ∨ p0 = 2) (hV : (fT rr T0 n m0).1 < 2 ^ 136) (hsd : ∀ j, j < 16 → sd j ≤ 255) : CI l D cA yX2_finish wsX2_finish { frames := 5, cells := 0, slots := 0, locals := 108 } [.ref (o 0)] (wX2 o cA cap0 (fun j => nI (t j)) (fun j => nI (x j)) fi fb (fun j => nI (rr j)) (fun j => nI (sd j)) (hF T0) fp ft (nI T0.2.2) (nI p0) (nI op0) (nI m0) (nI n)) (fun r _ => r = nI 1) (fun u : Nat → Int32 => wX2 o cA cap0 (fun j => nI (t j)) (fun j => nI (x j)) fi fb (fun j => nI (rr j)) (fun j => nI (sd j)) (fun j => nI (dg (clV (fT rr T0 n m0).1) j)) u (fun j => nI (dg (0 + vl 16 (xS (fT rr T0 n m0).1 sd)) j)) (nI (fT rr T0 n m0).2.2) (nI 3) (nI op0) (nI m0) (nI n)) := by
  refine ci_of (by decide) rfl (Nat.le_of_ble_eq_true rfl) ?_
  intro p e s m below meth c ls A ar Q S hK hw hA hr hlk hl hQ
  have hl : lv_has ls 1 [(0, .ref (o 0))] := hl
  have hiX2 : ∀ w ∈ wsX20, w ∈ wsX2_finish := fun _ h => List.mem_cons_of_mem _ (List.mem_append_left _ (List.mem_append_right _ h))
  refine lv_aload_n S.1 S.2.1 dX2_finish_0 rfl (lv_at hl 0 rfl) ?_
  refine callVI (rest := []) S hK hw hA (kX2_takesData l D cA o p0 op0 n m0 cap0 t x (nI T0.2.2) fi fb (fun j => nI (rr j)) (fun j => nI (sd j)) (hF T0) fp ft (by omega) (by omega) (by omega) (by omega) (by omega)) gX2_finish_X2_takesData rfl 0 rfl (by decide +kernel) ⟨rfl, rfl⟩ ⟨by decide, by decide⟩ ⟨Nat.zero_le _, Nat.zero_le _⟩ [0, 1, 2, 3, 4, 5, 6, 7, 8, 9, 10, 11] rfl (by decide) (fun _ => rfl) 0 rfl rfl rfl hl.1 (Nat.le_of_ble_eq_true rfl) dX2_finish_1 rfl (fun r u1 H locs hp hw => ?_)
  have hw : Wd D A s.heap H locs (wX2 o cA cap0 (fun j => nI (t j)) (fun j => nI (x j)) fi fb (fun j => nI (rr j)) (fun j => nI (sd j)) (hF T0) fp ft (nI T0.2.2) (nI p0) (nI op0) (nI m0) (nI n)) := hw
  subst hp
  refine lv_if_ne (tgt := 9) S.1 S.2.1 dX2_finish_4 (by decide) (fun c4 => ?_) (fun c4 => ?_)
  · skip
    refine lv_aload_n S.1 S.2.1 dX2_finish_9 rfl (lv_at hl 0 rfl) ?_
    refine mg S hK hw 0 rfl rfl hiX2 1 (by decide) (List.mem_of_getElem? (i := 1) rfl) rfl dX2_finish_10 ?_
    refine callVV (rest := []) S hK hw hA (kX1_fillUp l D cA (fun k => o (3 + k)) (fun j => nI (sd j)) fp ft rr T0 hT hr0) gX2_finish_X1_fillUp rfl 0 rfl (by decide +kernel) ⟨rfl, rfl⟩ ⟨by decide, by decide⟩ ⟨Nat.zero_le _, Nat.zero_le _⟩ [3, 4, 5, 6, 7, 8] rfl (by decide) (fun _ => rfl) 3 rfl rfl rfl hl.1 (Nat.le_of_ble_eq_true rfl) dX2_finish_13 rfl (fun u13 H locs hp hw => ?_)
    have hw : Wd D A s.heap H locs (wX2 o cA cap0 (fun j => nI (t j)) (fun j => nI (x j)) fi fb (fun j => nI (rr j)) (fun j => nI (sd j)) (hF (fl1 rr T0)) u13 ft (nI (fl1 rr T0).2.2) (nI p0) (nI op0) (nI m0) (nI n)) := hw
    refine lv_aload_n S.1 S.2.1 dX2_finish_16 rfl (lv_at hl 0 rfl) ?_
    refine mg S hK hw 0 rfl rfl hiX2 1 (by decide) (List.mem_of_getElem? (i := 1) rfl) rfl dX2_finish_17 ?_
    refine lv_aload_n S.1 S.2.1 dX2_finish_20 rfl (lv_at hl 0 rfl) ?_
    refine mg S hK hw 0 rfl rfl hiX2 7 (by decide) (List.mem_of_getElem? (i := 2) rfl) rfl dX2_finish_21 ?_
    refine callVV (rest := []) S hK hw hA (kX1_takeCount l D cA (fun k => o (3 + k)) (fun j => nI (sd j)) u13 ft rr (fl1 rr T0) n (fl1_ok hT) (by omega) hr0) gX2_finish_X1_takeCount rfl 1 rfl (by decide +kernel) ⟨rfl, rfl⟩ ⟨by decide, by decide⟩ ⟨Nat.zero_le _, Nat.zero_le _⟩ [3, 4, 5, 6, 7, 8] rfl (by decide) (fun _ => rfl) 3 rfl rfl rfl hl.1 (Nat.le_of_ble_eq_true rfl) dX2_finish_24 rfl (fun u24 H locs hp hw => ?_)
    have hw : Wd D A s.heap H locs (wX2 o cA cap0 (fun j => nI (t j)) (fun j => nI (x j)) fi fb (fun j => nI (rr j)) (fun j => nI (sd j)) (hF (tks rr (fl1 rr T0) (dg n) 8)) u24 ft (nI (tks rr (fl1 rr T0) (dg n) 8).2.2) (nI p0) (nI op0) (nI m0) (nI n)) := hw
    refine lv_aload_n S.1 S.2.1 dX2_finish_27 rfl (lv_at hl 0 rfl) ?_
    refine mg S hK hw 0 rfl rfl hiX2 1 (by decide) (List.mem_of_getElem? (i := 1) rfl) rfl dX2_finish_28 ?_
    refine lv_aload_n S.1 S.2.1 dX2_finish_31 rfl (lv_at hl 0 rfl) ?_
    refine mg S hK hw 0 rfl rfl hiX2 6 (by decide) (List.mem_of_getElem? (i := 3) rfl) rfl dX2_finish_32 ?_
    refine callVV (rest := []) S hK hw hA (kX1_takeCount l D cA (fun k => o (3 + k)) (fun j => nI (sd j)) u24 ft rr (tks rr (fl1 rr T0) (dg n) 8) m0 (tks_ok (fl1_ok hT) (fun j => dg_lt n j) 8) (by omega) hr0) gX2_finish_X1_takeCount rfl 1 rfl (by decide +kernel) ⟨rfl, rfl⟩ ⟨by decide, by decide⟩ ⟨Nat.zero_le _, Nat.zero_le _⟩ [3, 4, 5, 6, 7, 8] rfl (by decide) (fun _ => rfl) 3 rfl rfl rfl hl.1 (Nat.le_of_ble_eq_true rfl) dX2_finish_35 rfl (fun u35 H locs hp hw => ?_)
    have hw : Wd D A s.heap H locs (wX2 o cA cap0 (fun j => nI (t j)) (fun j => nI (x j)) fi fb (fun j => nI (rr j)) (fun j => nI (sd j)) (hF (tks rr (tks rr (fl1 rr T0) (dg n) 8) (dg m0) 8)) u35 ft (nI (tks rr (tks rr (fl1 rr T0) (dg n) 8) (dg m0) 8).2.2) (nI p0) (nI op0) (nI m0) (nI n)) := hw
    rw [fT_def] at hw
    have hw := hw.cong 6 (g := fun j => nI (dg (fT rr T0 n m0).1 j)) rfl (fun j _ => hF_fT rr T0 n m0 j)
    have hw : Wd D A s.heap H locs (wX2 o cA cap0 (fun j => nI (t j)) (fun j => nI (x j)) fi fb (fun j => nI (rr j)) (fun j => nI (sd j)) (fun j => nI (dg (fT rr T0 n m0).1 j)) u35 ft (nI (fT rr T0 n m0).2.2) (nI p0) (nI op0) (nI m0) (nI n)) := hw
    refine lv_aload_n S.1 S.2.1 dX2_finish_38 rfl (lv_at hl 0 rfl) ?_
    refine mg S hK hw 0 rfl rfl hiX2 1 (by decide) (List.mem_of_getElem? (i := 1) rfl) rfl dX2_finish_39 ?_
    refine callVV (rest := []) S hK hw hA (kX1_close l D cA (fun k => o (3 + k)) (fun j => nI (rr j)) u35 ft (nI (fT rr T0 n m0).2.2) (fT rr T0 n m0).1 sd hV hsd) gX2_finish_X1_close rfl 0 rfl (by decide +kernel) ⟨rfl, rfl⟩ ⟨by decide, by decide⟩ ⟨Nat.zero_le _, Nat.zero_le _⟩ [3, 4, 5, 6, 7, 8] rfl (by decide) (fun _ => rfl) 3 rfl rfl rfl hl.1 (Nat.le_of_ble_eq_true rfl) dX2_finish_42 rfl (fun u42 H locs hp hw => ?_)
    have hw : Wd D A s.heap H locs (wX2 o cA cap0 (fun j => nI (t j)) (fun j => nI (x j)) fi fb (fun j => nI (rr j)) (fun j => nI (sd j)) (fun j => nI (dg (clV (fT rr T0 n m0).1) j)) u35 (fun j => nI (dg (0 + vl 16 (xS (fT rr T0 n m0).1 sd)) j)) (nI (fT rr T0 n m0).2.2) (nI p0) (nI op0) (nI m0) (nI n)) := hw
    refine lv_aload_n S.1 S.2.1 dX2_finish_45 rfl (lv_at hl 0 rfl) ?_
    refine lv_iconst (v := nI 3) S.1 S.2.1 dX2_finish_46 (by decide) ?_
    refine mp S hK hw 0 rfl rfl hiX2 tyX2_ok nmX2 4 (by decide) (List.mem_of_getElem? (i := 4) rfl) rfl rfl rfl (Nat.le_of_ble_eq_true rfl) dX2_finish_47 (fun H locs hw => ?_)
    have hw : Wd D A s.heap H locs (wX2 o cA cap0 (fun j => nI (t j)) (fun j => nI (x j)) fi fb (fun j => nI (rr j)) (fun j => nI (sd j)) (fun j => nI (dg (clV (fT rr T0 n m0).1) j)) u35 (fun j => nI (dg (0 + vl 16 (xS (fT rr T0 n m0).1 sd)) j)) (nI (fT rr T0 n m0).2.2) (nI 3) (nI op0) (nI m0) (nI n)) := hw
    refine lv_iconst (v := nI 1) S.1 S.2.1 dX2_finish_50 (by decide) ?_
    exact ci_ret S hr hlk hQ hw (by decide) u35 rfl rfl dX2_finish_51
  · skip
    exact absurd hph (ifone_0 c4)

set_option maxHeartbeats 4000000 in
set_option maxRecDepth 100000 in
theorem kX2_finish_no (l : Launch) (D : va_G) (cA : ClassId) (o : Nat → Nat) (p0 op0 n m0 cap0 : Nat) (t x : Nat → Nat) (tk : Int32) (fi fb ff fa fh fp ft : Nat → Int32)  (hp0 : p0 ≤ 4) (hop : op0 ≤ 1) (hn : n ≤ 1000) (hm : m0 ≤ cap0) (hcap : cap0 ≤ 400) (hno : ¬ (p0 = 1 ∨ p0 = 2)) : CI l D cA yX2_finish wsX2_finish { frames := 5, cells := 0, slots := 0, locals := 108 } [.ref (o 0)] (wX2 o cA cap0 (fun j => nI (t j)) (fun j => nI (x j)) fi fb ff fa fh fp ft tk (nI p0) (nI op0) (nI m0) (nI n)) (fun r _ => r = nI 0) (fun _ : Unit => wX2 o cA cap0 (fun j => nI (t j)) (fun j => nI (x j)) fi fb ff fa fh fp ft tk (nI p0) (nI op0) (nI m0) (nI n)) := by
  refine ci_of (by decide) rfl (Nat.le_of_ble_eq_true rfl) ?_
  intro p e s m below meth c ls A ar Q S hK hw hA hr hlk hl hQ
  have hl : lv_has ls 1 [(0, .ref (o 0))] := hl
  refine lv_aload_n S.1 S.2.1 dX2_finish_0 rfl (lv_at hl 0 rfl) ?_
  refine callVI (rest := []) S hK hw hA (kX2_takesData l D cA o p0 op0 n m0 cap0 t x tk fi fb ff fa fh fp ft (by omega) (by omega) (by omega) (by omega) (by omega)) gX2_finish_X2_takesData rfl 0 rfl (by decide +kernel) ⟨rfl, rfl⟩ ⟨by decide, by decide⟩ ⟨Nat.zero_le _, Nat.zero_le _⟩ [0, 1, 2, 3, 4, 5, 6, 7, 8, 9, 10, 11] rfl (by decide) (fun _ => rfl) 0 rfl rfl rfl hl.1 (Nat.le_of_ble_eq_true rfl) dX2_finish_1 rfl (fun r u1 H locs hp hw => ?_)
  have hw : Wd D A s.heap H locs (wX2 o cA cap0 (fun j => nI (t j)) (fun j => nI (x j)) fi fb ff fa fh fp ft tk (nI p0) (nI op0) (nI m0) (nI n)) := hw
  subst hp
  refine lv_if_ne (tgt := 9) S.1 S.2.1 dX2_finish_4 (by decide) (fun c4 => ?_) (fun c4 => ?_)
  · skip
    exact absurd (ifone_1 c4) hno
  · skip
    refine lv_iconst (v := nI 0) S.1 S.2.1 dX2_finish_7 (by decide) ?_
    exact ci_ret S hr hlk hQ hw (by decide) () rfl rfl dX2_finish_8

set_option maxHeartbeats 4000000 in
set_option maxRecDepth 100000 in
theorem kX2_expectTag_ok (l : Launch) (D : va_G) (cA : ClassId) (o : Nat → Nat) (p0 op0 n m0 cap0 : Nat) (t x : Nat → Nat) (tk : Int32) (fi fb ff fa fh fp ft : Nat → Int32) (i v : Nat) (hp0 : p0 ≤ 4) (hop : op0 ≤ 1) (hn : n ≤ 1000) (hm : m0 ≤ cap0) (hcap : cap0 ≤ 400) (hi : i < 16) (hv : v < 256) (hph : p0 = 3) (ho : op0 = 1) : CI l D cA yX2_expectTag wsX2_expectTag { frames := 1, cells := 0, slots := 0, locals := 20 } [.ref (o 0), .int (nI i), .int (nI v)] (wX2 o cA cap0 (fun j => nI (t j)) (fun j => nI (x j)) fi fb ff fa fh fp ft tk (nI p0) (nI op0) (nI m0) (nI n)) (fun r _ => r = nI 1) (fun _ : Unit => wX2 o cA cap0 (fun j => nI (t j)) (fun j => nI (updN x i v j)) fi fb ff fa fh fp ft tk (nI p0) (nI op0) (nI m0) (nI n)) := by
  refine ci_of (by decide) rfl (Nat.le_of_ble_eq_true rfl) ?_
  intro p e s m below meth c ls A ar Q S hK hw hA hr hlk hl hQ
  have hl : lv_has ls 3 [(0, .ref (o 0)), (1, .int (nI i)), (2, .int (nI v))] := hl
  have hiX2 : ∀ w ∈ wsX20, w ∈ wsX2_expectTag := fun _ h => List.mem_cons_of_mem _ (List.mem_append_right _ h)
  refine lv_aload_n S.1 S.2.1 dX2_expectTag_0 rfl (lv_at hl 0 rfl) ?_
  refine mg S hK hw 0 rfl rfl hiX2 4 (by decide) (List.mem_of_getElem? (i := 1) rfl) rfl dX2_expectTag_1 ?_
  refine lv_iconst (v := nI 3) S.1 S.2.1 dX2_expectTag_4 (by decide) ?_
  refine lv_icmp_ne (tgt := 29) S.1 S.2.1 dX2_expectTag_5 (by decide) (fun c5 => ?_) (fun c5 => ?_)
  · rw [nI_eq (by omega) (by omega)] at c5
    exfalso; omega
  · rw [nI_eq (by omega) (by omega)] at c5
    refine lv_aload_n S.1 S.2.1 dX2_expectTag_8 rfl (lv_at hl 0 rfl) ?_
    refine callVI (rest := []) S hK hw hA (kX2_isSealing l D cA o p0 op0 n m0 cap0 t x tk fi fb ff fa fh fp ft (by omega) (by omega) (by omega) (by omega) (by omega)) gX2_expectTag_X2_isSealing rfl 0 rfl (by decide +kernel) ⟨rfl, rfl⟩ ⟨by decide, by decide⟩ ⟨Nat.zero_le _, Nat.zero_le _⟩ [0, 1, 2, 3, 4, 5, 6, 7, 8, 9, 10, 11] rfl (by decide) (fun _ => rfl) 0 rfl rfl rfl hl.1 (Nat.le_of_ble_eq_true rfl) dX2_expectTag_9 rfl (fun r u9 H locs hp hw => ?_)
    have hw : Wd D A s.heap H locs (wX2 o cA cap0 (fun j => nI (t j)) (fun j => nI (x j)) fi fb ff fa fh fp ft tk (nI p0) (nI op0) (nI m0) (nI n)) := hw
    subst hp
    refine lv_if_ne (tgt := 29) S.1 S.2.1 dX2_expectTag_12 (by decide) (fun c12 => ?_) (fun c12 => ?_)
    · skip
      exact absurd (ifone_1 c12) (by omega)
    · skip
      refine lv_iload_n S.1 S.2.1 dX2_expectTag_15 rfl (lv_at hl 1 rfl) ?_
      refine callSI (rest := []) S hK hw hA (kX2_isTagIndex l D cA o (nI i)) gX2_expectTag_X2_isTagIndex rfl 1 rfl (by decide +kernel) ⟨rfl, rfl⟩ ⟨by decide, by decide⟩ ⟨Nat.zero_le _, Nat.zero_le _⟩ hl.1 (Nat.le_of_ble_eq_true rfl) dX2_expectTag_16 rfl (fun r H locs hp hw => ?_)
      have hp1 := hp
      refine lv_if_eq (tgt := 29) S.1 S.2.1 dX2_expectTag_19 (by decide) (fun c19 => ?_) (fun c19 => ?_)
      · skip
        exact absurd c19 (by01_ok hp1 hi)
      · skip
        refine lv_iload_n S.1 S.2.1 dX2_expectTag_22 rfl (lv_at hl 2 rfl) ?_
        refine callSI (rest := []) S hK hw hA (kX2_isByte l D cA o (nI v)) gX2_expectTag_X2_isByte rfl 1 rfl (by decide +kernel) ⟨rfl, rfl⟩ ⟨by decide, by decide⟩ ⟨Nat.zero_le _, Nat.zero_le _⟩ hl.1 (Nat.le_of_ble_eq_true rfl) dX2_expectTag_23 rfl (fun r H locs hp hw => ?_)
        refine lv_if_ne (tgt := 31) S.1 S.2.1 dX2_expectTag_26 (by decide) (fun c26 => ?_) (fun c26 => ?_)
        · skip
          refine lv_aload_n S.1 S.2.1 dX2_expectTag_31 rfl (lv_at hl 0 rfl) ?_
          refine mg S hK hw 0 rfl rfl hiX2 3 (by decide) (List.mem_of_getElem? (i := 2) rfl) rfl dX2_expectTag_32 ?_
          refine lv_iload_n S.1 S.2.1 dX2_expectTag_35 rfl (lv_at hl 1 rfl) ?_
          refine lv_iload_n S.1 S.2.1 dX2_expectTag_36 rfl (lv_at hl 2 rfl) ?_
          refine ap S hK hw 2 rfl i rfl (by omega) (by decide) dX2_expectTag_37 (fun H locs hw => ?_)
          have hw : Wd D A s.heap H locs (wX2 o cA cap0 (fun j => nI (t j)) (upd (fun j => nI (x j)) i (nI v)) fi fb ff fa fh fp ft tk (nI p0) (nI op0) (nI m0) (nI n)) := hw
          have hw := hw.cong 2 (g := fun j => nI (updN x i v j)) rfl (fun j _ => upd_nI _ _ j)
          have hw : Wd D A s.heap H locs (wX2 o cA cap0 (fun j => nI (t j)) (fun j => nI (updN x i v j)) fi fb ff fa fh fp ft tk (nI p0) (nI op0) (nI m0) (nI n)) := hw
          refine lv_iconst (v := nI 1) S.1 S.2.1 dX2_expectTag_38 (by decide) ?_
          exact ci_ret S hr hlk hQ hw (by decide) () rfl rfl dX2_expectTag_39
        · skip
          exact absurd c26 (by01_ok hp hv)

set_option maxHeartbeats 4000000 in
set_option maxRecDepth 100000 in
theorem kX2_expectTag_no (l : Launch) (D : va_G) (cA : ClassId) (o : Nat → Nat) (p0 op0 n m0 cap0 : Nat) (t x : Nat → Nat) (tk : Int32) (fi fb ff fa fh fp ft : Nat → Int32) (i v : Int32) (hp0 : p0 ≤ 4) (hop : op0 ≤ 1) (hn : n ≤ 1000) (hm : m0 ≤ cap0) (hcap : cap0 ≤ 400) (hno : ¬ (p0 = 3 ∧ op0 = 1 ∧ (∃ k, k < 16 ∧ i = nI k) ∧ ∃ k, k < 256 ∧ v = nI k)) : CI l D cA yX2_expectTag wsX2_expectTag { frames := 1, cells := 0, slots := 0, locals := 20 } [.ref (o 0), .int i, .int v] (wX2 o cA cap0 (fun j => nI (t j)) (fun j => nI (x j)) fi fb ff fa fh fp ft tk (nI p0) (nI op0) (nI m0) (nI n)) (fun r _ => r = nI 0) (fun _ : Unit => wX2 o cA cap0 (fun j => nI (t j)) (fun j => nI (x j)) fi fb ff fa fh fp ft tk (nI p0) (nI op0) (nI m0) (nI n)) := by
  refine ci_of (by decide) rfl (Nat.le_of_ble_eq_true rfl) ?_
  intro p e s m below meth c ls A ar Q S hK hw hA hr hlk hl hQ
  have hl : lv_has ls 3 [(0, .ref (o 0)), (1, .int i), (2, .int v)] := hl
  have hiX2 : ∀ w ∈ wsX20, w ∈ wsX2_expectTag := fun _ h => List.mem_cons_of_mem _ (List.mem_append_right _ h)
  refine lv_aload_n S.1 S.2.1 dX2_expectTag_0 rfl (lv_at hl 0 rfl) ?_
  refine mg S hK hw 0 rfl rfl hiX2 4 (by decide) (List.mem_of_getElem? (i := 1) rfl) rfl dX2_expectTag_1 ?_
  refine lv_iconst (v := nI 3) S.1 S.2.1 dX2_expectTag_4 (by decide) ?_
  refine lv_icmp_ne (tgt := 29) S.1 S.2.1 dX2_expectTag_5 (by decide) (fun c5 => ?_) (fun c5 => ?_)
  · rw [nI_eq (by omega) (by omega)] at c5
    refine lv_iconst (v := nI 0) S.1 S.2.1 dX2_expectTag_29 (by decide) ?_
    exact ci_ret S hr hlk hQ hw (by decide) () rfl rfl dX2_expectTag_30
  · rw [nI_eq (by omega) (by omega)] at c5
    refine lv_aload_n S.1 S.2.1 dX2_expectTag_8 rfl (lv_at hl 0 rfl) ?_
    refine callVI (rest := []) S hK hw hA (kX2_isSealing l D cA o p0 op0 n m0 cap0 t x tk fi fb ff fa fh fp ft (by omega) (by omega) (by omega) (by omega) (by omega)) gX2_expectTag_X2_isSealing rfl 0 rfl (by decide +kernel) ⟨rfl, rfl⟩ ⟨by decide, by decide⟩ ⟨Nat.zero_le _, Nat.zero_le _⟩ [0, 1, 2, 3, 4, 5, 6, 7, 8, 9, 10, 11] rfl (by decide) (fun _ => rfl) 0 rfl rfl rfl hl.1 (Nat.le_of_ble_eq_true rfl) dX2_expectTag_9 rfl (fun r u9 H locs hp hw => ?_)
    have hw : Wd D A s.heap H locs (wX2 o cA cap0 (fun j => nI (t j)) (fun j => nI (x j)) fi fb ff fa fh fp ft tk (nI p0) (nI op0) (nI m0) (nI n)) := hw
    subst hp
    refine lv_if_ne (tgt := 29) S.1 S.2.1 dX2_expectTag_12 (by decide) (fun c12 => ?_) (fun c12 => ?_)
    · skip
      refine lv_iconst (v := nI 0) S.1 S.2.1 dX2_expectTag_29 (by decide) ?_
      exact ci_ret S hr hlk hQ hw (by decide) () rfl rfl dX2_expectTag_30
    · skip
      refine lv_iload_n S.1 S.2.1 dX2_expectTag_15 rfl (lv_at hl 1 rfl) ?_
      refine callSI (rest := []) S hK hw hA (kX2_isTagIndex l D cA o i) gX2_expectTag_X2_isTagIndex rfl 1 rfl (by decide +kernel) ⟨rfl, rfl⟩ ⟨by decide, by decide⟩ ⟨Nat.zero_le _, Nat.zero_le _⟩ hl.1 (Nat.le_of_ble_eq_true rfl) dX2_expectTag_16 rfl (fun r H locs hp hw => ?_)
      have hp1 := hp
      refine lv_if_eq (tgt := 29) S.1 S.2.1 dX2_expectTag_19 (by decide) (fun c19 => ?_) (fun c19 => ?_)
      · skip
        refine lv_iconst (v := nI 0) S.1 S.2.1 dX2_expectTag_29 (by decide) ?_
        exact ci_ret S hr hlk hQ hw (by decide) () rfl rfl dX2_expectTag_30
      · skip
        refine lv_iload_n S.1 S.2.1 dX2_expectTag_22 rfl (lv_at hl 2 rfl) ?_
        refine callSI (rest := []) S hK hw hA (kX2_isByte l D cA o v) gX2_expectTag_X2_isByte rfl 1 rfl (by decide +kernel) ⟨rfl, rfl⟩ ⟨by decide, by decide⟩ ⟨Nat.zero_le _, Nat.zero_le _⟩ hl.1 (Nat.le_of_ble_eq_true rfl) dX2_expectTag_23 rfl (fun r H locs hp hw => ?_)
        refine lv_if_ne (tgt := 31) S.1 S.2.1 dX2_expectTag_26 (by decide) (fun c26 => ?_) (fun c26 => ?_)
        · skip
          exact absurd ⟨by omega, by have := ifone_0 c12; omega, by01_1 hp1 c19, by01_1 hp c26⟩ hno
        · skip
          refine lv_iconst (v := nI 0) S.1 S.2.1 dX2_expectTag_29 (by decide) ?_
          exact ci_ret S hr hlk hQ hw (by decide) () rfl rfl dX2_expectTag_30

set_option maxHeartbeats 4000000 in
set_option maxRecDepth 100000 in
theorem kX2_verify_yes (l : Launch) (D : va_G) (cA : ClassId) (o : Nat → Nat) (p0 op0 n m0 cap0 : Nat) (t x : Nat → Nat) (tk : Int32) (gt : Nat → Nat) (fi fb ff fa fh fp : Nat → Int32)  (hp0 : p0 ≤ 4) (hop : op0 ≤ 1) (hn : n ≤ 1000) (hm : m0 ≤ cap0) (hcap : cap0 ≤ 400) (hx : ∀ j, x j < 256) (hg : ∀ j, gt j < 256) (hph : p0 = 3) (ho : op0 = 1) (hall : ∀ j, j < 16 → gt j = x j) : CI l D cA yX2_verify wsX2_verify { frames := 2, cells := 0, slots := 0, locals := 43 } [.ref (o 0)] (wX2 o cA cap0 (fun j => nI (t j)) (fun j => nI (x j)) fi fb ff fa fh fp (fun j => nI (gt j)) tk (nI p0) (nI op0) (nI m0) (nI n)) (fun r _ => r = nI 1) (fun _ : Unit => wX2 o cA cap0 (fun j => nI (t j)) (fun j => nI (x j)) fi fb ff fa fh fp (fun j => nI (gt j)) tk (nI 4) (nI op0) (nI m0) (nI n)) := by
  refine ci_of (by decide) rfl (Nat.le_of_ble_eq_true rfl) ?_
  intro p e s m below meth c ls A ar Q S hK hw hA hr hlk hl hQ
  have hl : lv_has ls 1 [(0, .ref (o 0))] := hl
  have hiX2 : ∀ w ∈ wsX20, w ∈ wsX2_verify := fun _ h => List.mem_cons_of_mem _ (List.mem_append_left _ (List.mem_append_right _ h))
  refine lv_aload_n S.1 S.2.1 dX2_verify_0 rfl (lv_at hl 0 rfl) ?_
  refine mg S hK hw 0 rfl rfl hiX2 4 (by decide) (List.mem_of_getElem? (i := 1) rfl) rfl dX2_verify_1 ?_
  refine lv_iconst (v := nI 3) S.1 S.2.1 dX2_verify_4 (by decide) ?_
  refine lv_icmp_ne (tgt := 22) S.1 S.2.1 dX2_verify_5 (by decide) (fun c5 => ?_) (fun c5 => ?_)
  · rw [nI_eq (by omega) (by omega)] at c5
    exfalso; omega
  · rw [nI_eq (by omega) (by omega)] at c5
    refine lv_aload_n S.1 S.2.1 dX2_verify_8 rfl (lv_at hl 0 rfl) ?_
    refine callVI (rest := []) S hK hw hA (kX2_isSealing l D cA o p0 op0 n m0 cap0 t x tk fi fb ff fa fh fp (fun j => nI (gt j)) (by omega) (by omega) (by omega) (by omega) (by omega)) gX2_verify_X2_isSealing rfl 0 rfl (by decide +kernel) ⟨rfl, rfl⟩ ⟨by decide, by decide⟩ ⟨Nat.zero_le _, Nat.zero_le _⟩ [0, 1, 2, 3, 4, 5, 6, 7, 8, 9, 10, 11] rfl (by decide) (fun _ => rfl) 0 rfl rfl rfl hl.1 (Nat.le_of_ble_eq_true rfl) dX2_verify_9 rfl (fun r u9 H locs hp hw => ?_)
    have hw : Wd D A s.heap H locs (wX2 o cA cap0 (fun j => nI (t j)) (fun j => nI (x j)) fi fb ff fa fh fp (fun j => nI (gt j)) tk (nI p0) (nI op0) (nI m0) (nI n)) := hw
    subst hp
    refine lv_if_ne (tgt := 22) S.1 S.2.1 dX2_verify_12 (by decide) (fun c12 => ?_) (fun c12 => ?_)
    · skip
      exact absurd (ifone_1 c12) (by omega)
    · skip
      refine lv_aload_n S.1 S.2.1 dX2_verify_15 rfl (lv_at hl 0 rfl) ?_
      refine callVI (rest := []) S hK hw hA (kX2_isTagAsExpected l D cA o p0 op0 n m0 cap0 t x tk gt fi fb ff fa fh fp (by omega) (by omega) (by omega) (by omega) (by omega) hx hg) gX2_verify_X2_isTagAsExpected rfl 0 rfl (by decide +kernel) ⟨rfl, rfl⟩ ⟨by decide, by decide⟩ ⟨Nat.zero_le _, Nat.zero_le _⟩ [0, 1, 2, 3, 4, 5, 6, 7, 8, 9, 10, 11] rfl (by decide) (fun _ => rfl) 0 rfl rfl rfl hl.1 (Nat.le_of_ble_eq_true rfl) dX2_verify_16 rfl (fun r u16 H locs hp hw => ?_)
      have hw : Wd D A s.heap H locs (wX2 o cA cap0 (fun j => nI (t j)) (fun j => nI (x j)) fi fb ff fa fh fp (fun j => nI (gt j)) tk (nI p0) (nI op0) (nI m0) (nI n)) := hw
      subst hp
      refine lv_if_ne (tgt := 24) S.1 S.2.1 dX2_verify_19 (by decide) (fun c19 => ?_) (fun c19 => ?_)
      · skip
        refine lv_aload_n S.1 S.2.1 dX2_verify_24 rfl (lv_at hl 0 rfl) ?_
        refine lv_iconst (v := nI 4) S.1 S.2.1 dX2_verify_25 (by decide) ?_
        refine mp S hK hw 0 rfl rfl hiX2 tyX2_ok nmX2 4 (by decide) (List.mem_of_getElem? (i := 1) rfl) rfl rfl rfl (Nat.le_of_ble_eq_true rfl) dX2_verify_26 (fun H locs hw => ?_)
        have hw : Wd D A s.heap H locs (wX2 o cA cap0 (fun j => nI (t j)) (fun j => nI (x j)) fi fb ff fa fh fp (fun j => nI (gt j)) tk (nI 4) (nI op0) (nI m0) (nI n)) := hw
        refine lv_iconst (v := nI 1) S.1 S.2.1 dX2_verify_29 (by decide) ?_
        exact ci_ret S hr hlk hQ hw (by decide) () rfl rfl dX2_verify_30
      · skip
        exact absurd ((dfr_0 16).mpr (fun j hj => (hall j hj).symm)) (ifone_0 c19)

set_option maxHeartbeats 4000000 in
set_option maxRecDepth 100000 in
theorem kX2_verify_wrong (l : Launch) (D : va_G) (cA : ClassId) (o : Nat → Nat) (p0 op0 n m0 cap0 : Nat) (t x : Nat → Nat) (tk : Int32) (gt : Nat → Nat) (fi fb ff fa fh fp : Nat → Int32)  (hp0 : p0 ≤ 4) (hop : op0 ≤ 1) (hn : n ≤ 1000) (hm : m0 ≤ cap0) (hcap : cap0 ≤ 400) (hx : ∀ j, x j < 256) (hg : ∀ j, gt j < 256) (hph : p0 = 3) (ho : op0 = 1) (hall : ¬ ∀ j, j < 16 → gt j = x j) : CI l D cA yX2_verify wsX2_verify { frames := 2, cells := 0, slots := 0, locals := 43 } [.ref (o 0)] (wX2 o cA cap0 (fun j => nI (t j)) (fun j => nI (x j)) fi fb ff fa fh fp (fun j => nI (gt j)) tk (nI p0) (nI op0) (nI m0) (nI n)) (fun r _ => r = nI 0) (fun _ : Unit => wX2 o cA cap0 (fun j => nI (t j)) (fun j => nI (x j)) fi fb ff fa fh fp (fun j => nI (gt j)) tk (nI p0) (nI op0) (nI m0) (nI n)) := by
  refine ci_of (by decide) rfl (Nat.le_of_ble_eq_true rfl) ?_
  intro p e s m below meth c ls A ar Q S hK hw hA hr hlk hl hQ
  have hl : lv_has ls 1 [(0, .ref (o 0))] := hl
  have hiX2 : ∀ w ∈ wsX20, w ∈ wsX2_verify := fun _ h => List.mem_cons_of_mem _ (List.mem_append_left _ (List.mem_append_right _ h))
  refine lv_aload_n S.1 S.2.1 dX2_verify_0 rfl (lv_at hl 0 rfl) ?_
  refine mg S hK hw 0 rfl rfl hiX2 4 (by decide) (List.mem_of_getElem? (i := 1) rfl) rfl dX2_verify_1 ?_
  refine lv_iconst (v := nI 3) S.1 S.2.1 dX2_verify_4 (by decide) ?_
  refine lv_icmp_ne (tgt := 22) S.1 S.2.1 dX2_verify_5 (by decide) (fun c5 => ?_) (fun c5 => ?_)
  · rw [nI_eq (by omega) (by omega)] at c5
    exfalso; omega
  · rw [nI_eq (by omega) (by omega)] at c5
    refine lv_aload_n S.1 S.2.1 dX2_verify_8 rfl (lv_at hl 0 rfl) ?_
    refine callVI (rest := []) S hK hw hA (kX2_isSealing l D cA o p0 op0 n m0 cap0 t x tk fi fb ff fa fh fp (fun j => nI (gt j)) (by omega) (by omega) (by omega) (by omega) (by omega)) gX2_verify_X2_isSealing rfl 0 rfl (by decide +kernel) ⟨rfl, rfl⟩ ⟨by decide, by decide⟩ ⟨Nat.zero_le _, Nat.zero_le _⟩ [0, 1, 2, 3, 4, 5, 6, 7, 8, 9, 10, 11] rfl (by decide) (fun _ => rfl) 0 rfl rfl rfl hl.1 (Nat.le_of_ble_eq_true rfl) dX2_verify_9 rfl (fun r u9 H locs hp hw => ?_)
    have hw : Wd D A s.heap H locs (wX2 o cA cap0 (fun j => nI (t j)) (fun j => nI (x j)) fi fb ff fa fh fp (fun j => nI (gt j)) tk (nI p0) (nI op0) (nI m0) (nI n)) := hw
    subst hp
    refine lv_if_ne (tgt := 22) S.1 S.2.1 dX2_verify_12 (by decide) (fun c12 => ?_) (fun c12 => ?_)
    · skip
      exact absurd (ifone_1 c12) (by omega)
    · skip
      refine lv_aload_n S.1 S.2.1 dX2_verify_15 rfl (lv_at hl 0 rfl) ?_
      refine callVI (rest := []) S hK hw hA (kX2_isTagAsExpected l D cA o p0 op0 n m0 cap0 t x tk gt fi fb ff fa fh fp (by omega) (by omega) (by omega) (by omega) (by omega) hx hg) gX2_verify_X2_isTagAsExpected rfl 0 rfl (by decide +kernel) ⟨rfl, rfl⟩ ⟨by decide, by decide⟩ ⟨Nat.zero_le _, Nat.zero_le _⟩ [0, 1, 2, 3, 4, 5, 6, 7, 8, 9, 10, 11] rfl (by decide) (fun _ => rfl) 0 rfl rfl rfl hl.1 (Nat.le_of_ble_eq_true rfl) dX2_verify_16 rfl (fun r u16 H locs hp hw => ?_)
      have hw : Wd D A s.heap H locs (wX2 o cA cap0 (fun j => nI (t j)) (fun j => nI (x j)) fi fb ff fa fh fp (fun j => nI (gt j)) tk (nI p0) (nI op0) (nI m0) (nI n)) := hw
      subst hp
      refine lv_if_ne (tgt := 24) S.1 S.2.1 dX2_verify_19 (by decide) (fun c19 => ?_) (fun c19 => ?_)
      · skip
        exact absurd (fun j hj => ((dfr_0 16).mp (ifone_1 c19) j hj).symm) hall
      · skip
        refine lv_iconst (v := nI 0) S.1 S.2.1 dX2_verify_22 (by decide) ?_
        exact ci_ret S hr hlk hQ hw (by decide) () rfl rfl dX2_verify_23

set_option maxHeartbeats 4000000 in
set_option maxRecDepth 100000 in
theorem kX2_verify_no (l : Launch) (D : va_G) (cA : ClassId) (o : Nat → Nat) (p0 op0 n m0 cap0 : Nat) (t x : Nat → Nat) (tk : Int32) (fi fb ff fa fh fp ft : Nat → Int32)  (hp0 : p0 ≤ 4) (hop : op0 ≤ 1) (hn : n ≤ 1000) (hm : m0 ≤ cap0) (hcap : cap0 ≤ 400) (hno : ¬ (p0 = 3 ∧ op0 = 1)) : CI l D cA yX2_verify wsX2_verify { frames := 2, cells := 0, slots := 0, locals := 43 } [.ref (o 0)] (wX2 o cA cap0 (fun j => nI (t j)) (fun j => nI (x j)) fi fb ff fa fh fp ft tk (nI p0) (nI op0) (nI m0) (nI n)) (fun r _ => r = nI 0) (fun _ : Unit => wX2 o cA cap0 (fun j => nI (t j)) (fun j => nI (x j)) fi fb ff fa fh fp ft tk (nI p0) (nI op0) (nI m0) (nI n)) := by
  refine ci_of (by decide) rfl (Nat.le_of_ble_eq_true rfl) ?_
  intro p e s m below meth c ls A ar Q S hK hw hA hr hlk hl hQ
  have hl : lv_has ls 1 [(0, .ref (o 0))] := hl
  have hiX2 : ∀ w ∈ wsX20, w ∈ wsX2_verify := fun _ h => List.mem_cons_of_mem _ (List.mem_append_left _ (List.mem_append_right _ h))
  refine lv_aload_n S.1 S.2.1 dX2_verify_0 rfl (lv_at hl 0 rfl) ?_
  refine mg S hK hw 0 rfl rfl hiX2 4 (by decide) (List.mem_of_getElem? (i := 1) rfl) rfl dX2_verify_1 ?_
  refine lv_iconst (v := nI 3) S.1 S.2.1 dX2_verify_4 (by decide) ?_
  refine lv_icmp_ne (tgt := 22) S.1 S.2.1 dX2_verify_5 (by decide) (fun c5 => ?_) (fun c5 => ?_)
  · rw [nI_eq (by omega) (by omega)] at c5
    refine lv_iconst (v := nI 0) S.1 S.2.1 dX2_verify_22 (by decide) ?_
    exact ci_ret S hr hlk hQ hw (by decide) () rfl rfl dX2_verify_23
  · rw [nI_eq (by omega) (by omega)] at c5
    refine lv_aload_n S.1 S.2.1 dX2_verify_8 rfl (lv_at hl 0 rfl) ?_
    refine callVI (rest := []) S hK hw hA (kX2_isSealing l D cA o p0 op0 n m0 cap0 t x tk fi fb ff fa fh fp ft (by omega) (by omega) (by omega) (by omega) (by omega)) gX2_verify_X2_isSealing rfl 0 rfl (by decide +kernel) ⟨rfl, rfl⟩ ⟨by decide, by decide⟩ ⟨Nat.zero_le _, Nat.zero_le _⟩ [0, 1, 2, 3, 4, 5, 6, 7, 8, 9, 10, 11] rfl (by decide) (fun _ => rfl) 0 rfl rfl rfl hl.1 (Nat.le_of_ble_eq_true rfl) dX2_verify_9 rfl (fun r u9 H locs hp hw => ?_)
    have hw : Wd D A s.heap H locs (wX2 o cA cap0 (fun j => nI (t j)) (fun j => nI (x j)) fi fb ff fa fh fp ft tk (nI p0) (nI op0) (nI m0) (nI n)) := hw
    subst hp
    refine lv_if_ne (tgt := 22) S.1 S.2.1 dX2_verify_12 (by decide) (fun c12 => ?_) (fun c12 => ?_)
    · skip
      refine lv_iconst (v := nI 0) S.1 S.2.1 dX2_verify_22 (by decide) ?_
      exact ci_ret S hr hlk hQ hw (by decide) () rfl rfl dX2_verify_23
    · skip
      exact absurd ⟨by omega, by have := ifone_0 c12; omega⟩ hno

set_option maxHeartbeats 4000000 in
set_option maxRecDepth 100000 in
theorem kX2_tag_ok (l : Launch) (D : va_G) (cA : ClassId) (o : Nat → Nat) (p0 op0 n m0 cap0 : Nat) (t x : Nat → Nat) (tk : Int32) (fi fb ff fa fh fp ft : Nat → Int32) (i : Nat) (hp0 : p0 ≤ 4) (hop : op0 ≤ 1) (hn : n ≤ 1000) (hm : m0 ≤ cap0) (hcap : cap0 ≤ 400) (hi : i < 16) (hph : p0 = 3) (ho : op0 = 0) : CI l D cA yX2_tag wsX2_tag { frames := 1, cells := 0, slots := 0, locals := 21 } [.ref (o 0), .int (nI i)] (wX2 o cA cap0 (fun j => nI (t j)) (fun j => nI (x j)) fi fb ff fa fh fp ft tk (nI p0) (nI op0) (nI m0) (nI n)) (fun r _ => r = ft i) (fun _ : Unit => wX2 o cA cap0 (fun j => nI (t j)) (fun j => nI (x j)) fi fb ff fa fh fp ft tk (nI p0) (nI op0) (nI m0) (nI n)) := by
  refine ci_of (by decide) rfl (Nat.le_of_ble_eq_true rfl) ?_
  intro p e s m below meth c ls A ar Q S hK hw hA hr hlk hl hQ
  have hl : lv_has ls 2 [(0, .ref (o 0)), (1, .int (nI i))] := hl
  have hiX2 : ∀ w ∈ wsX20, w ∈ wsX2_tag := fun _ h => List.mem_cons_of_mem _ (List.mem_append_left _ (List.mem_append_right _ h))
  refine lv_aload_n S.1 S.2.1 dX2_tag_0 rfl (lv_at hl 0 rfl) ?_
  refine mg S hK hw 0 rfl rfl hiX2 4 (by decide) (List.mem_of_getElem? (i := 1) rfl) rfl dX2_tag_1 ?_
  refine lv_iconst (v := nI 3) S.1 S.2.1 dX2_tag_4 (by decide) ?_
  refine lv_icmp_ne (tgt := 22) S.1 S.2.1 dX2_tag_5 (by decide) (fun c5 => ?_) (fun c5 => ?_)
  · rw [nI_eq (by omega) (by omega)] at c5
    exfalso; omega
  · rw [nI_eq (by omega) (by omega)] at c5
    refine lv_aload_n S.1 S.2.1 dX2_tag_8 rfl (lv_at hl 0 rfl) ?_
    refine callVI (rest := []) S hK hw hA (kX2_isSealing l D cA o p0 op0 n m0 cap0 t x tk fi fb ff fa fh fp ft (by omega) (by omega) (by omega) (by omega) (by omega)) gX2_tag_X2_isSealing rfl 0 rfl (by decide +kernel) ⟨rfl, rfl⟩ ⟨by decide, by decide⟩ ⟨Nat.zero_le _, Nat.zero_le _⟩ [0, 1, 2, 3, 4, 5, 6, 7, 8, 9, 10, 11] rfl (by decide) (fun _ => rfl) 0 rfl rfl rfl hl.1 (Nat.le_of_ble_eq_true rfl) dX2_tag_9 rfl (fun r u9 H locs hp hw => ?_)
    have hw : Wd D A s.heap H locs (wX2 o cA cap0 (fun j => nI (t j)) (fun j => nI (x j)) fi fb ff fa fh fp ft tk (nI p0) (nI op0) (nI m0) (nI n)) := hw
    subst hp
    refine lv_if_eq (tgt := 22) S.1 S.2.1 dX2_tag_12 (by decide) (fun c12 => ?_) (fun c12 => ?_)
    · skip
      exact absurd ho (ifone_0 c12)
    · skip
      refine lv_iload_n S.1 S.2.1 dX2_tag_15 rfl (lv_at hl 1 rfl) ?_
      refine callSI (rest := []) S hK hw hA (kX2_isTagIndex l D cA o (nI i)) gX2_tag_X2_isTagIndex rfl 1 rfl (by decide +kernel) ⟨rfl, rfl⟩ ⟨by decide, by decide⟩ ⟨Nat.zero_le _, Nat.zero_le _⟩ hl.1 (Nat.le_of_ble_eq_true rfl) dX2_tag_16 rfl (fun r H locs hp hw => ?_)
      refine lv_if_ne (tgt := 24) S.1 S.2.1 dX2_tag_19 (by decide) (fun c19 => ?_) (fun c19 => ?_)
      · skip
        refine lv_aload_n S.1 S.2.1 dX2_tag_24 rfl (lv_at hl 0 rfl) ?_
        refine mg S hK hw 0 rfl rfl hiX2 1 (by decide) (List.mem_of_getElem? (i := 2) rfl) rfl dX2_tag_25 ?_
        refine lv_iload_n S.1 S.2.1 dX2_tag_28 rfl (lv_at hl 1 rfl) ?_
        refine callVI (rest := []) S hK hw hA (kX1_tagByte l D cA (fun k => o (3 + k)) ff fa fh fp ft tk i (by omega)) gX2_tag_X1_tagByte rfl 1 rfl (by decide +kernel) ⟨rfl, rfl⟩ ⟨by decide, by decide⟩ ⟨Nat.zero_le _, Nat.zero_le _⟩ [3, 4, 5, 6, 7, 8] rfl (by decide) (fun _ => rfl) 3 rfl rfl rfl hl.1 (Nat.le_of_ble_eq_true rfl) dX2_tag_29 rfl (fun r u29 H locs hp hw => ?_)
        have hw : Wd D A s.heap H locs (wX2 o cA cap0 (fun j => nI (t j)) (fun j => nI (x j)) fi fb ff fa fh fp ft tk (nI p0) (nI op0) (nI m0) (nI n)) := hw
        subst hp
        exact ci_ret S hr hlk hQ hw rfl () rfl rfl dX2_tag_32
      · skip
        exact absurd c19 (by01_ok hp hi)

set_option maxHeartbeats 4000000 in
set_option maxRecDepth 100000 in
theorem kX2_tag_no (l : Launch) (D : va_G) (cA : ClassId) (o : Nat → Nat) (p0 op0 n m0 cap0 : Nat) (t x : Nat → Nat) (tk : Int32) (fi fb ff fa fh fp ft : Nat → Int32) (i : Int32) (hp0 : p0 ≤ 4) (hop : op0 ≤ 1) (hn : n ≤ 1000) (hm : m0 ≤ cap0) (hcap : cap0 ≤ 400) (hno : ¬ (p0 = 3 ∧ op0 = 0 ∧ ∃ k, k < 16 ∧ i = nI k)) : CI l D cA yX2_tag wsX2_tag { frames := 1, cells := 0, slots := 0, locals := 21 } [.ref (o 0), .int i] (wX2 o cA cap0 (fun j => nI (t j)) (fun j => nI (x j)) fi fb ff fa fh fp ft tk (nI p0) (nI op0) (nI m0) (nI n)) (fun r _ => r = -1) (fun _ : Unit => wX2 o cA cap0 (fun j => nI (t j)) (fun j => nI (x j)) fi fb ff fa fh fp ft tk (nI p0) (nI op0) (nI m0) (nI n)) := by
  refine ci_of (by decide) rfl (Nat.le_of_ble_eq_true rfl) ?_
  intro p e s m below meth c ls A ar Q S hK hw hA hr hlk hl hQ
  have hl : lv_has ls 2 [(0, .ref (o 0)), (1, .int i)] := hl
  have hiX2 : ∀ w ∈ wsX20, w ∈ wsX2_tag := fun _ h => List.mem_cons_of_mem _ (List.mem_append_left _ (List.mem_append_right _ h))
  refine lv_aload_n S.1 S.2.1 dX2_tag_0 rfl (lv_at hl 0 rfl) ?_
  refine mg S hK hw 0 rfl rfl hiX2 4 (by decide) (List.mem_of_getElem? (i := 1) rfl) rfl dX2_tag_1 ?_
  refine lv_iconst (v := nI 3) S.1 S.2.1 dX2_tag_4 (by decide) ?_
  refine lv_icmp_ne (tgt := 22) S.1 S.2.1 dX2_tag_5 (by decide) (fun c5 => ?_) (fun c5 => ?_)
  · rw [nI_eq (by omega) (by omega)] at c5
    refine lv_iconst (v := -1) S.1 S.2.1 dX2_tag_22 (by decide) ?_
    exact ci_ret S hr hlk hQ hw rfl () rfl rfl dX2_tag_23
  · rw [nI_eq (by omega) (by omega)] at c5
    refine lv_aload_n S.1 S.2.1 dX2_tag_8 rfl (lv_at hl 0 rfl) ?_
    refine callVI (rest := []) S hK hw hA (kX2_isSealing l D cA o p0 op0 n m0 cap0 t x tk fi fb ff fa fh fp ft (by omega) (by omega) (by omega) (by omega) (by omega)) gX2_tag_X2_isSealing rfl 0 rfl (by decide +kernel) ⟨rfl, rfl⟩ ⟨by decide, by decide⟩ ⟨Nat.zero_le _, Nat.zero_le _⟩ [0, 1, 2, 3, 4, 5, 6, 7, 8, 9, 10, 11] rfl (by decide) (fun _ => rfl) 0 rfl rfl rfl hl.1 (Nat.le_of_ble_eq_true rfl) dX2_tag_9 rfl (fun r u9 H locs hp hw => ?_)
    have hw : Wd D A s.heap H locs (wX2 o cA cap0 (fun j => nI (t j)) (fun j => nI (x j)) fi fb ff fa fh fp ft tk (nI p0) (nI op0) (nI m0) (nI n)) := hw
    subst hp
    refine lv_if_eq (tgt := 22) S.1 S.2.1 dX2_tag_12 (by decide) (fun c12 => ?_) (fun c12 => ?_)
    · skip
      refine lv_iconst (v := -1) S.1 S.2.1 dX2_tag_22 (by decide) ?_
      exact ci_ret S hr hlk hQ hw rfl () rfl rfl dX2_tag_23
    · skip
      refine lv_iload_n S.1 S.2.1 dX2_tag_15 rfl (lv_at hl 1 rfl) ?_
      refine callSI (rest := []) S hK hw hA (kX2_isTagIndex l D cA o i) gX2_tag_X2_isTagIndex rfl 1 rfl (by decide +kernel) ⟨rfl, rfl⟩ ⟨by decide, by decide⟩ ⟨Nat.zero_le _, Nat.zero_le _⟩ hl.1 (Nat.le_of_ble_eq_true rfl) dX2_tag_16 rfl (fun r H locs hp hw => ?_)
      refine lv_if_ne (tgt := 24) S.1 S.2.1 dX2_tag_19 (by decide) (fun c19 => ?_) (fun c19 => ?_)
      · skip
        exact absurd ⟨by omega, ifone_1 c12, by01_1 hp c19⟩ hno
      · skip
        refine lv_iconst (v := -1) S.1 S.2.1 dX2_tag_22 (by decide) ?_
        exact ci_ret S hr hlk hQ hw rfl () rfl rfl dX2_tag_23

set_option maxHeartbeats 4000000 in
set_option maxRecDepth 100000 in
theorem kX2_out_ok (l : Launch) (D : va_G) (cA : ClassId) (o : Nat → Nat) (p0 op0 n m0 cap0 : Nat) (t x : Nat → Nat) (tk : Int32) (fi fb ff fa fh fp ft : Nat → Int32) (i : Nat) (hp0 : p0 ≤ 4) (hop : op0 ≤ 1) (hn : n ≤ 1000) (hm : m0 ≤ cap0) (hcap : cap0 ≤ 400) (hc : p0 = 3 ∧ op0 = 0 ∨ p0 = 4) (hi : i < m0) : CI l D cA yX2_out wsX2_out { frames := 2, cells := 0, slots := 0, locals := 40 } [.ref (o 0), .int (nI i)] (wX2 o cA cap0 (fun j => nI (t j)) (fun j => nI (x j)) fi fb ff fa fh fp ft tk (nI p0) (nI op0) (nI m0) (nI n)) (fun r _ => r = nI (t i)) (fun _ : Unit => wX2 o cA cap0 (fun j => nI (t j)) (fun j => nI (x j)) fi fb ff fa fh fp ft tk (nI p0) (nI op0) (nI m0) (nI n)) := by
  refine ci_of (by decide) rfl (Nat.le_of_ble_eq_true rfl) ?_
  intro p e s m below meth c ls A ar Q S hK hw hA hr hlk hl hQ
  have hl : lv_has ls 2 [(0, .ref (o 0)), (1, .int (nI i))] := hl
  have hiX2 : ∀ w ∈ wsX20, w ∈ wsX2_out := fun _ h => List.mem_cons_of_mem _ (List.mem_append_right _ h)
  refine lv_aload_n S.1 S.2.1 dX2_out_0 rfl (lv_at hl 0 rfl) ?_
  refine callVI (rest := []) S hK hw hA (kX2_tellsResults l D cA o p0 op0 n m0 cap0 t x tk fi fb ff fa fh fp ft (by omega) (by omega) (by omega) (by omega) (by omega)) gX2_out_X2_tellsResults rfl 0 rfl (by decide +kernel) ⟨rfl, rfl⟩ ⟨by decide, by decide⟩ ⟨Nat.zero_le _, Nat.zero_le _⟩ [0, 1, 2, 3, 4, 5, 6, 7, 8, 9, 10, 11] rfl (by decide) (fun _ => rfl) 0 rfl rfl rfl hl.1 (Nat.le_of_ble_eq_true rfl) dX2_out_1 rfl (fun r u1 H locs hp hw => ?_)
  have hw : Wd D A s.heap H locs (wX2 o cA cap0 (fun j => nI (t j)) (fun j => nI (x j)) fi fb ff fa fh fp ft tk (nI p0) (nI op0) (nI m0) (nI n)) := hw
  subst hp
  refine lv_if_eq (tgt := 19) S.1 S.2.1 dX2_out_4 (by decide) (fun c4 => ?_) (fun c4 => ?_)
  · skip
    exact absurd hc (ifone_0 c4)
  · skip
    refine lv_iload_n S.1 S.2.1 dX2_out_7 rfl (lv_at hl 1 rfl) ?_
    refine lv_if_lt (tgt := 19) S.1 S.2.1 dX2_out_8 (by decide) (fun c8 => ?_) (fun c8 => ?_)
    · rw [← nI_0, nI_ltI (by omega) (by omega)] at c8
      exfalso; omega
    · rw [← nI_0, nI_ltI (by omega) (by omega)] at c8
      refine lv_iload_n S.1 S.2.1 dX2_out_11 rfl (lv_at hl 1 rfl) ?_
      refine lv_aload_n S.1 S.2.1 dX2_out_12 rfl (lv_at hl 0 rfl) ?_
      refine mg S hK hw 0 rfl rfl hiX2 6 (by decide) (List.mem_of_getElem? (i := 1) rfl) rfl dX2_out_13 ?_
      refine lv_icmp_lt (tgt := 21) S.1 S.2.1 dX2_out_16 (by decide) (fun c16 => ?_) (fun c16 => ?_)
      · rw [nI_ltI (by omega) (by omega)] at c16
        refine lv_aload_n S.1 S.2.1 dX2_out_21 rfl (lv_at hl 0 rfl) ?_
        refine mg S hK hw 0 rfl rfl hiX2 2 (by decide) (List.mem_of_getElem? (i := 2) rfl) rfl dX2_out_22 ?_
        refine lv_iload_n S.1 S.2.1 dX2_out_25 rfl (lv_at hl 1 rfl) ?_
        refine ag S hK hw 1 rfl i rfl (by omega) (by omega) dX2_out_26 ?_
        refine te (y := nI (t i)) rfl ?_
        exact ci_ret S hr hlk hQ hw rfl () rfl rfl dX2_out_27
      · rw [nI_ltI (by omega) (by omega)] at c16
        exfalso; omega

set_option maxHeartbeats 4000000 in
set_option maxRecDepth 100000 in
theorem kX2_out_no (l : Launch) (D : va_G) (cA : ClassId) (o : Nat → Nat) (p0 op0 n m0 cap0 : Nat) (t x : Nat → Nat) (tk : Int32) (fi fb ff fa fh fp ft : Nat → Int32) (i : Int32) (hp0 : p0 ≤ 4) (hop : op0 ≤ 1) (hn : n ≤ 1000) (hm : m0 ≤ cap0) (hcap : cap0 ≤ 400) (hno : ¬ ((p0 = 3 ∧ op0 = 0 ∨ p0 = 4) ∧ ∃ k, k < m0 ∧ i = nI k)) : CI l D cA yX2_out wsX2_out { frames := 2, cells := 0, slots := 0, locals := 40 } [.ref (o 0), .int i] (wX2 o cA cap0 (fun j => nI (t j)) (fun j => nI (x j)) fi fb ff fa fh fp ft tk (nI p0) (nI op0) (nI m0) (nI n)) (fun r _ => r = -1) (fun _ : Unit => wX2 o cA cap0 (fun j => nI (t j)) (fun j => nI (x j)) fi fb ff fa fh fp ft tk (nI p0) (nI op0) (nI m0) (nI n)) := by
  refine ci_of (by decide) rfl (Nat.le_of_ble_eq_true rfl) ?_
  intro p e s m below meth c ls A ar Q S hK hw hA hr hlk hl hQ
  have hl : lv_has ls 2 [(0, .ref (o 0)), (1, .int i)] := hl
  have hiX2 : ∀ w ∈ wsX20, w ∈ wsX2_out := fun _ h => List.mem_cons_of_mem _ (List.mem_append_right _ h)
  refine lv_aload_n S.1 S.2.1 dX2_out_0 rfl (lv_at hl 0 rfl) ?_
  refine callVI (rest := []) S hK hw hA (kX2_tellsResults l D cA o p0 op0 n m0 cap0 t x tk fi fb ff fa fh fp ft (by omega) (by omega) (by omega) (by omega) (by omega)) gX2_out_X2_tellsResults rfl 0 rfl (by decide +kernel) ⟨rfl, rfl⟩ ⟨by decide, by decide⟩ ⟨Nat.zero_le _, Nat.zero_le _⟩ [0, 1, 2, 3, 4, 5, 6, 7, 8, 9, 10, 11] rfl (by decide) (fun _ => rfl) 0 rfl rfl rfl hl.1 (Nat.le_of_ble_eq_true rfl) dX2_out_1 rfl (fun r u1 H locs hp hw => ?_)
  have hw : Wd D A s.heap H locs (wX2 o cA cap0 (fun j => nI (t j)) (fun j => nI (x j)) fi fb ff fa fh fp ft tk (nI p0) (nI op0) (nI m0) (nI n)) := hw
  subst hp
  refine lv_if_eq (tgt := 19) S.1 S.2.1 dX2_out_4 (by decide) (fun c4 => ?_) (fun c4 => ?_)
  · skip
    refine lv_iconst (v := -1) S.1 S.2.1 dX2_out_19 (by decide) ?_
    exact ci_ret S hr hlk hQ hw rfl () rfl rfl dX2_out_20
  · skip
    refine lv_iload_n S.1 S.2.1 dX2_out_7 rfl (lv_at hl 1 rfl) ?_
    refine lv_if_lt (tgt := 19) S.1 S.2.1 dX2_out_8 (by decide) (fun c8 => ?_) (fun c8 => ?_)
    · skip
      refine lv_iconst (v := -1) S.1 S.2.1 dX2_out_19 (by decide) ?_
      exact ci_ret S hr hlk hQ hw rfl () rfl rfl dX2_out_20
    · skip
      refine lv_iload_n S.1 S.2.1 dX2_out_11 rfl (lv_at hl 1 rfl) ?_
      refine lv_aload_n S.1 S.2.1 dX2_out_12 rfl (lv_at hl 0 rfl) ?_
      refine mg S hK hw 0 rfl rfl hiX2 6 (by decide) (List.mem_of_getElem? (i := 1) rfl) rfl dX2_out_13 ?_
      refine lv_icmp_lt (tgt := 21) S.1 S.2.1 dX2_out_16 (by decide) (fun c16 => ?_) (fun c16 => ?_)
      · skip
        exact absurd ⟨ifone_1 c4, in_lt (by omega) c8 c16⟩ hno
      · skip
        refine lv_iconst (v := -1) S.1 S.2.1 dX2_out_19 (by decide) ?_
        exact ci_ret S hr hlk hQ hw rfl () rfl rfl dX2_out_20

set_option maxHeartbeats 4000000 in
set_option maxRecDepth 100000 in
theorem kX2_length (l : Launch) (D : va_G) (cA : ClassId) (o : Nat → Nat) (p0 op0 n m0 cap0 : Nat) (t x : Nat → Nat) (tk : Int32) (fi fb ff fa fh fp ft : Nat → Int32)  (hp0 : p0 ≤ 4) (hop : op0 ≤ 1) (hn : n ≤ 1000) (hm : m0 ≤ cap0) (hcap : cap0 ≤ 400)  : CI l D cA yX2_length wsX2_length { frames := 0, cells := 0, slots := 0, locals := 0 } [.ref (o 0)] (wX2 o cA cap0 (fun j => nI (t j)) (fun j => nI (x j)) fi fb ff fa fh fp ft tk (nI p0) (nI op0) (nI m0) (nI n)) (fun r _ => r = nI m0) (fun _ : Unit => wX2 o cA cap0 (fun j => nI (t j)) (fun j => nI (x j)) fi fb ff fa fh fp ft tk (nI p0) (nI op0) (nI m0) (nI n)) := by
  refine ci_of (by decide) rfl (Nat.le_of_ble_eq_true rfl) ?_
  intro p e s m below meth c ls A ar Q S hK hw hA hr hlk hl hQ
  have hl : lv_has ls 1 [(0, .ref (o 0))] := hl
  have hiX2 : ∀ w ∈ wsX20, w ∈ wsX2_length := fun _ h => List.mem_cons_of_mem _ (List.mem_append_right _ h)
  refine lv_aload_n S.1 S.2.1 dX2_length_0 rfl (lv_at hl 0 rfl) ?_
  refine mg S hK hw 0 rfl rfl hiX2 6 (by decide) (List.mem_of_getElem? (i := 1) rfl) rfl dX2_length_1 ?_
  exact ci_ret S hr hlk hQ hw rfl () rfl rfl dX2_length_4

set_option maxHeartbeats 4000000 in
set_option maxRecDepth 100000 in
theorem kX2_added (l : Launch) (D : va_G) (cA : ClassId) (o : Nat → Nat) (p0 op0 n m0 cap0 : Nat) (t x : Nat → Nat) (tk : Int32) (fi fb ff fa fh fp ft : Nat → Int32)  (hp0 : p0 ≤ 4) (hop : op0 ≤ 1) (hn : n ≤ 1000) (hm : m0 ≤ cap0) (hcap : cap0 ≤ 400)  : CI l D cA yX2_added wsX2_added { frames := 0, cells := 0, slots := 0, locals := 0 } [.ref (o 0)] (wX2 o cA cap0 (fun j => nI (t j)) (fun j => nI (x j)) fi fb ff fa fh fp ft tk (nI p0) (nI op0) (nI m0) (nI n)) (fun r _ => r = nI n) (fun _ : Unit => wX2 o cA cap0 (fun j => nI (t j)) (fun j => nI (x j)) fi fb ff fa fh fp ft tk (nI p0) (nI op0) (nI m0) (nI n)) := by
  refine ci_of (by decide) rfl (Nat.le_of_ble_eq_true rfl) ?_
  intro p e s m below meth c ls A ar Q S hK hw hA hr hlk hl hQ
  have hl : lv_has ls 1 [(0, .ref (o 0))] := hl
  have hiX2 : ∀ w ∈ wsX20, w ∈ wsX2_added := fun _ h => List.mem_cons_of_mem _ (List.mem_append_right _ h)
  refine lv_aload_n S.1 S.2.1 dX2_added_0 rfl (lv_at hl 0 rfl) ?_
  refine mg S hK hw 0 rfl rfl hiX2 7 (by decide) (List.mem_of_getElem? (i := 1) rfl) rfl dX2_added_1 ?_
  exact ci_ret S hr hlk hQ hw rfl () rfl rfl dX2_added_4

set_option maxHeartbeats 4000000 in
set_option maxRecDepth 100000 in
theorem kX2_phase (l : Launch) (D : va_G) (cA : ClassId) (o : Nat → Nat) (p0 op0 n m0 cap0 : Nat) (t x : Nat → Nat) (tk : Int32) (fi fb ff fa fh fp ft : Nat → Int32)  (hp0 : p0 ≤ 4) (hop : op0 ≤ 1) (hn : n ≤ 1000) (hm : m0 ≤ cap0) (hcap : cap0 ≤ 400)  : CI l D cA yX2_phase wsX2_phase { frames := 0, cells := 0, slots := 0, locals := 0 } [.ref (o 0)] (wX2 o cA cap0 (fun j => nI (t j)) (fun j => nI (x j)) fi fb ff fa fh fp ft tk (nI p0) (nI op0) (nI m0) (nI n)) (fun r _ => r = nI p0) (fun _ : Unit => wX2 o cA cap0 (fun j => nI (t j)) (fun j => nI (x j)) fi fb ff fa fh fp ft tk (nI p0) (nI op0) (nI m0) (nI n)) := by
  refine ci_of (by decide) rfl (Nat.le_of_ble_eq_true rfl) ?_
  intro p e s m below meth c ls A ar Q S hK hw hA hr hlk hl hQ
  have hl : lv_has ls 1 [(0, .ref (o 0))] := hl
  have hiX2 : ∀ w ∈ wsX20, w ∈ wsX2_phase := fun _ h => List.mem_cons_of_mem _ (List.mem_append_right _ h)
  refine lv_aload_n S.1 S.2.1 dX2_phase_0 rfl (lv_at hl 0 rfl) ?_
  refine mg S hK hw 0 rfl rfl hiX2 4 (by decide) (List.mem_of_getElem? (i := 1) rfl) rfl dX2_phase_1 ?_
  exact ci_ret S hr hlk hQ hw rfl () rfl rfl dX2_phase_4

set_option maxHeartbeats 4000000 in
set_option maxRecDepth 100000 in
theorem kX2_reset (l : Launch) (D : va_G) (cA : ClassId) (o : Nat → Nat) (p0 op0 n m0 cap0 : Nat) (t x : Nat → Nat) (tk : Int32) (fi fb ff fa fh fp ft : Nat → Int32)  (hp0 : p0 ≤ 4) (hop : op0 ≤ 1) (hn : n ≤ 1000) (hm : m0 ≤ cap0) (hcap : cap0 ≤ 400)  : CV l D cA yX2_reset wsX2_reset { frames := 0, cells := 0, slots := 0, locals := 0 } [.ref (o 0)] (wX2 o cA cap0 (fun j => nI (t j)) (fun j => nI (x j)) fi fb ff fa fh fp ft tk (nI p0) (nI op0) (nI m0) (nI n)) (fun _ => True) (fun _ : Unit => wX2 o cA cap0 (fun j => nI (t j)) (fun j => nI (x j)) fi fb ff fa fh fp ft tk (nI 0) (nI op0) (nI m0) (nI n)) := by
  refine cv_of (by decide) rfl (Nat.le_of_ble_eq_true rfl) ?_
  intro p e s m below meth c ls A ar Q S hK hw hA hr hlk hl hQ
  have hl : lv_has ls 1 [(0, .ref (o 0))] := hl
  have hiX2 : ∀ w ∈ wsX20, w ∈ wsX2_reset := fun _ h => List.mem_cons_of_mem _ (List.mem_append_right _ h)
  refine lv_aload_n S.1 S.2.1 dX2_reset_0 rfl (lv_at hl 0 rfl) ?_
  refine lv_iconst (v := nI 0) S.1 S.2.1 dX2_reset_1 (by decide) ?_
  refine mp S hK hw 0 rfl rfl hiX2 tyX2_ok nmX2 4 (by decide) (List.mem_of_getElem? (i := 1) rfl) rfl rfl rfl (Nat.le_of_ble_eq_true rfl) dX2_reset_2 (fun H locs hw => ?_)
  have hw : Wd D A s.heap H locs (wX2 o cA cap0 (fun j => nI (t j)) (fun j => nI (x j)) fi fb ff fa fh fp ft tk (nI 0) (nI op0) (nI m0) (nI n)) := hw
  exact cv_ret S hr hlk hQ hw () rfl trivial dX2_reset_5
