set_option maxHeartbeats 4000000 in
set_option maxRecDepth 100000 in
theorem kX3_tag_ok (l : Launch) (D : va_G) (cA : ClassId) (o : Nat → Nat) (cd : Int32) (p0 op0 n m0 cap0 : Nat) (a b t x : Nat → Nat) (fk fn ft fw fh ff fp fg fr fx : Nat → Int32) (i : Nat) (hp0 : p0 ≤ 4) (hop : op0 ≤ 1) (hn : n ≤ 1000) (hm : m0 ≤ cap0) (hcap : cap0 ≤ 400) (ha : ∀ j, a j < 256) (hb : ∀ j, b j < 256) (ht : ∀ j, t j < 256) (hi : i < 16) (hph : p0 = 3) (ho : op0 = 0) : CI l D cA yX3_tag wsX3_tag { frames := 4, cells := 0, slots := 0, locals := 90 } [.ref (o 0), .int (nI i)] (wX3 o cA cd (nI cap0) (nI p0) (nI op0) (nI n) (nI m0) fk fn (fun j => nI (a j)) (fun j => nI (b j)) (fun j => nI (t j)) (fun j => nI (x j)) ft fw fh ff fp fg fr fx) (fun r _ => r = nI ((TG (MB (stF fk fn (nI 0)) fw) a n (dD op0 b t) m0) i)) (fun u : (Nat → Int32) × (Nat → Int32) × (Nat → Int32) × (Nat → Int32) × (Nat → Int32) × (Nat → Int32) => wX3 o cA (nI 0) (nI cap0) (nI p0) (nI op0) (nI n) (nI m0) fk fn (fun j => nI (a j)) (fun j => nI (b j)) (fun j => nI (t j)) (fun j => nI (x j)) (stF fk fn (nI 0)) (MB (stF fk fn (nI 0)) fw) u.1 u.2.1 u.2.2.1 u.2.2.2.1 u.2.2.2.2.1 u.2.2.2.2.2) := by
  refine ci_of (by decide) rfl (Nat.le_of_ble_eq_true rfl) ?_
  intro p e s m below meth c ls A ar Q S hK hw hA hr hlk hl hQ
  have hl : lv_has ls 2 [(0, .ref (o 0)), (1, .int (nI i))] := hl
  have hiX3 : ∀ w ∈ wsX30, w ∈ wsX3_tag := fun _ h => List.mem_cons_of_mem _ (List.mem_append_right _ h)
  refine lv_aload_n S.1 S.2.1 dX3_tag_0 rfl (lv_at hl 0 rfl) ?_
  refine lv_iconst (v := nI 0) S.1 S.2.1 dX3_tag_1 (by decide) ?_
  refine mp S hK hw 0 rfl rfl hiX3 tyX3_ok nmX3 0 (by decide) (List.mem_of_getElem? (i := 1) rfl) rfl rfl rfl (Nat.le_of_ble_eq_true rfl) dX3_tag_2 (fun H locs hw => ?_)
  have hw : Wd D A s.heap H locs (wX3 o cA (nI 0) (nI cap0) (nI p0) (nI op0) (nI n) (nI m0) fk fn (fun j => nI (a j)) (fun j => nI (b j)) (fun j => nI (t j)) (fun j => nI (x j)) ft fw fh ff fp fg fr fx) := hw
  refine lv_aload_n S.1 S.2.1 dX3_tag_5 rfl (lv_at hl 0 rfl) ?_
  refine mg S hK hw 0 rfl rfl hiX3 4 (by decide) (List.mem_of_getElem? (i := 2) rfl) rfl dX3_tag_6 ?_
  refine lv_iconst (v := nI 3) S.1 S.2.1 dX3_tag_9 (by decide) ?_
  refine lv_icmp_ne (tgt := 27) S.1 S.2.1 dX3_tag_10 (by decide) (fun c10 => ?_) (fun c10 => ?_)
  · rw [nI_eq (by omega) (by omega)] at c10
    exfalso; omega
  · rw [nI_eq (by omega) (by omega)] at c10
    refine lv_aload_n S.1 S.2.1 dX3_tag_13 rfl (lv_at hl 0 rfl) ?_
    refine mg S hK hw 0 rfl rfl hiX3 5 (by decide) (List.mem_of_getElem? (i := 3) rfl) rfl dX3_tag_14 ?_
    refine lv_if_ne (tgt := 27) S.1 S.2.1 dX3_tag_17 (by decide) (fun c17 => ?_) (fun c17 => ?_)
    · rw [← nI_0, nI_eq (by omega) (by omega)] at c17
      exfalso; omega
    · rw [← nI_0, nI_eq (by omega) (by omega)] at c17
      refine lv_iload_n S.1 S.2.1 dX3_tag_20 rfl (lv_at hl 1 rfl) ?_
      refine callSI (rest := []) S hK hw hA (kX3_isPlace l D cA o (nI i)) gX3_tag_X3_isPlace rfl 1 rfl (by decide +kernel) ⟨rfl, rfl⟩ ⟨by decide, by decide⟩ ⟨Nat.zero_le _, Nat.zero_le _⟩ hl.1 (Nat.le_of_ble_eq_true rfl) dX3_tag_21 rfl (fun r H locs hp hw => ?_)
      refine lv_if_ne (tgt := 29) S.1 S.2.1 dX3_tag_24 (by decide) (fun c24 => ?_) (fun c24 => ?_)
      · skip
        refine lv_aload_n S.1 S.2.1 dX3_tag_29 rfl (lv_at hl 0 rfl) ?_
        refine callVV (rest := []) S hK hw hA (kX3_tag0 l D cA o (nI 0) (nI cap0) (nI p0) fk fn (fun j => nI (x j)) ft fw fh ff fp fg fr fx n m0 op0 a b t (by omega) (by omega) (by omega) ha hb ht) gX3_tag_X3_tag0 rfl 0 rfl (by decide +kernel) ⟨rfl, rfl⟩ ⟨by decide, by decide⟩ ⟨Nat.zero_le _, Nat.zero_le _⟩ [0, 1, 2, 3, 4, 5, 6, 7, 8, 9, 10, 11, 12, 13, 14] rfl (by decide) (fun _ => rfl) 0 rfl rfl rfl hl.1 (Nat.le_of_ble_eq_true rfl) dX3_tag_30 rfl (fun u30 H locs hp hw => ?_)
  sorry
