set_option maxHeartbeats 4000000 in
set_option maxRecDepth 100000 in
theorem kX3_up (l : Launch) (D : va_G) (cA : ClassId) (o : Nat → Nat) (v k : Int32) : CI l D cA yX3_up wsX3_up { frames := 0, cells := 0, slots := 0, locals := 0 } [.int v, .int k] (wE o cA ) (fun r _ => r = rotI v k) (fun _ : Unit => wE o cA ) := by
  refine ci_of (by decide) rfl (Nat.le_of_ble_eq_true rfl) ?_
  intro p e s m below meth c ls A ar Q S hK hw hA hr hlk hl hQ
  have hl : lv_has ls 2 [(0, .int v), (1, .int k)] := hl
  refine lv_iload_n S.1 S.2.1 dX3_up_0 rfl (lv_at hl 0 rfl) ?_
  refine lv_iload_n S.1 S.2.1 dX3_up_1 rfl (lv_at hl 1 rfl) ?_
  refine lv_ishl S.1 S.2.1 dX3_up_2 ?_
  refine lv_iload_n S.1 S.2.1 dX3_up_3 rfl (lv_at hl 0 rfl) ?_
  refine lv_bipush (v := nI 32) S.1 S.2.1 dX3_up_4 (by decide) ?_
  refine lv_iload_n S.1 S.2.1 dX3_up_6 rfl (lv_at hl 1 rfl) ?_
  refine lv_isub S.1 S.2.1 dX3_up_7 ?_
  refine lv_iushr S.1 S.2.1 dX3_up_8 rfl ?_
  refine lv_ior S.1 S.2.1 dX3_up_9 ?_
  exact ci_ret S hr hlk hQ hw rfl () rfl rfl dX3_up_10

set_option maxHeartbeats 4000000 in
set_option maxRecDepth 100000 in
theorem kX3_quarter (l : Launch) (D : va_G) (cA : ClassId) (o : Nat → Nat) (cd cap ph op nn mm : Int32) (fk fn fs fc fd fe ft fw fh ff fp fg fr fx : Nat → Int32) (a b c0 d : Nat) (ha : a < 16) (hb : b < 16) (hc : c0 < 16) (hd : d < 16) : CV l D cA yX3_quarter wsX3_quarter { frames := 1, cells := 0, slots := 0, locals := 21 } [.ref (o 0), .int (nI a), .int (nI b), .int (nI c0), .int (nI d)] (wX3 o cA cd cap ph op nn mm fk fn fs fc fd fe ft fw fh ff fp fg fr fx) (fun _ => True) (fun _ : Unit => wX3 o cA cd cap ph op nn mm fk fn fs fc fd fe ft (QR fw a b c0 d) fh ff fp fg fr fx) := by
  refine cv_of (by decide) rfl (Nat.le_of_ble_eq_true rfl) ?_
  intro p e s m below meth c ls A ar Q S hK hw hA hr hlk hl hQ
  have hl : lv_has ls 5 [(0, .ref (o 0)), (1, .int (nI a)), (2, .int (nI b)), (3, .int (nI c0)), (4, .int (nI d))] := hl
  have hiX3 : ∀ w ∈ wsX30, w ∈ wsX3_quarter := fun _ h => List.mem_cons_of_mem _ (List.mem_append_right _ h)
  refine lv_aload_n S.1 S.2.1 dX3_quarter_0 rfl (lv_at hl 0 rfl) ?_
  refine mg S hK hw 0 rfl rfl hiX3 13 (by decide) (List.mem_of_getElem? (i := 1) rfl) rfl dX3_quarter_1 ?_
  refine lv_iload_n S.1 S.2.1 dX3_quarter_4 rfl (lv_at hl 1 rfl) ?_
  refine lv_dup2_11 S.1 S.2.1 dX3_quarter_5 rfl rfl ?_
  refine ag S hK hw 8 rfl a rfl (by omega) (by decide) dX3_quarter_6 ?_
  refine lv_aload_n S.1 S.2.1 dX3_quarter_7 rfl (lv_at hl 0 rfl) ?_
  refine mg S hK hw 0 rfl rfl hiX3 13 (by decide) (List.mem_of_getElem? (i := 1) rfl) rfl dX3_quarter_8 ?_
  refine lv_iload_n S.1 S.2.1 dX3_quarter_11 rfl (lv_at hl 2 rfl) ?_
  refine ag S hK hw 8 rfl b rfl (by omega) (by decide) dX3_quarter_12 ?_
  refine lv_iadd S.1 S.2.1 dX3_quarter_13 ?_
  refine ap S hK hw 8 rfl a rfl (by omega) (by decide) dX3_quarter_14 (fun H locs hw => ?_)
  have hw : Wd D A s.heap H locs (wX3 o cA cd cap ph op nn mm fk fn fs fc fd fe ft (upd fw a ((fw a) + (fw b))) fh ff fp fg fr fx) := hw
  refine lv_aload_n S.1 S.2.1 dX3_quarter_15 rfl (lv_at hl 0 rfl) ?_
  refine mg S hK hw 0 rfl rfl hiX3 13 (by decide) (List.mem_of_getElem? (i := 1) rfl) rfl dX3_quarter_16 ?_
  refine lv_iload S.1 S.2.1 dX3_quarter_19 (lv_at hl 4 rfl) ?_
  refine lv_aload_n S.1 S.2.1 dX3_quarter_21 rfl (lv_at hl 0 rfl) ?_
  refine mg S hK hw 0 rfl rfl hiX3 13 (by decide) (List.mem_of_getElem? (i := 1) rfl) rfl dX3_quarter_22 ?_
  refine lv_iload S.1 S.2.1 dX3_quarter_25 (lv_at hl 4 rfl) ?_
  refine ag S hK hw 8 rfl d rfl (by omega) (by decide) dX3_quarter_27 ?_
  refine lv_aload_n S.1 S.2.1 dX3_quarter_28 rfl (lv_at hl 0 rfl) ?_
  refine mg S hK hw 0 rfl rfl hiX3 13 (by decide) (List.mem_of_getElem? (i := 1) rfl) rfl dX3_quarter_29 ?_
  refine lv_iload_n S.1 S.2.1 dX3_quarter_32 rfl (lv_at hl 1 rfl) ?_
  refine ag S hK hw 8 rfl a rfl (by omega) (by decide) dX3_quarter_33 ?_
  refine lv_ixor S.1 S.2.1 dX3_quarter_34 ?_
  refine lv_bipush (v := nI 16) S.1 S.2.1 dX3_quarter_35 (by decide) ?_
  refine callSI (rest := [.int (nI d), .ref (o 8)]) S hK hw hA (kX3_up l D cA o (((upd fw a ((fw a) + (fw b))) d) ^^^ ((upd fw a ((fw a) + (fw b))) a)) (nI 16)) gX3_quarter_X3_up rfl 2 rfl (by decide +kernel) ⟨rfl, rfl⟩ ⟨by decide, by decide⟩ ⟨Nat.zero_le _, Nat.zero_le _⟩ hl.1 (Nat.le_of_ble_eq_true rfl) dX3_quarter_37 rfl (fun r H locs hp hw => ?_)
  subst hp
  refine ap S hK hw 8 rfl d rfl (by omega) (by decide) dX3_quarter_40 (fun H locs hw => ?_)
  have hw : Wd D A s.heap H locs (wX3 o cA cd cap ph op nn mm fk fn fs fc fd fe ft (upd (upd fw a ((fw a) + (fw b))) d (rotI (((upd fw a ((fw a) + (fw b))) d) ^^^ ((upd fw a ((fw a) + (fw b))) a)) (nI 16))) fh ff fp fg fr fx) := hw
  have hw := hw.cong 8 (g := AT fw a b d (nI 16)) rfl (fun _ _ => rfl)
  have hw : Wd D A s.heap H locs (wX3 o cA cd cap ph op nn mm fk fn fs fc fd fe ft (AT fw a b d (nI 16)) fh ff fp fg fr fx) := hw
  refine lv_aload_n S.1 S.2.1 dX3_quarter_41 rfl (lv_at hl 0 rfl) ?_
  refine mg S hK hw 0 rfl rfl hiX3 13 (by decide) (List.mem_of_getElem? (i := 1) rfl) rfl dX3_quarter_42 ?_
  refine lv_iload_n S.1 S.2.1 dX3_quarter_45 rfl (lv_at hl 3 rfl) ?_
  refine lv_dup2_11 S.1 S.2.1 dX3_quarter_46 rfl rfl ?_
  refine ag S hK hw 8 rfl c0 rfl (by omega) (by decide) dX3_quarter_47 ?_
  refine lv_aload_n S.1 S.2.1 dX3_quarter_48 rfl (lv_at hl 0 rfl) ?_
  refine mg S hK hw 0 rfl rfl hiX3 13 (by decide) (List.mem_of_getElem? (i := 1) rfl) rfl dX3_quarter_49 ?_
  refine lv_iload S.1 S.2.1 dX3_quarter_52 (lv_at hl 4 rfl) ?_
  refine ag S hK hw 8 rfl d rfl (by omega) (by decide) dX3_quarter_54 ?_
  refine lv_iadd S.1 S.2.1 dX3_quarter_55 ?_
  refine ap S hK hw 8 rfl c0 rfl (by omega) (by decide) dX3_quarter_56 (fun H locs hw => ?_)
  have hw : Wd D A s.heap H locs (wX3 o cA cd cap ph op nn mm fk fn fs fc fd fe ft (upd (AT fw a b d (nI 16)) c0 (((AT fw a b d (nI 16)) c0) + ((AT fw a b d (nI 16)) d))) fh ff fp fg fr fx) := hw
  refine lv_aload_n S.1 S.2.1 dX3_quarter_57 rfl (lv_at hl 0 rfl) ?_
  refine mg S hK hw 0 rfl rfl hiX3 13 (by decide) (List.mem_of_getElem? (i := 1) rfl) rfl dX3_quarter_58 ?_
  refine lv_iload_n S.1 S.2.1 dX3_quarter_61 rfl (lv_at hl 2 rfl) ?_
  refine lv_aload_n S.1 S.2.1 dX3_quarter_62 rfl (lv_at hl 0 rfl) ?_
  refine mg S hK hw 0 rfl rfl hiX3 13 (by decide) (List.mem_of_getElem? (i := 1) rfl) rfl dX3_quarter_63 ?_
  refine lv_iload_n S.1 S.2.1 dX3_quarter_66 rfl (lv_at hl 2 rfl) ?_
  refine ag S hK hw 8 rfl b rfl (by omega) (by decide) dX3_quarter_67 ?_
  refine lv_aload_n S.1 S.2.1 dX3_quarter_68 rfl (lv_at hl 0 rfl) ?_
  refine mg S hK hw 0 rfl rfl hiX3 13 (by decide) (List.mem_of_getElem? (i := 1) rfl) rfl dX3_quarter_69 ?_
  refine lv_iload_n S.1 S.2.1 dX3_quarter_72 rfl (lv_at hl 3 rfl) ?_
  refine ag S hK hw 8 rfl c0 rfl (by omega) (by decide) dX3_quarter_73 ?_
  refine lv_ixor S.1 S.2.1 dX3_quarter_74 ?_
  refine lv_bipush (v := nI 12) S.1 S.2.1 dX3_quarter_75 (by decide) ?_
  refine callSI (rest := [.int (nI b), .ref (o 8)]) S hK hw hA (kX3_up l D cA o (((upd (AT fw a b d (nI 16)) c0 (((AT fw a b d (nI 16)) c0) + ((AT fw a b d (nI 16)) d))) b) ^^^ ((upd (AT fw a b d (nI 16)) c0 (((AT fw a b d (nI 16)) c0) + ((AT fw a b d (nI 16)) d))) c0)) (nI 12)) gX3_quarter_X3_up rfl 2 rfl (by decide +kernel) ⟨rfl, rfl⟩ ⟨by decide, by decide⟩ ⟨Nat.zero_le _, Nat.zero_le _⟩ hl.1 (Nat.le_of_ble_eq_true rfl) dX3_quarter_77 rfl (fun r H locs hp hw => ?_)
  subst hp
  refine ap S hK hw 8 rfl b rfl (by omega) (by decide) dX3_quarter_80 (fun H locs hw => ?_)
  have hw : Wd D A s.heap H locs (wX3 o cA cd cap ph op nn mm fk fn fs fc fd fe ft (upd (upd (AT fw a b d (nI 16)) c0 (((AT fw a b d (nI 16)) c0) + ((AT fw a b d (nI 16)) d))) b (rotI (((upd (AT fw a b d (nI 16)) c0 (((AT fw a b d (nI 16)) c0) + ((AT fw a b d (nI 16)) d))) b) ^^^ ((upd (AT fw a b d (nI 16)) c0 (((AT fw a b d (nI 16)) c0) + ((AT fw a b d (nI 16)) d))) c0)) (nI 12))) fh ff fp fg fr fx) := hw
  have hw := hw.cong 8 (g := AT (AT fw a b d (nI 16)) c0 d b (nI 12)) rfl (fun _ _ => rfl)
  have hw : Wd D A s.heap H locs (wX3 o cA cd cap ph op nn mm fk fn fs fc fd fe ft (AT (AT fw a b d (nI 16)) c0 d b (nI 12)) fh ff fp fg fr fx) := hw
  refine lv_aload_n S.1 S.2.1 dX3_quarter_81 rfl (lv_at hl 0 rfl) ?_
  refine mg S hK hw 0 rfl rfl hiX3 13 (by decide) (List.mem_of_getElem? (i := 1) rfl) rfl dX3_quarter_82 ?_
  refine lv_iload_n S.1 S.2.1 dX3_quarter_85 rfl (lv_at hl 1 rfl) ?_
  refine lv_dup2_11 S.1 S.2.1 dX3_quarter_86 rfl rfl ?_
  refine ag S hK hw 8 rfl a rfl (by omega) (by decide) dX3_quarter_87 ?_
  refine lv_aload_n S.1 S.2.1 dX3_quarter_88 rfl (lv_at hl 0 rfl) ?_
  refine mg S hK hw 0 rfl rfl hiX3 13 (by decide) (List.mem_of_getElem? (i := 1) rfl) rfl dX3_quarter_89 ?_
  refine lv_iload_n S.1 S.2.1 dX3_quarter_92 rfl (lv_at hl 2 rfl) ?_
  refine ag S hK hw 8 rfl b rfl (by omega) (by decide) dX3_quarter_93 ?_
  refine lv_iadd S.1 S.2.1 dX3_quarter_94 ?_
  refine ap S hK hw 8 rfl a rfl (by omega) (by decide) dX3_quarter_95 (fun H locs hw => ?_)
  have hw : Wd D A s.heap H locs (wX3 o cA cd cap ph op nn mm fk fn fs fc fd fe ft (upd (AT (AT fw a b d (nI 16)) c0 d b (nI 12)) a (((AT (AT fw a b d (nI 16)) c0 d b (nI 12)) a) + ((AT (AT fw a b d (nI 16)) c0 d b (nI 12)) b))) fh ff fp fg fr fx) := hw
  refine lv_aload_n S.1 S.2.1 dX3_quarter_96 rfl (lv_at hl 0 rfl) ?_
  refine mg S hK hw 0 rfl rfl hiX3 13 (by decide) (List.mem_of_getElem? (i := 1) rfl) rfl dX3_quarter_97 ?_
  refine lv_iload S.1 S.2.1 dX3_quarter_100 (lv_at hl 4 rfl) ?_
  refine lv_aload_n S.1 S.2.1 dX3_quarter_102 rfl (lv_at hl 0 rfl) ?_
  refine mg S hK hw 0 rfl rfl hiX3 13 (by decide) (List.mem_of_getElem? (i := 1) rfl) rfl dX3_quarter_103 ?_
  refine lv_iload S.1 S.2.1 dX3_quarter_106 (lv_at hl 4 rfl) ?_
  refine ag S hK hw 8 rfl d rfl (by omega) (by decide) dX3_quarter_108 ?_
  refine lv_aload_n S.1 S.2.1 dX3_quarter_109 rfl (lv_at hl 0 rfl) ?_
  refine mg S hK hw 0 rfl rfl hiX3 13 (by decide) (List.mem_of_getElem? (i := 1) rfl) rfl dX3_quarter_110 ?_
  refine lv_iload_n S.1 S.2.1 dX3_quarter_113 rfl (lv_at hl 1 rfl) ?_
  refine ag S hK hw 8 rfl a rfl (by omega) (by decide) dX3_quarter_114 ?_
  refine lv_ixor S.1 S.2.1 dX3_quarter_115 ?_
  refine lv_bipush (v := nI 8) S.1 S.2.1 dX3_quarter_116 (by decide) ?_
  refine callSI (rest := [.int (nI d), .ref (o 8)]) S hK hw hA (kX3_up l D cA o (((upd (AT (AT fw a b d (nI 16)) c0 d b (nI 12)) a (((AT (AT fw a b d (nI 16)) c0 d b (nI 12)) a) + ((AT (AT fw a b d (nI 16)) c0 d b (nI 12)) b))) d) ^^^ ((upd (AT (AT fw a b d (nI 16)) c0 d b (nI 12)) a (((AT (AT fw a b d (nI 16)) c0 d b (nI 12)) a) + ((AT (AT fw a b d (nI 16)) c0 d b (nI 12)) b))) a)) (nI 8)) gX3_quarter_X3_up rfl 2 rfl (by decide +kernel) ⟨rfl, rfl⟩ ⟨by decide, by decide⟩ ⟨Nat.zero_le _, Nat.zero_le _⟩ hl.1 (Nat.le_of_ble_eq_true rfl) dX3_quarter_118 rfl (fun r H locs hp hw => ?_)
  subst hp
  refine ap S hK hw 8 rfl d rfl (by omega) (by decide) dX3_quarter_121 (fun H locs hw => ?_)
  have hw : Wd D A s.heap H locs (wX3 o cA cd cap ph op nn mm fk fn fs fc fd fe ft (upd (upd (AT (AT fw a b d (nI 16)) c0 d b (nI 12)) a (((AT (AT fw a b d (nI 16)) c0 d b (nI 12)) a) + ((AT (AT fw a b d (nI 16)) c0 d b (nI 12)) b))) d (rotI (((upd (AT (AT fw a b d (nI 16)) c0 d b (nI 12)) a (((AT (AT fw a b d (nI 16)) c0 d b (nI 12)) a) + ((AT (AT fw a b d (nI 16)) c0 d b (nI 12)) b))) d) ^^^ ((upd (AT (AT fw a b d (nI 16)) c0 d b (nI 12)) a (((AT (AT fw a b d (nI 16)) c0 d b (nI 12)) a) + ((AT (AT fw a b d (nI 16)) c0 d b (nI 12)) b))) a)) (nI 8))) fh ff fp fg fr fx) := hw
  have hw := hw.cong 8 (g := AT (AT (AT fw a b d (nI 16)) c0 d b (nI 12)) a b d (nI 8)) rfl (fun _ _ => rfl)
  have hw : Wd D A s.heap H locs (wX3 o cA cd cap ph op nn mm fk fn fs fc fd fe ft (AT (AT (AT fw a b d (nI 16)) c0 d b (nI 12)) a b d (nI 8)) fh ff fp fg fr fx) := hw
  refine lv_aload_n S.1 S.2.1 dX3_quarter_122 rfl (lv_at hl 0 rfl) ?_
  refine mg S hK hw 0 rfl rfl hiX3 13 (by decide) (List.mem_of_getElem? (i := 1) rfl) rfl dX3_quarter_123 ?_
  refine lv_iload_n S.1 S.2.1 dX3_quarter_126 rfl (lv_at hl 3 rfl) ?_
  refine lv_dup2_11 S.1 S.2.1 dX3_quarter_127 rfl rfl ?_
  refine ag S hK hw 8 rfl c0 rfl (by omega) (by decide) dX3_quarter_128 ?_
  refine lv_aload_n S.1 S.2.1 dX3_quarter_129 rfl (lv_at hl 0 rfl) ?_
  refine mg S hK hw 0 rfl rfl hiX3 13 (by decide) (List.mem_of_getElem? (i := 1) rfl) rfl dX3_quarter_130 ?_
  refine lv_iload S.1 S.2.1 dX3_quarter_133 (lv_at hl 4 rfl) ?_
  refine ag S hK hw 8 rfl d rfl (by omega) (by decide) dX3_quarter_135 ?_
  refine lv_iadd S.1 S.2.1 dX3_quarter_136 ?_
  refine ap S hK hw 8 rfl c0 rfl (by omega) (by decide) dX3_quarter_137 (fun H locs hw => ?_)
  have hw : Wd D A s.heap H locs (wX3 o cA cd cap ph op nn mm fk fn fs fc fd fe ft (upd (AT (AT (AT fw a b d (nI 16)) c0 d b (nI 12)) a b d (nI 8)) c0 (((AT (AT (AT fw a b d (nI 16)) c0 d b (nI 12)) a b d (nI 8)) c0) + ((AT (AT (AT fw a b d (nI 16)) c0 d b (nI 12)) a b d (nI 8)) d))) fh ff fp fg fr fx) := hw
  refine lv_aload_n S.1 S.2.1 dX3_quarter_138 rfl (lv_at hl 0 rfl) ?_
  refine mg S hK hw 0 rfl rfl hiX3 13 (by decide) (List.mem_of_getElem? (i := 1) rfl) rfl dX3_quarter_139 ?_
  refine lv_iload_n S.1 S.2.1 dX3_quarter_142 rfl (lv_at hl 2 rfl) ?_
  refine lv_aload_n S.1 S.2.1 dX3_quarter_143 rfl (lv_at hl 0 rfl) ?_
  refine mg S hK hw 0 rfl rfl hiX3 13 (by decide) (List.mem_of_getElem? (i := 1) rfl) rfl dX3_quarter_144 ?_
  refine lv_iload_n S.1 S.2.1 dX3_quarter_147 rfl (lv_at hl 2 rfl) ?_
  refine ag S hK hw 8 rfl b rfl (by omega) (by decide) dX3_quarter_148 ?_
  refine lv_aload_n S.1 S.2.1 dX3_quarter_149 rfl (lv_at hl 0 rfl) ?_
  refine mg S hK hw 0 rfl rfl hiX3 13 (by decide) (List.mem_of_getElem? (i := 1) rfl) rfl dX3_quarter_150 ?_
  refine lv_iload_n S.1 S.2.1 dX3_quarter_153 rfl (lv_at hl 3 rfl) ?_
  refine ag S hK hw 8 rfl c0 rfl (by omega) (by decide) dX3_quarter_154 ?_
  refine lv_ixor S.1 S.2.1 dX3_quarter_155 ?_
  refine lv_bipush (v := nI 7) S.1 S.2.1 dX3_quarter_156 (by decide) ?_
  refine callSI (rest := [.int (nI b), .ref (o 8)]) S hK hw hA (kX3_up l D cA o (((upd (AT (AT (AT fw a b d (nI 16)) c0 d b (nI 12)) a b d (nI 8)) c0 (((AT (AT (AT fw a b d (nI 16)) c0 d b (nI 12)) a b d (nI 8)) c0) + ((AT (AT (AT fw a b d (nI 16)) c0 d b (nI 12)) a b d (nI 8)) d))) b) ^^^ ((upd (AT (AT (AT fw a b d (nI 16)) c0 d b (nI 12)) a b d (nI 8)) c0 (((AT (AT (AT fw a b d (nI 16)) c0 d b (nI 12)) a b d (nI 8)) c0) + ((AT (AT (AT fw a b d (nI 16)) c0 d b (nI 12)) a b d (nI 8)) d))) c0)) (nI 7)) gX3_quarter_X3_up rfl 2 rfl (by decide +kernel) ⟨rfl, rfl⟩ ⟨by decide, by decide⟩ ⟨Nat.zero_le _, Nat.zero_le _⟩ hl.1 (Nat.le_of_ble_eq_true rfl) dX3_quarter_158 rfl (fun r H locs hp hw => ?_)
  subst hp
  refine ap S hK hw 8 rfl b rfl (by omega) (by decide) dX3_quarter_161 (fun H locs hw => ?_)
  have hw : Wd D A s.heap H locs (wX3 o cA cd cap ph op nn mm fk fn fs fc fd fe ft (upd (upd (AT (AT (AT fw a b d (nI 16)) c0 d b (nI 12)) a b d (nI 8)) c0 (((AT (AT (AT fw a b d (nI 16)) c0 d b (nI 12)) a b d (nI 8)) c0) + ((AT (AT (AT fw a b d (nI 16)) c0 d b (nI 12)) a b d (nI 8)) d))) b (rotI (((upd (AT (AT (AT fw a b d (nI 16)) c0 d b (nI 12)) a b d (nI 8)) c0 (((AT (AT (AT fw a b d (nI 16)) c0 d b (nI 12)) a b d (nI 8)) c0) + ((AT (AT (AT fw a b d (nI 16)) c0 d b (nI 12)) a b d (nI 8)) d))) b) ^^^ ((upd (AT (AT (AT fw a b d (nI 16)) c0 d b (nI 12)) a b d (nI 8)) c0 (((AT (AT (AT fw a b d (nI 16)) c0 d b (nI 12)) a b d (nI 8)) c0) + ((AT (AT (AT fw a b d (nI 16)) c0 d b (nI 12)) a b d (nI 8)) d))) c0)) (nI 7))) fh ff fp fg fr fx) := hw
  have hw := hw.cong 8 (g := QR fw a b c0 d) rfl (fun _ _ => rfl)
  have hw : Wd D A s.heap H locs (wX3 o cA cd cap ph op nn mm fk fn fs fc fd fe ft (QR fw a b c0 d) fh ff fp fg fr fx) := hw
  exact cv_ret S hr hlk hQ hw () rfl trivial dX3_quarter_162

set_option maxHeartbeats 4000000 in
set_option maxRecDepth 100000 in
theorem kX3_block (l : Launch) (D : va_G) (cA : ClassId) (o : Nat → Nat) (cd cap ph op nn mm : Int32) (fk fn fs fc fd fe ft fw fh ff fp fg fr fx : Nat → Int32) (v : Int32) : CV l D cA yX3_block wsX3_block { frames := 2, cells := 0, slots := 0, locals := 45 } [.ref (o 0), .int v] (wX3 o cA cd cap ph op nn mm fk fn fs fc fd fe ft fw fh ff fp fg fr fx) (fun _ => True) (fun _ : Unit => wX3 o cA cd cap ph op nn mm fk fn fs fc fd fe (stF fk fn v) (MB (stF fk fn v) fw) fh ff fp fg fr fx) := by
  refine cv_of (by decide) rfl (Nat.le_of_ble_eq_true rfl) ?_
  intro p e s m below meth c ls A ar Q S hK hw hA hr hlk hl hQ
  have hl : lv_has ls 4 [(0, .ref (o 0)), (1, .int v)] := hl
  have hiX3 : ∀ w ∈ wsX30, w ∈ wsX3_block := fun _ h => List.mem_cons_of_mem _ (List.mem_append_right _ h)
  refine lv_aload_n S.1 S.2.1 dX3_block_0 rfl (lv_at hl 0 rfl) ?_
  refine mg S hK hw 0 rfl rfl hiX3 12 (by decide) (List.mem_of_getElem? (i := 1) rfl) rfl dX3_block_1 ?_
  refine lv_iconst (v := nI 0) S.1 S.2.1 dX3_block_4 (by decide) ?_
  refine lv_ldc (v := 1634760805) S.1 S.2.1 S.2.2.2.1 (S.2.2.2.2 (.constant RX3 63 (1634760805)) (List.mem_of_getElem? (i := 2) rfl)) dX3_block_5 ?_
  refine ap S hK hw 7 rfl 0 rfl (by omega) (by decide) dX3_block_7 (fun H locs hw => ?_)
  have hw : Wd D A s.heap H locs (wX3 o cA cd cap ph op nn mm fk fn fs fc fd fe (upd ft 0 1634760805) fw fh ff fp fg fr fx) := hw
  refine lv_aload_n S.1 S.2.1 dX3_block_8 rfl (lv_at hl 0 rfl) ?_
  refine mg S hK hw 0 rfl rfl hiX3 12 (by decide) (List.mem_of_getElem? (i := 1) rfl) rfl dX3_block_9 ?_
  refine lv_iconst (v := nI 1) S.1 S.2.1 dX3_block_12 (by decide) ?_
  refine lv_ldc (v := 857760878) S.1 S.2.1 S.2.2.2.1 (S.2.2.2.2 (.constant RX3 64 (857760878)) (List.mem_of_getElem? (i := 3) rfl)) dX3_block_13 ?_
  refine ap S hK hw 7 rfl 1 rfl (by omega) (by decide) dX3_block_15 (fun H locs hw => ?_)
  have hw : Wd D A s.heap H locs (wX3 o cA cd cap ph op nn mm fk fn fs fc fd fe (upd (upd ft 0 1634760805) 1 857760878) fw fh ff fp fg fr fx) := hw
  refine lv_aload_n S.1 S.2.1 dX3_block_16 rfl (lv_at hl 0 rfl) ?_
  refine mg S hK hw 0 rfl rfl hiX3 12 (by decide) (List.mem_of_getElem? (i := 1) rfl) rfl dX3_block_17 ?_
  refine lv_iconst (v := nI 2) S.1 S.2.1 dX3_block_20 (by decide) ?_
  refine lv_ldc (v := 2036477234) S.1 S.2.1 S.2.2.2.1 (S.2.2.2.2 (.constant RX3 65 (2036477234)) (List.mem_of_getElem? (i := 4) rfl)) dX3_block_21 ?_
  refine ap S hK hw 7 rfl 2 rfl (by omega) (by decide) dX3_block_23 (fun H locs hw => ?_)
  have hw : Wd D A s.heap H locs (wX3 o cA cd cap ph op nn mm fk fn fs fc fd fe (upd (upd (upd ft 0 1634760805) 1 857760878) 2 2036477234) fw fh ff fp fg fr fx) := hw
  refine lv_aload_n S.1 S.2.1 dX3_block_24 rfl (lv_at hl 0 rfl) ?_
  refine mg S hK hw 0 rfl rfl hiX3 12 (by decide) (List.mem_of_getElem? (i := 1) rfl) rfl dX3_block_25 ?_
  refine lv_iconst (v := nI 3) S.1 S.2.1 dX3_block_28 (by decide) ?_
  refine lv_ldc (v := 1797285236) S.1 S.2.1 S.2.2.2.1 (S.2.2.2.2 (.constant RX3 66 (1797285236)) (List.mem_of_getElem? (i := 5) rfl)) dX3_block_29 ?_
  refine ap S hK hw 7 rfl 3 rfl (by omega) (by decide) dX3_block_31 (fun H locs hw => ?_)
  have hw : Wd D A s.heap H locs (wX3 o cA cd cap ph op nn mm fk fn fs fc fd fe (upd (upd (upd (upd ft 0 1634760805) 1 857760878) 2 2036477234) 3 1797285236) fw fh ff fp fg fr fx) := hw
  refine lv_iconst (v := nI 0) S.1 S.2.1 dX3_block_32 (by decide) ?_
  refine lv_istore_n (lv' := [(2, .int (nI 0)), (0, .ref (o 0)), (1, .int v)]) S.1 S.2.1 dX3_block_33 rfl hl (by decide) rfl (fun ls hl => ?_)
  have lp34 : ∀ (n0 i : Nat) (g : Nat → Int32), i + n0 = 8 → (∀ j, j < 4 + i → g j = stF fk fn v j) → ∀ (H : Heap) (locs : List Loc), Wd D A s.heap H locs (wX3 o cA cd cap ph op nn mm fk fn fs fc fd fe g fw fh ff fp fg fr fx) → ∀ ls : Array Slot, lv_has ls 4 [(2, .int (nI i)), (0, .ref (o 0)), (1, .int v)] → W p l e { frames := 2, cells := 0, slots := 0, locals := 45 } s m ar below meth c H locs 0 0 Q (F0 m 34 ls []) := by
    intro n0
    induction n0 with
    | zero =>
      intro i g hn0 hg H locs hw ls hl
      have hn0 : i = 8 := by omega
      subst hn0
      refine lv_iload_n S.1 S.2.1 dX3_block_34 rfl (lv_at hl 0 rfl) ?_
      refine lv_bipush (v := nI 8) S.1 S.2.1 dX3_block_35 (by decide) ?_
      refine lv_icmp_ge (tgt := 60) S.1 S.2.1 dX3_block_37 (by decide) (fun c37 => ?_) (fun c37 => ?_)
      · rw [nI_leI (by omega) (by omega)] at c37
        refine lv_aload_n S.1 S.2.1 dX3_block_60 rfl (lv_at hl 1 rfl) ?_
        refine mg S hK hw 0 rfl rfl hiX3 12 (by decide) (List.mem_of_getElem? (i := 1) rfl) rfl dX3_block_61 ?_
        refine lv_bipush (v := nI 12) S.1 S.2.1 dX3_block_64 (by decide) ?_
        refine lv_iload_n S.1 S.2.1 dX3_block_66 rfl (lv_at hl 2 rfl) ?_
        refine ap S hK hw 7 rfl 12 rfl (by omega) (by decide) dX3_block_67 (fun H locs hw => ?_)
        have hw : Wd D A s.heap H locs (wX3 o cA cd cap ph op nn mm fk fn fs fc fd fe (upd g 12 v) fw fh ff fp fg fr fx) := hw
        refine lv_iconst (v := nI 0) S.1 S.2.1 dX3_block_68 (by decide) ?_
        refine lv_istore_n (lv' := [(2, .int (nI 0)), (0, .ref (o 0)), (1, .int v)]) S.1 S.2.1 dX3_block_69 rfl hl (by decide) rfl (fun ls hl => ?_)
        have lp70 : ∀ (n0 i : Nat) (g : Nat → Int32), i + n0 = 3 → (∀ j, j < 13 + i → g j = stF fk fn v j) → ∀ (H : Heap) (locs : List Loc), Wd D A s.heap H locs (wX3 o cA cd cap ph op nn mm fk fn fs fc fd fe g fw fh ff fp fg fr fx) → ∀ ls : Array Slot, lv_has ls 4 [(2, .int (nI i)), (0, .ref (o 0)), (1, .int v)] → W p l e { frames := 2, cells := 0, slots := 0, locals := 45 } s m ar below meth c H locs 0 0 Q (F0 m 70 ls []) := by
          intro n0
          induction n0 with
          | zero =>
            intro i g hn0 hg H locs hw ls hl
            have hn0 : i = 3 := by omega
            subst hn0
            refine lv_iload_n S.1 S.2.1 dX3_block_70 rfl (lv_at hl 0 rfl) ?_
            refine lv_iconst (v := nI 3) S.1 S.2.1 dX3_block_71 (by decide) ?_
            refine lv_icmp_ge (tgt := 96) S.1 S.2.1 dX3_block_72 (by decide) (fun c72 => ?_) (fun c72 => ?_)
            · rw [nI_leI (by omega) (by omega)] at c72
              have hw := hw.cong 7 (g := stF fk fn v) rfl (fun j hj => hg j (by omega))
              have hw : Wd D A s.heap H locs (wX3 o cA cd cap ph op nn mm fk fn fs fc fd fe (stF fk fn v) fw fh ff fp fg fr fx) := hw
              refine lv_iconst (v := nI 0) S.1 S.2.1 dX3_block_96 (by decide) ?_
              refine lv_istore_n (lv' := [(2, .int (nI 0)), (0, .ref (o 0)), (1, .int v)]) S.1 S.2.1 dX3_block_97 rfl hl (by decide) rfl (fun ls hl => ?_)
              have lp98 : ∀ (n0 i : Nat), i + n0 = 16 → ∀ (H : Heap) (locs : List Loc), Wd D A s.heap H locs (wX3 o cA cd cap ph op nn mm fk fn fs fc fd fe (stF fk fn v) (cpy16 i (stF fk fn v) fw) fh ff fp fg fr fx) → ∀ ls : Array Slot, lv_has ls 4 [(2, .int (nI i)), (0, .ref (o 0)), (1, .int v)] → W p l e { frames := 2, cells := 0, slots := 0, locals := 45 } s m ar below meth c H locs 0 0 Q (F0 m 98 ls []) := by
                intro n0
                induction n0 with
                | zero =>
                  intro i hn0 H locs hw ls hl
                  have hn0 : i = 16 := by omega
                  subst hn0
                  refine lv_iload_n S.1 S.2.1 dX3_block_98 rfl (lv_at hl 0 rfl) ?_
                  refine lv_bipush (v := nI 16) S.1 S.2.1 dX3_block_99 (by decide) ?_
                  refine lv_icmp_ge (tgt := 122) S.1 S.2.1 dX3_block_101 (by decide) (fun c101 => ?_) (fun c101 => ?_)
                  · rw [nI_leI (by omega) (by omega)] at c101
                    refine lv_iconst (v := nI 0) S.1 S.2.1 dX3_block_122 (by decide) ?_
                    refine lv_istore_n (lv' := [(2, .int (nI 0)), (0, .ref (o 0)), (1, .int v)]) S.1 S.2.1 dX3_block_123 rfl hl (by decide) rfl (fun ls hl => ?_)
                    have lp124 : ∀ (n0 i : Nat), i + n0 = 10 → ∀ (H : Heap) (locs : List Loc), Wd D A s.heap H locs (wX3 o cA cd cap ph op nn mm fk fn fs fc fd fe (stF fk fn v) (DRn i (cpy16 16 (stF fk fn v) fw)) fh ff fp fg fr fx) → ∀ ls : Array Slot, lv_has ls 4 [(2, .int (nI i)), (0, .ref (o 0)), (1, .int v)] → W p l e { frames := 2, cells := 0, slots := 0, locals := 45 } s m ar below meth c H locs 0 0 Q (F0 m 124 ls []) := by
                      intro n0
                      induction n0 with
                      | zero =>
                        intro i hn0 H locs hw ls hl
                        have hn0 : i = 10 := by omega
                        subst hn0
                        refine lv_iload_n S.1 S.2.1 dX3_block_124 rfl (lv_at hl 0 rfl) ?_
                        refine lv_bipush (v := nI 10) S.1 S.2.1 dX3_block_125 (by decide) ?_
                        refine lv_icmp_ge (tgt := 206) S.1 S.2.1 dX3_block_127 (by decide) (fun c127 => ?_) (fun c127 => ?_)
                        · rw [nI_leI (by omega) (by omega)] at c127
                          refine lv_iconst (v := nI 0) S.1 S.2.1 dX3_block_206 (by decide) ?_
                          refine lv_istore_n (lv' := [(2, .int (nI 0)), (0, .ref (o 0)), (1, .int v)]) S.1 S.2.1 dX3_block_207 rfl hl (by decide) rfl (fun ls hl => ?_)
                          have lp208 : ∀ (n0 i : Nat), i + n0 = 16 → ∀ (H : Heap) (locs : List Loc), Wd D A s.heap H locs (wX3 o cA cd cap ph op nn mm fk fn fs fc fd fe (stF fk fn v) (addN i (stF fk fn v) (DRn 10 (cpy16 16 (stF fk fn v) fw))) fh ff fp fg fr fx) → ∀ ls : Array Slot, lv_has ls 4 [(2, .int (nI i)), (0, .ref (o 0)), (1, .int v)] → W p l e { frames := 2, cells := 0, slots := 0, locals := 45 } s m ar below meth c H locs 0 0 Q (F0 m 208 ls []) := by
                            intro n0
                            induction n0 with
                            | zero =>
                              intro i hn0 H locs hw ls hl
                              have hn0 : i = 16 := by omega
                              subst hn0
                              refine lv_iload_n S.1 S.2.1 dX3_block_208 rfl (lv_at hl 0 rfl) ?_
                              refine lv_bipush (v := nI 16) S.1 S.2.1 dX3_block_209 (by decide) ?_
                              refine lv_icmp_ge (tgt := 235) S.1 S.2.1 dX3_block_211 (by decide) (fun c211 => ?_) (fun c211 => ?_)
                              · rw [nI_leI (by omega) (by omega)] at c211
                                exact cv_ret S hr hlk hQ hw () rfl trivial dX3_block_235
                              · rw [nI_leI (by omega) (by omega)] at c211
                                exfalso; omega
                            | succ n0 ih =>
                              intro i hn0 H locs hw ls hl
                              have hlt : i < 16 := by omega
                              refine lv_iload_n S.1 S.2.1 dX3_block_208 rfl (lv_at hl 0 rfl) ?_
                              refine lv_bipush (v := nI 16) S.1 S.2.1 dX3_block_209 (by decide) ?_
                              refine lv_icmp_ge (tgt := 235) S.1 S.2.1 dX3_block_211 (by decide) (fun c211 => ?_) (fun c211 => ?_)
                              · rw [nI_leI (by omega) (by omega)] at c211
                                exfalso; omega
                              · rw [nI_leI (by omega) (by omega)] at c211
                                refine lv_aload_n S.1 S.2.1 dX3_block_214 rfl (lv_at hl 1 rfl) ?_
                                refine mg S hK hw 0 rfl rfl hiX3 13 (by decide) (List.mem_of_getElem? (i := 8) rfl) rfl dX3_block_215 ?_
                                refine lv_iload_n S.1 S.2.1 dX3_block_218 rfl (lv_at hl 0 rfl) ?_
                                refine lv_dup2_11 S.1 S.2.1 dX3_block_219 rfl rfl ?_
                                refine ag S hK hw 8 rfl i rfl (by omega) (by decide) dX3_block_220 ?_
                                refine lv_aload_n S.1 S.2.1 dX3_block_221 rfl (lv_at hl 1 rfl) ?_
                                refine mg S hK hw 0 rfl rfl hiX3 12 (by decide) (List.mem_of_getElem? (i := 1) rfl) rfl dX3_block_222 ?_
                                refine lv_iload_n S.1 S.2.1 dX3_block_225 rfl (lv_at hl 0 rfl) ?_
                                refine ag S hK hw 7 rfl i rfl (by omega) (by decide) dX3_block_226 ?_
                                refine lv_iadd S.1 S.2.1 dX3_block_227 ?_
                                refine ap S hK hw 8 rfl i rfl (by omega) (by decide) dX3_block_228 (fun H locs hw => ?_)
                                have hw : Wd D A s.heap H locs (wX3 o cA cd cap ph op nn mm fk fn fs fc fd fe (stF fk fn v) (upd (addN i (stF fk fn v) (DRn 10 (cpy16 16 (stF fk fn v) fw))) i (((addN i (stF fk fn v) (DRn 10 (cpy16 16 (stF fk fn v) fw))) i) + ((stF fk fn v) i))) fh ff fp fg fr fx) := hw
                                refine lv_iinc (v := nI (i + 1)) (lv' := [(2, .int (nI (i + 1))), (0, .ref (o 0)), (1, .int v)]) S.1 S.2.1 dX3_block_229 hl (k := 0) rfl (nI_add i 1) (by decide) rfl (fun ls hl => ?_)
                                refine lv_goto (tgt := 208) S.1 S.2.1 dX3_block_232 (by decide) ?_
                                exact ih (i + 1)  (by omega)  _ _ hw _ hl
                          exact lp208 16 0  (by omega)  _ _ hw _ hl
                        · rw [nI_leI (by omega) (by omega)] at c127
                          exfalso; omega
                      | succ n0 ih =>
                        intro i hn0 H locs hw ls hl
                        have hlt : i < 10 := by omega
                        refine lv_iload_n S.1 S.2.1 dX3_block_124 rfl (lv_at hl 0 rfl) ?_
                        refine lv_bipush (v := nI 10) S.1 S.2.1 dX3_block_125 (by decide) ?_
                        refine lv_icmp_ge (tgt := 206) S.1 S.2.1 dX3_block_127 (by decide) (fun c127 => ?_) (fun c127 => ?_)
                        · rw [nI_leI (by omega) (by omega)] at c127
                          exfalso; omega
                        · rw [nI_leI (by omega) (by omega)] at c127
                          refine lv_iconst (v := nI 0) S.1 S.2.1 dX3_block_130 (by decide) ?_
                          refine lv_istore_n (lv' := [(3, .int (nI 0)), (2, .int (nI i)), (0, .ref (o 0)), (1, .int v)]) S.1 S.2.1 dX3_block_131 rfl hl (by decide) rfl (fun ls hl => ?_)
                          have lp132 : ∀ (n0 q : Nat), q + n0 = 4 → ∀ (H : Heap) (locs : List Loc), Wd D A s.heap H locs (wX3 o cA cd cap ph op nn mm fk fn fs fc fd fe (stF fk fn v) (colN q (DRn i (cpy16 16 (stF fk fn v) fw))) fh ff fp fg fr fx) → ∀ ls : Array Slot, lv_has ls 4 [(3, .int (nI q)), (2, .int (nI i)), (0, .ref (o 0)), (1, .int v)] → W p l e { frames := 2, cells := 0, slots := 0, locals := 45 } s m ar below meth c H locs 0 0 Q (F0 m 132 ls []) := by
                            intro n0
                            induction n0 with
                            | zero =>
                              intro q hn0 H locs hw ls hl
                              have hn0 : q = 4 := by omega
                              subst hn0
                              refine lv_iload_n S.1 S.2.1 dX3_block_132 rfl (lv_at hl 0 rfl) ?_
                              refine lv_iconst (v := nI 4) S.1 S.2.1 dX3_block_133 (by decide) ?_
                              refine lv_icmp_ge (tgt := 159) S.1 S.2.1 dX3_block_134 (by decide) (fun c134 => ?_) (fun c134 => ?_)
                              · rw [nI_leI (by omega) (by omega)] at c134
                                refine lv_iconst (v := nI 0) S.1 S.2.1 dX3_block_159 (by decide) ?_
                                refine lv_istore_n (lv' := [(3, .int (nI 0)), (2, .int (nI i)), (0, .ref (o 0)), (1, .int v)]) S.1 S.2.1 dX3_block_160 rfl hl (by decide) rfl (fun ls hl => ?_)
                                have lp161 : ∀ (n0 q : Nat), q + n0 = 4 → ∀ (H : Heap) (locs : List Loc), Wd D A s.heap H locs (wX3 o cA cd cap ph op nn mm fk fn fs fc fd fe (stF fk fn v) (diagN q (colN 4 (DRn i (cpy16 16 (stF fk fn v) fw)))) fh ff fp fg fr fx) → ∀ ls : Array Slot, lv_has ls 4 [(3, .int (nI q)), (2, .int (nI i)), (0, .ref (o 0)), (1, .int v)] → W p l e { frames := 2, cells := 0, slots := 0, locals := 45 } s m ar below meth c H locs 0 0 Q (F0 m 161 ls []) := by
                                  intro n0
                                  induction n0 with
                                  | zero =>
                                    intro q hn0 H locs hw ls hl
                                    have hn0 : q = 4 := by omega
                                    subst hn0
                                    refine lv_iload_n S.1 S.2.1 dX3_block_161 rfl (lv_at hl 0 rfl) ?_
                                    refine lv_iconst (v := nI 4) S.1 S.2.1 dX3_block_162 (by decide) ?_
                                    refine lv_icmp_ge (tgt := 200) S.1 S.2.1 dX3_block_163 (by decide) (fun c163 => ?_) (fun c163 => ?_)
                                    · rw [nI_leI (by omega) (by omega)] at c163
                                      refine lv_iinc (v := nI (i + 1)) (lv' := [(2, .int (nI (i + 1))), (3, .int (nI 4)), (0, .ref (o 0)), (1, .int v)]) S.1 S.2.1 dX3_block_200 hl (k := 1) rfl (nI_add i 1) (by decide) rfl (fun ls hl => ?_)
                                      refine lv_goto (tgt := 124) S.1 S.2.1 dX3_block_203 (by decide) ?_
                                      rw [DR_eq] at hw
                                      exact ih (i + 1)  (by omega)  _ _ hw _ (lv_sub hl [0, 2, 3] rfl)
                                    · rw [nI_leI (by omega) (by omega)] at c163
                                      exfalso; omega
                                  | succ n0 ih =>
                                    intro q hn0 H locs hw ls hl
                                    have hlt : q < 4 := by omega
                                    refine lv_iload_n S.1 S.2.1 dX3_block_161 rfl (lv_at hl 0 rfl) ?_
                                    refine lv_iconst (v := nI 4) S.1 S.2.1 dX3_block_162 (by decide) ?_
                                    refine lv_icmp_ge (tgt := 200) S.1 S.2.1 dX3_block_163 (by decide) (fun c163 => ?_) (fun c163 => ?_)
                                    · rw [nI_leI (by omega) (by omega)] at c163
                                      exfalso; omega
                                    · rw [nI_leI (by omega) (by omega)] at c163
                                      refine lv_aload_n S.1 S.2.1 dX3_block_166 rfl (lv_at hl 2 rfl) ?_
                                      refine lv_iload_n S.1 S.2.1 dX3_block_167 rfl (lv_at hl 0 rfl) ?_
                                      refine lv_iconst (v := nI 4) S.1 S.2.1 dX3_block_168 (by decide) ?_
                                      refine lv_iload_n S.1 S.2.1 dX3_block_169 rfl (lv_at hl 0 rfl) ?_
                                      refine lv_iconst (v := nI 1) S.1 S.2.1 dX3_block_170 (by decide) ?_
                                      refine lv_iadd S.1 S.2.1 dX3_block_171 ?_
                                      refine te (nI_add _ _) ?_
                                      refine lv_iconst (v := nI 4) S.1 S.2.1 dX3_block_172 (by decide) ?_
                                      refine lv_irem S.1 S.2.1 dX3_block_173 (by decide) ?_
                                      refine te (pk_rem (by omega) (by decide) (by decide)) ?_
                                      refine lv_iadd S.1 S.2.1 dX3_block_174 ?_
                                      refine te (nI_add _ _) ?_
                                      refine lv_bipush (v := nI 8) S.1 S.2.1 dX3_block_175 (by decide) ?_
                                      refine lv_iload_n S.1 S.2.1 dX3_block_177 rfl (lv_at hl 0 rfl) ?_
                                      refine lv_iconst (v := nI 2) S.1 S.2.1 dX3_block_178 (by decide) ?_
                                      refine lv_iadd S.1 S.2.1 dX3_block_179 ?_
                                      refine te (nI_add _ _) ?_
                                      refine lv_iconst (v := nI 4) S.1 S.2.1 dX3_block_180 (by decide) ?_
                                      refine lv_irem S.1 S.2.1 dX3_block_181 (by decide) ?_
                                      refine te (pk_rem (by omega) (by decide) (by decide)) ?_
                                      refine lv_iadd S.1 S.2.1 dX3_block_182 ?_
                                      refine te (nI_add _ _) ?_
                                      refine lv_bipush (v := nI 12) S.1 S.2.1 dX3_block_183 (by decide) ?_
                                      refine lv_iload_n S.1 S.2.1 dX3_block_185 rfl (lv_at hl 0 rfl) ?_
                                      refine lv_iconst (v := nI 3) S.1 S.2.1 dX3_block_186 (by decide) ?_
                                      refine lv_iadd S.1 S.2.1 dX3_block_187 ?_
                                      refine te (nI_add _ _) ?_
                                      refine lv_iconst (v := nI 4) S.1 S.2.1 dX3_block_188 (by decide) ?_
                                      refine lv_irem S.1 S.2.1 dX3_block_189 (by decide) ?_
                                      refine te (pk_rem (by omega) (by decide) (by decide)) ?_
                                      refine lv_iadd S.1 S.2.1 dX3_block_190 ?_
                                      refine te (nI_add _ _) ?_
                                      refine callVV (rest := []) S hK hw hA (kX3_quarter l D cA o cd cap ph op nn mm fk fn fs fc fd fe (stF fk fn v) (diagN q (colN 4 (DRn i (cpy16 16 (stF fk fn v) fw)))) fh ff fp fg fr fx q (4 + ((q + 1) % 4)) (8 + ((q + 2) % 4)) (12 + ((q + 3) % 4)) (by omega) (by omega) (by omega) (by omega)) gX3_block_X3_quarter rfl 4 rfl (by decide +kernel) ⟨rfl, rfl⟩ ⟨by decide, by decide⟩ ⟨Nat.zero_le _, Nat.zero_le _⟩ [0, 1, 2, 3, 4, 5, 6, 7, 8, 9, 10, 11, 12, 13, 14] rfl (by decide) (fun _ => rfl) 0 rfl rfl rfl hl.1 (Nat.le_of_ble_eq_true rfl) dX3_block_191 rfl (fun u191 H locs hp hw => ?_)
                                      have hw : Wd D A s.heap H locs (wX3 o cA cd cap ph op nn mm fk fn fs fc fd fe (stF fk fn v) (QR (diagN q (colN 4 (DRn i (cpy16 16 (stF fk fn v) fw)))) q (4 + ((q + 1) % 4)) (8 + ((q + 2) % 4)) (12 + ((q + 3) % 4))) fh ff fp fg fr fx) := hw
                                      refine lv_iinc (v := nI (q + 1)) (lv' := [(3, .int (nI (q + 1))), (2, .int (nI i)), (0, .ref (o 0)), (1, .int v)]) S.1 S.2.1 dX3_block_194 hl (k := 0) rfl (nI_add q 1) (by decide) rfl (fun ls hl => ?_)
                                      refine lv_goto (tgt := 161) S.1 S.2.1 dX3_block_197 (by decide) ?_
                                      exact ih (q + 1)  (by omega)  _ _ hw _ hl
                                exact lp161 4 0  (by omega)  _ _ hw _ hl
                              · rw [nI_leI (by omega) (by omega)] at c134
                                exfalso; omega
                            | succ n0 ih =>
                              intro q hn0 H locs hw ls hl
                              have hlt : q < 4 := by omega
                              refine lv_iload_n S.1 S.2.1 dX3_block_132 rfl (lv_at hl 0 rfl) ?_
                              refine lv_iconst (v := nI 4) S.1 S.2.1 dX3_block_133 (by decide) ?_
                              refine lv_icmp_ge (tgt := 159) S.1 S.2.1 dX3_block_134 (by decide) (fun c134 => ?_) (fun c134 => ?_)
                              · rw [nI_leI (by omega) (by omega)] at c134
                                exfalso; omega
                              · rw [nI_leI (by omega) (by omega)] at c134
                                refine lv_aload_n S.1 S.2.1 dX3_block_137 rfl (lv_at hl 2 rfl) ?_
                                refine lv_iload_n S.1 S.2.1 dX3_block_138 rfl (lv_at hl 0 rfl) ?_
                                refine lv_iconst (v := nI 4) S.1 S.2.1 dX3_block_139 (by decide) ?_
                                refine lv_iload_n S.1 S.2.1 dX3_block_140 rfl (lv_at hl 0 rfl) ?_
                                refine lv_iadd S.1 S.2.1 dX3_block_141 ?_
                                refine te (nI_add _ _) ?_
                                refine lv_bipush (v := nI 8) S.1 S.2.1 dX3_block_142 (by decide) ?_
                                refine lv_iload_n S.1 S.2.1 dX3_block_144 rfl (lv_at hl 0 rfl) ?_
                                refine lv_iadd S.1 S.2.1 dX3_block_145 ?_
                                refine te (nI_add _ _) ?_
                                refine lv_bipush (v := nI 12) S.1 S.2.1 dX3_block_146 (by decide) ?_
                                refine lv_iload_n S.1 S.2.1 dX3_block_148 rfl (lv_at hl 0 rfl) ?_
                                refine lv_iadd S.1 S.2.1 dX3_block_149 ?_
                                refine te (nI_add _ _) ?_
                                refine callVV (rest := []) S hK hw hA (kX3_quarter l D cA o cd cap ph op nn mm fk fn fs fc fd fe (stF fk fn v) (colN q (DRn i (cpy16 16 (stF fk fn v) fw))) fh ff fp fg fr fx q (4 + q) (8 + q) (12 + q) (by omega) (by omega) (by omega) (by omega)) gX3_block_X3_quarter rfl 4 rfl (by decide +kernel) ⟨rfl, rfl⟩ ⟨by decide, by decide⟩ ⟨Nat.zero_le _, Nat.zero_le _⟩ [0, 1, 2, 3, 4, 5, 6, 7, 8, 9, 10, 11, 12, 13, 14] rfl (by decide) (fun _ => rfl) 0 rfl rfl rfl hl.1 (Nat.le_of_ble_eq_true rfl) dX3_block_150 rfl (fun u150 H locs hp hw => ?_)
                                have hw : Wd D A s.heap H locs (wX3 o cA cd cap ph op nn mm fk fn fs fc fd fe (stF fk fn v) (QR (colN q (DRn i (cpy16 16 (stF fk fn v) fw))) q (4 + q) (8 + q) (12 + q)) fh ff fp fg fr fx) := hw
                                refine lv_iinc (v := nI (q + 1)) (lv' := [(3, .int (nI (q + 1))), (2, .int (nI i)), (0, .ref (o 0)), (1, .int v)]) S.1 S.2.1 dX3_block_153 hl (k := 0) rfl (nI_add q 1) (by decide) rfl (fun ls hl => ?_)
                                refine lv_goto (tgt := 132) S.1 S.2.1 dX3_block_156 (by decide) ?_
                                exact ih (q + 1)  (by omega)  _ _ hw _ hl
                          exact lp132 4 0  (by omega)  _ _ hw _ hl
                    exact lp124 10 0  (by omega)  _ _ hw _ hl
                  · rw [nI_leI (by omega) (by omega)] at c101
                    exfalso; omega
                | succ n0 ih =>
                  intro i hn0 H locs hw ls hl
                  have hlt : i < 16 := by omega
                  refine lv_iload_n S.1 S.2.1 dX3_block_98 rfl (lv_at hl 0 rfl) ?_
                  refine lv_bipush (v := nI 16) S.1 S.2.1 dX3_block_99 (by decide) ?_
                  refine lv_icmp_ge (tgt := 122) S.1 S.2.1 dX3_block_101 (by decide) (fun c101 => ?_) (fun c101 => ?_)
                  · rw [nI_leI (by omega) (by omega)] at c101
                    exfalso; omega
                  · rw [nI_leI (by omega) (by omega)] at c101
                    refine lv_aload_n S.1 S.2.1 dX3_block_104 rfl (lv_at hl 1 rfl) ?_
                    refine mg S hK hw 0 rfl rfl hiX3 13 (by decide) (List.mem_of_getElem? (i := 8) rfl) rfl dX3_block_105 ?_
                    refine lv_iload_n S.1 S.2.1 dX3_block_108 rfl (lv_at hl 0 rfl) ?_
                    refine lv_aload_n S.1 S.2.1 dX3_block_109 rfl (lv_at hl 1 rfl) ?_
                    refine mg S hK hw 0 rfl rfl hiX3 12 (by decide) (List.mem_of_getElem? (i := 1) rfl) rfl dX3_block_110 ?_
                    refine lv_iload_n S.1 S.2.1 dX3_block_113 rfl (lv_at hl 0 rfl) ?_
                    refine ag S hK hw 7 rfl i rfl (by omega) (by decide) dX3_block_114 ?_
                    refine ap S hK hw 8 rfl i rfl (by omega) (by decide) dX3_block_115 (fun H locs hw => ?_)
                    have hw : Wd D A s.heap H locs (wX3 o cA cd cap ph op nn mm fk fn fs fc fd fe (stF fk fn v) (upd (cpy16 i (stF fk fn v) fw) i ((stF fk fn v) i)) fh ff fp fg fr fx) := hw
                    refine lv_iinc (v := nI (i + 1)) (lv' := [(2, .int (nI (i + 1))), (0, .ref (o 0)), (1, .int v)]) S.1 S.2.1 dX3_block_116 hl (k := 0) rfl (nI_add i 1) (by decide) rfl (fun ls hl => ?_)
                    refine lv_goto (tgt := 98) S.1 S.2.1 dX3_block_119 (by decide) ?_
                    exact ih (i + 1)  (by omega)  _ _ hw _ hl
              exact lp98 16 0  (by omega)  _ _ hw _ hl
            · rw [nI_leI (by omega) (by omega)] at c72
              exfalso; omega
          | succ n0 ih =>
            intro i g hn0 hg H locs hw ls hl
            have hlt : i < 3 := by omega
            refine lv_iload_n S.1 S.2.1 dX3_block_70 rfl (lv_at hl 0 rfl) ?_
            refine lv_iconst (v := nI 3) S.1 S.2.1 dX3_block_71 (by decide) ?_
            refine lv_icmp_ge (tgt := 96) S.1 S.2.1 dX3_block_72 (by decide) (fun c72 => ?_) (fun c72 => ?_)
            · rw [nI_leI (by omega) (by omega)] at c72
              exfalso; omega
            · rw [nI_leI (by omega) (by omega)] at c72
              refine lv_aload_n S.1 S.2.1 dX3_block_75 rfl (lv_at hl 1 rfl) ?_
              refine mg S hK hw 0 rfl rfl hiX3 12 (by decide) (List.mem_of_getElem? (i := 1) rfl) rfl dX3_block_76 ?_
              refine lv_bipush (v := nI 13) S.1 S.2.1 dX3_block_79 (by decide) ?_
              refine lv_iload_n S.1 S.2.1 dX3_block_81 rfl (lv_at hl 0 rfl) ?_
              refine lv_iadd S.1 S.2.1 dX3_block_82 ?_
              refine te (nI_add _ _) ?_
              refine lv_aload_n S.1 S.2.1 dX3_block_83 rfl (lv_at hl 1 rfl) ?_
              refine mg S hK hw 0 rfl rfl hiX3 3 (by decide) (List.mem_of_getElem? (i := 7) rfl) rfl dX3_block_84 ?_
              refine lv_iload_n S.1 S.2.1 dX3_block_87 rfl (lv_at hl 0 rfl) ?_
              refine ag S hK hw 2 rfl i rfl (by omega) (by decide) dX3_block_88 ?_
              refine ap S hK hw 7 rfl (13 + i) rfl (by omega) (by decide) dX3_block_89 (fun H locs hw => ?_)
              have hw : Wd D A s.heap H locs (wX3 o cA cd cap ph op nn mm fk fn fs fc fd fe (upd g (13 + i) (fn i)) fw fh ff fp fg fr fx) := hw
              refine lv_iinc (v := nI (i + 1)) (lv' := [(2, .int (nI (i + 1))), (0, .ref (o 0)), (1, .int v)]) S.1 S.2.1 dX3_block_90 hl (k := 0) rfl (nI_add i 1) (by decide) rfl (fun ls hl => ?_)
              refine lv_goto (tgt := 70) S.1 S.2.1 dX3_block_93 (by decide) ?_
              exact ih (i + 1) _ (by omega) (st_non hg hlt) _ _ hw _ hl
        exact lp70 3 0 _ (by omega) (st_12 hg) _ _ hw _ hl
      · rw [nI_leI (by omega) (by omega)] at c37
        exfalso; omega
    | succ n0 ih =>
      intro i g hn0 hg H locs hw ls hl
      have hlt : i < 8 := by omega
      refine lv_iload_n S.1 S.2.1 dX3_block_34 rfl (lv_at hl 0 rfl) ?_
      refine lv_bipush (v := nI 8) S.1 S.2.1 dX3_block_35 (by decide) ?_
      refine lv_icmp_ge (tgt := 60) S.1 S.2.1 dX3_block_37 (by decide) (fun c37 => ?_) (fun c37 => ?_)
      · rw [nI_leI (by omega) (by omega)] at c37
        exfalso; omega
      · rw [nI_leI (by omega) (by omega)] at c37
        refine lv_aload_n S.1 S.2.1 dX3_block_40 rfl (lv_at hl 1 rfl) ?_
        refine mg S hK hw 0 rfl rfl hiX3 12 (by decide) (List.mem_of_getElem? (i := 1) rfl) rfl dX3_block_41 ?_
        refine lv_iconst (v := nI 4) S.1 S.2.1 dX3_block_44 (by decide) ?_
        refine lv_iload_n S.1 S.2.1 dX3_block_45 rfl (lv_at hl 0 rfl) ?_
        refine lv_iadd S.1 S.2.1 dX3_block_46 ?_
        refine te (nI_add _ _) ?_
        refine lv_aload_n S.1 S.2.1 dX3_block_47 rfl (lv_at hl 1 rfl) ?_
        refine mg S hK hw 0 rfl rfl hiX3 2 (by decide) (List.mem_of_getElem? (i := 6) rfl) rfl dX3_block_48 ?_
        refine lv_iload_n S.1 S.2.1 dX3_block_51 rfl (lv_at hl 0 rfl) ?_
        refine ag S hK hw 1 rfl i rfl (by omega) (by decide) dX3_block_52 ?_
        refine ap S hK hw 7 rfl (4 + i) rfl (by omega) (by decide) dX3_block_53 (fun H locs hw => ?_)
        have hw : Wd D A s.heap H locs (wX3 o cA cd cap ph op nn mm fk fn fs fc fd fe (upd g (4 + i) (fk i)) fw fh ff fp fg fr fx) := hw
        refine lv_iinc (v := nI (i + 1)) (lv' := [(2, .int (nI (i + 1))), (0, .ref (o 0)), (1, .int v)]) S.1 S.2.1 dX3_block_54 hl (k := 0) rfl (nI_add i 1) (by decide) rfl (fun ls hl => ?_)
        refine lv_goto (tgt := 34) S.1 S.2.1 dX3_block_57 (by decide) ?_
        exact ih (i + 1) _ (by omega) (st_key hg hlt) _ _ hw _ hl
  exact lp34 8 0 _ (by omega) (st_init fk fn v ft) _ _ hw _ hl

set_option maxHeartbeats 4000000 in
set_option maxRecDepth 100000 in
theorem kX3_byteOf (l : Launch) (D : va_G) (cA : ClassId) (o : Nat → Nat) (cd cap ph op nn mm : Int32) (fk fn fs fc fd fe ft fw fh ff fp fg fr fx : Nat → Int32) (i : Nat) (hi : i < 64) : CI l D cA yX3_byteOf wsX3_byteOf { frames := 0, cells := 0, slots := 0, locals := 0 } [.ref (o 0), .int (nI i)] (wX3 o cA cd cap ph op nn mm fk fn fs fc fd fe ft fw fh ff fp fg fr fx) (fun r _ => r = nI (bbn fw i)) (fun _ : Unit => wX3 o cA cd cap ph op nn mm fk fn fs fc fd fe ft fw fh ff fp fg fr fx) := by
  refine ci_of (by decide) rfl (Nat.le_of_ble_eq_true rfl) ?_
  intro p e s m below meth c ls A ar Q S hK hw hA hr hlk hl hQ
  have hl : lv_has ls 2 [(0, .ref (o 0)), (1, .int (nI i))] := hl
  have hiX3 : ∀ w ∈ wsX30, w ∈ wsX3_byteOf := fun _ h => List.mem_cons_of_mem _ (List.mem_append_right _ h)
  refine lv_aload_n S.1 S.2.1 dX3_byteOf_0 rfl (lv_at hl 0 rfl) ?_
  refine mg S hK hw 0 rfl rfl hiX3 13 (by decide) (List.mem_of_getElem? (i := 1) rfl) rfl dX3_byteOf_1 ?_
  refine lv_iload_n S.1 S.2.1 dX3_byteOf_4 rfl (lv_at hl 1 rfl) ?_
  refine lv_iconst (v := nI 4) S.1 S.2.1 dX3_byteOf_5 (by decide) ?_
  refine lv_idiv S.1 S.2.1 dX3_byteOf_6 (by decide) ?_
  refine te (pk_div (by omega) (by decide) (by decide)) ?_
  refine ag S hK hw 8 rfl (i / 4) rfl (by omega) (by decide) dX3_byteOf_7 ?_
  refine lv_bipush (v := nI 8) S.1 S.2.1 dX3_byteOf_8 (by decide) ?_
  refine lv_iload_n S.1 S.2.1 dX3_byteOf_10 rfl (lv_at hl 1 rfl) ?_
  refine lv_iconst (v := nI 4) S.1 S.2.1 dX3_byteOf_11 (by decide) ?_
  refine lv_irem S.1 S.2.1 dX3_byteOf_12 (by decide) ?_
  refine te (pk_rem (by omega) (by decide) (by decide)) ?_
  refine lv_imul S.1 S.2.1 dX3_byteOf_13 ?_
  refine te (pk_mul _ _) ?_
  refine lv_iushr S.1 S.2.1 dX3_byteOf_14 rfl ?_
  refine lv_sipush (v := nI 255) S.1 S.2.1 dX3_byteOf_15 (by decide) ?_
  refine lv_iand S.1 S.2.1 dX3_byteOf_18 ?_
  exact ci_ret S hr hlk hQ hw rfl () rfl (BB_n fw i) dX3_byteOf_19

set_option maxHeartbeats 4000000 in
set_option maxRecDepth 100000 in
theorem kX3_carry (l : Launch) (D : va_G) (cA : ClassId) (o : Nat → Nat) (cd cap ph op nn mm : Int32) (fk fn fs fc fd fe ft fw ff fp fg fr fx : Nat → Int32) (z : Nat → Int) (V : Nat) (hz : ∀ j, j < 40 → -2 ^ 30 ≤ z j ∧ z j ≤ 2 ^ 30) (hV : vI 40 z = (V : Int)) : CV l D cA yX3_carry wsX3_carry { frames := 0, cells := 0, slots := 0, locals := 0 } [.ref (o 0)] (wX3 o cA cd cap ph op nn mm fk fn fs fc fd fe ft fw (fun j => iZ (z j)) ff fp fg fr fx) (fun _ => True) (fun _ : Unit => wX3 o cA cd cap ph op nn mm fk fn fs fc fd fe ft fw (fun j => nI (dg V j)) ff fp fg fr fx) := by
  refine cv_of (by decide) rfl (Nat.le_of_ble_eq_true rfl) ?_
  intro p e s m below meth c ls A ar Q S hK hw hA hr hlk hl hQ
  have hl : lv_has ls 3 [(0, .ref (o 0))] := hl
  have hiX3 : ∀ w ∈ wsX30, w ∈ wsX3_carry := fun _ h => List.mem_cons_of_mem _ (List.mem_append_right _ h)
  refine lv_iconst (v := nI 0) S.1 S.2.1 dX3_carry_0 (by decide) ?_
  refine te (y := iZ (ci z 0)) (by rw [ci_0]; rfl) ?_
  refine lv_istore_n (lv' := [(1, .int (iZ (ci z 0))), (0, .ref (o 0))]) S.1 S.2.1 dX3_carry_1 rfl hl (by decide) rfl (fun ls hl => ?_)
  refine lv_iconst (v := nI 0) S.1 S.2.1 dX3_carry_2 (by decide) ?_
  refine lv_istore_n (lv' := [(2, .int (nI 0)), (1, .int (iZ (ci z 0))), (0, .ref (o 0))]) S.1 S.2.1 dX3_carry_3 rfl hl (by decide) rfl (fun ls hl => ?_)
  have lp4 : ∀ (n0 i : Nat), i + n0 = 40 → ∀ (H : Heap) (locs : List Loc), Wd D A s.heap H locs (wX3 o cA cd cap ph op nn mm fk fn fs fc fd fe ft fw (mixf i (fun j => nI (dg V j)) (fun j => iZ (z j))) ff fp fg fr fx) → ∀ ls : Array Slot, lv_has ls 3 [(2, .int (nI i)), (1, .int (iZ (ci z i))), (0, .ref (o 0))] → W p l e { frames := 0, cells := 0, slots := 0, locals := 0 } s m ar below meth c H locs 0 0 Q (F0 m 4 ls []) := by
    intro n0
    induction n0 with
    | zero =>
      intro i hn0 H locs hw ls hl
      have hn0 : i = 40 := by omega
      subst hn0
      have hw := hw.cong 9 (g := fun j => nI (dg V j)) rfl (fun j hj => mixf_n hj)
      have hw : Wd D A s.heap H locs (wX3 o cA cd cap ph op nn mm fk fn fs fc fd fe ft fw (fun j => nI (dg V j)) ff fp fg fr fx) := hw
      refine lv_iload_n S.1 S.2.1 dX3_carry_4 rfl (lv_at hl 0 rfl) ?_
      refine lv_bipush (v := nI 40) S.1 S.2.1 dX3_carry_5 (by decide) ?_
      refine lv_icmp_ge (tgt := 41) S.1 S.2.1 dX3_carry_7 (by decide) (fun c7 => ?_) (fun c7 => ?_)
      · rw [nI_leI (by omega) (by omega)] at c7
        exact cv_ret S hr hlk hQ hw () rfl trivial dX3_carry_41
      · rw [nI_leI (by omega) (by omega)] at c7
        exfalso; omega
    | succ n0 ih =>
      intro i hn0 H locs hw ls hl
      have hlt : i < 40 := by omega
      have hc1 := ci_le hz i (by omega)
      have hz1 := hz i hlt
      refine lv_iload_n S.1 S.2.1 dX3_carry_4 rfl (lv_at hl 0 rfl) ?_
      refine lv_bipush (v := nI 40) S.1 S.2.1 dX3_carry_5 (by decide) ?_
      refine lv_icmp_ge (tgt := 41) S.1 S.2.1 dX3_carry_7 (by decide) (fun c7 => ?_) (fun c7 => ?_)
      · rw [nI_leI (by omega) (by omega)] at c7
        exfalso; omega
      · rw [nI_leI (by omega) (by omega)] at c7
        refine lv_iload_n S.1 S.2.1 dX3_carry_10 rfl (lv_at hl 1 rfl) ?_
        refine lv_aload_n S.1 S.2.1 dX3_carry_11 rfl (lv_at hl 2 rfl) ?_
        refine mg S hK hw 0 rfl rfl hiX3 14 (by decide) (List.mem_of_getElem? (i := 1) rfl) rfl dX3_carry_12 ?_
        refine lv_iload_n S.1 S.2.1 dX3_carry_15 rfl (lv_at hl 0 rfl) ?_
        refine ag S hK hw 9 rfl i rfl (by omega) (by decide) dX3_carry_16 ?_
        refine te (y := iZ (z i)) (mixf_at _ _ _) ?_
        refine lv_iadd S.1 S.2.1 dX3_carry_17 ?_
        refine te (y := iZ (ci z i + z i)) (iZ_add _ _) ?_
        refine lv_istore_n (lv' := [(1, .int (iZ (ci z i + z i))), (2, .int (nI i)), (0, .ref (o 0))]) S.1 S.2.1 dX3_carry_18 rfl hl (by decide) rfl (fun ls hl => ?_)
        refine lv_aload_n S.1 S.2.1 dX3_carry_19 rfl (lv_at hl 2 rfl) ?_
        refine mg S hK hw 0 rfl rfl hiX3 14 (by decide) (List.mem_of_getElem? (i := 1) rfl) rfl dX3_carry_20 ?_
        refine lv_iload_n S.1 S.2.1 dX3_carry_23 rfl (lv_at hl 1 rfl) ?_
        refine lv_iload_n S.1 S.2.1 dX3_carry_24 rfl (lv_at hl 0 rfl) ?_
        refine lv_sipush (v := nI 255) S.1 S.2.1 dX3_carry_25 (by decide) ?_
        refine lv_iand S.1 S.2.1 dX3_carry_28 ?_
        refine te (y := nI ((ci z i + z i) % 256).toNat) (iZ_and _) ?_
        refine ap S hK hw 9 rfl i rfl (by omega) (by decide) dX3_carry_29 (fun H locs hw => ?_)
        have hw : Wd D A s.heap H locs (wX3 o cA cd cap ph op nn mm fk fn fs fc fd fe ft fw (upd (mixf i (fun j => nI (dg V j)) (fun j => iZ (z j))) i (nI ((ci z i + z i) % 256).toNat)) ff fp fg fr fx) := hw
        have hw := hw.cong 9 (g := mixf (i + 1) (fun j => nI (dg V j)) (fun j => iZ (z j))) rfl (fun j _ => mixf_put (by exact (congrArg nI (ci_dig hV hlt))) j)
        have hw : Wd D A s.heap H locs (wX3 o cA cd cap ph op nn mm fk fn fs fc fd fe ft fw (mixf (i + 1) (fun j => nI (dg V j)) (fun j => iZ (z j))) ff fp fg fr fx) := hw
        refine lv_iload_n S.1 S.2.1 dX3_carry_30 rfl (lv_at hl 0 rfl) ?_
        refine lv_bipush (v := nI 8) S.1 S.2.1 dX3_carry_31 (by decide) ?_
        refine lv_ishr S.1 S.2.1 dX3_carry_33 ?_
        refine te (y := iZ (ci z (i + 1))) (by rw [ci_succ]; exact iZ_shr (by omega) (by omega)) ?_
        refine lv_istore_n (lv' := [(1, .int (iZ (ci z (i + 1)))), (2, .int (nI i)), (0, .ref (o 0))]) S.1 S.2.1 dX3_carry_34 rfl hl (by decide) rfl (fun ls hl => ?_)
        refine lv_iinc (v := nI (i + 1)) (lv' := [(2, .int (nI (i + 1))), (1, .int (iZ (ci z (i + 1)))), (0, .ref (o 0))]) S.1 S.2.1 dX3_carry_35 hl (k := 1) rfl (nI_add i 1) (by decide) rfl (fun ls hl => ?_)
        refine lv_goto (tgt := 4) S.1 S.2.1 dX3_carry_38 (by decide) ?_
        exact ih (i + 1)  (by omega)  _ _ hw _ hl
  have hw := hw.cong 9 (g := mixf 0 (fun j => nI (dg V j)) (fun j => iZ (z j))) rfl (fun j _ => mixf_0 (fun j => nI (dg V j)) (fun j => iZ (z j)) j)
  exact lp4 40 0  (by omega)  _ _ hw _ hl

theorem kX3_carryN (l : Launch) (D : va_G) (cA : ClassId) (o : Nat → Nat) (cd cap ph op nn mm : Int32) (fk fn fs fc fd fe ft fw ff fp fg fr fx : Nat → Int32) (x : Nat → Nat) (hx : ∀ j, j < 40 → x j ≤ 2 ^ 30) : CV l D cA yX3_carry wsX3_carry { frames := 0, cells := 0, slots := 0, locals := 0 } [.ref (o 0)] (wX3 o cA cd cap ph op nn mm fk fn fs fc fd fe ft fw (fun j => nI (x j)) ff fp fg fr fx) (fun _ => True) (fun _ : Unit => wX3 o cA cd cap ph op nn mm fk fn fs fc fd fe ft fw (fun j => nI (dg (vl 40 x) j)) ff fp fg fr fx) := by
  rw [show (fun j => nI (x j)) = (fun j => iZ ((x j : Nat) : Int)) from funext (fun j => iZ_n _)]
  exact kX3_carry l D cA o cd cap ph op nn mm fk fn fs fc fd fe ft fw ff fp fg fr fx (fun j => ((x j : Nat) : Int)) (vl 40 x) (fun j hj => by have := hx j hj; omega) (vI_n 40 x)

set_option maxHeartbeats 4000000 in
set_option maxRecDepth 100000 in
theorem kX3_isAbove (l : Launch) (D : va_G) (cA : ClassId) (o : Nat → Nat) (cd cap ph op nn mm : Int32) (fk fn fs fc fd fe ft fw ff fp fg fr fx : Nat → Int32) (V : Nat) (hV : V < 256 ^ 40) : CI l D cA yX3_isAbove wsX3_isAbove { frames := 0, cells := 0, slots := 0, locals := 0 } [.ref (o 0)] (wX3 o cA cd cap ph op nn mm fk fn fs fc fd fe ft fw (fun j => nI (dg V j)) ff fp fg fr fx) (fun r _ => r = nI (if 2 ^ 130 ≤ V then 1 else 0)) (fun _ : Unit => wX3 o cA cd cap ph op nn mm fk fn fs fc fd fe ft fw (fun j => nI (dg V j)) ff fp fg fr fx) := by
  have hd16 := dg_lt V 16
  refine ci_of (by decide) rfl (Nat.le_of_ble_eq_true rfl) ?_
  intro p e s m below meth c ls A ar Q S hK hw hA hr hlk hl hQ
  have hl : lv_has ls 3 [(0, .ref (o 0))] := hl
  have hiX3 : ∀ w ∈ wsX30, w ∈ wsX3_isAbove := fun _ h => List.mem_cons_of_mem _ (List.mem_append_right _ h)
  refine lv_aload_n S.1 S.2.1 dX3_isAbove_0 rfl (lv_at hl 0 rfl) ?_
  refine mg S hK hw 0 rfl rfl hiX3 14 (by decide) (List.mem_of_getElem? (i := 1) rfl) rfl dX3_isAbove_1 ?_
  refine lv_bipush (v := nI 16) S.1 S.2.1 dX3_isAbove_4 (by decide) ?_
  refine ag S hK hw 9 rfl 16 rfl (by omega) (by decide) dX3_isAbove_6 ?_
  refine te (y := nI ((dg V) 16)) rfl ?_
  refine lv_iconst (v := nI 3) S.1 S.2.1 dX3_isAbove_7 (by decide) ?_
  refine lv_icmp_le (tgt := 15) S.1 S.2.1 dX3_isAbove_8 (by decide) (fun c8 => ?_) (fun c8 => ?_)
  · rw [nI_leI (by omega) (by omega)] at c8
    refine lv_iconst (v := nI 0) S.1 S.2.1 dX3_isAbove_15 (by decide) ?_
    refine te (y := nI (if 2 ^ 130 ≤ V % 256 ^ (17 + 0) then 1 else 0)) (by first | exact one_if ((ab_17 V).mpr (by omega)) | exact zero_if (fun q => by have := (ab_17 V).mp q; omega)) ?_
    refine lv_istore_n (lv' := [(1, .int (nI (if 2 ^ 130 ≤ V % 256 ^ (17 + 0) then 1 else 0))), (0, .ref (o 0))]) S.1 S.2.1 dX3_isAbove_16 rfl hl (by decide) rfl (fun ls hl => ?_)
    refine lv_bipush (v := nI 17) S.1 S.2.1 dX3_isAbove_17 (by decide) ?_
    refine lv_istore_n (lv' := [(2, .int (nI 17)), (1, .int (nI (if 2 ^ 130 ≤ V % 256 ^ (17 + 0) then 1 else 0))), (0, .ref (o 0))]) S.1 S.2.1 dX3_isAbove_19 rfl hl (by decide) rfl (fun ls hl => ?_)
    have lp20 : ∀ (n0 t : Nat), t + n0 = 23 → ∀ (H : Heap) (locs : List Loc), Wd D A s.heap H locs (wX3 o cA cd cap ph op nn mm fk fn fs fc fd fe ft fw (fun j => nI (dg V j)) ff fp fg fr fx) → ∀ ls : Array Slot, lv_has ls 3 [(2, .int (nI (17 + t))), (1, .int (nI (if 2 ^ 130 ≤ V % 256 ^ (17 + t) then 1 else 0))), (0, .ref (o 0))] → W p l e { frames := 0, cells := 0, slots := 0, locals := 0 } s m ar below meth c H locs 0 0 Q (F0 m 20 ls []) := by
      intro n0
      induction n0 with
      | zero =>
        intro t hn0 H locs hw ls hl
        have hn0 : t = 23 := by omega
        subst hn0
        refine lv_iload_n S.1 S.2.1 dX3_isAbove_20 rfl (lv_at hl 0 rfl) ?_
        refine lv_bipush (v := nI 40) S.1 S.2.1 dX3_isAbove_21 (by decide) ?_
        refine lv_icmp_ge (tgt := 51) S.1 S.2.1 dX3_isAbove_23 (by decide) (fun c23 => ?_) (fun c23 => ?_)
        · rw [nI_leI (by omega) (by omega)] at c23
          refine lv_iload_n S.1 S.2.1 dX3_isAbove_51 rfl (lv_at hl 1 rfl) ?_
          exact ci_ret S hr hlk hQ hw nar01 () rfl (by rw [show 17 + 23 = 40 from rfl, Nat.mod_eq_of_lt hV]) dX3_isAbove_52
        · rw [nI_leI (by omega) (by omega)] at c23
          exfalso; omega
      | succ n0 ih =>
        intro t hn0 H locs hw ls hl
        have hlt : t < 23 := by omega
        have hd1 := dg_lt V (17 + t)
        refine lv_iload_n S.1 S.2.1 dX3_isAbove_20 rfl (lv_at hl 0 rfl) ?_
        refine lv_bipush (v := nI 40) S.1 S.2.1 dX3_isAbove_21 (by decide) ?_
        refine lv_icmp_ge (tgt := 51) S.1 S.2.1 dX3_isAbove_23 (by decide) (fun c23 => ?_) (fun c23 => ?_)
        · rw [nI_leI (by omega) (by omega)] at c23
          exfalso; omega
        · rw [nI_leI (by omega) (by omega)] at c23
          refine lv_iload_n S.1 S.2.1 dX3_isAbove_26 rfl (lv_at hl 1 rfl) ?_
          refine lv_if_ne (tgt := 39) S.1 S.2.1 dX3_isAbove_27 (by decide) (fun c27 => ?_) (fun c27 => ?_)
          · skip
            refine lv_iconst (v := nI 1) S.1 S.2.1 dX3_isAbove_39 (by decide) ?_
            refine lv_goto (tgt := 44) S.1 S.2.1 dX3_isAbove_40 (by decide) ?_
            refine te (y := nI (if 2 ^ 130 ≤ V % 256 ^ (17 + (t + 1)) then 1 else 0)) (by first | exact one_if ((abt V t).mpr (Or.inl (ifone_1 c27))) | exact one_if ((abt V t).mpr (Or.inr (by omega))) | exact zero_if (abt_0 (ifone_0 (by simpa using c27)) (by omega))) ?_
            refine lv_istore_n (lv' := [(1, .int (nI (if 2 ^ 130 ≤ V % 256 ^ (17 + (t + 1)) then 1 else 0))), (2, .int (nI (17 + t))), (0, .ref (o 0))]) S.1 S.2.1 dX3_isAbove_44 rfl hl (by decide) rfl (fun ls hl => ?_)
            refine lv_iinc (v := nI ((17 + t) + 1)) (lv' := [(2, .int (nI ((17 + t) + 1))), (1, .int (nI (if 2 ^ 130 ≤ V % 256 ^ (17 + (t + 1)) then 1 else 0))), (0, .ref (o 0))]) S.1 S.2.1 dX3_isAbove_45 hl (k := 1) rfl (nI_add (17 + t) 1) (by decide) rfl (fun ls hl => ?_)
            refine lv_goto (tgt := 20) S.1 S.2.1 dX3_isAbove_48 (by decide) ?_
            exact ih (t + 1)  (by omega)  _ _ hw _ hl
          · skip
            refine lv_aload_n S.1 S.2.1 dX3_isAbove_30 rfl (lv_at hl 2 rfl) ?_
            refine mg S hK hw 0 rfl rfl hiX3 14 (by decide) (List.mem_of_getElem? (i := 1) rfl) rfl dX3_isAbove_31 ?_
            refine lv_iload_n S.1 S.2.1 dX3_isAbove_34 rfl (lv_at hl 0 rfl) ?_
            refine ag S hK hw 9 rfl (17 + t) rfl (by omega) (by decide) dX3_isAbove_35 ?_
            refine te (y := nI ((dg V) (17 + t))) rfl ?_
            refine lv_if_le (tgt := 43) S.1 S.2.1 dX3_isAbove_36 (by decide) (fun c36 => ?_) (fun c36 => ?_)
            · rw [← nI_0, nI_leI (by omega) (by omega)] at c36
              refine lv_iconst (v := nI 0) S.1 S.2.1 dX3_isAbove_43 (by decide) ?_
              refine te (y := nI (if 2 ^ 130 ≤ V % 256 ^ (17 + (t + 1)) then 1 else 0)) (by first | exact one_if ((abt V t).mpr (Or.inl (ifone_1 c27))) | exact one_if ((abt V t).mpr (Or.inr (by omega))) | exact zero_if (abt_0 (ifone_0 (by simpa using c27)) (by omega))) ?_
              refine lv_istore_n (lv' := [(1, .int (nI (if 2 ^ 130 ≤ V % 256 ^ (17 + (t + 1)) then 1 else 0))), (2, .int (nI (17 + t))), (0, .ref (o 0))]) S.1 S.2.1 dX3_isAbove_44 rfl hl (by decide) rfl (fun ls hl => ?_)
              refine lv_iinc (v := nI ((17 + t) + 1)) (lv' := [(2, .int (nI ((17 + t) + 1))), (1, .int (nI (if 2 ^ 130 ≤ V % 256 ^ (17 + (t + 1)) then 1 else 0))), (0, .ref (o 0))]) S.1 S.2.1 dX3_isAbove_45 hl (k := 1) rfl (nI_add (17 + t) 1) (by decide) rfl (fun ls hl => ?_)
              refine lv_goto (tgt := 20) S.1 S.2.1 dX3_isAbove_48 (by decide) ?_
              exact ih (t + 1)  (by omega)  _ _ hw _ hl
            · rw [← nI_0, nI_leI (by omega) (by omega)] at c36
              refine lv_iconst (v := nI 1) S.1 S.2.1 dX3_isAbove_39 (by decide) ?_
              refine lv_goto (tgt := 44) S.1 S.2.1 dX3_isAbove_40 (by decide) ?_
              refine te (y := nI (if 2 ^ 130 ≤ V % 256 ^ (17 + (t + 1)) then 1 else 0)) (by first | exact one_if ((abt V t).mpr (Or.inl (ifone_1 c27))) | exact one_if ((abt V t).mpr (Or.inr (by omega))) | exact zero_if (abt_0 (ifone_0 (by simpa using c27)) (by omega))) ?_
              refine lv_istore_n (lv' := [(1, .int (nI (if 2 ^ 130 ≤ V % 256 ^ (17 + (t + 1)) then 1 else 0))), (2, .int (nI (17 + t))), (0, .ref (o 0))]) S.1 S.2.1 dX3_isAbove_44 rfl hl (by decide) rfl (fun ls hl => ?_)
              refine lv_iinc (v := nI ((17 + t) + 1)) (lv' := [(2, .int (nI ((17 + t) + 1))), (1, .int (nI (if 2 ^ 130 ≤ V % 256 ^ (17 + (t + 1)) then 1 else 0))), (0, .ref (o 0))]) S.1 S.2.1 dX3_isAbove_45 hl (k := 1) rfl (nI_add (17 + t) 1) (by decide) rfl (fun ls hl => ?_)
              refine lv_goto (tgt := 20) S.1 S.2.1 dX3_isAbove_48 (by decide) ?_
              exact ih (t + 1)  (by omega)  _ _ hw _ hl
    exact lp20 23 0  (by omega)  _ _ hw _ hl
  · rw [nI_leI (by omega) (by omega)] at c8
    refine lv_iconst (v := nI 1) S.1 S.2.1 dX3_isAbove_11 (by decide) ?_
    refine lv_goto (tgt := 16) S.1 S.2.1 dX3_isAbove_12 (by decide) ?_
    refine te (y := nI (if 2 ^ 130 ≤ V % 256 ^ (17 + 0) then 1 else 0)) (by first | exact one_if ((ab_17 V).mpr (by omega)) | exact zero_if (fun q => by have := (ab_17 V).mp q; omega)) ?_
    refine lv_istore_n (lv' := [(1, .int (nI (if 2 ^ 130 ≤ V % 256 ^ (17 + 0) then 1 else 0))), (0, .ref (o 0))]) S.1 S.2.1 dX3_isAbove_16 rfl hl (by decide) rfl (fun ls hl => ?_)
    refine lv_bipush (v := nI 17) S.1 S.2.1 dX3_isAbove_17 (by decide) ?_
    refine lv_istore_n (lv' := [(2, .int (nI 17)), (1, .int (nI (if 2 ^ 130 ≤ V % 256 ^ (17 + 0) then 1 else 0))), (0, .ref (o 0))]) S.1 S.2.1 dX3_isAbove_19 rfl hl (by decide) rfl (fun ls hl => ?_)
    have lp20 : ∀ (n0 t : Nat), t + n0 = 23 → ∀ (H : Heap) (locs : List Loc), Wd D A s.heap H locs (wX3 o cA cd cap ph op nn mm fk fn fs fc fd fe ft fw (fun j => nI (dg V j)) ff fp fg fr fx) → ∀ ls : Array Slot, lv_has ls 3 [(2, .int (nI (17 + t))), (1, .int (nI (if 2 ^ 130 ≤ V % 256 ^ (17 + t) then 1 else 0))), (0, .ref (o 0))] → W p l e { frames := 0, cells := 0, slots := 0, locals := 0 } s m ar below meth c H locs 0 0 Q (F0 m 20 ls []) := by
      intro n0
      induction n0 with
      | zero =>
        intro t hn0 H locs hw ls hl
        have hn0 : t = 23 := by omega
        subst hn0
        refine lv_iload_n S.1 S.2.1 dX3_isAbove_20 rfl (lv_at hl 0 rfl) ?_
        refine lv_bipush (v := nI 40) S.1 S.2.1 dX3_isAbove_21 (by decide) ?_
        refine lv_icmp_ge (tgt := 51) S.1 S.2.1 dX3_isAbove_23 (by decide) (fun c23 => ?_) (fun c23 => ?_)
        · rw [nI_leI (by omega) (by omega)] at c23
          refine lv_iload_n S.1 S.2.1 dX3_isAbove_51 rfl (lv_at hl 1 rfl) ?_
          exact ci_ret S hr hlk hQ hw nar01 () rfl (by rw [show 17 + 23 = 40 from rfl, Nat.mod_eq_of_lt hV]) dX3_isAbove_52
        · rw [nI_leI (by omega) (by omega)] at c23
          exfalso; omega
      | succ n0 ih =>
        intro t hn0 H locs hw ls hl
        have hlt : t < 23 := by omega
        have hd1 := dg_lt V (17 + t)
        refine lv_iload_n S.1 S.2.1 dX3_isAbove_20 rfl (lv_at hl 0 rfl) ?_
        refine lv_bipush (v := nI 40) S.1 S.2.1 dX3_isAbove_21 (by decide) ?_
        refine lv_icmp_ge (tgt := 51) S.1 S.2.1 dX3_isAbove_23 (by decide) (fun c23 => ?_) (fun c23 => ?_)
        · rw [nI_leI (by omega) (by omega)] at c23
          exfalso; omega
        · rw [nI_leI (by omega) (by omega)] at c23
          refine lv_iload_n S.1 S.2.1 dX3_isAbove_26 rfl (lv_at hl 1 rfl) ?_
          refine lv_if_ne (tgt := 39) S.1 S.2.1 dX3_isAbove_27 (by decide) (fun c27 => ?_) (fun c27 => ?_)
          · skip
            refine lv_iconst (v := nI 1) S.1 S.2.1 dX3_isAbove_39 (by decide) ?_
            refine lv_goto (tgt := 44) S.1 S.2.1 dX3_isAbove_40 (by decide) ?_
            refine te (y := nI (if 2 ^ 130 ≤ V % 256 ^ (17 + (t + 1)) then 1 else 0)) (by first | exact one_if ((abt V t).mpr (Or.inl (ifone_1 c27))) | exact one_if ((abt V t).mpr (Or.inr (by omega))) | exact zero_if (abt_0 (ifone_0 (by simpa using c27)) (by omega))) ?_
            refine lv_istore_n (lv' := [(1, .int (nI (if 2 ^ 130 ≤ V % 256 ^ (17 + (t + 1)) then 1 else 0))), (2, .int (nI (17 + t))), (0, .ref (o 0))]) S.1 S.2.1 dX3_isAbove_44 rfl hl (by decide) rfl (fun ls hl => ?_)
            refine lv_iinc (v := nI ((17 + t) + 1)) (lv' := [(2, .int (nI ((17 + t) + 1))), (1, .int (nI (if 2 ^ 130 ≤ V % 256 ^ (17 + (t + 1)) then 1 else 0))), (0, .ref (o 0))]) S.1 S.2.1 dX3_isAbove_45 hl (k := 1) rfl (nI_add (17 + t) 1) (by decide) rfl (fun ls hl => ?_)
            refine lv_goto (tgt := 20) S.1 S.2.1 dX3_isAbove_48 (by decide) ?_
            exact ih (t + 1)  (by omega)  _ _ hw _ hl
          · skip
            refine lv_aload_n S.1 S.2.1 dX3_isAbove_30 rfl (lv_at hl 2 rfl) ?_
            refine mg S hK hw 0 rfl rfl hiX3 14 (by decide) (List.mem_of_getElem? (i := 1) rfl) rfl dX3_isAbove_31 ?_
            refine lv_iload_n S.1 S.2.1 dX3_isAbove_34 rfl (lv_at hl 0 rfl) ?_
            refine ag S hK hw 9 rfl (17 + t) rfl (by omega) (by decide) dX3_isAbove_35 ?_
            refine te (y := nI ((dg V) (17 + t))) rfl ?_
            refine lv_if_le (tgt := 43) S.1 S.2.1 dX3_isAbove_36 (by decide) (fun c36 => ?_) (fun c36 => ?_)
            · rw [← nI_0, nI_leI (by omega) (by omega)] at c36
              refine lv_iconst (v := nI 0) S.1 S.2.1 dX3_isAbove_43 (by decide) ?_
              refine te (y := nI (if 2 ^ 130 ≤ V % 256 ^ (17 + (t + 1)) then 1 else 0)) (by first | exact one_if ((abt V t).mpr (Or.inl (ifone_1 c27))) | exact one_if ((abt V t).mpr (Or.inr (by omega))) | exact zero_if (abt_0 (ifone_0 (by simpa using c27)) (by omega))) ?_
              refine lv_istore_n (lv' := [(1, .int (nI (if 2 ^ 130 ≤ V % 256 ^ (17 + (t + 1)) then 1 else 0))), (2, .int (nI (17 + t))), (0, .ref (o 0))]) S.1 S.2.1 dX3_isAbove_44 rfl hl (by decide) rfl (fun ls hl => ?_)
              refine lv_iinc (v := nI ((17 + t) + 1)) (lv' := [(2, .int (nI ((17 + t) + 1))), (1, .int (nI (if 2 ^ 130 ≤ V % 256 ^ (17 + (t + 1)) then 1 else 0))), (0, .ref (o 0))]) S.1 S.2.1 dX3_isAbove_45 hl (k := 1) rfl (nI_add (17 + t) 1) (by decide) rfl (fun ls hl => ?_)
              refine lv_goto (tgt := 20) S.1 S.2.1 dX3_isAbove_48 (by decide) ?_
              exact ih (t + 1)  (by omega)  _ _ hw _ hl
            · rw [← nI_0, nI_leI (by omega) (by omega)] at c36
              refine lv_iconst (v := nI 1) S.1 S.2.1 dX3_isAbove_39 (by decide) ?_
              refine lv_goto (tgt := 44) S.1 S.2.1 dX3_isAbove_40 (by decide) ?_
              refine te (y := nI (if 2 ^ 130 ≤ V % 256 ^ (17 + (t + 1)) then 1 else 0)) (by first | exact one_if ((abt V t).mpr (Or.inl (ifone_1 c27))) | exact one_if ((abt V t).mpr (Or.inr (by omega))) | exact zero_if (abt_0 (ifone_0 (by simpa using c27)) (by omega))) ?_
              refine lv_istore_n (lv' := [(1, .int (nI (if 2 ^ 130 ≤ V % 256 ^ (17 + (t + 1)) then 1 else 0))), (2, .int (nI (17 + t))), (0, .ref (o 0))]) S.1 S.2.1 dX3_isAbove_44 rfl hl (by decide) rfl (fun ls hl => ?_)
              refine lv_iinc (v := nI ((17 + t) + 1)) (lv' := [(2, .int (nI ((17 + t) + 1))), (1, .int (nI (if 2 ^ 130 ≤ V % 256 ^ (17 + (t + 1)) then 1 else 0))), (0, .ref (o 0))]) S.1 S.2.1 dX3_isAbove_45 hl (k := 1) rfl (nI_add (17 + t) 1) (by decide) rfl (fun ls hl => ?_)
              refine lv_goto (tgt := 20) S.1 S.2.1 dX3_isAbove_48 (by decide) ?_
              exact ih (t + 1)  (by omega)  _ _ hw _ hl
    exact lp20 23 0  (by omega)  _ _ hw _ hl
