/-! the relation between the box and the reference, and what each call does to it -/
def Rl (p0 op0 n m0 cap0 : Nat) (a b t x : Nat → Nat) (fk fn fi fb ff fa fh ft : Nat → Int32) (tk : Int32) : Prop :=
  (p0 ≤ 4 ∧ op0 ≤ 1 ∧ n ≤ 1000 ∧ m0 ≤ cap0 ∧ cap0 ≤ 400) ∧ ((∀ j, a j < 256) ∧ (∀ j, b j < 256) ∧ (∀ j, t j < 256) ∧ ∀ j, x j < 256) ∧ inE fi fk fn ∧ ff 16 = nI 0 ∧
  ((p0 = 1 ∨ p0 = 2) → ∃ (B0 : Nat → Int32) (T : TS), E16 B0 (CB fk fn (nI 0)) ∧ ff = (fun j => nI (rF B0 j)) ∧ fa = (fun j => nI (sB B0 j)) ∧ fh = hF T ∧ tk = nI T.2.2 ∧ okT T ∧
    (p0 = 1 → m0 = 0 ∧ relC (vl 16 (rF B0)) a n 0 T) ∧ (p0 = 2 → relC (vl 16 (rF B0)) (dD op0 b t) m0 (pol (vl 16 (rF B0)) a n 0 ((n + 15) / 16)) T ∧ (¬ m0 % 64 = 0 → E16 fb (CB fk fn (nI (1 + m0 / 64)))))) ∧
  (p0 = 3 → ft = fun j => nI (TG (CB fk fn (nI 0)) a n (dD op0 b t) m0 j))
theorem updN_b {f : Nat → Nat} (h : ∀ j, f j < 256) (k : Nat) {v : Nat} (hv : v < 256) : ∀ j, updN f k v j < 256 := updN_lt h hv
section RL
variable {p0 op0 n m0 cap0 : Nat} {a b t x : Nat → Nat} {fk fn fi fb ff fa fh ft : Nat → Int32} {tk : Int32}
theorem Rl_key (h : Rl p0 op0 n m0 cap0 a b t x fk fn fi fb ff fa fh ft tk) (hp : p0 = 0) {i : Nat} (hi : i < 8) (w : Int32) : Rl p0 op0 n m0 cap0 a b t x (upd fk i w) fn (upd fi (4 + i) w) fb ff fa fh ft tk := by
  obtain ⟨h1, h2, h3, h4, h5, h6⟩ := h
  exact ⟨h1, h2, in_key h3 hi w, h4, fun q => absurd q (by omega), fun q => absurd q (by omega)⟩
theorem Rl_non (h : Rl p0 op0 n m0 cap0 a b t x fk fn fi fb ff fa fh ft tk) (hp : p0 = 0) {i : Nat} (hi : i < 3) (w : Int32) : Rl p0 op0 n m0 cap0 a b t x fk (upd fn i w) (upd fi (13 + i) w) fb ff fa fh ft tk := by
  obtain ⟨h1, h2, h3, h4, h5, h6⟩ := h
  exact ⟨h1, h2, in_non h3 hi w, h4, fun q => absurd q (by omega), fun q => absurd q (by omega)⟩
theorem Rl_begin (h : Rl p0 op0 n m0 cap0 a b t x fk fn fi fb ff fa fh ft tk) {d : Nat} (hd : d ≤ 1) : Rl 1 d 0 0 cap0 a b t (fun _ => 0) fk fn (upd fi 12 (nI 0)) (MB (upd fi 12 (nI 0)) fb) (fun j => nI (rF (MB (upd fi 12 (nI 0)) fb) j)) (fun j => nI (bbn (MB (upd fi 12 (nI 0)) fb) (16 + j))) (hF (0, (fun _ => 0), 0)) ft (nI 0) := by
  obtain ⟨h1, h2, h3, h4, h5, h6⟩ := h
  have hB : E16 (MB (upd fi 12 (nI 0)) fb) (CB fk fn (nI 0)) := e_mb (in_put h3 (nI 0)) _ _
  refine ⟨⟨by omega, hd, by omega, by omega, h1.2.2.2.2⟩, ⟨h2.1, h2.2.1, h2.2.2.1, fun _ => (by show 0 < 256; decide)⟩, in_keep h3 _, congrArg nI (rF_16 _), fun _ => ⟨_, (0, (fun _ => 0), 0), hB, rfl, rfl, rfl, rfl, ⟨(by show 0 < 16; decide), fun _ => (by show 0 < 256; decide)⟩, fun _ => ⟨rfl, ?_⟩, fun q => absurd q (by omega)⟩, fun q => absurd q (by omega)⟩
  exact ⟨rfl, rfl, fun j hj => absurd hj (by omega), by show 0 < 2 ^ 130 + 2 ^ 31; decide⟩
theorem Rl_aad {B0 : Nat → Int32} {T : TS} {v : Nat} (h : Rl p0 op0 n m0 cap0 a b t x fk fn fi fb (fun j => nI (rF B0 j)) (fun j => nI (sB B0 j)) (hF T) ft (nI T.2.2)) (hB : E16 B0 (CB fk fn (nI 0))) (hok : okT T) (hp : p0 = 1) (hn : n < 1000) (hv : v < 256) (hm : m0 = 0) (hc : relC (vl 16 (rF B0)) a n 0 T) : Rl p0 op0 (n + 1) m0 cap0 (updN a n v) b t x fk fn fi fb (fun j => nI (rF B0 j)) (fun j => nI (sB B0 j)) (hF (tk1 (rF B0) T v)) ft (nI (tk1 (rF B0) T v).2.2) := by
  obtain ⟨h1, h2, h3, h4, h5, h6⟩ := h
  exact ⟨⟨h1.1, h1.2.1, by omega, h1.2.2.2⟩, ⟨updN_lt h2.1 hv, h2.2⟩, h3, h4, fun _ => ⟨B0, tk1 (rF B0) T v, hB, rfl, rfl, rfl, rfl, tk1_ok hok hv, fun _ => ⟨hm, relC_step (fun j _ => rF_le B0 j) (rF_16 B0) hok hv hc⟩, fun q => absurd q (by omega)⟩, fun q => absurd q (by omega)⟩
theorem nb_E (hin : inE fi fk fn) (m : Nat) (hb : ¬ m % 64 = 0 → E16 fb (CB fk fn (nI (1 + m / 64)))) : E16 (nfb fi fb m) (CB fk fn (nI (1 + m / 64))) := by
  unfold nfb
  by_cases q : m % 64 = 0
  · rw [if_pos q]
    exact e_mb (in_put hin _) _ _
  · rw [if_neg q]
    exact hb q
theorem nfi_in (hin : inE fi fk fn) (m : Nat) : inE (nfi fi m) fk fn := by
  unfold nfi
  split
  · exact in_keep hin _
  · exact hin
theorem dD_upd {op m v w : Nat} {b t : Nat → Nat} : ∀ i, updN (dD op b t) m (if op = 0 then w else v) i = dD op (updN b m v) (updN t m w) i := by
  intro i
  show (if i = m then (if op = 0 then w else v) else (if op = 0 then t i else b i)) = if op = 0 then (if i = m then w else t i) else (if i = m then v else b i)
  by_cases e : i = m
  · rw [if_pos e, if_pos e, if_pos e]
  · rw [if_neg e, if_neg e, if_neg e]
theorem Rl_data {B0 : Nat → Int32} {T T1 : TS} {v w : Nat} {fh0 : Nat → Int32} {tk0 : Int32} (h : Rl p0 op0 n m0 cap0 a b t x fk fn fi fb (fun j => nI (rF B0 j)) (fun j => nI (sB B0 j)) fh0 ft tk0) (hB : E16 B0 (CB fk fn (nI 0))) (hok : okT T1) (hm : m0 < cap0) (hv : v < 256) (hw : w < 256)
    (hc : relC (vl 16 (rF B0)) (dD op0 b t) m0 (pol (vl 16 (rF B0)) a n 0 ((n + 15) / 16)) T1) (hbl : ¬ m0 % 64 = 0 → E16 fb (CB fk fn (nI (1 + m0 / 64)))) :
    Rl 2 op0 n (m0 + 1) cap0 a (updN b m0 v) (updN t m0 w) x fk fn (nfi fi m0) (nfb fi fb m0) (fun j => nI (rF B0 j)) (fun j => nI (sB B0 j)) (hF (tk1 (rF B0) T1 (if op0 = 0 then w else v))) ft (nI (tk1 (rF B0) T1 (if op0 = 0 then w else v)).2.2) := by
  obtain ⟨h1, h2, h3, h4, h5, h6⟩ := h
  have hvw : (if op0 = 0 then w else v) < 256 := by split <;> assumption
  refine ⟨⟨by omega, h1.2.1, h1.2.2.1, by omega, h1.2.2.2.2⟩, ⟨h2.1, updN_lt h2.2.1 hv, updN_lt h2.2.2.1 hw, h2.2.2.2⟩, nfi_in h3 m0, h4, fun _ => ⟨B0, _, hB, rfl, rfl, rfl, rfl, tk1_ok hok hvw, fun q => absurd q (by omega), fun _ => ⟨?_, fun q => ?_⟩⟩, fun q => absurd q (by omega)⟩
  · exact relC_cong (fun i _ => dD_upd i) (relC_step (fun j _ => rF_le B0 j) (rF_16 B0) hok hvw hc)
  · rw [show (m0 + 1) / 64 = m0 / 64 by omega]
    exact nb_E h3 m0 hbl
/-- the tag that finish makes is the tag -/
theorem fin_tag {B0 : Nat → Int32} {T : TS} {d : Nat → Nat} {H1 : Nat} (hB : E16 B0 (CB fk fn (nI 0))) (hok : okT T) (hH1 : H1 = pol (vl 16 (rF B0)) a n 0 ((n + 15) / 16)) (hc : relC (vl 16 (rF B0)) d 0 (pol (vl 16 (rF B0)) d m0 H1 ((m0 + 15) / 16)) (fl1 (rF B0) T)) :
    (fT (rF B0) T n m0).1 < 2 ^ 136 ∧ (fun j => nI (dg (0 + vl 16 (xS (fT (rF B0) T n m0).1 (sB B0))) j)) = fun j => nI (TG (CB fk fn (nI 0)) a n d m0 j) := by
  obtain ⟨e1, e2⟩ := fin_rel (n := n) (m := m0) (g0 := T) (fun j _ => rF_le B0 j) (rF_16 B0) (fl1_ok hok) hc
  refine ⟨by omega, ?_⟩
  funext j
  rw [← TG_cong hB, xS_xM e2, e1, hH1]
  rfl
theorem Rl_fin (h : Rl p0 op0 n m0 cap0 a b t x fk fn fi fb ff fa fh ft tk) {fh2 : Nat → Int32} {tk2 : Int32} : Rl 3 op0 n m0 cap0 a b t x fk fn fi fb ff fa fh2 (fun j => nI (TG (CB fk fn (nI 0)) a n (dD op0 b t) m0 j)) tk2 := by
  obtain ⟨h1, h2, h3, h4, h5, h6⟩ := h
  exact ⟨⟨by omega, h1.2⟩, h2, h3, h4, fun q => absurd q (by omega), fun _ => rfl⟩
theorem Rl_exp (h : Rl p0 op0 n m0 cap0 a b t x fk fn fi fb ff fa fh ft tk) (hp : p0 = 3) (i : Nat) {v : Nat} (hv : v < 256) : Rl p0 op0 n m0 cap0 a b t (updN x i v) fk fn fi fb ff fa fh ft tk := by
  obtain ⟨h1, h2, h3, h4, h5, h6⟩ := h
  exact ⟨h1, ⟨h2.1, h2.2.1, h2.2.2.1, updN_lt h2.2.2.2 hv⟩, h3, h4, fun q => absurd q (by omega), h6⟩
theorem Rl_ph (h : Rl p0 op0 n m0 cap0 a b t x fk fn fi fb ff fa fh ft tk) {q : Nat} (hq : q = 0 ∨ q = 4) : Rl q op0 n m0 cap0 a b t x fk fn fi fb ff fa fh ft tk := by
  obtain ⟨h1, h2, h3, h4, h5, h6⟩ := h
  exact ⟨⟨by omega, h1.2⟩, h2, h3, h4, fun z => absurd z (by omega), fun z => absurd z (by omega)⟩
end RL
