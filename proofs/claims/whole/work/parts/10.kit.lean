/-! my own rows over the kit: one bundle for the world, array rows by Nat places, calls that keep the order of the cells -/
def Wd (D : va_G) (A : Nat → Prop) (H0 H : Heap) (locs : List Loc) (ws : va_W) : Prop := va_P D vwCl ws H ∧ va_D A ws ∧ va_S A H0 H locs
def sets : va_W → List Nat → va_W → va_W
  | ws, i :: is, x :: xs => sets (ws.set i x) is xs
  | ws, _, _ => ws
theorem sets_get : ∀ (is : List Nat) (xs ws : va_W) (k : Nat) (q : Nat × va_E), xs.length = is.length → (sets ws is xs)[k]? = some q → (∃ j : Nat, is[j]? = some k ∧ xs[j]? = some q) ∨ (k ∉ is ∧ ws[k]? = some q)
  | [], xs, ws, k, q, hl, h => Or.inr ⟨List.not_mem_nil, by cases xs <;> simpa [sets] using h⟩
  | i :: is, [], ws, k, q, hl, h => by simp at hl
  | i :: is, x :: xs, ws, k, q, hl, h => by
    rcases sets_get is xs (ws.set i x) k q (by simpa using hl) (by simpa [sets] using h) with ⟨j, h1, h2⟩ | ⟨h1, h2⟩
    · exact Or.inl ⟨j + 1, by simpa using h1, by simpa using h2⟩
    · by_cases e : k = i
      · subst e
        rw [List.getElem?_set] at h2
        simp only [if_true] at h2
        split at h2
        · exact Or.inl ⟨0, rfl, by simpa using h2⟩
        · cases h2
      · refine Or.inr ⟨by simp [e, h1], ?_⟩
        rw [List.getElem?_set_ne (fun h => e h.symm)] at h2
        exact h2
theorem place_of {ws wc : va_W} {is : List Nat} (hs : is.map (fun i => ws[i]?) = wc.map some) {k : Nat} {q : Nat × va_E} (hq : wc[k]? = some q) : ∃ i : Nat, is[k]? = some i ∧ ws[i]? = some q := by
  have h1 : (is.map (fun i => ws[i]?))[k]? = some (some q) := by rw [hs, List.getElem?_map, hq]; rfl
  rw [List.getElem?_map] at h1
  cases hi : is[k]? with
  | none => rw [hi] at h1; cases h1
  | some i => rw [hi] at h1; exact ⟨i, rfl, Option.some.inj h1⟩
/-- behind a call: the callee's cells in their places, the others unchanged -/
theorem Wd.join {D : va_G} {A : Nat → Prop} {H0 H H1 : Heap} {locs locs1 : List Loc} {ws wc w1 : va_W} (hw : Wd D A H0 H locs ws) (isC : List Nat) (hC : isC.map (fun i => ws[i]?) = wc.map some) (hlen : w1.length = isC.length)
    (hk : ∀ q : Nat, q < H.size → ¬ va_A wc H.size q → H1[q]? = H[q]?) (hF : ∀ q, va_A wc H.size q → A q) (hP1 : va_P D vwCl w1 H1) (hD1 : va_D (va_A wc H.size) w1) (hS1 : va_S A H0 H1 locs1) : Wd D A H0 H1 locs1 (sets ws isC w1) := by
  obtain ⟨hP, hD, -⟩ := hw
  have apart : ∀ (k : Nat) (q : Nat × va_E), k ∉ isC → ws[k]? = some q → q.1 < H.size ∧ ¬ va_A wc H.size q.1 := by
    intro k q hkn hq
    have hl := (hP k q hq).lt
    refine ⟨hl, fun h => ?_⟩
    rcases h with ⟨k2, e, h⟩ | h
    · obtain ⟨j, h3, h4⟩ := place_of hC h
      have hij := hD.1 k j q (q.1, e) hq h4 rfl
      subst hij
      exact hkn (List.mem_of_getElem? h3)
    · omega
  refine ⟨fun k q hq => ?_, ⟨fun i j x y hx hy hxy => ?_, fun k q hq => ?_⟩, hS1⟩
  · rcases sets_get _ _ _ _ _ hlen hq with ⟨j, h1, h2⟩ | ⟨h1, h2⟩
    · exact hP1 j q h2
    · obtain ⟨g1, g2⟩ := apart k q h1 h2
      exact (hP k q h2).kept (hk q.1 g1 g2)
  · rcases sets_get _ _ _ _ _ hlen hx with ⟨a, h1, h2⟩ | ⟨h1, h2⟩ <;> rcases sets_get _ _ _ _ _ hlen hy with ⟨b, h3, h4⟩ | ⟨h3, h4⟩
    · have := hD1.1 a b x y h2 h4 hxy
      subst this
      exact Option.some.inj (h1.symm.trans h3)
    · exact absurd (by rw [← hxy]; exact hD1.2 a x h2) (apart j y h3 h4).2
    · exact absurd (by rw [hxy]; exact hD1.2 b y h4) (apart i x h1 h2).2
    · exact hD.1 i j x y h2 h4 hxy
  · rcases sets_get _ _ _ _ _ hlen hq with ⟨a, h1, h2⟩ | ⟨h1, h2⟩
    · exact hF _ (hD1.2 a q h2)
    · exact hD.2 k q h2
/-- an array's cell holds only what lies below its length -/
theorem arr_cong {cA : ClassId} {n : Nat} {f g : Nat → Int32} (h : ∀ j, j < n → f j = g j) : vp_cell cA (n, .inl f) = vp_cell cA (n, .inl g) := by
  rw [vp_cell_i, vp_cell_i]
  unfold arrV
  congr 1
  apply Array.ext
  · simp [arrV_size]
  · intro i h1 h2
    simp at h1 h2 ⊢
    exact h i (by omega)
theorem Wd.cong {D : va_G} {A : Nat → Prop} {H0 H : Heap} {locs : List Loc} {ws : va_W} (hw : Wd D A H0 H locs ws) (k : Nat) {a : Nat} {cA : ClassId} {n : Nat} {f g : Nat → Int32} (he : ws[k]? = some (a, .inl (cA, n, .inl f))) (h : ∀ j, j < n → f j = g j) : Wd D A H0 H locs (ws.set k (a, .inl (cA, n, .inl g))) := by
  refine ⟨hw.1.set hw.2.1 he ?_ (fun _ _ => rfl), hw.2.1.set he, hw.2.2⟩
  show H[a]? = some (vp_cell cA (n, .inl g))
  rw [← arr_cong h]
  exact hw.1 k _ he
section MK
variable {p : Program} {l : Launch} {e : Env} {R : Room} {s : State} {m : MethodId} {args : Array Value} {below : List Frame} {meth : Method} {c : Code} {H : Heap} {locs : List Loc} {cells slots : Nat} {Q : State → Prop}
variable {pc : Nat} {ls : Array Slot} {rest : List Value} {D : va_G} {A : Nat → Prop} {H0 : Heap} {ws : va_W} {cc : ByteArray} {nL : Nat} {Ts : List Cond} {own : String} {cA : ClassId} {a : Nat}
theorem te {x y : Int32} (h : x = y) (k : W p l e R s m args below meth c H locs cells slots Q (F0 m pc ls (.int y :: rest))) : W p l e R s m args below meth c H locs cells slots Q (F0 m pc ls (.int x :: rest)) := h ▸ k
theorem mg (S : CallFix p m c cc nL s args Ts own) (hK : va_K D vwCl [(cA, .int)] s) (hw : Wd D A H0 H locs ws) (q0 : Nat) {ci N index : Nat} {C : String} {T : u_T} {fs : List Value} (he : ws[q0]? = some (a, .inr (ci, fs))) (hc : vwCl[ci]? = some (C, T, N)) (hin : ∀ w ∈ u_ws C T N, w ∈ Ts) (k : Nat) (hk : k < N) (hl : Cond.fieldLink own index (T k).1 (T k).2.1 (T k).2.2.1 ∈ Ts) {v : Value} (hv : fs[k]? = some v) (hdg : decode cc pc = .ok (.getfield index, 3))
    (kk : W p l e R s m args below meth c H locs cells slots Q (F0 m (pc + 3) ls (v :: rest))) : W p l e R s m args below meth c H locs cells slots Q (F0 m pc ls (.ref a :: rest)) :=
  va_get S.1 S.2.1 S.2.2.2.2 hin S.2.2.2.1 hK hw.1 q0 he hc k hk (S.2.2.2.2 _ hl) (fun _ h => h) hv hdg kk
theorem mp (S : CallFix p m c cc nL s args Ts own) (hK : va_K D vwCl [(cA, .int)] s) (hw : Wd D A H0 H locs ws) (q0 : Nat) {ci N index : Nat} {C : String} {T : u_T} {fs : List Value} (he : ws[q0]? = some (a, .inr (ci, fs))) (hc : vwCl[ci]? = some (C, T, N)) (hin : ∀ w ∈ u_ws C T N, w ∈ Ts) {ty0 : Nat → FieldType} (hty : ∀ k, k < N → parseFieldDescriptor (T k).2.2.1 = some (ty0 k)) (hnm : ∀ a, a < N → ∀ b, b < N → a ≠ b → (T a).2.1 ≠ (T b).2.1) (k : Nat) (hk : k < N) (hl : Cond.fieldLink own index (T k).1 (T k).2.1 (T k).2.2.1 ∈ Ts) (hfin : (T k).2.2.2 = false) {v : Value} (hn : narrow (ty0 k) v = v) (hfit : fits (ty0 k) v = true) (hlen : k < fs.length) (hdg : decode cc pc = .ok (.putfield index, 3))
    (kk : ∀ (H1 : Heap) (locs1 : List Loc), Wd D A H0 H1 locs1 (ws.set q0 (a, .inr (ci, fs.set k v))) → W p l e R s m args below meth c H1 locs1 cells slots Q (F0 m (pc + 3) ls rest)) : W p l e R s m args below meth c H locs cells slots Q (F0 m pc ls (v :: .ref a :: rest)) :=
  va_put S.1 S.2.1 S.2.2.2.2 hin ty0 hty hnm S.2.2.2.1 hK hw.1 hw.2.1 hw.2.2 q0 he hc k hk (S.2.2.2.2 _ hl) (fun _ h => h) hfin (hty k hk) hn hfit hlen hdg (fun H1 locs1 h1 h2 h3 => kk H1 locs1 ⟨h1, h2, h3⟩)
theorem mpF (S : CallFix p m c cc nL s args Ts own) (hK : va_K D vwCl [(cA, .int)] s) (hw : Wd D A H0 H locs ws) (q0 : Nat) {ci N index : Nat} {C : String} {T : u_T} {fs : List Value} (he : ws[q0]? = some (a, .inr (ci, fs))) (hc : vwCl[ci]? = some (C, T, N)) (hin : ∀ w ∈ u_ws C T N, w ∈ Ts) {ty0 : Nat → FieldType} (hty : ∀ k, k < N → parseFieldDescriptor (T k).2.2.1 = some (ty0 k)) (hnm : ∀ a, a < N → ∀ b, b < N → a ≠ b → (T a).2.1 ≠ (T b).2.1) (k : Nat) (hk : k < N) (hl : Cond.fieldLink own index (T k).1 (T k).2.1 (T k).2.2.1 ∈ Ts) (hfin : (T k).2.2.2 = true) (hini : meth.name = "<init>") (hdecl : (T k).1 = own) {v : Value} (hn : narrow (ty0 k) v = v) (hfit : fits (ty0 k) v = true) (hlen : k < fs.length) (hdg : decode cc pc = .ok (.putfield index, 3))
    (kk : ∀ (H1 : Heap) (locs1 : List Loc), Wd D A H0 H1 locs1 (ws.set q0 (a, .inr (ci, fs.set k v))) → W p l e R s m args below meth c H1 locs1 cells slots Q (F0 m (pc + 3) ls rest)) : W p l e R s m args below meth c H locs cells slots Q (F0 m pc ls (v :: .ref a :: rest)) :=
  va_putF S.1 S.2.1 S.2.2.2.2 hin ty0 hty hnm S.2.2.2.1 hK hw.1 hw.2.1 hw.2.2 q0 he hc k hk (S.2.2.2.2 _ hl) (fun _ h => h) hfin hini hdecl (hty k hk) hn hfit hlen hdg (fun H1 locs1 h1 h2 h3 => kk H1 locs1 ⟨h1, h2, h3⟩)
theorem ag (S : CallFix p m c cc nL s args Ts own) (hK : va_K D vwCl [(cA, .int)] s) (hw : Wd D A H0 H locs ws) (q0 : Nat) {n : Nat} {f : Nat → Int32} (ha : ws[q0]? = some (a, .inl (cA, n, .inl f))) {i : Int32} (k : Nat) (hi : i = nI k) (hk : k < n) (hn : n < 2 ^ 31) (hdg : decode cc pc = .ok (.iaload, 1))
    (kk : W p l e R s m args below meth c H locs cells slots Q (F0 m (pc + 1) ls (.int (f k) :: rest))) : W p l e R s m args below meth c H locs cells slots Q (F0 m pc ls (.int i :: .ref a :: rest)) := by
  subst hi
  refine va_iald S.1 S.2.1 hK hw.1 q0 0 ha rfl (vp_in_nI hk hn) hdg ?_
  rw [nI_clamp (by omega)]
  exact kk
theorem ap (S : CallFix p m c cc nL s args Ts own) (hK : va_K D vwCl [(cA, .int)] s) (hw : Wd D A H0 H locs ws) (q0 : Nat) {n : Nat} {f : Nat → Int32} (ha : ws[q0]? = some (a, .inl (cA, n, .inl f))) {i x : Int32} (k : Nat) (hi : i = nI k) (hk : k < n) (hn : n < 2 ^ 31) (hdg : decode cc pc = .ok (.iastore, 1))
    (kk : ∀ (H1 : Heap) (locs1 : List Loc), Wd D A H0 H1 locs1 (ws.set q0 (a, .inl (cA, n, .inl (upd f k x)))) → W p l e R s m args below meth c H1 locs1 cells slots Q (F0 m (pc + 1) ls rest)) : W p l e R s m args below meth c H locs cells slots Q (F0 m pc ls (.int x :: .int i :: .ref a :: rest)) := by
  subst hi
  refine va_iast S.1 S.2.1 hK hw.1 hw.2.1 hw.2.2 q0 0 ha rfl (vp_in_nI hk hn) hdg fun H1 locs1 h1 h2 h3 => ?_
  rw [nI_clamp (by omega)] at h1 h2
  exact kk H1 locs1 ⟨h1, h2, h3⟩
theorem al (S : CallFix p m c cc nL s args Ts own) (hK : va_K D vwCl [(cA, .int)] s) (hw : Wd D A H0 H locs ws) (q0 : Nat) {n : Nat} {f : Nat → Int32} (ha : ws[q0]? = some (a, .inl (cA, n, .inl f))) (hdg : decode cc pc = .ok (.arraylength, 1))
    (kk : W p l e R s m args below meth c H locs cells slots Q (F0 m (pc + 1) ls (.int (nI n) :: rest))) : W p l e R s m args below meth c H locs cells slots Q (F0 m pc ls (.ref a :: rest)) :=
  va_alen S.1 S.2.1 hK hw.1 q0 0 ha rfl rfl hdg kk
end MK
/-- what a method's start is, in place -/
def Pre (D : va_G) (cA : ClassId) (w0 : va_W) (sz : Nat) (U : State) : Prop := U.heap.size = sz ∧ va_P D vwCl w0 U.heap ∧ va_K D vwCl [(cA, .int)] U ∧ va_D (fun _ => True) w0
def Pst (D : va_G) (w0 : va_W) (sz : Nat) (w1 : va_W) (t : State) : Prop := va_P D vwCl w1 t.heap ∧ va_D (va_A w0 sz) w1
/-- contracts in place: an int (or boolean) comes back; nothing comes back -/
def CI (l : Launch) (D : va_G) (cA : ClassId) (y : MethodName) (wds : List Cond) (rm : Room) (av : List Value) (w0 : va_W) {S : Type} (post : Int32 → S → Prop) (wf : S → va_W) : Prop := ∀ sz : Nat, Met l y wds rm (va_Pc av (Pre D cA w0 sz)) (va_Qi post (fun u => Pst D w0 sz (wf u)) (va_A w0 sz)) 0 0 (va_A w0 sz)
def CV (l : Launch) (D : va_G) (cA : ClassId) (y : MethodName) (wds : List Cond) (rm : Room) (av : List Value) (w0 : va_W) {S : Type} (post : S → Prop) (wf : S → va_W) : Prop := ∀ sz : Nat, Met l y wds rm (va_Pc av (Pre D cA w0 sz)) (va_Qv post (fun u => Pst D w0 sz (wf u)) (va_A w0 sz)) 0 0 (va_A w0 sz)
theorem Pre.blind {D : va_G} {cA : ClassId} {w0 : va_W} {sz : Nat} {av : List Value} : FrameBlind (va_Pc av (Pre D cA w0 sz)) := fun a U g mk q => by
  obtain ⟨q0, q1, qP, qK, qD⟩ := q
  exact ⟨q0, q1, qP, va_K.moved (u := U) (U := U.calling g mk a) (Vm.Alike.refl U.vm) qK, qD⟩
section MC
variable {l : Launch} {D : va_G} {cA : ClassId} {y : MethodName} {wds wds' : List Cond} {rm : Room} {av : List Value} {w0 : va_W} {St : Type} {cc : ByteArray} {maxL : Nat}
theorem ci_of {post : Int32 → St → Prop} {wf : St → va_W} {ty : FieldType} (hy : plainName y.cls = true) (hw : wds = Cond.code y cc maxL (some ty) :: wds') (hlen : (lg_sl av).length ≤ maxL)
    (body : ∀ (p : Program) (e : Env) (s : State) (m : MethodId) (below : List Frame) (meth : Method) (c : Code) (ls : Array Slot) (A : Nat → Prop) (ar : Array Value) (Q : State → Prop), CallFix p m c cc maxL s ar wds y.cls → va_K D vwCl [(cA, .int)] s → Wd D A s.heap s.heap [] w0 → (∀ q, s.heap.size ≤ q → A q) → meth.sig.returnType = some ty → meth.locks = false → lv_has ls maxL (lv_args 0 av) → Q = MQ below (va_Qi post (fun u t => va_P D vwCl (wf u) t.heap ∧ va_D A (wf u)) A) ar s 0 0 A →
      W p l e rm s m ar below meth c s.heap [] 0 0 Q (F0 m 0 ls [])) : CI l D cA y wds rm av w0 post wf := by
  intro sz
  refine Met.ofW (cc := cc) (maxL := maxL) (ret := some ty) hy hw ?_
  intro p e s m args below meth c s₁ B hml hv
  obtain ⟨rfl, hsz, hP, hK, hD0⟩ := hv
  have hts := atoms_spec (ws := wds) B.pre
  have hown : s.vm.findClass y.cls = some m.cls := findClass_of_methodNamed B.named
  subst hsz
  have hl := lv_entry av (n := maxL) hlen
  rw [lg_entry_eq]
  generalize (lg_sl av ++ List.replicate (maxL - (lg_sl av).length) Slot.unset).toArray = ls at hl ⊢
  exact body p e s m below meth c ls _ _ _ ⟨B.exec, B.bytes, hml, hown, hts⟩ hK ⟨hP, hD0.self, va_S.rf⟩ (fun q h => Or.inr h) B.returns B.notSynchronized hl rfl
theorem cv_of {post : St → Prop} {wf : St → va_W} (hy : plainName y.cls = true) (hw : wds = Cond.code y cc maxL none :: wds') (hlen : (lg_sl av).length ≤ maxL)
    (body : ∀ (p : Program) (e : Env) (s : State) (m : MethodId) (below : List Frame) (meth : Method) (c : Code) (ls : Array Slot) (A : Nat → Prop) (ar : Array Value) (Q : State → Prop), CallFix p m c cc maxL s ar wds y.cls → va_K D vwCl [(cA, .int)] s → Wd D A s.heap s.heap [] w0 → (∀ q, s.heap.size ≤ q → A q) → meth.sig.returnType = none → meth.locks = false → lv_has ls maxL (lv_args 0 av) → Q = MQ below (va_Qv post (fun u t => va_P D vwCl (wf u) t.heap ∧ va_D A (wf u)) A) ar s 0 0 A →
      W p l e rm s m ar below meth c s.heap [] 0 0 Q (F0 m 0 ls [])) : CV l D cA y wds rm av w0 post wf := by
  intro sz
  refine Met.ofW (cc := cc) (maxL := maxL) (ret := none) hy hw ?_
  intro p e s m args below meth c s₁ B hml hv
  obtain ⟨rfl, hsz, hP, hK, hD0⟩ := hv
  have hts := atoms_spec (ws := wds) B.pre
  have hown : s.vm.findClass y.cls = some m.cls := findClass_of_methodNamed B.named
  subst hsz
  have hl := lv_entry av (n := maxL) hlen
  rw [lg_entry_eq]
  generalize (lg_sl av ++ List.replicate (maxL - (lg_sl av).length) Slot.unset).toArray = ls at hl ⊢
  exact body p e s m below meth c ls _ _ _ ⟨B.exec, B.bytes, hml, hown, hts⟩ hK ⟨hP, hD0.self, va_S.rf⟩ (fun q h => Or.inr h) B.returns B.notSynchronized hl rfl
variable {p : Program} {e : Env} {R : Room} {s : State} {m : MethodId} {args : Array Value} {below : List Frame} {meth : Method} {c : Code} {H : Heap} {locs : List Loc} {A : Nat → Prop} {Ts : List Cond} {own : String} {nL : Nat}
theorem ci_ret {post : Int32 → St → Prop} {wf : St → va_W} {ty : FieldType} {v : Int32} {w1 : va_W} {Q : State → Prop} (S : CallFix p m c cc nL s args Ts own) (hr : meth.sig.returnType = some ty) (hlocks : meth.locks = false) (hQ : Q = MQ below (va_Qi post (fun u t => va_P D vwCl (wf u) t.heap ∧ va_D A (wf u)) A) args s 0 0 A) (hw : Wd D A s.heap H locs w1) (hn : narrow ty (.int v) = .int v) (u : St) (hwf : w1 = wf u) (hp : post v u)
    {pc : Nat} {ls : Array Slot} (hdg : decode cc pc = .ok (.ireturn, 1)) : W p l e R s m args below meth c H locs 0 0 Q (F0 m pc ls [.int v]) := by
  subst hwf
  subst hQ
  exact W.zret S.1 S.2.1 hr hn (fun t ht hW => ⟨⟨v, u, rfl, hp, by rw [ht]; exact hw.1, hw.2.1⟩, hw.2.2.F ht⟩) hw.2.2.2.2 hdg
theorem cv_ret {post : St → Prop} {wf : St → va_W} {w1 : va_W} {Q : State → Prop} (S : CallFix p m c cc nL s args Ts own) (hr : meth.sig.returnType = none) (hlocks : meth.locks = false) (hQ : Q = MQ below (va_Qv post (fun u t => va_P D vwCl (wf u) t.heap ∧ va_D A (wf u)) A) args s 0 0 A) (hw : Wd D A s.heap H locs w1) (u : St) (hwf : w1 = wf u) (hp : post u)
    {pc : Nat} {ls : Array Slot} (hdg : decode cc pc = .ok (.return_, 1)) : W p l e R s m args below meth c H locs 0 0 Q (F0 m pc ls []) := by
  subst hwf
  subst hQ
  exact W.vret S.1 S.2.1 hr (fun t ht hW => ⟨⟨u, rfl, hp, by rw [ht]; exact hw.1, hw.2.1⟩, hw.2.2.F ht⟩) hw.2.2.2.2 hdg
end MC
section MCALL
variable {p : Program} {l : Launch} {e : Env} {R : Room} {s : State} {m : MethodId} {args : Array Value} {below : List Frame} {meth : Method} {c : Code} {H : Heap} {locs : List Loc} {cells slots : Nat} {Q : State → Prop}
variable {pc : Nat} {ls : Array Slot} {rest : List Value} {D : va_G} {A : Nat → Prop} {H0 : Heap} {ws w0 : va_W} {cc bytes : ByteArray} {nL maxL n index : Nat} {Ts wds wds' : List Cond} {own C : String} {cA : ClassId} {b : Nat} {y : MethodName} {rm : Room} {As : List Value} {St : Type}
/-- a method of an object that answers an int or a boolean -/
theorem callVI {post : Int32 → St → Prop} {wf : St → va_W} {ty : FieldType} (S : CallFix p m c cc nL s args Ts own) (hK : va_K D vwCl [(cA, .int)] s) (hw : Wd D A H0 H locs ws) (hA : ∀ q, H0.size ≤ q → A q) (hM : CI l D cA y wds rm (.ref b :: As) w0 post wf) (hG : GoodIn Ts (wsV own index C y wds)) (hwd : wds = Cond.code y bytes maxL (some ty) :: wds') (na : Nat) (hna : As.length = na) (hd : y.cls = C ∧ y.cls ≠ "java/lang/invoke/MethodHandle" ∧ y.cls ≠ "java/lang/invoke/VarHandle" ∧ (parseMethodDescriptor y.desc).map (fun d => d.parameters.length) = some na) (hc0 : rm.cells = 0 ∧ rm.slots = 0) (hR : rm.frames + 1 ≤ R.frames ∧ 8 + (maxL + 11) + rm.locals ≤ R.locals)
    (hfit : cells ≤ R.cells ∧ slots ≤ R.slots) (isC : List Nat) (hC : isC.map (fun i => ws[i]?) = w0.map some) (hnd : va_nd isC = true) (hlen : ∀ u, (wf u).length = isC.length) (q0 : Nat) {ci : Nat} {fs : List Value} {q : vw_C} (hc : vwCl[ci]? = some q) (hq : q.1 = C) (he : ws[q0]? = some (b, .inr (ci, fs))) (hsz : ls.size = nL) (hst : (rest.map fun v => v.category).sum ≤ 8) (hdg : decode cc pc = .ok (.invokevirtual index, 3))
    {st : List Value} (hstk : st = As.reverse ++ .ref b :: rest)
    (kk : ∀ (r : Int32) (u : St) (H1 : Heap) (locs1 : List Loc), post r u → Wd D A H0 H1 locs1 (sets ws isC (wf u)) → W p l e R s m args below meth c H1 locs1 cells slots Q (F0 m (pc + 3) ls (.int r :: rest))) : W p l e R s m args below meth c H locs cells slots Q (F0 m pc ls st) := by
  subst hq
  subst hna
  have hDc := hw.2.1.sub isC hnd hC
  have hPc : va_P D vwCl w0 H := fun k q hk => by
    obtain ⟨i, -, h⟩ := place_of hC hk
    exact hw.1 i q h
  have hF := va_free hw.2.1 hw.2.2 hA isC hC
  refine va_calli (va_runV (As := As) (rest := rest) (b := b) S (hM H.size) (cwV As.length S.2.2.2.2 hG hwd hc0.1 hc0.2 hd hR) ⟨Pre.blind, va_recv hK hw.1 hc he, fun U hU hW => ⟨rfl, by rw [hU], by rw [hU]; exact hPc, va_K.moved hW.alike hK, hDc.weaken (fun _ _ _ _ => trivial)⟩⟩ rfl rfl hsz hstk (lv_room hst) hdg hfit) hw.2.2 (fun q _ h => hF q h) hF (fun r u t H1 locs1 ht hvm hp hB hz1 hk1 hS => ?_)
  refine kk r u H1 locs1 hp (hw.join isC hC (hlen u) hk1 hF (by rw [← ht]; exact hB.1) hB.2 hS)
theorem callVV {post : St → Prop} {wf : St → va_W} (S : CallFix p m c cc nL s args Ts own) (hK : va_K D vwCl [(cA, .int)] s) (hw : Wd D A H0 H locs ws) (hA : ∀ q, H0.size ≤ q → A q) (hM : CV l D cA y wds rm (.ref b :: As) w0 post wf) (hG : GoodIn Ts (wsV own index C y wds)) (hwd : wds = Cond.code y bytes maxL none :: wds') (na : Nat) (hna : As.length = na) (hd : y.cls = C ∧ y.cls ≠ "java/lang/invoke/MethodHandle" ∧ y.cls ≠ "java/lang/invoke/VarHandle" ∧ (parseMethodDescriptor y.desc).map (fun d => d.parameters.length) = some na) (hc0 : rm.cells = 0 ∧ rm.slots = 0) (hR : rm.frames + 1 ≤ R.frames ∧ 8 + (maxL + 11) + rm.locals ≤ R.locals)
    (hfit : cells ≤ R.cells ∧ slots ≤ R.slots) (isC : List Nat) (hC : isC.map (fun i => ws[i]?) = w0.map some) (hnd : va_nd isC = true) (hlen : ∀ u, (wf u).length = isC.length) (q0 : Nat) {ci : Nat} {fs : List Value} {q : vw_C} (hc : vwCl[ci]? = some q) (hq : q.1 = C) (he : ws[q0]? = some (b, .inr (ci, fs))) (hsz : ls.size = nL) (hst : (rest.map fun v => v.category).sum ≤ 8) (hdg : decode cc pc = .ok (.invokevirtual index, 3))
    {st : List Value} (hstk : st = As.reverse ++ .ref b :: rest)
    (kk : ∀ (u : St) (H1 : Heap) (locs1 : List Loc), post u → Wd D A H0 H1 locs1 (sets ws isC (wf u)) → W p l e R s m args below meth c H1 locs1 cells slots Q (F0 m (pc + 3) ls rest)) : W p l e R s m args below meth c H locs cells slots Q (F0 m pc ls st) := by
  subst hq
  subst hna
  have hDc := hw.2.1.sub isC hnd hC
  have hPc : va_P D vwCl w0 H := fun k q hk => by
    obtain ⟨i, -, h⟩ := place_of hC hk
    exact hw.1 i q h
  have hF := va_free hw.2.1 hw.2.2 hA isC hC
  refine va_callv (va_runV (As := As) (rest := rest) (b := b) S (hM H.size) (cwV As.length S.2.2.2.2 hG hwd hc0.1 hc0.2 hd hR) ⟨Pre.blind, va_recv hK hw.1 hc he, fun U hU hW => ⟨rfl, by rw [hU], by rw [hU]; exact hPc, va_K.moved hW.alike hK, hDc.weaken (fun _ _ _ _ => trivial)⟩⟩ rfl rfl hsz hstk (lv_room hst) hdg hfit) hw.2.2 (fun q _ h => hF q h) hF (fun u t H1 locs1 ht hvm hp hB hz1 hk1 hS => ?_)
  refine kk u H1 locs1 hp (hw.join isC hC (hlen u) hk1 hF (by rw [← ht]; exact hB.1) hB.2 hS)
/-- a static method that answers an int or a boolean and touches no cell -/
theorem callSI {post : Int32 → Unit → Prop} {ty : FieldType} (S : CallFix p m c cc nL s args Ts own) (hK : va_K D vwCl [(cA, .int)] s) (hw : Wd D A H0 H locs ws) (hA : ∀ q, H0.size ≤ q → A q) (hM : CI l D cA y wds rm As [] post (fun _ => [])) (hG : GoodIn Ts (va_wsS own index y wds)) (hwd : wds = Cond.code y bytes maxL (some ty) :: wds') (na : Nat) (hna : As.length = na) (hd : y.cls ≠ "java/lang/invoke/MethodHandle" ∧ y.cls ≠ "java/lang/invoke/VarHandle" ∧ (parseMethodDescriptor y.desc).map (fun d => d.parameters.length) = some na) (hc0 : rm.cells = 0 ∧ rm.slots = 0) (hR : rm.frames + 1 ≤ R.frames ∧ 8 + (maxL + 11) + rm.locals ≤ R.locals)
    (hfit : cells ≤ R.cells ∧ slots ≤ R.slots) (hsz : ls.size = nL) (hst : (rest.map fun v => v.category).sum ≤ 8) (hdg : decode cc pc = .ok (.invokestatic index, 3))
    {st : List Value} (hstk : st = As.reverse ++ rest)
    (kk : ∀ (r : Int32) (H1 : Heap) (locs1 : List Loc), post r () → Wd D A H0 H1 locs1 ws → W p l e R s m args below meth c H1 locs1 cells slots Q (F0 m (pc + 3) ls (.int r :: rest))) : W p l e R s m args below meth c H locs cells slots Q (F0 m pc ls st) := by
  subst hna
  have hC : ([] : List Nat).map (fun i => ws[i]?) = ([] : va_W).map some := rfl
  have hDc := hw.2.1.sub [] rfl hC
  have hF := va_free hw.2.1 hw.2.2 hA [] hC
  refine va_calli (va_runS (As := As) (rest := rest) S (hM H.size) (va_cwS As.length S.2.2.2.2 hG hwd hc0.1 hc0.2 hd hR) ⟨Pre.blind, fun U hU hW => ⟨rfl, by rw [hU], fun k q h => by simp at h, va_K.moved hW.alike hK, hDc.weaken (fun _ _ _ _ => trivial)⟩⟩ rfl rfl hsz hstk (lv_room hst) hdg hfit) hw.2.2 (fun q _ h => hF q h) hF (fun r u t H1 locs1 ht hvm hp hB hz1 hk1 hS => ?_)
  have hj := hw.join [] hC rfl hk1 hF (by rw [← ht]; exact hB.1) hB.2 hS
  exact kk r H1 locs1 hp (by simpa [sets] using hj)
end MCALL
