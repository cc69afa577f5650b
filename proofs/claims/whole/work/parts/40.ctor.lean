/-! constructors: new cells come; a word of the tables may be asked beside -/
def CN (l : Launch) (D : va_G) (cA : ClassId) (y : MethodName) (wds : List Cond) (rm : Room) (av : List Value) (w0 : va_W) {S : Type} (post : S → Prop) (wf : S → va_W) (mc ms : Nat) (E : State → Prop) : Prop := ∀ sz : Nat, Met l y wds rm (va_Pc av (fun U => Pre D cA w0 sz U ∧ E U)) (va_Qv post (fun u => Pst D w0 sz (wf u)) (va_A w0 sz)) mc ms (va_A w0 sz)
section MN
variable {l : Launch} {D : va_G} {cA : ClassId} {y : MethodName} {wds wds' : List Cond} {rm : Room} {av : List Value} {w0 : va_W} {St : Type} {cc : ByteArray} {maxL mc ms : Nat} {E : State → Prop}
theorem cn_of {post : St → Prop} {wf : St → va_W} (hy : plainName y.cls = true) (hw : wds = Cond.code y cc maxL none :: wds') (hlen : (lg_sl av).length ≤ maxL) (hyn : y.name = "<init>")
    (body : ∀ (p : Program) (e : Env) (s : State) (m : MethodId) (below : List Frame) (meth : Method) (c : Code) (ls : Array Slot) (A : Nat → Prop) (ar : Array Value) (Q : State → Prop), CallFix p m c cc maxL s ar wds y.cls → va_K D vwCl [(cA, .int)] s → Wd D A s.heap s.heap [] w0 → (∀ q, s.heap.size ≤ q → A q) → meth.sig.returnType = none → meth.locks = false → lv_has ls maxL (lv_args 0 av) → E s → meth.name = "<init>" → Q = MQ below (va_Qv post (fun u t => va_P D vwCl (wf u) t.heap ∧ va_D A (wf u)) A) ar s mc ms A →
      W p l e rm s m ar below meth c s.heap [] 0 0 Q (F0 m 0 ls [])) : CN l D cA y wds rm av w0 post wf mc ms E := by
  intro sz
  refine Met.ofW (cc := cc) (maxL := maxL) (ret := none) hy hw ?_
  intro p e s m args below meth c s₁ B hml hv
  obtain ⟨rfl, ⟨hsz, hP, hK, hD0⟩, hE⟩ := hv
  have hts := atoms_spec (ws := wds) B.pre
  have hown : s.vm.findClass y.cls = some m.cls := findClass_of_methodNamed B.named
  have hin : meth.name = "<init>" := (name_of_methodNamed B.named B.method).1.trans hyn
  subst hsz
  have hl := lv_entry av (n := maxL) hlen
  rw [lg_entry_eq]
  generalize (lg_sl av ++ List.replicate (maxL - (lg_sl av).length) Slot.unset).toArray = ls at hl ⊢
  exact body p e s m below meth c ls _ _ _ ⟨B.exec, B.bytes, hml, hown, hts⟩ hK ⟨hP, hD0.self, va_S.rf⟩ (fun q h => Or.inr h) B.returns B.notSynchronized hl hE hin rfl
variable {p : Program} {e : Env} {R : Room} {s : State} {m : MethodId} {args : Array Value} {below : List Frame} {meth : Method} {c : Code} {H : Heap} {locs : List Loc} {A : Nat → Prop} {Ts : List Cond} {own : String} {nL : Nat} {H0 : Heap} {ws : va_W} {cells slots : Nat} {Q : State → Prop} {pc : Nat} {ls : Array Slot} {rest : List Value}
theorem cn_ret {post : St → Prop} {wf : St → va_W} {w1 : va_W} (S : CallFix p m c cc nL s args Ts own) (hr : meth.sig.returnType = none) (hlocks : meth.locks = false) (hQ : Q = MQ below (va_Qv post (fun u t => va_P D vwCl (wf u) t.heap ∧ va_D A (wf u)) A) args s mc ms A) (hw : Wd D A s.heap H locs w1) (hc : cells ≤ mc) (hs : slots ≤ ms) (u : St) (hwf : w1 = wf u) (hp : post u)
    (hdg : decode cc pc = .ok (.return_, 1)) : W p l e R s m args below meth c H locs cells slots Q (F0 m pc ls []) := by
  subst hwf
  subst hQ
  refine W.widen hc hs ?_
  exact W.vret S.1 S.2.1 hr (fun t ht hW => ⟨⟨u, rfl, hp, by rw [ht]; exact hw.1, hw.2.1⟩, hw.2.2.F ht⟩) hw.2.2.2.2 hdg
theorem va_cAeq {tys : List (ClassId × FieldType)} {c1 c2 : ClassId} (hK : va_K D vwCl tys s) (h1 : (c1, FieldType.int) ∈ tys) (h2 : (c2, FieldType.int) ∈ tys) : c1 = c2 := by
  obtain ⟨i, hi⟩ := List.getElem?_of_mem h1
  obtain ⟨j, hj⟩ := List.getElem?_of_mem h2
  have e1 := va_nm_int (hK.2 i _ hi).2
  have e2 := va_nm_int (hK.2 j _ hj).2
  exact Option.some.inj (e1.symm.trans e2)
/-- a new row of ints -/
theorem na (S : CallFix p m c cc nL s args Ts own) (hK : va_K D vwCl [(cA, .int)] s) (hw : Wd D A H0 H locs ws) (hA : ∀ q, H0.size ≤ q → A q) {i : Int32} (n : Nat) (hi : i = nI n) (hn : n ≤ 1000) (harr : Cond.arrayClass .int ∈ Ts) (hcells : cells + 1 ≤ R.cells) (hslots : slots + n ≤ R.slots) (hdg : decode cc pc = .ok (.newarray .int, 2))
    (kk : ∀ (q : Nat) (H1 : Heap), Wd D A H0 H1 locs (ws ++ [(q, .inl (cA, n, .inl (fun _ => 0)))]) → W p l e R s m args below meth c H1 locs (cells + 1) (slots + n) Q (F0 m (pc + 2) ls (.ref q :: rest))) : W p l e R s m args below meth c H locs cells slots Q (F0 m pc ls (.int i :: rest)) := by
  subst hi
  refine va_newa (atype := .int) (ty := .int) (a0 := (n, .inl (fun _ => 0))) S.1 S.2.1 (S.2.2.2.2 _ harr) rfl hK hw.1 hw.2.1 hw.2.2 hA (fun _ => rfl) (nI_pos (by omega)) (nI_clamp (by omega)) (by show n * 4 ≤ _; omega) hcells hslots hdg (fun q c2 H1 hK2 hP hD hS => ?_)
  have e : cA = c2 := va_cAeq hK2 (by simp) (by simp)
  subst e
  exact kk q H1 ⟨hP, hD, hS⟩
/-- a new object -/
theorem nw (S : CallFix p m c cc nL s args Ts own) (hK : va_K D vwCl [(cA, .int)] s) (hw : Wd D A H0 H locs ws) (hA : ∀ q, H0.size ≤ q → A q) {ci N index : Nat} {C : String} {T : u_T} (hc : vwCl[ci]? = some (C, T, N)) (hin : ∀ w ∈ u_ws C T N, w ∈ Ts) {ty : Nat → FieldType} (hty : ∀ k, k < N → parseFieldDescriptor (T k).2.2.1 = some (ty k)) (hcl : Cond.classLink own index C ∈ Ts) (hins : Cond.instantiable C N ∈ Ts) (hini : Cond.initialized C ∈ Ts) (fs : List Value) (hfs : ∀ j, j < N → defaultValue (ty j) = vp_V fs j) (hcells : cells + 1 ≤ R.cells) (hslots : slots + N ≤ R.slots) (hdg : decode cc pc = .ok (.new index, 3))
    (kk : ∀ (q : Nat) (H1 : Heap), Wd D A H0 H1 locs (ws ++ [(q, .inr (ci, fs))]) → W p l e R s m args below meth c H1 locs (cells + 1) (slots + N) Q (F0 m (pc + 3) ls (.ref q :: rest))) : W p l e R s m args below meth c H locs cells slots Q (F0 m pc ls rest) :=
  va_new S.1 S.2.1 S.2.2.2.2 hin ty hty S.2.2.2.1 (S.2.2.2.2 _ hcl) (S.2.2.2.2 _ hins) (S.2.2.2.2 _ hini) hK hw.1 hw.2.1 hw.2.2 hA hc hfs hcells hslots hdg (fun q H1 h1 h2 h3 => kk q H1 ⟨h1, h2, h3⟩)
theorem CN.blind (hE : ∀ (U : State) (g : JFrame) (mk : MethodId) (a : Array Value), E U → E (U.calling g mk a)) {sz : Nat} : FrameBlind (va_Pc av (fun U => Pre D cA w0 sz U ∧ E U)) := fun a U g mk q => by
  obtain ⟨q0, ⟨q1, qP, qK, qD⟩, qE⟩ := q
  exact ⟨q0, ⟨q1, qP, va_K.moved (u := U) (U := U.calling g mk a) (Vm.Alike.refl U.vm) qK, qD⟩, hE U g mk a qE⟩
variable {wr : va_W} {n index : Nat} {bytes : ByteArray} {b : Nat} {As : List Value} {wc : va_W}
theorem callCI {post : St → Prop} {wf : St → va_W} (S : CallFix p m c cc nL s args Ts own) (hK : va_K D vwCl [(cA, .int)] s) (hw : Wd D A H0 H locs ws) (hA : ∀ q, H0.size ≤ q → A q) (hM : CN l D cA y wds rm (.ref b :: As) wc post wf mc ms E) (hEb : ∀ (U : State) (g : JFrame) (mk : MethodId) (a : Array Value), E U → E (U.calling g mk a)) (hEw : ∀ U : State, s.WarmedH U.vm → E U) (hG : GoodIn Ts wds) (hwd : wds = Cond.code y bytes maxL none :: wds') (hini : Cond.initialized y.cls ∈ Ts) (hl : Cond.methodLink own index y ∈ Ts) (hin : Cond.instanceMethod y ∈ Ts) (hy1 : y.name = "<init>") (n0 : Nat) (hna : As.length = n0) (hd : y.cls ≠ "java/lang/invoke/MethodHandle" ∧ y.cls ≠ "java/lang/invoke/VarHandle" ∧ (parseMethodDescriptor y.desc).map (fun d => d.parameters.length) = some n0) (hcs : rm.cells = mc ∧ rm.slots = ms) (hR : rm.frames + 1 ≤ R.frames ∧ 8 + (maxL + 11) + rm.locals ≤ R.locals)
    (hfit : cells + mc ≤ R.cells ∧ slots + ms ≤ R.slots) (isC : List Nat) (hC : isC.map (fun i => ws[i]?) = wc.map some) (hnd : va_nd isC = true) (isR : List Nat) (hRr : isR.map (fun i => ws[i]?) = wr.map some) (hndR : va_nd isR = true) (hdis : ∀ i ∈ isR, i ∉ isC) (hsz : ls.size = nL) (hst : (rest.map fun v => v.category).sum ≤ 8) (hdg : decode cc pc = .ok (.invokespecial index, 3))
    {st : List Value} (hstk : st = As.reverse ++ .ref b :: rest)
    (kk : ∀ (u : St) (H1 : Heap) (locs1 : List Loc), post u → Wd D A H0 H1 locs1 (wr ++ wf u) → W p l e R s m args below meth c H1 locs1 (cells + mc) (slots + ms) Q (F0 m (pc + 3) ls rest)) : W p l e R s m args below meth c H locs cells slots Q (F0 m pc ls st) := by
  subst hna
  have hDc := hw.2.1.sub isC hnd hC
  have hPc : va_P D vwCl wc H := fun k q hk => by
    obtain ⟨i, -, h⟩ := place_of hC hk
    exact hw.1 i q h
  have hF := va_free hw.2.1 hw.2.2 hA isC hC
  refine va_callv (va_runI (As := As) (rest := rest) (b := b) S (hM H.size) (cwI As.length S.2.2.2.2 hG hwd hcs.1 hcs.2 (S.2.2.2.2 _ hini) (S.2.2.2.2 _ hl) (S.2.2.2.2 _ hin) hy1 hd hR) ⟨CN.blind hEb, fun U hU hW => ⟨rfl, ⟨by rw [hU], by rw [hU]; exact hPc, va_K.moved hW.alike hK, hDc.weaken (fun _ _ _ _ => trivial)⟩, hEw U hW⟩⟩ rfl rfl hsz hstk (lv_room hst) hdg hfit) hw.2.2 (fun q _ h => hF q h) hF (fun u t H1 locs1 ht hvm hp hB hz1 hk1 hS => ?_)
  obtain ⟨hP, hD⟩ := va_join (wr := wr) (w1 := wf u) hw.1 hw.2.1 isC isR hC hRr hndR hdis hk1 hF (by rw [← ht]; exact hB.1) hB.2
  exact kk u H1 locs1 hp ⟨hP, hD, hS⟩
theorem callCN {post : St → Prop} {wf : St → va_W} {host : String} (S : CallFix p m c cc nL s args Ts own) (hK : va_K D vwCl [(cA, .int)] s) (hw : Wd D A H0 H locs ws) (hA : ∀ q, H0.size ≤ q → A q) (hM : CN l D cA y wds rm (.ref b :: As) wc post wf mc ms E) (hEb : ∀ (U : State) (g : JFrame) (mk : MethodId) (a : Array Value), E U → E (U.calling g mk a)) (hEw : ∀ U : State, s.WarmedH U.vm → E U) (hG : GoodIn Ts wds) (hwd : wds = Cond.code y bytes maxL none :: wds') (hini : Cond.initialized y.cls ∈ Ts) (hl : va_Nw (.methodLinkNest own index y host) s) (hin : Cond.instanceMethod y ∈ Ts) (hy1 : y.name = "<init>") (n0 : Nat) (hna : As.length = n0) (hd : y.cls ≠ "java/lang/invoke/MethodHandle" ∧ y.cls ≠ "java/lang/invoke/VarHandle" ∧ (parseMethodDescriptor y.desc).map (fun d => d.parameters.length) = some n0) (hcs : rm.cells = mc ∧ rm.slots = ms) (hR : rm.frames + 1 ≤ R.frames ∧ 8 + (maxL + 11) + rm.locals ≤ R.locals)
    (hfit : cells + mc ≤ R.cells ∧ slots + ms ≤ R.slots) (isC : List Nat) (hC : isC.map (fun i => ws[i]?) = wc.map some) (hnd : va_nd isC = true) (isR : List Nat) (hRr : isR.map (fun i => ws[i]?) = wr.map some) (hndR : va_nd isR = true) (hdis : ∀ i ∈ isR, i ∉ isC) (hsz : ls.size = nL) (hst : (rest.map fun v => v.category).sum ≤ 8) (hdg : decode cc pc = .ok (.invokespecial index, 3))
    {st : List Value} (hstk : st = As.reverse ++ .ref b :: rest)
    (kk : ∀ (u : St) (H1 : Heap) (locs1 : List Loc), post u → Wd D A H0 H1 locs1 (wr ++ wf u) → W p l e R s m args below meth c H1 locs1 (cells + mc) (slots + ms) Q (F0 m (pc + 3) ls rest)) : W p l e R s m args below meth c H locs cells slots Q (F0 m pc ls st) := by
  subst hna
  have hDc := hw.2.1.sub isC hnd hC
  have hPc : va_P D vwCl wc H := fun k q hk => by
    obtain ⟨i, -, h⟩ := place_of hC hk
    exact hw.1 i q h
  have hF := va_free hw.2.1 hw.2.2 hA isC hC
  refine va_callv (va_runIN (As := As) (rest := rest) (b := b) S (hM H.size) ⟨va_cnB As.length S.2.2.2.2 hG hwd hcs.1 hcs.2 hl (S.2.2.2.2 _ hini) hd hR, hy1, S.2.2.2.2 _ hin⟩ ⟨CN.blind hEb, fun U hU hW => ⟨rfl, ⟨by rw [hU], by rw [hU]; exact hPc, va_K.moved hW.alike hK, hDc.weaken (fun _ _ _ _ => trivial)⟩, hEw U hW⟩⟩ rfl rfl hsz hstk (lv_room hst) hdg hfit) hw.2.2 (fun q _ h => hF q h) hF (fun u t H1 locs1 ht hvm hp hB hz1 hk1 hS => ?_)
  obtain ⟨hP, hD⟩ := va_join (wr := wr) (w1 := wf u) hw.1 hw.2.1 isC isR hC hRr hndR hdis hk1 hF (by rw [← ht]; exact hB.1) hB.2
  exact kk u H1 locs1 hp ⟨hP, hD, hS⟩
end MN
theorem Wd.perm {D : va_G} {A : Nat → Prop} {H0 H : Heap} {locs : List Loc} {ws ws' : va_W} (hw : Wd D A H0 H locs ws) (is : List Nat) (hn : va_nd is = true) (hs : is.map (fun i => ws[i]?) = ws'.map some) : Wd D A H0 H locs ws' := by
  refine ⟨fun k q hk => ?_, hw.2.1.sub is hn hs, hw.2.2⟩
  obtain ⟨i, -, h⟩ := place_of hs hk
  exact hw.1 i q h
