/-! the shape of all contracts here: a world of cells before, a world of cells behind, one table of array kinds, an extra word E on the state -/
def bw_PB (E : (Nat → Prop) → State → Prop) (G : va_G) (kt : List (ClassId × FieldType)) (w : va_W) (sz : Nat) (U : State) : Prop := U.heap.size = sz ∧ va_P G vwCl w U.heap ∧ va_K G vwCl kt U ∧ va_D (fun _ => True) w ∧ E (va_A w sz) U
def bw_QB (G : va_G) (A : Nat → Prop) (w : va_W) (t : State) : Prop := va_P G vwCl w t.heap ∧ va_D A w
/-- what E must bear: the start of a call -/
def bw_Eb (E : (Nat → Prop) → State → Prop) : Prop := ∀ (A : Nat → Prop) (a : Array Value) (U : State) (g : JFrame) (mk : MethodId), E A U → E A (U.calling g mk a)
def bw_Ci {S : Type} (l : Launch) (y : MethodName) (ws : List Cond) (rm : Room) (E : (Nat → Prop) → State → Prop) (G : va_G) (kt : List (ClassId × FieldType)) (av : List Value) (w : va_W) (post : Int32 → S → Prop) (w' : S → va_W) : Prop :=
  ∀ sz : Nat, Met l y ws rm (va_Pc av (bw_PB E G kt w sz)) (va_Qi post (fun u t => bw_QB G (va_A w sz) (w' u) t) (va_A w sz)) rm.cells rm.slots (va_A w sz)
def bw_Cv {S : Type} (l : Launch) (y : MethodName) (ws : List Cond) (rm : Room) (E : (Nat → Prop) → State → Prop) (G : va_G) (kt : List (ClassId × FieldType)) (av : List Value) (w : va_W) (post : S → Prop) (w' : S → va_W) : Prop :=
  ∀ sz : Nat, Met l y ws rm (va_Pc av (bw_PB E G kt w sz)) (va_Qv post (fun u t => bw_QB G (va_A w sz) (w' u) t) (va_A w sz)) rm.cells rm.slots (va_A w sz)
theorem bw_blind {E : (Nat → Prop) → State → Prop} (hE : bw_Eb E) {G : va_G} {kt : List (ClassId × FieldType)} {w : va_W} {sz : Nat} {av : List Value} : FrameBlind (va_Pc av (bw_PB E G kt w sz)) := by
  intro a U g mk q
  obtain ⟨q0, q1, qP, qK, qD, qE⟩ := q
  exact ⟨q0, q1, qP, va_K.moved (u := U) (U := U.calling g mk a) (Vm.Alike.refl U.vm) qK, qD, hE _ _ _ _ _ qE⟩
/-- what a walk of a body is given -/
def bw_Bd (l : Launch) (y : MethodName) (ws : List Cond) (rm : Room) (E : (Nat → Prop) → State → Prop) (G : va_G) (kt : List (ClassId × FieldType)) (av : List Value) (w : va_W) (cc : ByteArray) (maxL : Nat) (Rt : Program → Env → State → MethodId → List Frame → Method → Code → (Nat → Prop) → (State → Prop) → Prop) : Prop :=
  ∀ (p : Program) (e : Env) (s : State) (m : MethodId) (below : List Frame) (meth : Method) (c : Code) (A : Nat → Prop) (Q : State → Prop), p.tables.exec = Jvm.exec → c.code = cc → c.maxLocals = maxL → (∀ x ∈ ws, x.before av.toArray s = true) → s.vm.findClass y.cls = some m.cls → meth.name = y.name → va_K G vwCl kt s → (∀ q : Nat, s.heap.size ≤ q → A q) → va_S A s.heap s.heap [] → va_P G vwCl w s.heap → va_D A w → E A s →
    Rt p e s m below meth c A Q → ∀ ls : Array Slot, lv_has ls maxL (lv_args 0 av) → W p l e rm s m av.toArray below meth c s.heap [] 0 0 Q (F0 m 0 ls [])
theorem bw_Ci.of {S : Type} {l : Launch} {y : MethodName} {ws ws' : List Cond} {rm : Room} {E : (Nat → Prop) → State → Prop} {G : va_G} {kt : List (ClassId × FieldType)} {av : List Value} {w : va_W} {post : Int32 → S → Prop} {w' : S → va_W} {cc : ByteArray} {maxL : Nat} {ty : FieldType}
    (hy : plainName y.cls = true) (hw : ws = Cond.code y cc maxL (some ty) :: ws') (hlen : (lg_sl av).length ≤ maxL)
    (body : bw_Bd l y ws rm E G kt av w cc maxL (fun p e s m below meth c A Q => ∀ (v : Int32) (u : S) (H : Heap) (locs : List Loc) (k n pc : Nat) (ls : Array Slot), narrow ty (.int v) = .int v → post v u → va_P G vwCl (w' u) H → va_D A (w' u) → va_S A s.heap H locs → k ≤ rm.cells → n ≤ rm.slots → decode cc pc = .ok (.ireturn, 1) → W p l e rm s m av.toArray below meth c H locs k n Q (F0 m pc ls [.int v]))) : bw_Ci l y ws rm E G kt av w post w' := by
  intro sz
  refine Met.ofW (cc := cc) (maxL := maxL) (ret := some ty) hy hw ?_
  intro p e s m args below meth c s₁ B hml hv
  obtain ⟨rfl, hsz, hP, hK, hD0, hE⟩ := hv
  have hx := B.exec
  have hb := B.bytes
  have hr := B.returns
  have hts := atoms_spec (ws := ws) B.pre
  have hown : s.vm.findClass y.cls = some m.cls := findClass_of_methodNamed B.named
  have hlocks := B.notSynchronized
  have hin : meth.name = y.name := (name_of_methodNamed B.named B.method).1
  subst hsz
  have hD := hD0.self (sz := s.heap.size)
  have hA : ∀ q : Nat, s.heap.size ≤ q → va_A w s.heap.size q := fun q h => Or.inr h
  have hl := lv_entry av (n := maxL) hlen
  rw [lg_entry_eq]
  refine body p e s m below meth c (va_A w s.heap.size) _ hx hb hml hts hown hin hK hA va_S.rf hP hD hE ?_ _ hl
  intro v u H locs k n pc ls hn hp hP hD hS hk hn2 hd
  refine W.widen hk hn2 ?_
  exact W.zret hx hb hr hn (fun t ht hW => ⟨⟨v, u, rfl, hp, by rw [ht]; exact hP, hD⟩, hS.F ht⟩) hS.2.2 hd hlocks
theorem bw_Cv.of {S : Type} {l : Launch} {y : MethodName} {ws ws' : List Cond} {rm : Room} {E : (Nat → Prop) → State → Prop} {G : va_G} {kt : List (ClassId × FieldType)} {av : List Value} {w : va_W} {post : S → Prop} {w' : S → va_W} {cc : ByteArray} {maxL : Nat}
    (hy : plainName y.cls = true) (hw : ws = Cond.code y cc maxL none :: ws') (hlen : (lg_sl av).length ≤ maxL)
    (body : bw_Bd l y ws rm E G kt av w cc maxL (fun p e s m below meth c A Q => ∀ (u : S) (H : Heap) (locs : List Loc) (k n pc : Nat) (ls : Array Slot), post u → va_P G vwCl (w' u) H → va_D A (w' u) → va_S A s.heap H locs → k ≤ rm.cells → n ≤ rm.slots → decode cc pc = .ok (.return_, 1) → W p l e rm s m av.toArray below meth c H locs k n Q (F0 m pc ls []))) : bw_Cv l y ws rm E G kt av w post w' := by
  intro sz
  refine Met.ofW (cc := cc) (maxL := maxL) (ret := none) hy hw ?_
  intro p e s m args below meth c s₁ B hml hv
  obtain ⟨rfl, hsz, hP, hK, hD0, hE⟩ := hv
  have hx := B.exec
  have hb := B.bytes
  have hr := B.returns
  have hts := atoms_spec (ws := ws) B.pre
  have hown : s.vm.findClass y.cls = some m.cls := findClass_of_methodNamed B.named
  have hlocks := B.notSynchronized
  have hin : meth.name = y.name := (name_of_methodNamed B.named B.method).1
  subst hsz
  have hD := hD0.self (sz := s.heap.size)
  have hA : ∀ q : Nat, s.heap.size ≤ q → va_A w s.heap.size q := fun q h => Or.inr h
  have hl := lv_entry av (n := maxL) hlen
  rw [lg_entry_eq]
  refine body p e s m below meth c (va_A w s.heap.size) _ hx hb hml hts hown hin hK hA va_S.rf hP hD hE ?_ _ hl
  intro u H locs k n pc ls hp hP hD hS hk hn2 hd
  refine W.widen hk hn2 ?_
  exact W.vret hx hb hr (fun t ht hW => ⟨⟨u, rfl, hp, by rw [ht]; exact hP, hD⟩, hS.F ht⟩) hS.2.2 hd hlocks
section BWC
variable {p : Program} {l : Launch} {e : Env} {R : Room} {s : State} {m : MethodId} {args : Array Value} {below : List Frame} {meth : Method} {c : Code} {H : Heap} {locs : List Loc} {cells slots : Nat} {Q : State → Prop}
variable {cc : ByteArray} {nL : Nat} {Ts : List Cond} {own : String} {G : va_G} {kt : List (ClassId × FieldType)} {w0 wc wr : va_W} {A : Nat → Prop} {S : Type} {y : MethodName} {ws ws' : List Cond} {rm : Room} {E : (Nat → Prop) → State → Prop} {As rest stk : List Value} {b : Addr} {w' : S → va_W} {bytes : ByteArray} {maxL index pc : Nat} {ret : Option FieldType} {C : String} {ls : Array Slot} {fs : List Value} {q : vw_C}
theorem bw_Cv.hp {av : List Value} (hEb : bw_Eb E) (hK : va_K G vwCl kt s) (hPc : va_P G vwCl wc H) (hDc : va_D A wc) (hE : ∀ U : State, U.heap = H → s.WarmedH U.vm → E (va_A wc H.size) U) : PreS s H (va_Pc av (bw_PB E G kt wc H.size)) av :=
  ⟨bw_blind hEb, fun U hU hW => ⟨rfl, by rw [hU], by rw [hU]; exact hPc, va_K.moved hW.alike hK, hDc.weaken (fun _ _ _ _ => trivial), hE U hU hW⟩⟩
theorem bw_run_i {post : Int32 → S → Prop} {a : Array Value} (hP : va_P G vwCl w0 H) (hD : va_D A w0) (hS : va_S A s.heap H locs) (hA : ∀ q : Nat, s.heap.size ≤ q → A q) (isC isR : List Nat) (hC : isC.map (fun i => w0[i]?) = wc.map some) (hR : isR.map (fun i => w0[i]?) = wr.map some) (hnd : va_nd isR = true) (hdis : ∀ i ∈ isR, i ∉ isC)
    (hr : va_Run p l e R s m args below meth c H locs cells slots rm.cells rm.slots (F0 m pc ls stk) rest (va_Qi post (fun u t => bw_QB G (va_A wc H.size) (w' u) t) (va_A wc H.size) a) (va_A wc H.size))
    (kk : ∀ (r : Int32) (u : S) (H1 : Heap) (locs1 : List Loc), post r u → va_P G vwCl (wr ++ w' u) H1 → va_D A (wr ++ w' u) → va_S A s.heap H1 locs1 → W p l e R s m args below meth c H1 locs1 (cells + rm.cells) (slots + rm.slots) Q (F0 m (pc + 3) ls (.int r :: rest))) : W p l e R s m args below meth c H locs cells slots Q (F0 m pc ls stk) := by
  have hF := va_free (wc := wc) hD hS hA isC hC
  refine va_calli hr hS (fun q _ h => hF q h) hF (fun r u t H1 locs1 ht hvm hw hB hz hk hS1 => ?_)
  obtain ⟨hP1, hD1⟩ := hB
  rw [ht] at hP1
  obtain ⟨hP2, hD2⟩ := va_join (wr := wr) (w1 := w' u) hP hD isC isR hC hR hnd hdis hk hF hP1 hD1
  exact kk r u H1 locs1 hw hP2 hD2 hS1
theorem bw_run_v {post : S → Prop} {a : Array Value} (hP : va_P G vwCl w0 H) (hD : va_D A w0) (hS : va_S A s.heap H locs) (hA : ∀ q : Nat, s.heap.size ≤ q → A q) (isC isR : List Nat) (hC : isC.map (fun i => w0[i]?) = wc.map some) (hR : isR.map (fun i => w0[i]?) = wr.map some) (hnd : va_nd isR = true) (hdis : ∀ i ∈ isR, i ∉ isC)
    (hr : va_Run p l e R s m args below meth c H locs cells slots rm.cells rm.slots (F0 m pc ls stk) rest (va_Qv post (fun u t => bw_QB G (va_A wc H.size) (w' u) t) (va_A wc H.size) a) (va_A wc H.size))
    (kk : ∀ (u : S) (H1 : Heap) (locs1 : List Loc), post u → va_P G vwCl (wr ++ w' u) H1 → va_D A (wr ++ w' u) → va_S A s.heap H1 locs1 → W p l e R s m args below meth c H1 locs1 (cells + rm.cells) (slots + rm.slots) Q (F0 m (pc + 3) ls rest)) : W p l e R s m args below meth c H locs cells slots Q (F0 m pc ls stk) := by
  have hF := va_free (wc := wc) hD hS hA isC hC
  refine va_callv hr hS (fun q _ h => hF q h) hF (fun u t H1 locs1 ht hvm hw hB hz hk hS1 => ?_)
  obtain ⟨hP1, hD1⟩ := hB
  rw [ht] at hP1
  obtain ⟨hP2, hD2⟩ := va_join (wr := wr) (w1 := w' u) hP hD isC isR hC hR hnd hdis hk hF hP1 hD1
  exact kk u H1 locs1 hw hP2 hD2 hS1
theorem bw_subP {isC : List Nat} (hP : va_P G vwCl w0 H) (hC : isC.map (fun i => w0[i]?) = wc.map some) : va_P G vwCl wc H := by
  intro k q hq
  have h1 : (isC.map (fun i => w0[i]?))[k]? = some (some q) := by rw [hC, List.getElem?_map, hq]; rfl
  rw [List.getElem?_map] at h1
  cases hi : isC[k]? with
  | none => rw [hi] at h1; cases h1
  | some i => rw [hi] at h1; exact hP i q (Option.some.inj h1)
/-- a call of an instance method, with an int for an answer -/
theorem bw_callVi {post : Int32 → S → Prop} (F : CallFix p m c cc nL s args Ts own) (hK : va_K G vwCl kt s) (hP : va_P G vwCl w0 H) (hD : va_D A w0) (hS : va_S A s.heap H locs) (hA : ∀ q : Nat, s.heap.size ≤ q → A q)
    (hM : bw_Ci l y ws rm E G kt (.ref b :: As) wc post w') (hEb : bw_Eb E) (hE : (∀ q : Nat, va_A wc H.size q → A q) → ∀ U : State, U.heap = H → s.WarmedH U.vm → E (va_A wc H.size) U) (hT : GoodIn Ts (wsV own index C y ws)) (hw : ws = Cond.code y bytes maxL ret :: ws')
    (hd : y.cls = C ∧ y.cls ≠ "java/lang/invoke/MethodHandle" ∧ y.cls ≠ "java/lang/invoke/VarHandle" ∧ (parseMethodDescriptor y.desc).map (fun d => d.parameters.length) = some As.length) (hRm : rm.frames + 1 ≤ R.frames ∧ 8 + (maxL + 11) + rm.locals ≤ R.locals)
    (isC isR : List Nat) (hC : isC.map (fun i => w0[i]?) = wc.map some) (hR : isR.map (fun i => w0[i]?) = wr.map some) (hnd : va_nd isR = true) (hdis : ∀ i ∈ isR, i ∉ isC) (hnc : va_nd isC = true) (k0 ci : Nat) (hc : vwCl[ci]? = some q) (hq : q.1 = C) (he : wc[k0]? = some (b, .inr (ci, fs)))
    (hsize : ls.size = nL) (hstack : stk = As.reverse ++ .ref b :: rest) (hroom : (rest.map fun v => v.category).sum ≤ 8) (hdg : decode cc pc = .ok (.invokevirtual index, 3)) (hf : cells + rm.cells ≤ R.cells ∧ slots + rm.slots ≤ R.slots)
    (kk : ∀ (r : Int32) (u : S) (H1 : Heap) (locs1 : List Loc), post r u → va_P G vwCl (wr ++ w' u) H1 → va_D A (wr ++ w' u) → va_S A s.heap H1 locs1 → W p l e R s m args below meth c H1 locs1 (cells + rm.cells) (slots + rm.slots) Q (F0 m (pc + 3) ls (.int r :: rest))) : W p l e R s m args below meth c H locs cells slots Q (F0 m pc ls stk) := by
  have hPc := bw_subP hP hC
  have hDc := hD.sub isC hnc hC
  have hF := va_free (wc := wc) hD hS hA isC hC
  have hp := bw_Cv.hp (av := .ref b :: As) hEb hK hPc hDc (hE hF)
  subst hq
  exact bw_run_i hP hD hS hA isC isR hC hR hnd hdis (va_runV (As := As) F (hM H.size) (cwV As.length F.2.2.2.2 hT hw rfl rfl hd hRm) ⟨hp.1, va_recv hK hPc hc he, hp.2⟩ rfl rfl hsize hstack (lv_room (m := m) (pc := pc) (ls := ls) (rest := stk) hroom) hdg hf) kk
theorem bw_callVv {post : S → Prop} (F : CallFix p m c cc nL s args Ts own) (hK : va_K G vwCl kt s) (hP : va_P G vwCl w0 H) (hD : va_D A w0) (hS : va_S A s.heap H locs) (hA : ∀ q : Nat, s.heap.size ≤ q → A q)
    (hM : bw_Cv l y ws rm E G kt (.ref b :: As) wc post w') (hEb : bw_Eb E) (hE : (∀ q : Nat, va_A wc H.size q → A q) → ∀ U : State, U.heap = H → s.WarmedH U.vm → E (va_A wc H.size) U) (hT : GoodIn Ts (wsV own index C y ws)) (hw : ws = Cond.code y bytes maxL ret :: ws')
    (hd : y.cls = C ∧ y.cls ≠ "java/lang/invoke/MethodHandle" ∧ y.cls ≠ "java/lang/invoke/VarHandle" ∧ (parseMethodDescriptor y.desc).map (fun d => d.parameters.length) = some As.length) (hRm : rm.frames + 1 ≤ R.frames ∧ 8 + (maxL + 11) + rm.locals ≤ R.locals)
    (isC isR : List Nat) (hC : isC.map (fun i => w0[i]?) = wc.map some) (hR : isR.map (fun i => w0[i]?) = wr.map some) (hnd : va_nd isR = true) (hdis : ∀ i ∈ isR, i ∉ isC) (hnc : va_nd isC = true) (k0 ci : Nat) (hc : vwCl[ci]? = some q) (hq : q.1 = C) (he : wc[k0]? = some (b, .inr (ci, fs)))
    (hsize : ls.size = nL) (hstack : stk = As.reverse ++ .ref b :: rest) (hroom : (rest.map fun v => v.category).sum ≤ 8) (hdg : decode cc pc = .ok (.invokevirtual index, 3)) (hf : cells + rm.cells ≤ R.cells ∧ slots + rm.slots ≤ R.slots)
    (kk : ∀ (u : S) (H1 : Heap) (locs1 : List Loc), post u → va_P G vwCl (wr ++ w' u) H1 → va_D A (wr ++ w' u) → va_S A s.heap H1 locs1 → W p l e R s m args below meth c H1 locs1 (cells + rm.cells) (slots + rm.slots) Q (F0 m (pc + 3) ls rest)) : W p l e R s m args below meth c H locs cells slots Q (F0 m pc ls stk) := by
  have hPc := bw_subP hP hC
  have hDc := hD.sub isC hnc hC
  have hF := va_free (wc := wc) hD hS hA isC hC
  have hp := bw_Cv.hp (av := .ref b :: As) hEb hK hPc hDc (hE hF)
  subst hq
  exact bw_run_v hP hD hS hA isC isR hC hR hnd hdis (va_runV (As := As) F (hM H.size) (cwV As.length F.2.2.2.2 hT hw rfl rfl hd hRm) ⟨hp.1, va_recv hK hPc hc he, hp.2⟩ rfl rfl hsize hstack (lv_room (m := m) (pc := pc) (ls := ls) (rest := stk) hroom) hdg hf) kk
theorem bw_callSi {post : Int32 → S → Prop} (F : CallFix p m c cc nL s args Ts own) (hK : va_K G vwCl kt s) (hP : va_P G vwCl w0 H) (hD : va_D A w0) (hS : va_S A s.heap H locs) (hA : ∀ q : Nat, s.heap.size ≤ q → A q)
    (hM : bw_Ci l y ws rm E G kt As wc post w') (hEb : bw_Eb E) (hE : (∀ q : Nat, va_A wc H.size q → A q) → ∀ U : State, U.heap = H → s.WarmedH U.vm → E (va_A wc H.size) U) (hT : GoodIn Ts (wsS own index y ws)) (hw : ws = Cond.code y bytes maxL ret :: ws')
    (hd : y.cls = own ∧ y.cls ≠ "java/lang/invoke/MethodHandle" ∧ y.cls ≠ "java/lang/invoke/VarHandle" ∧ (parseMethodDescriptor y.desc).map (fun d => d.parameters.length) = some As.length) (hRm : rm.frames + 1 ≤ R.frames ∧ 8 + (maxL + 11) + rm.locals ≤ R.locals)
    (isC isR : List Nat) (hC : isC.map (fun i => w0[i]?) = wc.map some) (hR : isR.map (fun i => w0[i]?) = wr.map some) (hnd : va_nd isR = true) (hdis : ∀ i ∈ isR, i ∉ isC) (hnc : va_nd isC = true)
    (hsize : ls.size = nL) (hstack : stk = As.reverse ++ rest) (hroom : (rest.map fun v => v.category).sum ≤ 8) (hdg : decode cc pc = .ok (.invokestatic index, 3)) (hf : cells + rm.cells ≤ R.cells ∧ slots + rm.slots ≤ R.slots)
    (kk : ∀ (r : Int32) (u : S) (H1 : Heap) (locs1 : List Loc), post r u → va_P G vwCl (wr ++ w' u) H1 → va_D A (wr ++ w' u) → va_S A s.heap H1 locs1 → W p l e R s m args below meth c H1 locs1 (cells + rm.cells) (slots + rm.slots) Q (F0 m (pc + 3) ls (.int r :: rest))) : W p l e R s m args below meth c H locs cells slots Q (F0 m pc ls stk) := by
  have hPc := bw_subP hP hC
  have hDc := hD.sub isC hnc hC
  have hF := va_free (wc := wc) hD hS hA isC hC
  have hp := bw_Cv.hp (av := As) hEb hK hPc hDc (hE hF)
  exact bw_run_i hP hD hS hA isC isR hC hR hnd hdis (va_runS (As := As) F (hM H.size) (cwS As.length F.2.2.2.2 hT hw rfl rfl hd hRm) hp rfl rfl hsize hstack (lv_room (m := m) (pc := pc) (ls := ls) (rest := stk) hroom) hdg hf) kk
theorem bw_callIv {post : S → Prop} (F : CallFix p m c cc nL s args Ts own) (hK : va_K G vwCl kt s) (hP : va_P G vwCl w0 H) (hD : va_D A w0) (hS : va_S A s.heap H locs) (hA : ∀ q : Nat, s.heap.size ≤ q → A q)
    (hM : bw_Cv l y ws rm E G kt (.ref b :: As) wc post w') (hEb : bw_Eb E) (hE : (∀ q : Nat, va_A wc H.size q → A q) → ∀ U : State, U.heap = H → s.WarmedH U.vm → E (va_A wc H.size) U) (hT : GoodIn Ts ws) (hw : ws = Cond.code y bytes maxL none :: ws')
    (hini : (Cond.initialized y.cls).before args s = true) (hl : (Cond.methodLink own index y).before args s = true) (hin : (Cond.instanceMethod y).before args s = true) (hy1 : y.name = "<init>")
    (hd : y.cls ≠ "java/lang/invoke/MethodHandle" ∧ y.cls ≠ "java/lang/invoke/VarHandle" ∧ (parseMethodDescriptor y.desc).map (fun d => d.parameters.length) = some As.length) (hRm : rm.frames + 1 ≤ R.frames ∧ 8 + (maxL + 11) + rm.locals ≤ R.locals)
    (isC isR : List Nat) (hC : isC.map (fun i => w0[i]?) = wc.map some) (hR : isR.map (fun i => w0[i]?) = wr.map some) (hnd : va_nd isR = true) (hdis : ∀ i ∈ isR, i ∉ isC) (hnc : va_nd isC = true)
    (hsize : ls.size = nL) (hstack : stk = As.reverse ++ .ref b :: rest) (hroom : (rest.map fun v => v.category).sum ≤ 8) (hdg : decode cc pc = .ok (.invokespecial index, 3)) (hf : cells + rm.cells ≤ R.cells ∧ slots + rm.slots ≤ R.slots)
    (kk : ∀ (u : S) (H1 : Heap) (locs1 : List Loc), post u → va_P G vwCl (wr ++ w' u) H1 → va_D A (wr ++ w' u) → va_S A s.heap H1 locs1 → W p l e R s m args below meth c H1 locs1 (cells + rm.cells) (slots + rm.slots) Q (F0 m (pc + 3) ls rest)) : W p l e R s m args below meth c H locs cells slots Q (F0 m pc ls stk) := by
  have hPc := bw_subP hP hC
  have hDc := hD.sub isC hnc hC
  have hF := va_free (wc := wc) hD hS hA isC hC
  have hp := bw_Cv.hp (av := .ref b :: As) hEb hK hPc hDc (hE hF)
  exact bw_run_v hP hD hS hA isC isR hC hR hnd hdis (va_runI (As := As) F (hM H.size) (cwI As.length F.2.2.2.2 hT hw rfl rfl hini hl hin hy1 hd hRm) hp rfl rfl hsize hstack (lv_room (m := m) (pc := pc) (ls := ls) (rest := stk) hroom) hdg hf) kk
theorem bw_callNv {host : String} {post : S → Prop} (F : CallFix p m c cc nL s args Ts own) (hK : va_K G vwCl kt s) (hP : va_P G vwCl w0 H) (hD : va_D A w0) (hS : va_S A s.heap H locs) (hA : ∀ q : Nat, s.heap.size ≤ q → A q)
    (hM : bw_Cv l y ws rm E G kt (.ref b :: As) wc post w') (hEb : bw_Eb E) (hE : (∀ q : Nat, va_A wc H.size q → A q) → ∀ U : State, U.heap = H → s.WarmedH U.vm → E (va_A wc H.size) U) (hT : GoodIn Ts ws) (hw : ws = Cond.code y bytes maxL none :: ws')
    (hini : (Cond.initialized y.cls).before args s = true) (hl : va_Nw (.methodLinkNest own index y host) s) (hin : (Cond.instanceMethod y).before args s = true) (hy1 : y.name = "<init>")
    (hd : y.cls ≠ "java/lang/invoke/MethodHandle" ∧ y.cls ≠ "java/lang/invoke/VarHandle" ∧ (parseMethodDescriptor y.desc).map (fun d => d.parameters.length) = some As.length) (hRm : rm.frames + 1 ≤ R.frames ∧ 8 + (maxL + 11) + rm.locals ≤ R.locals)
    (isC isR : List Nat) (hC : isC.map (fun i => w0[i]?) = wc.map some) (hR : isR.map (fun i => w0[i]?) = wr.map some) (hnd : va_nd isR = true) (hdis : ∀ i ∈ isR, i ∉ isC) (hnc : va_nd isC = true)
    (hsize : ls.size = nL) (hstack : stk = As.reverse ++ .ref b :: rest) (hroom : (rest.map fun v => v.category).sum ≤ 8) (hdg : decode cc pc = .ok (.invokespecial index, 3)) (hf : cells + rm.cells ≤ R.cells ∧ slots + rm.slots ≤ R.slots)
    (kk : ∀ (u : S) (H1 : Heap) (locs1 : List Loc), post u → va_P G vwCl (wr ++ w' u) H1 → va_D A (wr ++ w' u) → va_S A s.heap H1 locs1 → W p l e R s m args below meth c H1 locs1 (cells + rm.cells) (slots + rm.slots) Q (F0 m (pc + 3) ls rest)) : W p l e R s m args below meth c H locs cells slots Q (F0 m pc ls stk) := by
  have hPc := bw_subP hP hC
  have hDc := hD.sub isC hnc hC
  have hF := va_free (wc := wc) hD hS hA isC hC
  have hp := bw_Cv.hp (av := .ref b :: As) hEb hK hPc hDc (hE hF)
  exact bw_run_v hP hD hS hA isC isR hC hR hnd hdis (va_runIN (As := As) F (hM H.size) ⟨va_cnB As.length F.2.2.2.2 hT hw rfl rfl hl hini hd hRm, hy1, hin⟩ hp rfl rfl hsize hstack (lv_room (m := m) (pc := pc) (ls := ls) (rest := stk) hroom) hdg hf) kk
/-- the kinds of arrays are known ahead: a new array is of the kind in the table -/
theorem bw_same {tys : List (ClassId × FieldType)} {ty : FieldType} {c1 c2 : ClassId} {t1 t2 : Nat} (hK : va_K G vwCl tys s) (h1 : tys[t1]? = some (c1, ty)) (h2 : tys[t2]? = some (c2, ty)) : c1 = c2 := by
  have a := (hK.2 t1 _ h1).2
  have b := (hK.2 t2 _ h2).2
  cases ty with
  | object C =>
    obtain ⟨_, _, _, _, _, a4⟩ := a
    obtain ⟨_, _, _, _, _, b4⟩ := b
    exact Option.some.inj (a4.symm.trans b4)
  | _ => exact Option.some.inj (Eq.trans (Eq.symm a) b)
theorem bw_newa (hexec : p.tables.exec = Jvm.exec) (hb : c.code = cc) {atype : ArrayType} (harr : (Cond.arrayClass (newarray.typeOf atype)).before args s = true) {ty : FieldType} (hty : newarray.typeOf atype = ty) (hK : va_K G vwCl kt s) (hP : va_P G vwCl w0 H) (hD : va_D A w0) (hS : va_S A s.heap H locs) (hA : ∀ q : Nat, s.heap.size ≤ q → A q) (t0 : Nat) {cA : ClassId} (ht : kt[t0]? = some (cA, ty))
    {n : Int32} {N' : Nat} {a0 : vp_A} (ha : ∀ cA : ClassId, vp_cell cA a0 = arrV cA N' (fun _ => defaultValue ty)) (hn : ¬ n < 0) (hN : n.toNatClampNeg = N') (hbytes : N' * componentBytes ty ≤ 536870912) (hcells : cells + 1 ≤ R.cells) (hslots : slots + N' ≤ R.slots) (hdg : decode cc pc = .ok (.newarray atype, 2))
    (kk : ∀ (q : Nat) (H1 : Heap), va_P G vwCl (w0 ++ [(q, .inl (cA, a0))]) H1 → va_D A (w0 ++ [(q, .inl (cA, a0))]) → va_S A s.heap H1 locs →
      W p l e R s m args below meth c H1 locs (cells + 1) (slots + N') Q (F0 m (pc + 2) ls (.ref q :: rest))) : W p l e R s m args below meth c H locs cells slots Q (F0 m pc ls (.int n :: rest)) := by
  refine va_newa hexec hb harr hty hK hP hD hS hA ha hn hN hbytes hcells hslots hdg (fun q c2 H1 hK1 hP1 hD1 hS1 => ?_)
  have e : c2 = cA := bw_same (ty := ty) (c1 := c2) (c2 := cA) (t1 := kt.length) (t2 := t0) hK1 (by simp) (by rw [List.getElem?_append_left (List.getElem?_eq_some_iff.mp ht).1]; exact ht)
  subst e
  exact kk q H1 hP1 hD1 hS1
end BWC
