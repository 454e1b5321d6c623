/-! calls of the JDK's own: a receiver that is known otherwise than by the world; static methods of another class; arrays of references -/
theorem bw_gX {own : String} {idx : Nat} {y : MethodName} {c : Cond} (h1 : Cond.methodLink own idx y ∈ bw_T) (h2 : bw_KS y.cls y c) : GoodIn bw_T (va_wsS own idx y (bw_ws c)) := by
  obtain ⟨a, b, d⟩ := h2
  refine bw_g (fun w hw => ?_)
  unfold va_wsS at hw
  rcases List.mem_append.mp hw with h | h
  · simp only [List.mem_cons, List.not_mem_nil, or_false] at h
    rcases h with rfl | rfl | rfl <;> assumption
  · exact bw_gc d w h
def bw_Str (sa va N : Nat) (f : Nat → Int32) (A : Nat → Prop) (U : State) (H : Heap) : Prop := va_O "java/lang/String" sa A U H ∧ va_OF "java/lang/String" "coder" "B" (.int 0) sa A U H ∧ va_OF "java/lang/String" "value" "[B" (.ref va) sa A U H ∧ va_T .byte va N (fun j => .int (f j)) A U H
theorem bw_cI (n : Nat) : ∀ cA : ClassId, vp_cell cA (n, .inl (fun _ => 0)) = arrV cA n (fun _ => defaultValue .int) := fun _ => rfl
theorem bw_cB (n : Nat) : ∀ cA : ClassId, vp_cell cA (n, .inl (fun _ => 0)) = arrV cA n (fun _ => defaultValue .byte) := fun _ => rfl
theorem bw_cJ (n : Nat) : ∀ cA : ClassId, vp_cell cA (n, .inr (.inl (fun _ => 0))) = arrV cA n (fun _ => defaultValue .long) := fun _ => rfl
theorem bw_by {N k : Nat} {ty : FieldType} (h : componentBytes ty = k) (h2 : N * k ≤ 536870912) : N * componentBytes ty ≤ 536870912 := by rw [h]; exact h2
section RX
variable {p : Program} {l : Launch} {e : Env} {R : Room} {s : State} {m : MethodId} {args : Array Value} {below : List Frame} {meth : Method} {c : Code} {H : Heap} {locs : List Loc} {cells slots : Nat} {Q : State → Prop}
variable {cc : ByteArray} {nL : Nat} {own : String} {G : va_G} {kt : List (ClassId × FieldType)} {w0 wc wr : va_W} {A : Nat → Prop} {S : Type} {y : MethodName} {rm : Room} {E : (Nat → Prop) → State → Prop} {As rest stk : List Value} {b a : Addr} {w' : S → va_W} {bytes : ByteArray} {maxL index pc : Nat} {ret : Option FieldType} {C ref : String} {ls : Array Slot} {fs : List Value} {T : u_T} {N ci : Nat}
/-- an int answer of an instance method; the receiver's class by a row of its own; the callee's world is empty -/
theorem r_callR {post : Int32 → S → Prop} (F : CallFix p m c cc nL s args bw_T own) (hK : va_K G vwCl kt s) (hP : va_P G vwCl w0 H) (hD : va_D A w0) (hS : va_S A s.heap H locs) (hA : ∀ q : Nat, s.heap.size ≤ q → A q) (hO : bw_Ok E) (hE : E A s)
    (hM : bw_Ci l y (bw_ws (Cond.code y bytes maxL ret)) rm E G kt (.ref b :: As) [] post (fun _ => [])) (h1 : Cond.methodLink own index y ∈ bw_T) (h2 : bw_KV C y (Cond.code y bytes maxL ret)) (nA : Nat) (hnA : As.length = nA)
    (hd : y.cls = C ∧ y.cls ≠ "java/lang/invoke/MethodHandle" ∧ y.cls ≠ "java/lang/invoke/VarHandle" ∧ (parseMethodDescriptor y.desc).map (fun d => d.parameters.length) = some nA) (hRm : rm.frames + 1 ≤ R.frames ∧ 8 + (maxL + 11) + rm.locals ≤ R.locals)
    (isR : List Nat) (hR : isR.map (fun i => w0[i]?) = w0.map some) (hnd : va_nd isR = true) (hrec : ∃ cell : Cell, H[b]? = some cell ∧ cell.vm.isStatics = false ∧ s.vm.findClass C = some cell.cls)
    (hsize : ls.size = nL) (hstack : stk = As.reverse ++ .ref b :: rest) (hroom : (rest.map fun v => v.category).sum ≤ 8) (hdg : decode cc pc = .ok (.invokevirtual index, 3)) (hf : cells + rm.cells ≤ R.cells ∧ slots + rm.slots ≤ R.slots)
    (kk : ∀ (r : Int32) (u : S) (H1 : Heap) (locs1 : List Loc), post r u → va_P G vwCl w0 H1 → va_D A w0 → va_S A s.heap H1 locs1 → W p l e R s m args below meth c H1 locs1 (cells + rm.cells) (slots + rm.slots) Q (F0 m (pc + 3) ls (.int r :: rest))) : W p l e R s m args below meth c H locs cells slots Q (F0 m pc ls stk) := by
  have hPc : va_P G vwCl [] H := fun k q h => by simp at h
  have hDc : va_D A [] := ⟨fun i j p q h => by simp at h, fun k q h => by simp at h⟩
  have hF := va_free (wc := []) hD hS hA [] rfl
  have hp := bw_Cv.hp (av := .ref b :: As) hO.1 hK hPc hDc (fun U hU hW => hO.2 A _ s U H locs hE hS hF hU hW)
  subst hnA
  exact bw_run_i (wc := []) (wr := w0) hP hD hS hA [] isR rfl hR hnd (fun _ _ h => by simp at h) (va_runV (As := As) F (hM H.size) (cwV As.length F.2.2.2.2 (bw_gV h1 h2) rfl rfl rfl hd hRm) ⟨hp.1, hrec, hp.2⟩ rfl rfl hsize hstack (lv_room (m := m) (pc := pc) (ls := ls) (rest := stk) hroom) hdg hf) (fun r u H1 locs1 hp hP1 hD1 hS1 => kk r u H1 locs1 hp (by simpa using hP1) (by simpa using hD1) hS1)
/-- a static method of any class, an int answer -/
theorem r_callXi {post : Int32 → S → Prop} (F : CallFix p m c cc nL s args bw_T own) (hK : va_K G vwCl kt s) (hP : va_P G vwCl w0 H) (hD : va_D A w0) (hS : va_S A s.heap H locs) (hA : ∀ q : Nat, s.heap.size ≤ q → A q) (hO : bw_Ok E) (hE : E A s)
    (hM : bw_Ci l y (bw_ws (Cond.code y bytes maxL ret)) rm E G kt As [] post (fun _ => [])) (h1 : Cond.methodLink own index y ∈ bw_T) (h2 : bw_KS y.cls y (Cond.code y bytes maxL ret)) (nA : Nat) (hnA : As.length = nA)
    (hd : y.cls ≠ "java/lang/invoke/MethodHandle" ∧ y.cls ≠ "java/lang/invoke/VarHandle" ∧ (parseMethodDescriptor y.desc).map (fun d => d.parameters.length) = some nA) (hRm : rm.frames + 1 ≤ R.frames ∧ 8 + (maxL + 11) + rm.locals ≤ R.locals)
    (isR : List Nat) (hR : isR.map (fun i => w0[i]?) = w0.map some) (hnd : va_nd isR = true)
    (hsize : ls.size = nL) (hstack : stk = As.reverse ++ rest) (hroom : (rest.map fun v => v.category).sum ≤ 8) (hdg : decode cc pc = .ok (.invokestatic index, 3)) (hf : cells + rm.cells ≤ R.cells ∧ slots + rm.slots ≤ R.slots)
    (kk : ∀ (r : Int32) (u : S) (H1 : Heap) (locs1 : List Loc), post r u → va_P G vwCl w0 H1 → va_D A w0 → va_S A s.heap H1 locs1 → W p l e R s m args below meth c H1 locs1 (cells + rm.cells) (slots + rm.slots) Q (F0 m (pc + 3) ls (.int r :: rest))) : W p l e R s m args below meth c H locs cells slots Q (F0 m pc ls stk) := by
  have hPc : va_P G vwCl [] H := fun k q h => by simp at h
  have hDc : va_D A [] := ⟨fun i j p q h => by simp at h, fun k q h => by simp at h⟩
  have hF := va_free (wc := []) hD hS hA [] rfl
  have hp := bw_Cv.hp (av := As) hO.1 hK hPc hDc (fun U hU hW => hO.2 A _ s U H locs hE hS hF hU hW)
  subst hnA
  exact bw_run_i (wc := []) (wr := w0) hP hD hS hA [] isR rfl hR hnd (fun _ _ h => by simp at h) (va_runS (As := As) F (hM H.size) (va_cwS As.length F.2.2.2.2 (bw_gX h1 h2) rfl rfl rfl hd hRm) hp rfl rfl hsize hstack (lv_room (m := m) (pc := pc) (ls := ls) (rest := stk) hroom) hdg hf) (fun r u H1 locs1 hp hP1 hD1 hS1 => kk r u H1 locs1 hp (by simpa using hP1) (by simpa using hD1) hS1)
theorem r_callXv {post : S → Prop} (F : CallFix p m c cc nL s args bw_T own) (hK : va_K G vwCl kt s) (hP : va_P G vwCl w0 H) (hD : va_D A w0) (hS : va_S A s.heap H locs) (hA : ∀ q : Nat, s.heap.size ≤ q → A q) (hO : bw_Ok E) (hE : E A s)
    (hM : bw_Cv l y (bw_ws (Cond.code y bytes maxL ret)) rm E G kt As [] post (fun _ => [])) (h1 : Cond.methodLink own index y ∈ bw_T) (h2 : bw_KS y.cls y (Cond.code y bytes maxL ret)) (nA : Nat) (hnA : As.length = nA)
    (hd : y.cls ≠ "java/lang/invoke/MethodHandle" ∧ y.cls ≠ "java/lang/invoke/VarHandle" ∧ (parseMethodDescriptor y.desc).map (fun d => d.parameters.length) = some nA) (hRm : rm.frames + 1 ≤ R.frames ∧ 8 + (maxL + 11) + rm.locals ≤ R.locals)
    (isR : List Nat) (hR : isR.map (fun i => w0[i]?) = w0.map some) (hnd : va_nd isR = true)
    (hsize : ls.size = nL) (hstack : stk = As.reverse ++ rest) (hroom : (rest.map fun v => v.category).sum ≤ 8) (hdg : decode cc pc = .ok (.invokestatic index, 3)) (hf : cells + rm.cells ≤ R.cells ∧ slots + rm.slots ≤ R.slots)
    (kk : ∀ (u : S) (H1 : Heap) (locs1 : List Loc), post u → va_P G vwCl w0 H1 → va_D A w0 → va_S A s.heap H1 locs1 → W p l e R s m args below meth c H1 locs1 (cells + rm.cells) (slots + rm.slots) Q (F0 m (pc + 3) ls rest)) : W p l e R s m args below meth c H locs cells slots Q (F0 m pc ls stk) := by
  have hPc : va_P G vwCl [] H := fun k q h => by simp at h
  have hDc : va_D A [] := ⟨fun i j p q h => by simp at h, fun k q h => by simp at h⟩
  have hF := va_free (wc := []) hD hS hA [] rfl
  have hp := bw_Cv.hp (av := As) hO.1 hK hPc hDc (fun U hU hW => hO.2 A _ s U H locs hE hS hF hU hW)
  subst hnA
  exact bw_run_v (wc := []) (wr := w0) hP hD hS hA [] isR rfl hR hnd (fun _ _ h => by simp at h) (va_runS (As := As) F (hM H.size) (va_cwS As.length F.2.2.2.2 (bw_gX h1 h2) rfl rfl rfl hd hRm) hp rfl rfl hsize hstack (lv_room (m := m) (pc := pc) (ls := ls) (rest := stk) hroom) hdg hf) (fun u H1 locs1 hp hP1 hD1 hS1 => kk u H1 locs1 hp (by simpa using hP1) (by simpa using hD1) hS1)
theorem r_newq (F : CallFix p m c cc nL s args bw_T own) (hcl : Cond.classLink own index C ∈ bw_T) (hov : va_AO C s) (hK : va_K G vwCl kt s) (hP : va_P G vwCl w0 H) (hD : va_D A w0) (hS : va_S A s.heap H locs) (hA : ∀ q : Nat, s.heap.size ≤ q → A q) (t0 : Nat) {cA : ClassId} (ht : kt[t0]? = some (cA, .object C))
    {n : Int32} (N' : Nat) (hn : ¬ n < 0) (hN : n.toNatClampNeg = N') (hbytes : N' * 4 ≤ 536870912) (hcells : cells + 1 ≤ R.cells) (hslots : slots + N' ≤ R.slots) (hdg : decode cc pc = .ok (.anewarray index, 3)) {w1 : Nat → va_W} (hw : ∀ q, w0 ++ [(q, .inl (cA, N', .inr (.inr (.inr (.inr (fun _ => none))))))] = w1 q)
    (kk : ∀ (q : Nat) (H1 : Heap), va_P G vwCl (w1 q) H1 → va_D A (w1 q) → va_S A s.heap H1 locs →
      W p l e R s m args below meth c H1 locs (cells + 1) (slots + N') Q (F0 m (pc + 3) ls (.ref q :: rest))) : W p l e R s m args below meth c H locs cells slots Q (F0 m pc ls (.int n :: rest)) := by
  refine va_newq F.1 F.2.1 F.2.2.2.1 (F.2.2.2.2 _ hcl) hov hK hP hD hS hA hn hN hbytes hcells hslots hdg (fun q c2 H1 hK1 hP1 hD1 hS1 => ?_)
  have e : c2 = cA := bw_same (ty := .object C) (c1 := c2) (c2 := cA) (t1 := kt.length) (t2 := t0) hK1 (by simp) (by rw [List.getElem?_append_left (List.getElem?_eq_some_iff.mp ht).1]; exact ht)
  subst e
  rw [hw] at hP1 hD1
  exact kk q H1 hP1 hD1 hS1
theorem r_gets {C' n d : String} {v : Value} (F : CallFix p m c cc nL s args bw_T own) (hZ : va_Z C' n d v A s s.heap) (hS : va_S A s.heap H locs) (hl : Cond.fieldLink own index C' n d ∈ bw_T) (hdg : decode cc pc = .ok (.getstatic index, 3)) (kk : W p l e R s m args below meth c H locs cells slots Q (F0 m (pc + 3) ls (v :: rest))) : W p l e R s m args below meth c H locs cells slots Q (F0 m pc ls rest) :=
  va_gets F.1 F.2.1 hZ hS F.2.2.2.1 (F.2.2.2.2 _ hl) (fun _ h => h) hdg kk
theorem r_sget {o n d : String} {v : Value} {q : Nat} (F : CallFix p m c cc nL s args bw_T own) (hZ : va_OF o n d v q A s s.heap) (hS : va_S A s.heap H locs) (hl : Cond.fieldLink own index o n d ∈ bw_T) (hdg : decode cc pc = .ok (.getfield index, 3)) (kk : W p l e R s m args below meth c H locs cells slots Q (F0 m (pc + 3) ls (v :: rest))) : W p l e R s m args below meth c H locs cells slots Q (F0 m pc ls (.ref q :: rest)) :=
  vk_getf F.1 F.2.1 hZ hS F.2.2.2.1 (F.2.2.2.2 _ hl) (fun _ h => h) hdg kk
end RX
