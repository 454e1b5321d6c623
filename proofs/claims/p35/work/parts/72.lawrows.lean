/-- cells put back at their places -/
def lw_set (w : va_W) (is : List Nat) (ws : va_W) : va_W := (is.zip ws).foldl (fun w p => w.set p.1 p.2) w
theorem lw_set_nil (w ws : va_W) : lw_set w [] ws = w := by
  show ((List.zip [] ws).foldl (fun w p => w.set p.1 p.2) w) = w
  rw [List.zip_nil_left]
  rfl
theorem lw_set1 {α : Type} {l : List α} {i : Nat} {v : α} (h : l[i]? = some v) : l.set i v = l := by
  apply List.ext_getElem?
  intro k
  by_cases e : i = k
  · subst e
    obtain ⟨hlt, -⟩ := List.getElem?_eq_some_iff.mp h
    rw [List.getElem?_set_self hlt, h]
  · rw [List.getElem?_set_ne e]
theorem lw_set_fst : ∀ (is : List Nat) (w ws : va_W), is.map (fun i => (w.map Prod.fst)[i]?) = ws.map (fun x => some x.1) → (lw_set w is ws).map Prod.fst = w.map Prod.fst
  | [], w, ws, _ => by rw [lw_set_nil]
  | i :: is, w, [], _ => rfl
  | i :: is, w, x :: xs, h => by
    have h1 : (w.map Prod.fst)[i]? = some x.1 := (List.cons.inj h).1
    have h2 := (List.cons.inj h).2
    have e : (w.set i x).map Prod.fst = w.map Prod.fst := by rw [List.map_set]; exact lw_set1 h1
    show (lw_set (w.set i x) is xs).map Prod.fst = w.map Prod.fst
    rw [lw_set_fst is (w.set i x) xs (by rw [e]; exact h2), e]
theorem lw_set_mem : ∀ (is : List Nat) (w ws : va_W), is.length = ws.length → ∀ (k : Nat) (q : Nat × va_E), (lw_set w is ws)[k]? = some q → q ∈ ws ∨ (w[k]? = some q ∧ k ∉ is)
  | [], w, ws, _, k, q, hq => by rw [lw_set_nil] at hq; exact Or.inr ⟨hq, List.not_mem_nil⟩
  | i :: is, w, [], h, k, q, hq => by cases h
  | i :: is, w, x :: xs, h, k, q, hq => by
    rcases lw_set_mem is (w.set i x) xs (Nat.succ.inj h) k q hq with h1 | ⟨h1, h2⟩
    · exact Or.inl (List.mem_cons_of_mem _ h1)
    · by_cases e : i = k
      · subst e
        obtain ⟨hlt, -⟩ := List.getElem?_eq_some_iff.mp h1
        rw [List.length_set] at hlt
        rw [List.getElem?_set_self hlt] at h1
        cases h1
        exact Or.inl List.mem_cons_self
      · rw [List.getElem?_set_ne e] at h1
        exact Or.inr ⟨h1, fun hm => (List.mem_cons.mp hm).elim (fun e2 => e e2.symm) h2⟩
theorem lw_nd : ∀ l : List Nat, l.Nodup → va_nd l = true
  | [], _ => rfl
  | a :: l, h => by
    have h1 := List.nodup_cons.mp h
    simp only [va_nd, Bool.and_eq_true, decide_eq_true_eq]
    exact ⟨h1.1, lw_nd l h1.2⟩
theorem lw_fm (w : va_W) : ∀ l : List Nat, (∀ i ∈ l, i < w.length) → l.map (fun i => w[i]?) = (l.filterMap (fun i => w[i]?)).map some
  | [], _ => rfl
  | a :: l, h => by
    have hl : a < w.length := h a List.mem_cons_self
    have ha : w[a]? = some (w[a]'hl) := List.getElem?_eq_getElem hl
    rw [List.map_cons, List.filterMap_cons, ha]
    simp only [List.map_cons]
    rw [lw_fm w l (fun i hi => h i (List.mem_cons_of_mem _ hi))]
theorem lw_rest (w : va_W) (isC : List Nat) : ∃ (isR : List Nat) (wr : va_W), isR.map (fun i => w[i]?) = wr.map some ∧ va_nd isR = true ∧ (∀ i ∈ isR, i ∉ isC) ∧ ∀ (k : Nat) (q : Nat × va_E), w[k]? = some q → k ∉ isC → q ∈ wr := by
  refine ⟨(List.range w.length).filter (fun i => decide (i ∉ isC)), ((List.range w.length).filter (fun i => decide (i ∉ isC))).filterMap (fun i => w[i]?), lw_fm w _ ?_, lw_nd _ ?_, ?_, ?_⟩
  · intro i hi
    exact List.mem_range.mp (List.mem_filter.mp hi).1
  · exact List.Pairwise.filter _ List.nodup_range
  · intro i hi
    exact of_decide_eq_true (List.mem_filter.mp hi).2
  · intro k q hq hk
    obtain ⟨hlt, -⟩ := List.getElem?_eq_some_iff.mp hq
    exact List.mem_filterMap.mpr ⟨k, List.mem_filter.mpr ⟨List.mem_range.mpr hlt, decide_eq_true hk⟩, hq⟩
theorem lw_back {G : va_G} {A : Nat → Prop} {w0 wc ws wr : va_W} {H : Heap} {isC : List Nat} (hD : va_D A w0) (hC : isC.map (fun i => w0[i]?) = wc.map some) (had : ws.map Prod.fst = wc.map Prod.fst) (hm : ∀ (k : Nat) (q : Nat × va_E), w0[k]? = some q → k ∉ isC → q ∈ wr) (hP1 : va_P G vwCl (wr ++ ws) H) : va_P G vwCl (lw_set w0 isC ws) H ∧ va_D A (lw_set w0 isC ws) := by
  have hlen : isC.length = ws.length := by
    have h1 := congrArg List.length hC
    have h2 := congrArg List.length had
    simp only [List.length_map] at h1 h2
    rw [h1, h2]
  have hfst : isC.map (fun i => (w0.map Prod.fst)[i]?) = ws.map (fun x => some x.1) := by
    have h1 : isC.map (fun i => (w0.map Prod.fst)[i]?) = (isC.map (fun i => w0[i]?)).map (Option.map Prod.fst) := by
      rw [List.map_map]
      apply List.map_congr_left
      intro i _
      show (w0.map Prod.fst)[i]? = Option.map Prod.fst w0[i]?
      rw [List.getElem?_map]
    rw [h1, hC, List.map_map]
    have h2 := congrArg (List.map some) had
    rw [List.map_map, List.map_map] at h2
    exact h2.symm
  have e := lw_set_fst isC w0 ws hfst
  have key : ∀ (k : Nat) (q : Nat × va_E), (lw_set w0 isC ws)[k]? = some q → ∃ q' : Nat × va_E, w0[k]? = some q' ∧ q'.1 = q.1 := by
    intro k q hq
    have h1 : ((lw_set w0 isC ws).map Prod.fst)[k]? = some q.1 := by rw [List.getElem?_map, hq]; rfl
    rw [e, List.getElem?_map] at h1
    cases hk : w0[k]? with
    | none => rw [hk] at h1; cases h1
    | some q' => rw [hk] at h1; exact ⟨q', rfl, Option.some.inj h1⟩
  refine ⟨fun k q hq => ?_, fun i j x y hx hy hxy => ?_, fun k q hq => ?_⟩
  · have h1 : q ∈ wr ++ ws := by
      rcases lw_set_mem isC w0 ws hlen k q hq with h | ⟨h1, h2⟩
      · exact List.mem_append_right _ h
      · exact List.mem_append_left _ (hm k q h1 h2)
    obtain ⟨j, hj⟩ := List.mem_iff_getElem?.mp h1
    exact hP1 j q hj
  · obtain ⟨x', h1, h2⟩ := key i x hx
    obtain ⟨y', h3, h4⟩ := key j y hy
    exact hD.1 i j x' y' h1 h3 (by rw [h2, h4, hxy])
  · obtain ⟨q', h1, h2⟩ := key k q hq
    rw [← h2]
    exact hD.2 k q' h1
theorem lw_back2 {G : va_G} {A : Nat → Prop} {w0 wc ws wr w1 : va_W} {H : Heap} {isC isN : List Nat} {n : Nat} (hD : va_D A w0) (hC : isC.map (fun i => w0[i]?) = wc.map some) (had : ws.map Prod.fst = wc.map Prod.fst) (hm : ∀ (k : Nat) (q : Nat × va_E), w0[k]? = some q → k ∉ isC → q ∈ wr) (hl1 : w1.length = n) (hC1 : isC.map (fun i => w1[i]?) = ws.map some) (hN1 : isN.map (fun i => w1[i]?) = isN.map (fun i => w0[i]?)) (hcv : ∀ k, k < n → k ∉ isC → k ∈ isN) (hP1 : va_P G vwCl (wr ++ ws) H) : va_P G vwCl w1 H ∧ va_D A w1 := by
  have e1 : ∀ k ∈ isC, Option.map Prod.fst w1[k]? = Option.map Prod.fst w0[k]? := by
    have h1 := congrArg (List.map (Option.map Prod.fst)) hC1
    have h2 := congrArg (List.map (Option.map Prod.fst)) hC
    rw [List.map_map, List.map_map] at h1 h2
    have h3 := congrArg (List.map some) had
    rw [List.map_map, List.map_map] at h3
    have h4 : isC.map (Option.map Prod.fst ∘ fun i => w1[i]?) = isC.map (Option.map Prod.fst ∘ fun i => w0[i]?) := by
      rw [h1, h2]
      exact h3
    exact fun k hk => List.map_inj_left.mp h4 k hk
  have e2 : ∀ k ∈ isN, w1[k]? = w0[k]? := fun k hk => List.map_inj_left.mp hN1 k hk
  have key : ∀ (k : Nat) (q : Nat × va_E), w1[k]? = some q → ∃ q' : Nat × va_E, w0[k]? = some q' ∧ q'.1 = q.1 := by
    intro k q hq
    have hk : k < n := by rw [← hl1]; exact (List.getElem?_eq_some_iff.mp hq).1
    by_cases hc : k ∈ isC
    · have h1 := e1 k hc
      rw [hq] at h1
      cases h2 : w0[k]? with
      | none => rw [h2] at h1; cases h1
      | some q' => rw [h2] at h1; exact ⟨q', rfl, (Option.some.inj h1).symm⟩
    · rw [e2 k (hcv k hk hc)] at hq
      exact ⟨q, hq, rfl⟩
  refine ⟨fun k q hq => ?_, fun i j x y hx hy hxy => ?_, fun k q hq => ?_⟩
  · have hk : k < n := by rw [← hl1]; exact (List.getElem?_eq_some_iff.mp hq).1
    have h1 : q ∈ wr ++ ws := by
      by_cases hc : k ∈ isC
      · have h2 : some q ∈ isC.map (fun i => w1[i]?) := List.mem_map.mpr ⟨k, hc, hq⟩
        rw [hC1] at h2
        obtain ⟨q', h3, h4⟩ := List.mem_map.mp h2
        cases h4
        exact List.mem_append_right _ h3
      · exact List.mem_append_left _ (hm k q (by rw [← e2 k (hcv k hk hc)]; exact hq) hc)
    obtain ⟨j, hj⟩ := List.mem_iff_getElem?.mp h1
    exact hP1 j q hj
  · obtain ⟨x', h1, h2⟩ := key i x hx
    obtain ⟨y', h3, h4⟩ := key j y hy
    exact hD.1 i j x' y' h1 h3 (by rw [h2, h4, hxy])
  · obtain ⟨q', h1, h2⟩ := key k q hq
    rw [← h2]
    exact hD.2 k q' h1
section LWC
variable {p : Program} {l : Launch} {e : Env} {R : Room} {s : State} {m : MethodId} {args : Array Value} {below : List Frame} {meth : Method} {c : Code} {H : Heap} {locs : List Loc} {cells slots : Nat} {Q : State → Prop}
variable {cc : ByteArray} {nL : Nat} {own : String} {G : va_G} {kt : List (ClassId × FieldType)} {w0 wc : va_W} {A : Nat → Prop} {S : Type} {y : MethodName} {rm : Room} {E : (Nat → Prop) → State → Prop} {As rest stk : List Value} {w' : S → va_W} {bytes : ByteArray} {maxL index pc : Nat} {ret : Option FieldType} {ls : Array Slot}
theorem lw_callV {b : Nat} {C : String} {fs : List Value} {post : Int32 → S → Prop} (F : CallFix p m c cc nL s args bw_T own) (hK : va_K G vwCl kt s) (hP : va_P G vwCl w0 H) (hD : va_D A w0) (hS : va_S A s.heap H locs) (hA : ∀ q : Nat, s.heap.size ≤ q → A q) (hO : bw_Ok E) (hE : E A s)
    (hM : bw_Ci l y (bw_ws (Cond.code y bytes maxL ret)) rm E G kt (.ref b :: As) wc post w') (h1 : Cond.methodLink own index y ∈ bw_T) (h2 : bw_KV C y (Cond.code y bytes maxL ret))
    (nA : Nat) (hnA : As.length = nA) (hd : y.cls = C ∧ y.cls ≠ "java/lang/invoke/MethodHandle" ∧ y.cls ≠ "java/lang/invoke/VarHandle" ∧ (parseMethodDescriptor y.desc).map (fun d => d.parameters.length) = some nA) (hRm : rm.frames + 1 ≤ R.frames ∧ 8 + (maxL + 11) + rm.locals ≤ R.locals)
    (isC : List Nat) (hC : isC.map (fun i => w0[i]?) = wc.map some) (hnc : va_nd isC = true) (had : ∀ u, (w' u).map Prod.fst = wc.map Prod.fst) (k0 ci : Nat) {q : vw_C} (hc : vwCl[ci]? = some q) (hq : q.1 = C) (he : wc[k0]? = some (b, .inr (ci, fs)))
    (hsize : ls.size = nL) (hstack : stk = As.reverse ++ .ref b :: rest) (hroom : (rest.map fun v => v.category).sum ≤ 8) (hdg : decode cc pc = .ok (.invokevirtual index, 3)) (hf : cells + rm.cells ≤ R.cells ∧ slots + rm.slots ≤ R.slots) {w1 : S → va_W} (hw : ∀ u, lw_set w0 isC (w' u) = w1 u)
    (kk : ∀ (r : Int32) (u : S) (H1 : Heap) (locs1 : List Loc), post r u → va_P G vwCl (w1 u) H1 → va_D A (w1 u) → va_S A s.heap H1 locs1 → W p l e R s m args below meth c H1 locs1 (cells + rm.cells) (slots + rm.slots) Q (F0 m (pc + 3) ls (.int r :: rest))) : W p l e R s m args below meth c H locs cells slots Q (F0 m pc ls stk) := by
  obtain ⟨isR, wr, hR, hnd, hdis, hm⟩ := lw_rest w0 isC
  exact r_callVi F hK hP hD hS hA hO hE hM h1 h2 nA hnA hd hRm isC isR hC hR hnd hdis hnc k0 ci hc hq he hsize hstack hroom hdg hf (w1 := fun u => wr ++ w' u) (fun _ => rfl) (fun r u H1 locs1 hp hP1 hD1 hS1 => by
    have h := lw_back hD hC (had u) hm hP1
    rw [hw u] at h
    exact kk r u H1 locs1 hp h.1 h.2 hS1)
theorem lw_callV2 {b : Nat} {C : String} {fs : List Value} {post : Int32 → S → Prop} (F : CallFix p m c cc nL s args bw_T own) (hK : va_K G vwCl kt s) (hP : va_P G vwCl w0 H) (hD : va_D A w0) (hS : va_S A s.heap H locs) (hA : ∀ q : Nat, s.heap.size ≤ q → A q) (hO : bw_Ok E) (hE : E A s)
    (hM : bw_Ci l y (bw_ws (Cond.code y bytes maxL ret)) rm E G kt (.ref b :: As) wc post w') (h1 : Cond.methodLink own index y ∈ bw_T) (h2 : bw_KV C y (Cond.code y bytes maxL ret))
    (nA : Nat) (hnA : As.length = nA) (hd : y.cls = C ∧ y.cls ≠ "java/lang/invoke/MethodHandle" ∧ y.cls ≠ "java/lang/invoke/VarHandle" ∧ (parseMethodDescriptor y.desc).map (fun d => d.parameters.length) = some nA) (hRm : rm.frames + 1 ≤ R.frames ∧ 8 + (maxL + 11) + rm.locals ≤ R.locals)
    (isC : List Nat) (hC : isC.map (fun i => w0[i]?) = wc.map some) (hnc : va_nd isC = true) (had : ∀ u, (w' u).map Prod.fst = wc.map Prod.fst) (k0 ci : Nat) {q : vw_C} (hc : vwCl[ci]? = some q) (hq : q.1 = C) (he : wc[k0]? = some (b, .inr (ci, fs)))
    (hsize : ls.size = nL) (hstack : stk = As.reverse ++ .ref b :: rest) (hroom : (rest.map fun v => v.category).sum ≤ 8) (hdg : decode cc pc = .ok (.invokevirtual index, 3)) (hf : cells + rm.cells ≤ R.cells ∧ slots + rm.slots ≤ R.slots) {w1 : S → va_W} (isN : List Nat) (n : Nat) (hl1 : ∀ u, (w1 u).length = n) (hC1 : ∀ u, isC.map (fun i => (w1 u)[i]?) = (w' u).map some) (hN1 : ∀ u, isN.map (fun i => (w1 u)[i]?) = isN.map (fun i => w0[i]?)) (hcv : ∀ k, k < n → k ∉ isC → k ∈ isN)
    (kk : ∀ (r : Int32) (u : S) (H1 : Heap) (locs1 : List Loc), post r u → va_P G vwCl (w1 u) H1 → va_D A (w1 u) → va_S A s.heap H1 locs1 → W p l e R s m args below meth c H1 locs1 (cells + rm.cells) (slots + rm.slots) Q (F0 m (pc + 3) ls (.int r :: rest))) : W p l e R s m args below meth c H locs cells slots Q (F0 m pc ls stk) := by
  obtain ⟨isR, wr, hR, hnd, hdis, hm⟩ := lw_rest w0 isC
  exact r_callVi F hK hP hD hS hA hO hE hM h1 h2 nA hnA hd hRm isC isR hC hR hnd hdis hnc k0 ci hc hq he hsize hstack hroom hdg hf (w1 := fun u => wr ++ w' u) (fun _ => rfl) (fun r u H1 locs1 hp hP1 hD1 hS1 => by
    have h := lw_back2 hD hC (had u) hm (hl1 u) (hC1 u) (hN1 u) hcv hP1
    exact kk r u H1 locs1 hp h.1 h.2 hS1)
theorem lw_callW {hh : List (Nat × Nat × Nat × Nat)} {post : Int32 → S → Prop} (F : CallFix p m c cc nL s args bw_T own) (hK : va_K G vwCl kt s) (hP : va_P G vwCl w0 H) (hD : va_D A w0) (hS : va_S A s.heap H locs) (hA : ∀ q : Nat, s.heap.size ≤ q → A q) (hO : bw_Ok E) (hE : E A s)
    (hM : bw_Ci l y (bw_ws (Cond.codeWith y bytes maxL ret hh)) rm E G kt As wc post w') (h1 : Cond.methodLink own index y ∈ bw_T) (h2 : bw_KS y.cls y (Cond.codeWith y bytes maxL ret hh)) (nA : Nat) (hnA : As.length = nA)
    (hd : y.cls ≠ "java/lang/invoke/MethodHandle" ∧ y.cls ≠ "java/lang/invoke/VarHandle" ∧ (parseMethodDescriptor y.desc).map (fun d => d.parameters.length) = some nA) (hRm : rm.frames + 1 ≤ R.frames ∧ 8 + (maxL + 11) + rm.locals ≤ R.locals)
    (isC : List Nat) (hC : isC.map (fun i => w0[i]?) = wc.map some) (hnc : va_nd isC = true) (had : ∀ u, (w' u).map Prod.fst = wc.map Prod.fst)
    (hsize : ls.size = nL) (hstack : stk = As.reverse ++ rest) (hroom : (rest.map fun v => v.category).sum ≤ 8) (hdg : decode cc pc = .ok (.invokestatic index, 3)) (hf : cells + rm.cells ≤ R.cells ∧ slots + rm.slots ≤ R.slots) {w1 : S → va_W} (hw : ∀ u, lw_set w0 isC (w' u) = w1 u)
    (kk : ∀ (r : Int32) (u : S) (H1 : Heap) (locs1 : List Loc), post r u → va_P G vwCl (w1 u) H1 → va_D A (w1 u) → va_S A s.heap H1 locs1 → W p l e R s m args below meth c H1 locs1 (cells + rm.cells) (slots + rm.slots) Q (F0 m (pc + 3) ls (.int r :: rest))) : W p l e R s m args below meth c H locs cells slots Q (F0 m pc ls stk) := by
  obtain ⟨isR, wr, hR, hnd, hdis, hm⟩ := lw_rest w0 isC
  exact r_callW F hK hP hD hS hA hO hE hM h1 h2 nA hnA hd hRm isC isR hC hR hnd hdis hnc hsize hstack hroom hdg hf (w1 := fun u => wr ++ w' u) (fun _ => rfl) (fun r u H1 locs1 hp hP1 hD1 hS1 => by
    have h := lw_back hD hC (had u) hm hP1
    rw [hw u] at h
    exact kk r u H1 locs1 hp h.1 h.2 hS1)
/-- one int of the script, behind its place -/
theorem lw_arg (F : CallFix p m c cc nL s args bw_T own) {b L n j : Nat} {xs : Nat → Int32} (hX : va_X b L xs s s.heap) (hbl : b < s.heap.size) (hbA : ¬ A b) (hS : va_S A s.heap H locs) (h0 : ls[0]? = some (.val (.ref b))) (h4 : ls[4]? = some (.val (.int (zI (n : Int))))) {x k : Int} (hk : k = (j : Int)) (hx : xs (n + j) = zI x) (hj : n + j < L) (hL : L ≤ 3072)
    (d1 : decode cc pc = .ok (.aload_n 0, 1)) (d2 : decode cc (pc + 1) = .ok (.iload 4, 2)) (d3 : decode cc (pc + 3) = .ok (.iconst k, 1)) (d4 : decode cc (pc + 4) = .ok (.iadd, 1)) (d5 : decode cc (pc + 5) = .ok (.iaload, 1))
    (kk : W p l e R s m args below meth c H locs cells slots Q (F0 m (pc + 6) ls (.int (zI x) :: rest))) : W p l e R s m args below meth c H locs cells slots Q (F0 m pc ls rest) := by
  refine lv_aload_n F.1 F.2.1 d1 rfl h0 ?_
  refine lv_iload F.1 F.2.1 d2 h4 ?_
  refine lv_iconst (v := zI k) F.1 F.2.1 d3 rfl ?_
  refine r_iadd (v := zI ((n : Int) + k)) F d4 (zI_add _ _) ?_
  refine va_sld F.1 F.2.1 hX hbl hbA hS (zI_in (by omega) (by omega)) d5 ?_
  rw [zI_clamp (by omega), show ((n : Int) + k).toNat = n + j by omega, hx]
  exact kk
end LWC
theorem lw_all4 {P : Nat → Prop} (h0 : P 0) (h1 : P 1) (h2 : P 2) (h3 : P 3) : ∀ j, j < 4 → P j := fun j hj => match j, hj with
  | 0, _ => h0
  | 1, _ => h1
  | 2, _ => h2
  | 3, _ => h3
  | k + 4, h => absurd h (by omega)
