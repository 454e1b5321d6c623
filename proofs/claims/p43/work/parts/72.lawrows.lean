theorem lw_nd : ∀ l : List Nat, l.Nodup → va_nd l = true
  | [], _ => rfl
  | a :: l, h => by
    have h1 := List.nodup_cons.mp h
    simp only [va_nd, Bool.and_eq_true, decide_eq_true_eq]
    exact ⟨h1.1, lw_nd l h1.2⟩
theorem lw_fm (w : va_W) : ∀ l : List Nat, (∀ i ∈ l, i < w.length) → l.map (fun i => w[i]?) = (l.filterMap (fun i => w[i]?)).map some
  | [], _ => rfl
  | a :: l, h => by
    have hl : a < w.length := h a List.mem_cons_self
    have ha : w[a]? = some (w[a]'hl) := List.getElem?_eq_getElem hl
    rw [List.map_cons, List.filterMap_cons, ha]
    simp only [List.map_cons]
    rw [lw_fm w l (fun i hi => h i (List.mem_cons_of_mem _ hi))]
theorem lw_rest (w : va_W) (isC : List Nat) : ∃ (isR : List Nat) (wr : va_W), isR.map (fun i => w[i]?) = wr.map some ∧ va_nd isR = true ∧ (∀ i ∈ isR, i ∉ isC) ∧ ∀ (k : Nat) (q : Nat × va_E), w[k]? = some q → k ∉ isC → q ∈ wr := by
  refine ⟨(List.range w.length).filter (fun i => decide (i ∉ isC)), ((List.range w.length).filter (fun i => decide (i ∉ isC))).filterMap (fun i => w[i]?), lw_fm w _ ?_, lw_nd _ ?_, ?_, ?_⟩
  · intro i hi
    exact List.mem_range.mp (List.mem_filter.mp hi).1
  · exact List.Pairwise.filter _ List.nodup_range
  · intro i hi
    exact of_decide_eq_true (List.mem_filter.mp hi).2
  · intro k q hq hk
    obtain ⟨hlt, -⟩ := List.getElem?_eq_some_iff.mp hq
    exact List.mem_filterMap.mpr ⟨k, List.mem_filter.mpr ⟨List.mem_range.mpr hlt, decide_eq_true hk⟩, hq⟩
/-- where k stands in l -/
def lw_ix (k : Nat) : List Nat → Nat → Option Nat
  | [], _ => none
  | a :: l, j => if a = k then some j else lw_ix k l (j + 1)
theorem lw_ix_none (k : Nat) : ∀ (l : List Nat) (j : Nat), lw_ix k l j = none → k ∉ l
  | [], _, _ => List.not_mem_nil
  | a :: l, j, h => by
    unfold lw_ix at h
    by_cases e : a = k
    · rw [if_pos e] at h; cases h
    · rw [if_neg e] at h
      exact fun hm => (List.mem_cons.mp hm).elim (fun e2 => e e2.symm) (lw_ix_none k l (j + 1) h)
theorem lw_ix_some (k : Nat) : ∀ (l : List Nat) (j t : Nat), lw_ix k l j = some t → ∃ d, t = j + d ∧ l[d]? = some k
  | [], _, _, h => by cases h
  | a :: l, j, t, h => by
    unfold lw_ix at h
    by_cases e : a = k
    · rw [if_pos e] at h
      cases h
      exact ⟨0, rfl, by rw [List.getElem?_cons_zero, e]⟩
    · rw [if_neg e] at h
      obtain ⟨d, h1, h2⟩ := lw_ix_some k l (j + 1) t h
      exact ⟨d + 1, by omega, by rw [List.getElem?_cons_succ]; exact h2⟩
/-- the world behind a call: at each place the old cell, or the callee's -/
def lw_mix (src : List (Option Nat)) (w ws : va_W) : va_W := List.zipWith (fun o c => match o with | none => c | some t => (ws[t]?).getD c) src w
theorem lw_mix_get {src : List (Option Nat)} {w ws : va_W} {k : Nat} {q : Nat × va_E} (h : (lw_mix src w ws)[k]? = some q) : ∃ (o : Option Nat) (c : Nat × va_E), src[k]? = some o ∧ w[k]? = some c ∧ (match o with | none => c | some t => (ws[t]?).getD c) = q := by
  unfold lw_mix at h
  rw [List.getElem?_zipWith] at h
  cases h1 : src[k]? with
  | none => rw [h1] at h; cases h
  | some o =>
    cases h2 : w[k]? with
    | none => rw [h1, h2] at h; cases h
    | some c => rw [h1, h2] at h; exact ⟨o, c, rfl, rfl, Option.some.inj h⟩
theorem lw_backM {G : va_G} {A : Nat → Prop} {w0 wc ws wr : va_W} {H : Heap} {isC : List Nat} {src : List (Option Nat)} (hD : va_D A w0) (hC : isC.map (fun i => w0[i]?) = wc.map some) (had : ws.map Prod.fst = wc.map Prod.fst) (hm : ∀ (k : Nat) (q : Nat × va_E), w0[k]? = some q → k ∉ isC → q ∈ wr) {n : Nat} (hsrc : src = (List.range n).map (fun k => lw_ix k isC 0)) (hP1 : va_P G vwCl (wr ++ ws) H) : va_P G vwCl (lw_mix src w0 ws) H ∧ va_D A (lw_mix src w0 ws) := by
  have hs : ∀ (k : Nat) (o : Option Nat), src[k]? = some o → lw_ix k isC 0 = o := by
    intro k o h
    rw [hsrc, List.getElem?_map] at h
    cases h1 : (List.range n)[k]? with
    | none => rw [h1] at h; cases h
    | some k' =>
      rw [h1] at h
      obtain ⟨hlt, h3⟩ := List.getElem?_eq_some_iff.mp h1
      rw [List.getElem_range] at h3
      subst h3
      exact Option.some.inj h
  have hat : ∀ (d k : Nat), isC[d]? = some k → ∃ c, w0[k]? = some c ∧ wc[d]? = some c := by
    intro d k h
    have h1 : (isC.map (fun i => w0[i]?))[d]? = some w0[k]? := by rw [List.getElem?_map, h]; rfl
    rw [hC, List.getElem?_map] at h1
    cases h2 : wc[d]? with
    | none => rw [h2] at h1; cases h1
    | some c => rw [h2] at h1; exact ⟨c, (Option.some.inj h1).symm, rfl⟩
  have hfst : ∀ (d : Nat) (c : Nat × va_E), wc[d]? = some c → ∃ c', ws[d]? = some c' ∧ c'.1 = c.1 := by
    intro d c h
    have h1 : (wc.map Prod.fst)[d]? = some c.1 := by rw [List.getElem?_map, h]; rfl
    rw [← had, List.getElem?_map] at h1
    cases h2 : ws[d]? with
    | none => rw [h2] at h1; cases h1
    | some c' => rw [h2] at h1; exact ⟨c', rfl, Option.some.inj h1⟩
  have key : ∀ (k : Nat) (q : Nat × va_E), (lw_mix src w0 ws)[k]? = some q → q ∈ wr ++ ws ∧ ∃ c, w0[k]? = some c ∧ c.1 = q.1 := by
    intro k q hq
    obtain ⟨o, c, h1, h2, h3⟩ := lw_mix_get hq
    have h4 := hs k o h1
    cases o with
    | none =>
      have h5 : c = q := h3
      subst h5
      exact ⟨List.mem_append_left _ (hm k c h2 (lw_ix_none k isC 0 h4)), c, h2, rfl⟩
    | some t =>
      obtain ⟨d, h5, h6⟩ := lw_ix_some k isC 0 t h4
      have h7 : t = d := by omega
      subst h7
      obtain ⟨c2, h8, h9⟩ := hat t k h6
      obtain ⟨c3, h10, h11⟩ := hfst t c2 h9
      have h12 : (ws[t]?).getD c = q := h3
      rw [h10] at h12
      have h13 : c3 = q := h12
      subst h13
      exact ⟨List.mem_append_right _ (List.mem_of_getElem? h10), c2, h8, h11.symm⟩
  refine ⟨fun k q hq => ?_, fun i j x y hx hy hxy => ?_, fun k q hq => ?_⟩
  · obtain ⟨j, hj⟩ := List.mem_iff_getElem?.mp (key k q hq).1
    exact hP1 j q hj
  · obtain ⟨-, x', h1, h2⟩ := key i x hx
    obtain ⟨-, y', h3, h4⟩ := key j y hy
    exact hD.1 i j x' y' h1 h3 (by rw [h2, h4, hxy])
  · obtain ⟨-, q', h1, h2⟩ := key k q hq
    rw [← h2]
    exact hD.2 k q' h1
section LWC
variable {p : Program} {l : Launch} {e : Env} {R : Room} {s : State} {m : MethodId} {args : Array Value} {below : List Frame} {meth : Method} {c : Code} {H : Heap} {locs : List Loc} {cells slots : Nat} {Q : State → Prop}
variable {cc : ByteArray} {nL : Nat} {own : String} {G : va_G} {kt : List (ClassId × FieldType)} {w0 wc : va_W} {A : Nat → Prop} {S : Type} {y : MethodName} {rm : Room} {E : (Nat → Prop) → State → Prop} {As rest stk : List Value} {w' : S → va_W} {bytes : ByteArray} {maxL index pc : Nat} {ret : Option FieldType} {ls : Array Slot}
theorem lw_callV {b : Nat} {C : String} {fs : List Value} {post : Int32 → S → Prop} (F : CallFix p m c cc nL s args bw_T own) (hK : va_K G vwCl kt s) (hP : va_P G vwCl w0 H) (hD : va_D A w0) (hS : va_S A s.heap H locs) (hA : ∀ q : Nat, s.heap.size ≤ q → A q) (hO : bw_Ok E) (hE : E A s)
    (hM : bw_Ci l y (bw_ws (Cond.code y bytes maxL ret)) rm E G kt (.ref b :: As) wc post w') (h1 : Cond.methodLink own index y ∈ bw_T) (h2 : bw_KV C y (Cond.code y bytes maxL ret))
    (nA : Nat) (hnA : As.length = nA) (hd : y.cls = C ∧ y.cls ≠ "java/lang/invoke/MethodHandle" ∧ y.cls ≠ "java/lang/invoke/VarHandle" ∧ (parseMethodDescriptor y.desc).map (fun d => d.parameters.length) = some nA) (hRm : rm.frames + 1 ≤ R.frames ∧ 8 + (maxL + 11) + rm.locals ≤ R.locals)
    (isC : List Nat) (hC : isC.map (fun i => w0[i]?) = wc.map some) (hnc : va_nd isC = true) (had : ∀ u, (w' u).map Prod.fst = wc.map Prod.fst) (k0 ci : Nat) {q : vw_C} (hc : vwCl[ci]? = some q) (hq : q.1 = C) (he : wc[k0]? = some (b, .inr (ci, fs)))
    (hsize : ls.size = nL) (hstack : stk = As.reverse ++ .ref b :: rest) (hroom : (rest.map fun v => v.category).sum ≤ 8) (hdg : decode cc pc = .ok (.invokevirtual index, 3)) (hf : cells + rm.cells ≤ R.cells ∧ slots + rm.slots ≤ R.slots) (src : List (Option Nat)) (n : Nat) (hsrc : src = (List.range n).map (fun k => lw_ix k isC 0)) {w1 : S → va_W} (hw : ∀ u, lw_mix src w0 (w' u) = w1 u)
    (kk : ∀ (r : Int32) (u : S) (H1 : Heap) (locs1 : List Loc), post r u → va_P G vwCl (w1 u) H1 → va_D A (w1 u) → va_S A s.heap H1 locs1 → W p l e R s m args below meth c H1 locs1 (cells + rm.cells) (slots + rm.slots) Q (F0 m (pc + 3) ls (.int r :: rest))) : W p l e R s m args below meth c H locs cells slots Q (F0 m pc ls stk) := by
  obtain ⟨isR, wr, hR, hnd, hdis, hm⟩ := lw_rest w0 isC
  exact r_callVi F hK hP hD hS hA hO hE hM h1 h2 nA hnA hd hRm isC isR hC hR hnd hdis hnc k0 ci hc hq he hsize hstack hroom hdg hf (w1 := fun u => wr ++ w' u) (fun _ => rfl) (fun r u H1 locs1 hp hP1 hD1 hS1 => by
    have h := lw_backM hD hC (had u) hm hsrc hP1
    rw [hw u] at h
    exact kk r u H1 locs1 hp h.1 h.2 hS1)
theorem lw_callW {hh : List (Nat × Nat × Nat × Nat)} {post : Int32 → S → Prop} (F : CallFix p m c cc nL s args bw_T own) (hK : va_K G vwCl kt s) (hP : va_P G vwCl w0 H) (hD : va_D A w0) (hS : va_S A s.heap H locs) (hA : ∀ q : Nat, s.heap.size ≤ q → A q) (hO : bw_Ok E) (hE : E A s)
    (hM : bw_Ci l y (bw_ws (Cond.codeWith y bytes maxL ret hh)) rm E G kt As wc post w') (h1 : Cond.methodLink own index y ∈ bw_T) (h2 : bw_KS y.cls y (Cond.codeWith y bytes maxL ret hh)) (nA : Nat) (hnA : As.length = nA)
    (hd : y.cls ≠ "java/lang/invoke/MethodHandle" ∧ y.cls ≠ "java/lang/invoke/VarHandle" ∧ (parseMethodDescriptor y.desc).map (fun d => d.parameters.length) = some nA) (hRm : rm.frames + 1 ≤ R.frames ∧ 8 + (maxL + 11) + rm.locals ≤ R.locals)
    (isC : List Nat) (hC : isC.map (fun i => w0[i]?) = wc.map some) (hnc : va_nd isC = true) (had : ∀ u, (w' u).map Prod.fst = wc.map Prod.fst)
    (hsize : ls.size = nL) (hstack : stk = As.reverse ++ rest) (hroom : (rest.map fun v => v.category).sum ≤ 8) (hdg : decode cc pc = .ok (.invokestatic index, 3)) (hf : cells + rm.cells ≤ R.cells ∧ slots + rm.slots ≤ R.slots) (src : List (Option Nat)) (n : Nat) (hsrc : src = (List.range n).map (fun k => lw_ix k isC 0)) {w1 : S → va_W} (hw : ∀ u, lw_mix src w0 (w' u) = w1 u)
    (kk : ∀ (r : Int32) (u : S) (H1 : Heap) (locs1 : List Loc), post r u → va_P G vwCl (w1 u) H1 → va_D A (w1 u) → va_S A s.heap H1 locs1 → W p l e R s m args below meth c H1 locs1 (cells + rm.cells) (slots + rm.slots) Q (F0 m (pc + 3) ls (.int r :: rest))) : W p l e R s m args below meth c H locs cells slots Q (F0 m pc ls stk) := by
  obtain ⟨isR, wr, hR, hnd, hdis, hm⟩ := lw_rest w0 isC
  exact r_callW F hK hP hD hS hA hO hE hM h1 h2 nA hnA hd hRm isC isR hC hR hnd hdis hnc hsize hstack hroom hdg hf (w1 := fun u => wr ++ w' u) (fun _ => rfl) (fun r u H1 locs1 hp hP1 hD1 hS1 => by
    have h := lw_backM hD hC (had u) hm hsrc hP1
    rw [hw u] at h
    exact kk r u H1 locs1 hp h.1 h.2 hS1)
/-- one int of the script, behind its place -/
theorem lw_arg (F : CallFix p m c cc nL s args bw_T own) {b L n j : Nat} {xs : Nat → Int32} (hX : va_X b L xs s s.heap) (hbl : b < s.heap.size) (hbA : ¬ A b) (hS : va_S A s.heap H locs) (h0 : ls[0]? = some (.val (.ref b))) (h4 : ls[4]? = some (.val (.int (zI (n : Int))))) {x k : Int} (hk : k = (j : Int)) (hx : xs (n + j) = zI x) (hj : n + j < L) (hL : L ≤ 3072)
    (d1 : decode cc pc = .ok (.aload_n 0, 1)) (d2 : decode cc (pc + 1) = .ok (.iload 4, 2)) (d3 : decode cc (pc + 3) = .ok (.iconst k, 1)) (d4 : decode cc (pc + 4) = .ok (.iadd, 1)) (d5 : decode cc (pc + 5) = .ok (.iaload, 1))
    (kk : W p l e R s m args below meth c H locs cells slots Q (F0 m (pc + 6) ls (.int (zI x) :: rest))) : W p l e R s m args below meth c H locs cells slots Q (F0 m pc ls rest) := by
  refine lv_aload_n F.1 F.2.1 d1 rfl h0 ?_
  refine lv_iload F.1 F.2.1 d2 h4 ?_
  refine lv_iconst (v := zI k) F.1 F.2.1 d3 rfl ?_
  refine r_iadd (v := zI ((n : Int) + k)) F d4 (zI_add _ _) ?_
  refine va_sld F.1 F.2.1 hX hbl hbA hS (zI_in (by omega) (by omega)) d5 ?_
  rw [zI_clamp (by omega), show ((n : Int) + k).toNat = n + j by omega, hx]
  exact kk
end LWC
theorem lw_all4 {P : Nat → Prop} (h0 : P 0) (h1 : P 1) (h2 : P 2) (h3 : P 3) : ∀ j, j < 4 → P j := fun j hj => match j, hj with
  | 0, _ => h0
  | 1, _ => h1
  | 2, _ => h2
  | 3, _ => h3
  | k + 4, h => absurd h (by omega)
