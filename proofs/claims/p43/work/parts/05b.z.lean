theorem zI_cpy (g0 g1 : Nat → Int) (a b n : Nat) : va_cpy (fun k => zI (g0 k)) (fun k => zI (g1 k)) a b n = fun k => zI (va_cpy g0 g1 a b n k) := by
  funext k
  by_cases h : b ≤ k ∧ k < b + n
  · simp only [va_cpy, if_pos h]
  · simp only [va_cpy, if_neg h]
section ZB
variable {p : Program} {l : Launch} {e : Env} {R : Room} {s : State} {m : MethodId} {args : Array Value} {below : List Frame} {meth : Method} {c : Code} {H : Heap} {locs : List Loc} {cells slots : Nat} {Q : State → Prop}
variable {cc : ByteArray} {nL : Nat} {own : String} {G : va_G} {kt : List (ClassId × FieldType)} {w0 wc wr : va_W} {A : Nat → Prop} {rest stk As : List Value} {a : Addr} {pc index maxL : Nat} {ls : Array Slot} {S : Type} {y : MethodName} {rm : Room} {E : (Nat → Prop) → State → Prop} {w' : S → va_W} {bytes : ByteArray} {ret : Option FieldType}
theorem rz_copy (F : CallFix p m c cc nL s args bw_T own) (hl : Cond.methodLink own index arraycopyName ∈ bw_T) (hn : Cond.native arraycopyName ∈ bw_T) (hst : Cond.static arraycopyName ∈ bw_T) (hi : Cond.initialized "java/lang/System" ∈ bw_T) (hK : va_K G vwCl kt s) (hP : va_P G vwCl w0 H) (hD : va_D A w0) (hS : va_S A s.heap H locs) (q0 q1 t0 : Nat) {a0 : Nat} {cA : ClassId} {n0 n1 : Nat} {g0 g1 : Nat → Int} (ha0 : w0[q0]? = some (a0, .inl (cA, n0, .inl (fun k => zI (g0 k))))) (ha1 : w0[q1]? = some (a, .inl (cA, n1, .inl (fun k => zI (g1 k))))) (ht : kt[t0]? = some (cA, .int))
    {sp dp n : Int} (hr : (0 ≤ sp ∧ sp ≤ 2147483647) ∧ (0 ≤ dp ∧ dp ≤ 2147483647) ∧ (0 ≤ n ∧ n ≤ 2147483647) ∧ sp + n ≤ (n0 : Int) ∧ dp + n ≤ (n1 : Int)) (hsize : ls.size = nL) (hframes : 1 ≤ R.frames) (hlocals : (rest.map fun v => v.category).sum + (nativeFrameWords "java/lang/System" "arraycopy" 5 + 11) ≤ R.locals) (hdg : decode cc pc = .ok (.invokestatic index, 3)) {w1 : (Nat → Int) → va_W} (hw : ∀ g', w0.set q1 (a, .inl (cA, n1, .inl (fun k => zI (g' k)))) = w1 g')
    (kk : ∀ (g' : Nat → Int), g' = va_cpy g0 g1 sp.toNat dp.toNat n.toNat → ∀ (H1 : Heap) (locs1 : List Loc), va_P G vwCl (w1 g') H1 → va_D A (w1 g') → va_S A s.heap H1 locs1 → W p l e R s m args below meth c H1 locs1 cells slots Q (F0 m (pc + 3) ls rest)) : W p l e R s m args below meth c H locs cells slots Q (F0 m pc ls (.int (zI n) :: .int (zI dp) :: .ref a :: .int (zI sp) :: .ref a0 :: rest)) := by
  have z0 : ∀ z : Int, 0 ≤ z ∧ z ≤ 2147483647 → ¬ zI z < 0 := fun z hz q => by
    have := (zI_lt (a := z) (b := 0) ⟨by omega, by omega⟩ ⟨by omega, by omega⟩).mp q
    omega
  have zc : ∀ z : Int, 0 ≤ z ∧ z ≤ 2147483647 → (zI z).toNatClampNeg = z.toNat := fun z hz => zI_clamp ⟨by omega, by omega⟩
  refine va_copyi F.1 F.2.1 (F.2.2.1.trans hsize.symm) F.2.2.2.1 (F.2.2.2.2 _ hl) (F.2.2.2.2 _ hn) (F.2.2.2.2 _ hst) (F.2.2.2.2 _ hi) hK hP hD hS q0 q1 t0 t0 ha0 ha1 ht ht rfl (z0 _ hr.1) (z0 _ hr.2.1) (z0 _ hr.2.2.1) (by rw [zc _ hr.1, zc _ hr.2.2.1]; omega) (by rw [zc _ hr.2.1, zc _ hr.2.2.1]; omega) (fun _ _ => rfl) hframes hlocals hdg (fun H1 locs1 hP1 hD1 hS1 => ?_)
  rw [zc _ hr.1, zc _ hr.2.1, zc _ hr.2.2.1, zI_cpy, hw] at hP1 hD1
  exact kk _ rfl H1 locs1 hP1 hD1 hS1
theorem rz_min (F : CallFix p m c cc nL s args bw_T own) (hl : Cond.methodLink own index Lib.Math.min.name ∈ bw_T) (hst : Cond.static Lib.Math.min.name ∈ bw_T) (hi : Cond.initialized "java/lang/Math" ∈ bw_T) (hco : Cond.code Lib.Math.min.name Lib.Math.min.code 2 (some .int) ∈ bw_T) (hsize : ls.size = nL) (hframes : 1 ≤ R.frames) (hlocals : (rest.map fun v => v.category).sum + 13 ≤ R.locals) (hc : cells ≤ R.cells) (hs : slots ≤ R.slots) {x y : Int} (hx : zR x) (hy : zR y) (hdg : decode cc pc = .ok (.invokestatic index, 3))
    (kk : ∀ z : Int, ((z = x ∨ z = y) ∧ z ≤ x ∧ z ≤ y) → W p l e R s m args below meth c H locs cells slots Q (F0 m (pc + 3) ls (.int (zI z) :: rest))) : W p l e R s m args below meth c H locs cells slots Q (F0 m pc ls (.int (zI y) :: .int (zI x) :: rest)) := by
  refine va_mmin F.1 F.2.1 (F.2.2.1.trans hsize.symm) F.2.2.2.1 (F.2.2.2.2 _ hl) (F.2.2.2.2 _ hst) (F.2.2.2.2 _ hi) (F.2.2.2.2 _ hco) hframes hlocals hc hs hdg ?_
  by_cases h : zI y < zI x
  · rw [if_pos h]
    have := (zI_lt hy hx).mp h
    exact kk y ⟨Or.inr rfl, by omega, by omega⟩
  · rw [if_neg h]
    have := mt (zI_lt hy hx).mpr h
    exact kk x ⟨Or.inl rfl, by omega, by omega⟩
theorem rz_max (F : CallFix p m c cc nL s args bw_T own) (hl : Cond.methodLink own index Lib.Math.max.name ∈ bw_T) (hst : Cond.static Lib.Math.max.name ∈ bw_T) (hi : Cond.initialized "java/lang/Math" ∈ bw_T) (hco : Cond.code Lib.Math.max.name Lib.Math.max.code 2 (some .int) ∈ bw_T) (hsize : ls.size = nL) (hframes : 1 ≤ R.frames) (hlocals : (rest.map fun v => v.category).sum + 13 ≤ R.locals) (hc : cells ≤ R.cells) (hs : slots ≤ R.slots) {x y : Int} (hx : zR x) (hy : zR y) (hdg : decode cc pc = .ok (.invokestatic index, 3))
    (kk : ∀ z : Int, ((z = x ∨ z = y) ∧ x ≤ z ∧ y ≤ z) → W p l e R s m args below meth c H locs cells slots Q (F0 m (pc + 3) ls (.int (zI z) :: rest))) : W p l e R s m args below meth c H locs cells slots Q (F0 m pc ls (.int (zI y) :: .int (zI x) :: rest)) := by
  refine va_mmax F.1 F.2.1 (F.2.2.1.trans hsize.symm) F.2.2.2.1 (F.2.2.2.2 _ hl) (F.2.2.2.2 _ hst) (F.2.2.2.2 _ hi) (F.2.2.2.2 _ hco) hframes hlocals hc hs hdg ?_
  by_cases h : zI x < zI y
  · rw [if_pos h]
    have := (zI_lt hx hy).mp h
    exact kk y ⟨Or.inr rfl, by omega, by omega⟩
  · rw [if_neg h]
    have := mt (zI_lt hx hy).mpr h
    exact kk x ⟨Or.inl rfl, by omega, by omega⟩
/-- a static method of any class, nothing for an answer, with a world -/
theorem r_callZv {post : S → Prop} (F : CallFix p m c cc nL s args bw_T own) (hK : va_K G vwCl kt s) (hP : va_P G vwCl w0 H) (hD : va_D A w0) (hS : va_S A s.heap H locs) (hA : ∀ q : Nat, s.heap.size ≤ q → A q) (hO : bw_Ok E) (hE : E A s)
    (hM : bw_Cv l y (bw_ws (Cond.code y bytes maxL ret)) rm E G kt As wc post w') (h1 : Cond.methodLink own index y ∈ bw_T) (h2 : bw_KS y.cls y (Cond.code y bytes maxL ret)) (nA : Nat) (hnA : As.length = nA)
    (hd : y.cls ≠ "java/lang/invoke/MethodHandle" ∧ y.cls ≠ "java/lang/invoke/VarHandle" ∧ (parseMethodDescriptor y.desc).map (fun d => d.parameters.length) = some nA) (hRm : rm.frames + 1 ≤ R.frames ∧ 8 + (maxL + 11) + rm.locals ≤ R.locals)
    (isC isR : List Nat) (hC : isC.map (fun i => w0[i]?) = wc.map some) (hR : isR.map (fun i => w0[i]?) = wr.map some) (hnd : va_nd isR = true) (hdis : ∀ i ∈ isR, i ∉ isC) (hnc : va_nd isC = true)
    (hsize : ls.size = nL) (hstack : stk = As.reverse ++ rest) (hroom : (rest.map fun v => v.category).sum ≤ 8) (hdg : decode cc pc = .ok (.invokestatic index, 3)) (hf : cells + rm.cells ≤ R.cells ∧ slots + rm.slots ≤ R.slots) {w1 : S → va_W} (hw : ∀ u, wr ++ w' u = w1 u)
    (kk : ∀ (u : S) (H1 : Heap) (locs1 : List Loc), post u → va_P G vwCl (w1 u) H1 → va_D A (w1 u) → va_S A s.heap H1 locs1 → W p l e R s m args below meth c H1 locs1 (cells + rm.cells) (slots + rm.slots) Q (F0 m (pc + 3) ls rest)) : W p l e R s m args below meth c H locs cells slots Q (F0 m pc ls stk) := by
  have hPc := bw_subP hP hC
  have hDc := hD.sub isC hnc hC
  have hF := va_free (wc := wc) hD hS hA isC hC
  have hp := bw_Cv.hp (av := As) hO.1 hK hPc hDc (fun U hU hW => hO.2 A _ s U H locs hE hS hF hU hW)
  subst hnA
  exact bw_run_v hP hD hS hA isC isR hC hR hnd hdis (va_runS (As := As) F (hM H.size) (va_cwS As.length F.2.2.2.2 (bw_gX h1 h2) rfl rfl rfl hd hRm) hp rfl rfl hsize hstack (lv_room (m := m) (pc := pc) (ls := ls) (rest := stk) hroom) hdg hf) (fun u H1 locs1 hp hP1 hD1 hS1 => kk u H1 locs1 hp (by rw [← hw]; exact hP1) (by rw [← hw]; exact hD1) hS1)
end ZB
