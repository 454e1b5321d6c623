theorem dX8_led_0 : decode cX8_led 0 = .ok (.aload_n 0, 1) := by decide +kernel
theorem dX8_led_1 : decode cX8_led 1 = .ok (.getfield 31, 3) := by decide +kernel
theorem dX8_led_4 : decode cX8_led 4 = .ok (.iload_n 1, 1) := by decide +kernel
theorem dX8_led_5 : decode cX8_led 5 = .ok (.invokevirtual 302, 3) := by decide +kernel
theorem k_1088 : Cond.methodLink RX8 302 yX2_toldLine ∈ bw_T := bw_m 1088 (by decide +kernel) rfl
theorem kv_X2_toldLine : bw_KV RX2 yX2_toldLine (Cond.code yX2_toldLine cX2_toldLine 4 (some .int)) := ⟨bw_m 1089 (by decide +kernel) rfl, bw_m 1090 (by decide +kernel) rfl, bw_m 96 (by decide +kernel) rfl, bw_m 1091 (by decide +kernel) rfl⟩
theorem dX8_led_8 : decode cX8_led 8 = .ok (.istore_n 2, 1) := by decide +kernel
theorem dX8_led_9 : decode cX8_led 9 = .ok (.iload_n 2, 1) := by decide +kernel
theorem dX8_led_10 : decode cX8_led 10 = .ok (.iconst (-1), 1) := by decide +kernel
theorem dX8_led_11 : decode cX8_led 11 = .ok (.if_icmp .ne 14, 3) := by decide +kernel
theorem dX8_led_14 : decode cX8_led 14 = .ok (.new 305, 3) := by decide +kernel
theorem dX8_led_17 : decode cX8_led 17 = .ok (.dup, 1) := by decide +kernel
theorem dX8_led_18 : decode cX8_led 18 = .ok (.ldc_w 307, 3) := by decide +kernel
theorem dX8_led_21 : decode cX8_led 21 = .ok (.invokespecial 309, 3) := by decide +kernel
theorem dX8_led_24 : decode cX8_led 24 = .ok (.athrow, 1) := by decide +kernel
theorem k_1092 : Cond.classLink RX8 305 "java/util/NoSuchElementException" ∈ bw_T := bw_m 1092 (by decide +kernel) rfl
theorem k_114 : Cond.initialized "java/util/NoSuchElementException" ∈ bw_T := bw_m 114 (by decide +kernel) rfl
/-! 'throw new NoSuchElementException("..")': its constructor hands on by entry 13, the others by 7; the rest of the walk is the library's -/
abbrev bw_X : String := "java/util/NoSuchElementException"
def bw_six : ByteArray := ⟨#[0x2a, 0x2b, 0xb7, 0x00, 0x0d, 0xb1]⟩
def bw_ownR : List Cond := [.methodLink RX8 309 (Bundle.initS bw_X), .instantiable bw_X 6, .castable bw_X bw_X, .selects bw_X Bundle.tFill0 Bundle.tFill0, .selects bw_X Bundle.tFill Bundle.tFill, .lays bw_X Bundle.tN "cause" "Ljava/lang/Throwable;", .lays bw_X Bundle.tN "stackTrace" Bundle.steD, .lays bw_X Bundle.tN "suppressedExceptions" Bundle.listD, .lays bw_X Bundle.tN "detailMessage" "Ljava/lang/String;", .isRef (.static Bundle.tN "UNASSIGNED_STACK" Bundle.steD), .isRef (.static Bundle.tN "SUPPRESSED_SENTINEL" Bundle.listD), .fieldLink Bundle.tN 198 Bundle.tN "backtrace" "Ljava/lang/Object;", .lays Bundle.tN Bundle.tN "backtrace" "Ljava/lang/Object;", .lays bw_X Bundle.tN "backtrace" "Ljava/lang/Object;"]
def bw_own : List Cond := Bundle.throwableAtoms ++ (Bundle.throwableSAtoms ++ (Bundle.passSAtoms bw_X "java/lang/RuntimeException" 13 bw_six ++ (Bundle.chainSAtoms "java/lang/RuntimeException" ["java/lang/Exception"] ++ bw_ownR)))
def bw_at : List Cond := bw_own.filter vx_no
def bw_B : List Cond := bw_at.filter (fun w => !goodWord w)
theorem bw_at_good : ∀ w ∈ bw_at.filter goodWord, w ∈ lw_tbl := by decide +kernel
theorem bw_B_face : ∀ w ∈ bw_B, w.onTables = true ∧ w.keepsFace = true := by decide +kernel
theorem bw_at_ot : ∀ w ∈ Cond.classLink RX8 305 bw_X :: Cond.initialized bw_X :: bw_at, vx_ot w = true := by decide +kernel
theorem bw_B_cast : Cond.castable bw_X bw_X ∈ bw_B := by decide +kernel
theorem bw_Nw_move {w : Cond} (h1 : w.onTables = true) (h2 : w.keepsFace = true) {s U : State} (hW : s.WarmedH U.vm) (h : va_Nw w s) : va_Nw w U := va_tabs h1 (show (s.setVm U.vm).vm = U.vm from rfl) (Cond.before_shiftedFace (State.Shifted.of_warmed hW) _ h2 h)
def bw_Thr (E : (Nat → Prop) → State → Prop) (st : Nat) : Prop := ∀ (A : Nat → Prop) (U : State), E A U → vk_R RX8 307 "no such line is told" st U ∧ vx_Zq Bundle.tN "UNASSIGNED_STACK" Bundle.steD A U U.heap ∧ vx_Zq Bundle.tN "SUPPRESSED_SENTINEL" Bundle.listD A U U.heap ∧ ∀ w ∈ bw_B, va_Nw w U
theorem bw_at_all {E : (Nat → Prop) → State → Prop} {st : Nat} (hX : bw_Thr E st) {A : Nat → Prop} {s : State} (hE : E A s) {args : Array Value} (hts : ∀ w ∈ bw_T, w.before args s = true) : ∀ w ∈ bw_at, w.before args s = true :=
  vx_hat (B := bw_B) (fun w h => hts w (List.mem_filter.mpr ⟨bw_at_good w h, (List.mem_filter.mp h).2⟩)) (fun w h => h) (fun w h => va_Nw.use (bw_B_face w h).1 ((hX A s hE).2.2.2 w h))
theorem bw_six_0 : decode bw_six 0 = .ok (.aload_n 0, 1) := by decide +kernel
theorem bw_six_1 : decode bw_six 1 = .ok (.aload_n 1, 1) := by decide +kernel
theorem bw_six_2 : decode bw_six 2 = .ok (.invokespecial 13, 3) := by decide +kernel
theorem bw_six_5 : decode bw_six 5 = .ok (.return_, 1) := by decide +kernel
set_option maxHeartbeats 2000000 in
/-- from the constructor's call to the throw that leaves the method (after the library's own row for constructors that all hand on by entry 7) -/
theorem bx_ctor {p : Program} {l : Launch} {e : Env} {R : Room} {s : State} {m₀ : MethodId} {args : Array Value} {below : List Frame} {meth : Method} {c : Code} {W : State} {locs : List Loc} {cells slots : Nat} (X : Stand p l e R s m₀ args below meth c W locs cells slots) (hexec : p.tables.exec = Jvm.exec) (htr : e.platform.stackTraces = false)
    (hown : s.vm.findClass RX8 = some m₀.cls) (h : ∀ a ∈ bw_own, a.before args s = true) (hlocs : ∀ x ∈ locs, ∀ cell, s.heap[x.base]? = some cell → cell.vm.isStatics = false)
    {a : Addr} {cX : ClassId} {kX : Class} (hfoundX : s.vm.findClass bw_X = some cX) (hkX : s.vm.classes[cX]? = some kX) (hcell : W.heap[a]? = some (freshCell cX kX)) (hnew : s.heap.size ≤ a) {msg : Value} (hmsg : msg.isRef = true)
    {g : JFrame} (hg : g.method = m₀) (hsize : g.locals.size = c.maxLocals) (hlocked : g.locked = none) (hentered : g.entered = []) {rest : List Value} (hstack : g.stack = msg :: .ref a :: .ref a :: rest)
    (hd6 : decode c.code g.pc = .ok (.invokespecial 309, 3)) (hd9 : decode c.code (g.pc + 3) = .ok (.athrow, 1)) (hout : ∀ x ∈ c.exceptionTable.toList, covers x (g.pc + 3) = false)
    (hRframes : 5 < R.frames) (hRlocals : 2 * g.monitorRoom + ((Value.ref a :: rest).map fun v => v.category).sum + 81 ≤ R.locals) (hlocks : meth.locks = false) :
    ∃ U : State, Steps p.tables e below (W.setTop g) U ∧ U.status = .running ∧ Ended U below (.threw a) ∧ s.WarmedH U.vm ∧ s.sameButNew ({ U with vm := s.vm } : State) locs cells slots ∧ ∃ ce, U.heap[a]? = some ce ∧ ce.vm = .none ∧ s.vm.findClass bw_X = some ce.cls := by
  have howns : e.platform.frameOwnsMonitors = true := by rw [X.admits.platform]
  have hfin : e.platform.finalization = false := by rw [X.admits.platform]
  have hpl : e.platform.magicAccessors = ({} : Platform).magicAccessors := by rw [X.admits.platform]
  have hR : ∀ x, x ∈ bw_ownR → x.holds args s none s [] = true := fun x hx => h x (by simp only [bw_own, List.mem_append]; exact Or.inr (Or.inr (Or.inr (Or.inr hx))))
  obtain ⟨T, Z0, L, -, Y⟩ := ThrowableC.of_atoms (args := args) howns hfin hpl (fun x hx => h x (by simp only [bw_own, List.mem_append]; exact Or.inl hx))
  obtain ⟨Z, M, LZ, LM, hnZ⟩ := Init0T.ofS_atoms (args := args) hpl L Y (fun x hx => h x (by simp only [bw_own, List.mem_append]; exact Or.inr (Or.inl hx)))
  have hpass : ∀ w ∈ Bundle.passSAtoms bw_X "java/lang/RuntimeException" 13 bw_six, w.before args s = true := fun x hx => h x (by simp only [bw_own, List.mem_append]; exact Or.inr (Or.inr (Or.inl hx)))
  obtain ⟨P1, L1, hP1m, hP1s⟩ := PassC.ofS_atoms (args := args) (s := s) hpl (X := bw_X) (Y := "java/lang/RuntimeException") (by decide) (by decide) bw_six_0 bw_six_1 bw_six_2 bw_six_5 hpass
  obtain ⟨P2, Ps, hlen, L2, hL, hP2m, hlink2, hlink⟩ := Bundle.chainS (args := args) hpl hnZ ["java/lang/Exception"] "java/lang/RuntimeException" (by decide +kernel) (by decide +kernel) (fun x hx => h x (by simp only [bw_own, List.mem_append]; exact Or.inr (Or.inr (Or.inr (Or.inl hx)))))
  have hlink1 : P1.sup = P2.m := Option.some.inj (hP1s.symm.trans hP2m)
  have hfound : s.vm.findClass bw_X = some P1.m.cls := findClass_of_methodNamed hP1m
  cases Option.some.inj (hfoundX.symm.trans hfound)
  obtain ⟨c1, kX', hc1, hk, hord, -, -, hn6⟩ := Cond.instantiable_spec (hR (.instantiable bw_X 6) (by simp [bw_ownR]))
  cases Option.some.inj (hc1.symm.trans hfound)
  cases Option.some.inj (hkX.symm.trans hk)
  have hsel0 : selectMethod e.platform s.vm P1.m.cls T.fill0 = .method T.fill0 := by
    obtain ⟨c2, r2, m2, q1, q2, q3, q4, -⟩ := Cond.selects_spec (hR (.selects bw_X Bundle.tFill0 Bundle.tFill0) (by simp [bw_ownR]))
    cases Option.some.inj (q1.symm.trans hfound)
    cases Option.some.inj (q2.symm.trans (State.methodFound?_of_named Y.fill0 (by decide)))
    cases Option.some.inj (q3.symm.trans Y.fill0)
    rw [Launch.admits_selectMethod X.admits]; exact q4
  have hselF : selectMethod e.platform s.vm P1.m.cls T.fill = .method T.fill := by
    obtain ⟨c2, r2, m2, q1, q2, q3, q4, -⟩ := Cond.selects_spec (hR (.selects bw_X Bundle.tFill Bundle.tFill) (by simp [bw_ownR]))
    cases Option.some.inj (q1.symm.trans hfound)
    cases Option.some.inj (q2.symm.trans (State.methodFound?_of_named Y.fill (by decide)))
    cases Option.some.inj (q3.symm.trans Y.fill)
    rw [Launch.admits_selectMethod X.admits]; exact q4
  obtain ⟨cellS0, hcS0, hiss⟩ := Y.statics
  obtain ⟨u0, hu0⟩ := Cond.staticRefV Y.unassigned L.unassignedStatic L.statics hcS0 hiss (hR (.isRef (.static Bundle.tN "UNASSIGNED_STACK" Bundle.steD)) (by simp [bw_ownR]))
  obtain ⟨sen, hsen⟩ := Cond.staticRefV Y.sentinel L.sentinelStatic L.statics hcS0 hiss (hR (.isRef (.static Bundle.tN "SUPPRESSED_SENTINEL" Bundle.listD)) (by simp [bw_ownR]))
  obtain ⟨ci198, i198, fB, hk198, hg198, ha198, hsB, -, hnB, htB, hffB⟩ := Cond.ownField (t := .object "java/lang/Object") Y.found L.cls (by decide +kernel) (hR (.fieldLink Bundle.tN 198 Bundle.tN "backtrace" "Ljava/lang/Object;") (by simp [bw_ownR])) (hR (.lays Bundle.tN Bundle.tN "backtrace" "Ljava/lang/Object;") (by simp [bw_ownR])) e.platform hpl
  obtain ⟨cellS, hcS', heS, -, hkeep⟩ := X.same.2.2.2.2.2 T.aS cellS0 hcS0
  have hcellS : W.heap[T.aS]? = some cellS := hcS'
  have hout' : ∀ i, (⟨T.aS, i⟩ : Loc) ∉ locs := fun i hmem => by
    have z := hlocs _ hmem cellS0 hcS0
    rw [hiss] at z; cases z
  have hknownS : cellS.vm ≠ .unknown := by
    rw [heS]; intro hu
    rw [show cellS0.vm = .unknown from hu] at hiss
    cases hiss
  have hneS : T.aS ≠ a := Nat.ne_of_lt (Nat.lt_of_lt_of_le (Array.getElem?_eq_some_iff.mp hcS0).1 hnew)
  obtain ⟨iM, hffM⟩ := Y.msg
  obtain ⟨tyC, dC, hdC, hdnC⟩ := Cond.laysAt hfound hk Y.cause (hR (.lays bw_X Bundle.tN "cause" "Ljava/lang/Throwable;") (by simp [bw_ownR]))
  obtain ⟨tyS, dS, hdS, hdnS⟩ := Cond.laysAt hfound hk Y.stack (hR (.lays bw_X Bundle.tN "stackTrace" Bundle.steD) (by simp [bw_ownR]))
  obtain ⟨tyP, dP, hdP, hdnP⟩ := Cond.laysAt hfound hk Y.supp (hR (.lays bw_X Bundle.tN "suppressedExceptions" Bundle.listD) (by simp [bw_ownR]))
  obtain ⟨tyM, dM, hdM, hdnM⟩ := Cond.laysAt hfound hk hffM (hR (.lays bw_X Bundle.tN "detailMessage" "Ljava/lang/String;") (by simp [bw_ownR]))
  obtain ⟨tyB, dB, hdB, hdnB⟩ := Cond.laysAt hfound hk hffB (hR (.lays bw_X Bundle.tN "backtrace" "Ljava/lang/Object;") (by simp [bw_ownR]))
  have bC := Cond.laysApart hdB hdC hdnB hdnC (by rw [hnB, Y.causeName]; decide)
  have bS := Cond.laysApart hdB hdS hdnB hdnS (by rw [hnB, Y.stackName]; decide)
  have bP := Cond.laysApart hdB hdP hdnB hdnP (by rw [hnB, Y.suppName]; decide)
  have hskip : SkipFacts T e.platform s (fun u => u) u0 ((preparedCellV T.toThrowableT (freshCell P1.m.cls kX) a u0 sen).withEntry W.cur) :=
    ⟨{ ci198 := ci198, i198 := i198, fBack := fB }, ⟨hk198, hg198, ha198, hsB⟩, by
      have z := fresh_default (c := P1.m.cls) tyB
      rw [htB] at z
      simpa [preparedCellV, Cell.setSlot, Cell.withEntry, Array.getElem?_setIfInBounds, bC, bS, bP, bC.symm, bS.symm, bP.symm, defaultValue] using z, fun _ _ => rfl⟩
  obtain ⟨tm, methC, cdC, kC, vm₁, hnC, -, -, -, -, -, -, -, hW₁, st1⟩ := Steps.initColdS (tb := p.tables) (e := e) (below := below) (s := s) (U := W) X.here hexec X.warmed hpl hown (t := Bundle.initS bw_X) rfl rfl (by decide)
    (hR (.methodLink RX8 309 (Bundle.initS bw_X)) (by simp [bw_ownR])) (hpass (.instanceMethod (Bundle.initS bw_X)) (by simp [Bundle.passSAtoms])) (bytes := bw_six) (maxL := 2) (hpass (.code (Bundle.initS bw_X) bw_six 2 none) (by simp [Bundle.passSAtoms]))
    (f := g) hg (a := a) (msg := msg) (rest := .ref a :: rest) hstack hd6
  cases Option.some.inj (hnC.symm.trans hP1m)
  have X₁ := X.noted hW₁
  obtain ⟨vm₂, X₂, st2⟩ := X₁.ctorMessageOffV hexec (g := { g with stack := .ref a :: rest }) hg hsize T L Z LZ M LM (P1 :: P2 :: Ps)
    (fun P hP => by
      rcases List.mem_cons.mp hP with rfl | hP
      · exact L1
      · rcases List.mem_cons.mp hP with rfl | hP
        · exact L2
        · exact hL P hP) ⟨hlink1, hlink2, hlink⟩ (u0 := u0) (sen := sen) (self := a) hmsg (cell := freshCell P1.m.cls kX) (cellS := cellS)
    hcell (fun _ => by simp) (by simp) rfl rfl hsel0 hselF hcellS hneS hknownS (by rw [hkeep _ (hout' _)]; exact hu0) (by rw [hkeep _ (hout' _)]; exact hsen)
    (Takes.of_laid hk hord tyC (by rw [Y.causeType]; rfl)) (Takes.of_laid hk hord tyS (by rw [Y.stackType]; exact fits_refV_array _ u0)) (Takes.of_laid hk hord tyP (by rw [Y.suppType]; exact fits_refV_object _ sen))
    (Takes.of_laid hk hord tyM (by rw [Y.msgType]; exact fits_refV_object _ ⟨msg, hmsg⟩)) Y.objLocals hskip htr [] hd6
    (by simp only [List.length_cons, hlen]; exact hRframes) (by simp only [List.length_cons, hlen]; exact hRlocals)
  obtain ⟨hwalk, hrun, hended, hWU, hsame⟩ := X₂.athrowLeaves hexec (g := { g with stack := .ref a :: rest, pc := g.pc + 3 }) hg hlocked hentered hout (a := a) (rest := rest) rfl hd9
  have hlt : a < ((W.setVm vm₁).setVm vm₂).heap.size := (Array.getElem?_eq_some_iff.mp hcell).1
  have hU := heapAt_setCell_self (s := (W.setVm vm₁).setVm vm₂) (plainBareV T.toThrowableT (freshCell P1.m.cls kX) a u0 sen msg) hlt
  refine ⟨_, st1 _ (fun acts => ?_), hrun, hended, hWU, hsame.weaken (fun y hy hlt' => ?_) (Nat.le_refl _) (Nat.le_refl _), _, hU, rfl, hfound⟩
  · rw [doInvoke_state]
    exact st2 _ hwalk
  · rcases List.mem_append.mp hy with h1 | h1
    · exact h1
    · exfalso
      have hb : y.base = a := by
        simp only [List.mem_cons, List.not_mem_nil, or_false] at h1
        rcases h1 with rfl | rfl | rfl | rfl | rfl <;> rfl
      rw [hb] at hlt'
      exact Nat.not_lt.mpr hnew hlt'
theorem bx_throw {p : Program} {l : Launch} {e : Env} {R : Room} {s : State} {m : MethodId} {args : Array Value} {below : List Frame} {meth : Method} {c : Code} {H : Heap} {locs : List Loc} {cells slots : Nat} {free : Addr → Prop} {ls : Array Slot} {rest : List Value} {Qc : Array Value → State → Outcome → State → Prop} {XC : String → State → State → Prop}
    {cc : ByteArray} {pc : Nat} (hexec : p.tables.exec = Jvm.exec) (hb : c.code = cc) (hl : l.stackTraces = false) {text : String} {mc ms sa : Nat} {A : Nat → Prop}
    (hown : s.vm.findClass RX8 = some m.cls) (hk : (Cond.classLink RX8 305 bw_X).before args s = true) (hini : (Cond.initialized bw_X).before args s = true) (hstr : vk_R RX8 307 text sa s) (hat : ∀ w ∈ bw_at, w.before args s = true)
    (hU : vx_Zq Bundle.tN "UNASSIGNED_STACK" Bundle.steD A s s.heap) (hN : vx_Zq Bundle.tN "SUPPRESSED_SENTINEL" Bundle.listD A s s.heap) (hS : va_S A s.heap H locs) (hsize : ls.size = c.maxLocals)
    (d0 : decode cc pc = .ok (.new 305, 3)) (d3 : decode cc (pc + 3) = .ok (.dup, 1)) (d4 : decode cc (pc + 4) = .ok (.ldc_w 307, 3)) (d7 : decode cc (pc + 7) = .ok (.invokespecial 309, 3)) (d10 : decode cc (pc + 10) = .ok (.athrow, 1))
    (hout : ∀ x ∈ c.exceptionTable.toList, covers x (pc + 10) = false)
    (hRframes : 5 < R.frames) (hRlocals : (rest.map fun v => v.category).sum + 82 ≤ R.locals) (hRcells : cells + 1 ≤ R.cells) (hRslots : slots + 6 ≤ R.slots) (hlocks : meth.locks = false)
    (hx : ∀ t : State, s.vm.Alike t.vm → H.size ≤ t.heap.size → (∀ q : Nat, q < H.size → t.heap[q]? = H[q]?) → XC bw_X s t)
    (hf : ∀ z ∈ locs, free z.base) (hc : cells + 1 ≤ mc) (hs : slots + 6 ≤ ms) :
    W p l e R s m args below meth c H locs cells slots (vx_MQ below Qc XC args s mc ms free) (F0 m pc ls rest) := by
  intro T hT X
  have htr : e.platform.stackTraces = false := (show e.platform.stackTraces = l.stackTraces by rw [X.admits.platform]).trans hl
  have Y := vx_rebase X (R' := { frames := R.frames, locals := R.locals, cells := 1, slots := 6 }) (Nat.le_refl _) (Nat.le_refl _) hRcells hRslots
  obtain ⟨s', hA⟩ : ∃ z, z = (T.setVm s.vm).setFrames (.invoking m args :: below) := ⟨_, rfl⟩
  rw [← hA] at Y
  have hvm : s'.vm = s.vm := by rw [hA]; rfl
  have hhp : s'.heap = H := by rw [hA]; exact hT
  have hW0 : s.WarmedH s'.vm := by rw [hvm]; exact State.WarmedH.refl s
  have hat' : ∀ w ∈ bw_at, w.before args s' = true := fun w hw => vx_ot_at hW0 hvm.symm (bw_at_ot w (List.mem_cons_of_mem _ (List.mem_cons_of_mem _ hw))) (hat w hw)
  have hk' : (Cond.classLink RX8 305 bw_X).before args s' = true := vx_ot_at hW0 hvm.symm (bw_at_ot _ List.mem_cons_self) hk
  have hini' : (Cond.initialized bw_X).before args s' = true := vx_ot_at hW0 hvm.symm (bw_at_ot _ (List.mem_cons_of_mem _ List.mem_cons_self)) hini
  have hU' : vx_Zq Bundle.tN "UNASSIGNED_STACK" Bundle.steD A s' s'.heap := by rw [hhp]; exact vx_Zq.moved hW0.alike (hU.kept hS.2.1)
  have hN' : vx_Zq Bundle.tN "SUPPRESSED_SENTINEL" Bundle.listD A s' s'.heap := by rw [hhp]; exact vx_Zq.moved hW0.alike (hN.kept hS.2.1)
  have h : ∀ w ∈ bw_own, w.before args s' = true := vx_own hat' (vx_isRefq hU'.1) (vx_isRefq hN'.1) hU'.2.word hN'.2.word
  have hown' : s'.vm.findClass RX8 = some m.cls := by rw [hvm]; exact hown
  have hins : (Cond.instantiable bw_X 6).before args s' = true := h _ (by simp [bw_own, bw_ownR])
  obtain ⟨vm₁, cX, kX, hfX, hkX, -, -, X₁, st1⟩ := Y.newCold hexec (own := RX8) (C := bw_X) (index := 305) (n := 6) hown' hk' hins hini'
    (g := F0 m pc ls rest) rfl (by rw [hb]; exact d0) (Nat.le_refl _) (Nat.le_refl _)
  generalize hT1 : (T.setVm vm₁).pushCell { cls := cX, slots := kX.instanceTypes.map defaultValue, vm := .none } = T1 at X₁ st1
  have hcat : (Value.ref T.heap.size).category = 1 := rfl
  have hcellA : T1.heap[T.heap.size]? = some (freshCell cX kX) := by rw [← hT1]; exact State.heap_pushCell_size _ _
  have d3' : decode c.code (pc + 3) = .ok (.dup, 1) := by rw [hb]; exact d3
  have d4' : decode c.code (pc + 4) = .ok (.ldc_w 307, 3) := by rw [hb]; exact d4
  have hstr' : vk_R RX8 307 text sa s' := vk_R.warm hW0 hstr
  obtain ⟨U, hsteps, hrun, hend, hW, hsame, ce, hce, hcv, hcl⟩ := bx_ctor X₁ hexec htr hown' h (fun x hx => nomatch hx) hfX hkX hcellA (by rw [hhp, hT]; exact Nat.le_refl _) (msg := .ref sa) rfl
    (g := { method := m, pc := pc + 7, locals := ls, stack := .ref sa :: .ref T.heap.size :: .ref T.heap.size :: rest, locked := none }) rfl hsize rfl rfl (rest := rest) rfl
    (by rw [hb]; exact d7) (by rw [hb]; exact d10) hout hRframes (by simp only [List.map_cons, List.sum_cons, hcat]; show 2 * 0 + _ + 81 ≤ R.locals; omega) hlocks
  obtain ⟨f1, f2⟩ := vx_frame hsame
  rw [hhp] at f1 f2
  have hWs : s.WarmedH U.vm := State.WarmedH.trans hW0 hW
  have hcl : s.vm.findClass bw_X = some ce.cls := by
    rw [hvm] at hcl
    exact hcl
  have hall : s.sameButNew ({ U with vm := s.vm } : State) locs mc ms := by
    subst hA
    obtain ⟨e1, e2⟩ := hsame
    rw [State.setFrames_setFrames] at e1
    have h2 : (T.setVm s.vm).sameButNew ({ U with vm := s.vm } : State) [] (0 + 1) (0 + 6) := ⟨e1, e2⟩
    have h3 := X.same.trans h2
    rw [List.append_nil] at h3
    exact h3.mono hc hs
  refine ⟨U, ?_, .threw T.heap.size, hrun, hend, Or.inr ⟨T.heap.size, rfl, bw_X, ce, locs, hx U hWs.alike f1 (fun q hq => f2 q hq (fun z hz => nomatch hz)), hce, hcv, hcl, hWs, hall, hf⟩⟩
  refine st1 _ ?_
  show Steps p.tables e below (T1.setTop { method := m, pc := pc + 3, locals := ls, stack := .ref T.heap.size :: rest, locked := none }) _
  jvm_step X₁.here [X₁.here.top, hexec, d3', Value.category]
  exact X₁.ldcStringW hexec (own := RX8) (text := text) (index := 307) (a := sa) hown' hstr'.1 hstr'.2
    (g := { method := m, pc := pc + 4, locals := ls, stack := .ref T.heap.size :: .ref T.heap.size :: rest, locked := none }) rfl d4' _ hsteps

theorem k_1084 : Cond.methodLink RL 7 yX8_led ∈ bw_T := bw_m 1084 (by decide +kernel) rfl
theorem kv_X8_led : bw_KV RX8 yX8_led (Cond.code yX8_led cX8_led 3 (some .int)) := ⟨bw_m 1085 (by decide +kernel) rfl, bw_m 1086 (by decide +kernel) rfl, bw_m 94 (by decide +kernel) rfl, bw_m 1087 (by decide +kernel) rfl⟩
theorem k_1083 : Cond.classLink RL 13 "java/util/NoSuchElementException" ∈ bw_T := bw_m 1083 (by decide +kernel) rfl
theorem dL_led_0 : decode cL_led 0 = .ok (.aload_n 2, 1) := by decide +kernel
theorem dL_led_1 : decode cL_led 1 = .ok (.iconst 0, 1) := by decide +kernel
theorem dL_led_2 : decode cL_led 2 = .ok (.aload_n 0, 1) := by decide +kernel
theorem dL_led_3 : decode cL_led 3 = .ok (.iload_n 1, 1) := by decide +kernel
theorem dL_led_4 : decode cL_led 4 = .ok (.invokevirtual 7, 3) := by decide +kernel
theorem dL_led_12 : decode cL_led 12 = .ok (.astore_n 3, 1) := by decide +kernel
theorem dL_led_13 : decode cL_led 13 = .ok (.iconst 1, 1) := by decide +kernel
theorem dL_led_14 : decode cL_led 14 = .ok (.ireturn, 1) := by decide +kernel
theorem r_callW {p : Program} {l : Launch} {e : Env} {R : Room} {s : State} {m : MethodId} {args : Array Value} {below : List Frame} {meth : Method} {c : Code} {H : Heap} {locs : List Loc} {cells slots : Nat} {Q : State → Prop} {cc : ByteArray} {nL : Nat} {own : String} {G : va_G} {kt : List (ClassId × FieldType)} {w0 wc wr : va_W} {A : Nat → Prop} {S : Type} {y : MethodName} {rm : Room} {E : (Nat → Prop) → State → Prop} {As rest stk : List Value} {w' : S → va_W} {bytes : ByteArray} {maxL index pc : Nat} {ret : Option FieldType} {hh : List (Nat × Nat × Nat × Nat)} {ls : Array Slot} {post : Int32 → S → Prop} (F : CallFix p m c cc nL s args bw_T own) (hK : va_K G vwCl kt s) (hP : va_P G vwCl w0 H) (hD : va_D A w0) (hS : va_S A s.heap H locs) (hA : ∀ q : Nat, s.heap.size ≤ q → A q) (hO : bw_Ok E) (hE : E A s)
    (hM : bw_Ci l y (bw_ws (Cond.codeWith y bytes maxL ret hh)) rm E G kt As wc post w') (h1 : Cond.methodLink own index y ∈ bw_T) (h2 : bw_KS y.cls y (Cond.codeWith y bytes maxL ret hh)) (nA : Nat) (hnA : As.length = nA)
    (hd : y.cls ≠ "java/lang/invoke/MethodHandle" ∧ y.cls ≠ "java/lang/invoke/VarHandle" ∧ (parseMethodDescriptor y.desc).map (fun d => d.parameters.length) = some nA) (hRm : rm.frames + 1 ≤ R.frames ∧ 8 + (maxL + 11) + rm.locals ≤ R.locals)
    (isC isR : List Nat) (hC : isC.map (fun i => w0[i]?) = wc.map some) (hR : isR.map (fun i => w0[i]?) = wr.map some) (hnd : va_nd isR = true) (hdis : ∀ i ∈ isR, i ∉ isC) (hnc : va_nd isC = true)
    (hsize : ls.size = nL) (hstack : stk = As.reverse ++ rest) (hroom : (rest.map fun v => v.category).sum ≤ 8) (hdg : decode cc pc = .ok (.invokestatic index, 3)) (hf : cells + rm.cells ≤ R.cells ∧ slots + rm.slots ≤ R.slots) {w1 : S → va_W} (hw : ∀ u, wr ++ w' u = w1 u)
    (kk : ∀ (r : Int32) (u : S) (H1 : Heap) (locs1 : List Loc), post r u → va_P G vwCl (w1 u) H1 → va_D A (w1 u) → va_S A s.heap H1 locs1 → W p l e R s m args below meth c H1 locs1 (cells + rm.cells) (slots + rm.slots) Q (F0 m (pc + 3) ls (.int r :: rest))) : W p l e R s m args below meth c H locs cells slots Q (F0 m pc ls stk) := by
  have hPc := bw_subP hP hC
  have hDc := hD.sub isC hnc hC
  have hF := va_free (wc := wc) hD hS hA isC hC
  have hp := bw_Cv.hp (av := As) hO.1 hK hPc hDc (fun U hU hW => hO.2 A _ s U H locs hE hS hF hU hW)
  subst hnA
  exact bw_run_i hP hD hS hA isC isR hC hR hnd hdis (vx_runSW (As := As) F (hM H.size) (vx_cwSW As.length F.2.2.2.2 (bw_gX h1 h2) rfl rfl rfl hd hRm) hp rfl rfl hsize hstack (lv_room (m := m) (pc := pc) (ls := ls) (rest := stk) hroom) hdg hf) (fun r u H1 locs1 hp hP1 hD1 hS1 => kk r u H1 locs1 hp (by rw [← hw]; exact hP1) (by rw [← hw]; exact hD1) hS1)

