/-! a throw that is caught in a table of one row, be the row's class resolved yet or not -/
theorem bx_caught {p : Program} {l : Launch} {e : Env} {R : Room} {s : State} {m : MethodId} {args : Array Value} {below : List Frame} {meth : Method} {c : Code} {T : State} {locs : List Loc} {cells slots : Nat}
    (X : Stand p l e R s m args below meth c T locs cells slots) {x : ExceptionTableEntry} {pc : Nat} {ls : Array Slot} {rest : List Value} {q : Addr} {ce : Cell} {cT : ClassId}
    (htab : c.exceptionTable.toList = [x]) (hx : covers x pc = true) (h0 : x.catchType ≠ 0) (hl : s.vm.ClassLinks e.platform m.cls x.catchType cT) (hcell : T.heap[q]? = some ce) (hv : ce.vm = .none) (hk : ∃ k, s.vm.classes[ce.cls]? = some k) (hfit : s.vm.assignable ce.cls cT = true) :
    ∃ vm', Stand p l e R s m args below meth c (T.setVm vm') locs cells slots ∧ Steps p.tables e below ((T.setTop (F0 m pc ls rest)).pushFrame (.throwing q)) ((T.setVm vm').setTop (F0 m x.handlerPc ls [.ref q])) := by
  have hW : s.WarmedH T.vm := X.warmed
  have hlT : T.vm.ClassLinks e.platform m.cls x.catchType cT := hW.classLinks hl
  obtain ⟨dk, _, _, kt, hd, _, _, _, _, hkt, _, hopen⟩ := hl.here
  have hW' : s.WarmedH (T.vm.noted m.cls x.catchType (.cls cT)) := hW.noted hd hopen (State.rightAt_cls hl)
  refine ⟨_, X.noted hW', ?_⟩
  obtain ⟨k0, hk0⟩ := hk
  obtain ⟨k1, hk1, -⟩ := hW'.alike.2.2 _ _ hk0
  obtain ⟨k2, hk2, -⟩ := hW'.alike.2.2 _ _ hkt
  have hfit' : (T.vm.noted m.cls x.catchType (.cls cT)).assignable ce.cls cT = true := by rw [hW'.alike.assignable]; exact hfit
  have hat : At T (F0 m pc ls rest).method c below := X.here
  obtain ⟨g₀, hg⟩ := Option.isSome_iff_exists.mp hat.top
  obtain ⟨r, hr⟩ := State.topJava?_eq_some.mp hg
  obtain ⟨hgo, hwi⟩ := hat.throwing q
  obtain ⟨S, hS⟩ : ∃ z, z = (T.setTop (F0 m pc ls rest)).pushFrame (.throwing q) := ⟨_, rfl⟩
  have hSvm : S.vm = T.vm := by rw [hS]; exact throwing_vm T _ q
  have hSh : S.heap[q]? = some ce := by rw [hS, throwing_heap]; exact hcell
  have hne : ∀ k, ce.vm ≠ .statics k := fun k => by rw [hv]; intro z; cases z
  have hmS : S.vm.method? (F0 m pc ls rest).method = some meth := by rw [hSvm]; exact X.method'
  obtain ⟨ha, ht⟩ := (resolveClass_links e.toSetting (show S.vm.ClassLinks e.platform m.cls x.catchType cT by rw [hSvm]; exact hlT)).op (op := VmOp.resolveClass m.cls x.catchType) rfl
  have hk1S : (S.vm.noted m.cls x.catchType (.cls cT)).classes[ce.cls]? = some k1 := by rw [hSvm]; exact hk1
  have hk2S : (S.vm.noted m.cls x.catchType (.cls cT)).classes[cT]? = some k2 := by rw [hSvm]; exact hk2
  have hfitS : (S.vm.noted m.cls x.catchType (.cls cT)).assignable ce.cls cT = true := by rw [hSvm]; exact hfit'
  have hcov : (decide (x.startPc ≤ pc) && decide (pc < x.endPc)) = true := hx
  have find : ∀ (Q : Handler → Pre) (E : CtlPost) (d : Bool) (acts : List Action), wp (findHandler (F0 m pc ls rest) q) Q E e d acts S ↔ Q (.found x.handlerPc) d acts (S.setVm (S.vm.noted m.cls x.catchType (.cls cT))) := by
    intro Q E d acts
    rw [W.findHandler_eq hmS X.code, htab]
    simp [findHandler.go, F0, hcov, h0, ha, ht, hSh, hne, hk1S, hk2S, hfitS, VmOp.dirties, VmOp.acts]
  rw [hSvm] at find
  have one : (stepThrowing e S q (.java (F0 m pc ls rest) :: T.frames.tail)).1 = (S.setVm (T.vm.noted m.cls x.catchType (.cls cT))).setFrames (.java (F0 m x.handlerPc ls [.ref q]) :: T.frames.tail) := by
    simp only [stepThrowing, searchFrame, vmDo]
    generalize hres : Sem.go _ e false [] S = res
    obtain ⟨as, rfl, -⟩ := Sem.eq_ok_of hres (a := Handler.found x.handlerPc) (s' := S.setVm (T.vm.noted m.cls x.catchType (.cls cT))) (acts' := []) (by simp [find _ _ _ _])
    rfl
  rw [← hS] at hgo hwi ⊢
  refine Steps.head hgo hwi ?_
  have hfr : S.frames = .throwing q :: .java (F0 m pc ls rest) :: T.frames.tail := by rw [hS]; exact frames_entered hat.top _
  rw [stepThread_throwing hfr, one]
  have hr' : (T.setVm (T.vm.noted m.cls x.catchType (.cls cT))).frames = .java g₀ :: r := hr
  have e1 : S = T.setFrames (.throwing q :: .java (F0 m pc ls rest) :: T.frames.tail) := by
    rw [hS, State.pushFrame, State.setTop_of_frames _ hr, State.setFrames_setFrames, ← State.setTop_of_frames _ hr, hr, List.tail_cons, State.frames_setTop _ hr]
  have e2 : ∀ (F G : List Frame) (v : Vm), ((T.setFrames F).setVm v).setFrames G = (T.setVm v).setFrames G := fun F G v => by
    have z : (T.setFrames F).setVm v = (T.setVm v).setFrames F := rfl
    rw [z, State.setFrames_setFrames]
  rw [e1, e2, State.setTop_of_frames _ hr', hr, List.tail_cons]
  exact Steps.refl _
theorem bx_catch {p : Program} {l : Launch} {e : Env} {R : Room} {s : State} {m : MethodId} {args : Array Value} {below : List Frame} {meth : Method} {c : Code} {H : Heap} {locs : List Loc} {cells slots : Nat} {Q : State → Prop} {pc : Nat} {ls : Array Slot} {rest : List Value} {own name E : String} {ce : Cell} {q : Addr} {x : ExceptionTableEntry}
    (hown : s.vm.findClass own = some m.cls) (htab : c.exceptionTable.toList = [x]) (hx : covers x pc = true) (h0 : x.catchType ≠ 0) (hlink : (Cond.classLink own x.catchType name).before args s = true) (hcast : (Cond.castable E name).before args s = true) (hcell : H[q]? = some ce) (hv : ce.vm = .none) (hcl : s.vm.findClass E = some ce.cls)
    (kk : W p l e R s m args below meth c H locs cells slots Q (F0 m x.handlerPc ls [.ref q])) : vx_W p l e R s m args below meth c H locs cells slots Q (F0 m pc ls rest) q := by
  intro T hT X
  obtain ⟨c3, c4, hc3, hc4, hasg⟩ := Cond.castable_spec hcast
  cases Option.some.inj (hc3.symm.trans hcl)
  obtain ⟨c5, hc5, hcl5⟩ := Cond.classLink_spec hown hlink e.platform (by rw [X.admits.platform])
  cases Option.some.inj (hc4.symm.trans hc5)
  obtain ⟨vm', X', st⟩ := bx_caught X (pc := pc) (ls := ls) (rest := rest) htab hx h0 hcl5 (by rw [hT]; exact hcell) hv (by obtain ⟨k9, h9, -⟩ := Vm.findClass_spec hcl; exact ⟨k9, h9⟩) hasg
  obtain ⟨t, a1, b1⟩ := kk (T.setVm vm') hT X'
  exact ⟨t, st.trans a1, b1⟩

