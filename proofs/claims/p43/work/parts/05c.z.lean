/-! longs as whole numbers, their order, the length of an array; addresses among the numbers behind a call -/
def zL (z : Int) : Int64 := Int64.ofInt z
theorem zL_of (x : Int64) : ∃ z : Int, x = zL z := ⟨x.toInt, (Int64.ofInt_toInt x).symm⟩
theorem zI_len (n : Nat) : Int32.ofNat n = zI (n : Int) := rfl
abbrev aU (u : zU) (o k : Nat) : Nat := (u.1 (o + k)).toNat
section ZC
variable {p : Program} {l : Launch} {e : Env} {R : Room} {s : State} {m : MethodId} {args : Array Value} {below : List Frame} {meth : Method} {c : Code} {H : Heap} {locs : List Loc} {cells slots : Nat} {Q : State → Prop}
variable {cc : ByteArray} {nL : Nat} {own : String} {rest : List Value} {pc : Nat} {ls : Array Slot}
theorem rz_topl {x : Int64} (k : ∀ z : Int, W p l e R s m args below meth c H locs cells slots Q (F0 m pc ls (.long (zL z) :: rest))) : W p l e R s m args below meth c H locs cells slots Q (F0 m pc ls (.long x :: rest)) := by
  obtain ⟨z, rfl⟩ := zL_of x
  exact k z
theorem rz_lcmp (F : CallFix p m c cc nL s args bw_T own) {x y : Int64} (hdg : decode cc pc = .ok (.lcmp, 1)) (kk : ∀ z : Int, (z = 1 ∨ z = 0 ∨ z = -1) → W p l e R s m args below meth c H locs cells slots Q (F0 m (pc + 1) ls (.int (zI z) :: rest))) : W p l e R s m args below meth c H locs cells slots Q (F0 m pc ls (.long y :: .long x :: rest)) := by
  have hexec := F.1
  have hb := F.2.1
  intro T hT X
  by_cases h1 : x > y
  · obtain ⟨t, a, b⟩ := kk 1 (Or.inl rfl) T hT X
    refine ⟨t, ?_, b⟩
    jvm_step X.here [X.here.top, hexec, hb, hdg, h1]
    exact a
  · by_cases h2 : x = y
    · obtain ⟨t, a, b⟩ := kk 0 (Or.inr (Or.inl rfl)) T hT X
      refine ⟨t, ?_, b⟩
      jvm_step X.here [X.here.top, hexec, hb, hdg, h1, h2]
      exact a
    · obtain ⟨t, a, b⟩ := kk (-1) (Or.inr (Or.inr rfl)) T hT X
      refine ⟨t, ?_, b⟩
      jvm_step X.here [X.here.top, hexec, hb, hdg, h1, h2]
      exact a
end ZC
