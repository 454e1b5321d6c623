/-! bytes and longs in arrays as whole numbers -/
theorem zF_of (f : Nat → Int32) : ∃ g : Nat → Int, f = fun k => zI (g k) := ⟨fun k => (f k).toInt, funext fun k => (Int32.ofInt_toInt (f k)).symm⟩
theorem zLF_of (f : Nat → Int64) : ∃ g : Nat → Int, f = fun k => zL (g k) := ⟨fun k => (f k).toInt, funext fun k => (Int64.ofInt_toInt (f k)).symm⟩
section ZD
variable {p : Program} {l : Launch} {e : Env} {R : Room} {s : State} {m : MethodId} {args : Array Value} {below : List Frame} {meth : Method} {c : Code} {H : Heap} {locs : List Loc} {cells slots : Nat} {Q : State → Prop}
variable {cc : ByteArray} {nL : Nat} {own : String} {G : va_G} {kt : List (ClassId × FieldType)} {w0 : va_W} {A : Nat → Prop} {rest : List Value} {a : Addr} {pc : Nat} {ls : Array Slot}
theorem rz_bast (F : CallFix p m c cc nL s args bw_T own) (hK : va_K G vwCl kt s) (hP : va_P G vwCl w0 H) (hD : va_D A w0) (hS : va_S A s.heap H locs) (q0 t0 : Nat) {cA : ClassId} {n : Nat} {f : Nat → Int32} (ha : w0[q0]? = some (a, .inl (cA, n, .inl f))) (ht : kt[t0]? = some (cA, .byte)) {i x : Int32} (hi : vp_in i n) (hdg : decode cc pc = .ok (.bastore, 1)) {w1 : (Nat → Int) → va_W} (hw : ∀ g' : Nat → Int, w0.set q0 (a, .inl (cA, n, .inl (fun k => zI (g' k)))) = w1 g')
    (kk : ∀ (g' : Nat → Int) (H1 : Heap) (locs1 : List Loc), va_P G vwCl (w1 g') H1 → va_D A (w1 g') → va_S A s.heap H1 locs1 → W p l e R s m args below meth c H1 locs1 cells slots Q (F0 m (pc + 1) ls rest)) : W p l e R s m args below meth c H locs cells slots Q (F0 m pc ls (.int x :: .int i :: .ref a :: rest)) := by
  refine r_bastX F hK hP hD hS q0 t0 ha ht hi hdg (w1 := fun f' => w0.set q0 (a, .inl (cA, n, .inl f'))) (fun _ => rfl) (fun f' H1 locs1 hP1 hD1 hS1 => ?_)
  obtain ⟨g', rfl⟩ := zF_of f'
  exact kk g' H1 locs1 (by rw [← hw]; exact hP1) (by rw [← hw]; exact hD1) hS1
theorem rz_lald (F : CallFix p m c cc nL s args bw_T own) (hK : va_K G vwCl kt s) (hP : va_P G vwCl w0 H) (q0 t0 : Nat) {cA : ClassId} {n : Nat} {g : Nat → Int} (ha : w0[q0]? = some (a, .inl (cA, n, .inr (.inl (fun k => zL (g k)))))) (ht : kt[t0]? = some (cA, .long)) {i : Int} (hi : 0 ≤ i ∧ i < (n : Int)) (hn : n < 2147483648) (hdg : decode cc pc = .ok (.laload, 1))
    (kk : W p l e R s m args below meth c H locs cells slots Q (F0 m (pc + 1) ls (.long (zL (g i.toNat)) :: rest))) : W p l e R s m args below meth c H locs cells slots Q (F0 m pc ls (.int (zI i) :: .ref a :: rest)) := by
  refine va_lald F.1 F.2.1 hK hP q0 t0 ha ht (zI_in hi hn) hdg ?_
  rw [zI_clamp ⟨by omega, by omega⟩]
  exact kk
end ZD
