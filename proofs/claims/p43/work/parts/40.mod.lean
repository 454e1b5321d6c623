/-! the reference: rows for arrays at a place that is known, bits, programs, runs and what is left of them -/
section YA
variable {p : Program} {l : Launch} {e : Env} {R : Room} {s : State} {m : MethodId} {args : Array Value} {below : List Frame} {meth : Method} {c : Code} {H : Heap} {locs : List Loc} {cells slots : Nat} {Q : State → Prop}
variable {cc : ByteArray} {nL : Nat} {own : String} {G : va_G} {kt : List (ClassId × FieldType)} {w0 : va_W} {A : Nat → Prop} {rest : List Value} {a : Addr} {pc : Nat} {ls : Array Slot}
theorem rz_ialdN (F : CallFix p m c cc nL s args bw_T own) (hK : va_K G vwCl kt s) (hP : va_P G vwCl w0 H) (q0 t0 : Nat) {cA : ClassId} {n : Nat} {g : Nat → Int} (ha : w0[q0]? = some (a, .inl (cA, n, .inl (fun k => zI (g k))))) (ht : kt[t0]? = some (cA, .int)) {i : Int} (hi : 0 ≤ i ∧ i < (n : Int)) (hn : n < 2147483648) (hdg : decode cc pc = .ok (.iaload, 1)) (k : Nat) (hk : i.toNat = k)
    (kk : W p l e R s m args below meth c H locs cells slots Q (F0 m (pc + 1) ls (.int (zI (g k)) :: rest))) : W p l e R s m args below meth c H locs cells slots Q (F0 m pc ls (.int (zI i) :: .ref a :: rest)) := by
  subst hk
  exact rz_iald F hK hP q0 t0 ha ht hi hn hdg kk
theorem rz_iastN (F : CallFix p m c cc nL s args bw_T own) (hK : va_K G vwCl kt s) (hP : va_P G vwCl w0 H) (hD : va_D A w0) (hS : va_S A s.heap H locs) (q0 t0 : Nat) {cA : ClassId} {n : Nat} {g : Nat → Int} (ha : w0[q0]? = some (a, .inl (cA, n, .inl (fun k => zI (g k))))) (ht : kt[t0]? = some (cA, .int)) {i v : Int} (hi : 0 ≤ i ∧ i < (n : Int)) (hn : n < 2147483648) (hdg : decode cc pc = .ok (.iastore, 1)) (k : Nat) (hk : i.toNat = k) {w1 : (Nat → Int) → va_W} (hw : ∀ g', w0.set q0 (a, .inl (cA, n, .inl (fun k => zI (g' k)))) = w1 g')
    (kk : ∀ (g' : Nat → Int), g' = uZ g k v → ∀ (H1 : Heap) (locs1 : List Loc), va_P G vwCl (w1 g') H1 → va_D A (w1 g') → va_S A s.heap H1 locs1 → W p l e R s m args below meth c H1 locs1 cells slots Q (F0 m (pc + 1) ls rest)) : W p l e R s m args below meth c H locs cells slots Q (F0 m pc ls (.int (zI v) :: .int (zI i) :: .ref a :: rest)) := by
  subst hk
  exact rz_iastG F hK hP hD hS q0 t0 ha ht hi hn hdg hw kk
theorem rz_eq {x : Int32} {z : Int} (h : x = zI z) (kk : W p l e R s m args below meth c H locs cells slots Q (F0 m pc ls (.int (zI z) :: rest))) : W p l e R s m args below meth c H locs cells slots Q (F0 m pc ls (.int x :: rest)) := by
  rw [h]; exact kk
theorem nI_or {a b : Nat} (ha : a < 2 ^ 32) (hb : b < 2 ^ 32) : nI a ||| nI b = nI (a ||| b) := by
  apply Int32.toBitVec_inj.mp
  apply BitVec.eq_of_toNat_eq
  rw [Int32.toBitVec_or, BitVec.toNat_or, pk_tn ha, pk_tn hb, pk_tn (Nat.or_lt_two_pow ha hb)]
theorem zI_orM {a b : Int} {k N : Nat} (hN : 2 ^ k = N) (hk : k ≤ 30) (ha : 0 ≤ a ∧ a < (N : Int)) (hb : 0 ≤ b ∧ b < (N : Int)) : ∃ z : Int, zI a ||| zI b = zI z ∧ a ≤ z ∧ b ≤ z ∧ z < (N : Int) := by
  obtain ⟨m, rfl⟩ : ∃ m : Nat, a = m := ⟨a.toNat, by omega⟩
  obtain ⟨n, rfl⟩ : ∃ n : Nat, b = n := ⟨b.toNat, by omega⟩
  have hp : 2 ^ k ≤ 2 ^ 30 := Nat.pow_le_pow_right (by omega) hk
  have hm : m < 2 ^ k := by omega
  have hn : n < 2 ^ k := by omega
  have ho : m ||| n < 2 ^ k := Nat.or_lt_two_pow hm hn
  have h1 : m ≤ m ||| n := Nat.left_le_or
  have h2 : n ≤ m ||| n := Nat.right_le_or
  refine ⟨((m ||| n : Nat) : Int), ?_, by omega, by omega, by omega⟩
  exact nI_or (by omega) (by omega)
theorem rz_iorM (F : CallFix p m c cc nL s args bw_T own) {a b : Int} (k N : Nat) (hN : 2 ^ k = N) (hk : k ≤ 30) (ha : 0 ≤ a ∧ a < (N : Int)) (hb : 0 ≤ b ∧ b < (N : Int)) (hdg : decode cc pc = .ok (.ior, 1))
    (kk : ∀ z : Int, (a ≤ z ∧ b ≤ z ∧ z < (N : Int)) → W p l e R s m args below meth c H locs cells slots Q (F0 m (pc + 1) ls (.int (zI z) :: rest))) : W p l e R s m args below meth c H locs cells slots Q (F0 m pc ls (.int (zI b) :: .int (zI a) :: rest)) := by
  refine lv_ior F.1 F.2.1 hdg ?_
  obtain ⟨z, h, h1, h2, h3⟩ := zI_orM hN hk ha hb
  rw [h]
  exact kk z ⟨h1, h2, h3⟩
theorem zI_shl1 : ∀ j, j < 31 → zI 1 <<< (zI ((j : Nat) : Int) &&& 31) = zI ((2 ^ j : Nat) : Int) := by decide
theorem rz_ishl1 (F : CallFix p m c cc nL s args bw_T own) {j : Int} (hj : 0 ≤ j ∧ j < 20) (hdg : decode cc pc = .ok (.ishl, 1))
    (kk : ∀ z : Int, (1 ≤ z ∧ z ≤ 524288 ∧ (j < 10 → z ≤ 512)) → W p l e R s m args below meth c H locs cells slots Q (F0 m (pc + 1) ls (.int (zI z) :: rest))) : W p l e R s m args below meth c H locs cells slots Q (F0 m pc ls (.int (zI j) :: .int (zI 1) :: rest)) := by
  refine lv_ishl F.1 F.2.1 hdg ?_
  obtain ⟨n, rfl⟩ : ∃ n : Nat, j = n := ⟨j.toNat, by omega⟩
  have hn : n ≤ 19 := by omega
  have h1 : 1 ≤ 2 ^ n := Nat.one_le_two_pow
  have h2 : 2 ^ n ≤ 2 ^ 19 := Nat.pow_le_pow_right (by omega) hn
  rw [zI_shl1 n (by omega)]
  refine kk _ ⟨by omega, by omega, fun h => ?_⟩
  have h3 : 2 ^ n ≤ 2 ^ 9 := Nat.pow_le_pow_right (by omega) (by omega)
  omega
end YA
theorem uZ_ne {g : Nat → Int} {k j : Nat} {v : Int} (h : j ≠ k) : uZ g k v j = g j := by simp [uZ, h]
theorem uZ_eq {g : Nat → Int} {k : Nat} {v : Int} : uZ g k v k = v := by simp [uZ]
theorem uZ_at {g g' : Nat → Int} {k j : Nat} {v : Int} (e : g' = uZ g k v) (h : j = k) : g' j = v := by rw [e, h, uZ_eq]
theorem uZ_off {g g' : Nat → Int} {k j : Nat} {v : Int} (e : g' = uZ g k v) (h : j ≠ k) : g' j = g j := by rw [e, uZ_ne h]
def popZ (v : Int) : Int := [0, 1, 1, 2, 1, 2, 2, 3, 1, 2, 2, 3, 2, 3, 3, 4].getD v.toNat 0
def twoP (n : Int) : Int := [1, 2, 4, 8].getD n.toNat 0
def bitB (x n : Int) : Prop := (zI x >>> (zI n &&& 31)) &&& zI 1 = zI 1
theorem gave_tab : ∀ x ∈ List.range 16, ∀ n ∈ List.range 4, ¬ ((zI ((x : Nat) : Int) >>> (zI ((n : Nat) : Int) &&& 31)) &&& zI 1 = zI 1) → (zI ((x : Nat) : Int) ||| (zI 1 <<< (zI ((n : Nat) : Int) &&& 31)) = zI (((x : Nat) : Int) + twoP ((n : Nat) : Int)) ∧ ((x : Nat) : Int) + twoP ((n : Nat) : Int) ≤ 15 ∧ popZ (((x : Nat) : Int) + twoP ((n : Nat) : Int)) = popZ ((x : Nat) : Int) + 1 ∧ 0 ≤ twoP ((n : Nat) : Int)) := by decide +kernel
theorem gave_step {x n : Int} (hx : 0 ≤ x ∧ x ≤ 15) (hn : 0 ≤ n ∧ n < 4) (h : ¬ bitB x n) : zI x ||| (zI 1 <<< (zI n &&& 31)) = zI (x + twoP n) ∧ x + twoP n ≤ 15 ∧ popZ (x + twoP n) = popZ x + 1 ∧ 0 ≤ twoP n := by
  obtain ⟨a, rfl⟩ : ∃ a : Nat, x = a := ⟨x.toNat, by omega⟩
  obtain ⟨b, rfl⟩ : ∃ b : Nat, n = b := ⟨n.toNat, by omega⟩
  exact gave_tab a (List.mem_range.mpr (by omega)) b (List.mem_range.mpr (by omega)) h
def sumZ (f : Nat → Int) : Nat → Int
  | 0 => 0
  | n + 1 => sumZ f n + f n
theorem sumZ_congr {f g : Nat → Int} {n : Nat} (h : ∀ k, k < n → g k = f k) : sumZ g n = sumZ f n := by
  induction n with
  | zero => rfl
  | succ n ih => simp only [sumZ]; rw [ih (fun k hk => h k (by omega)), h n (by omega)]
theorem sumZ_upd {f g : Nat → Int} {n j : Nat} (hj : j < n) (h : ∀ k, k < n → k ≠ j → g k = f k) : sumZ g n = sumZ f n + (g j - f j) := by
  induction n with
  | zero => omega
  | succ n ih =>
    simp only [sumZ]
    by_cases q : j = n
    · subst q
      rw [sumZ_congr (f := f) (g := g) (n := j) (fun k hk => h k (by omega) (by omega))]
      omega
    · rw [ih (by omega) (fun k hk hn => h k (by omega) hn), h n (by omega) (fun z => q z.symm)]
      omega
theorem sumZ_pos {f : Nat → Int} {n : Nat} (h : ∀ k, k < n → 0 ≤ f k) : 0 ≤ sumZ f n := by
  induction n with
  | zero => exact Int.le_refl _
  | succ n ih =>
    simp only [sumZ]
    have a := ih (fun k hk => h k (by omega))
    have b := h n (by omega)
    omega
theorem sumZ_bd {f : Nat → Int} {n : Nat} {c : Int} (h : ∀ k, k < n → f k ≤ c) : sumZ f n ≤ c * n := by
  induction n with
  | zero => simp [sumZ]
  | succ n ih =>
    simp only [sumZ]
    have a := ih (fun k hk => h k (by omega))
    have b := h n (by omega)
    have e : c * ((n + 1 : Nat) : Int) = c * n + c := by rw [Int.natCast_add, Int.mul_add]; simp
    omega
/-- what is left of a run: ways not yet taken, gives not yet given -/
def rM (g : Nat → Int) : Int := sumZ (fun w => 9 - g (8 + w)) 20 + 19 * sumZ (fun i => 4 - popZ (g (28 + i))) 10
theorem rM_same {s s' : Nat → Int} (h : ∀ j, 8 ≤ j → j < 38 → s' j = s j) : rM s' = rM s := by
  unfold rM
  rw [sumZ_congr (f := fun w => 9 - s (8 + w)) (g := fun w => 9 - s' (8 + w)) (fun k hk => by show 9 - s' (8 + k) = 9 - s (8 + k); rw [h (8 + k) (by omega) (by omega)]), sumZ_congr (f := fun i => 4 - popZ (s (28 + i))) (g := fun i => 4 - popZ (s' (28 + i))) (fun k hk => by show 4 - popZ (s' (28 + k)) = 4 - popZ (s (28 + k)); rw [h (28 + k) (by omega) (by omega)])]
theorem rM_0 : rM (fun _ => 0) = 940 := by decide
theorem rM_zero {s : Nat → Int} (h : ∀ j, 8 ≤ j → j < 38 → s j = 0) : rM s = 940 := (rM_same (s := fun _ => 0) h).trans rM_0
def SI (p s : Nat → Int) : Prop := (∀ k, k < 4 → 0 ≤ s k ∧ s k ≤ 99) ∧ (0 ≤ s 4 ∧ s 4 ≤ 9) ∧ (0 ≤ s 6 ∧ s 6 ≤ 3) ∧ (∀ i, i < 10 → (0 ≤ s (8 + 2 * i) ∧ s (8 + 2 * i) ≤ p (20 * i + 17)) ∧ (0 ≤ s (8 + (2 * i + 1)) ∧ s (8 + (2 * i + 1)) ≤ p (20 * i + 19))) ∧ (∀ i, i < 10 → 0 ≤ s (28 + i) ∧ s (28 + i) ≤ 15)
theorem popZ_bd : ∀ x ∈ List.range 16, 0 ≤ popZ ((x : Nat) : Int) ∧ popZ ((x : Nat) : Int) ≤ 4 := by decide
theorem SI.free {p s s' : Nat → Int} {k : Nat} {v : Int} (h : SI p s) (e : s' = uZ s k v) (hk : k = 5 ∨ k = 7 ∨ 38 ≤ k) : SI p s' ∧ rM s' = rM s := by
  subst e
  refine ⟨⟨fun j hj => ?_, ?_, ?_, fun i hi => ?_, fun i hi => ?_⟩, rM_same (fun j h1 h2 => uZ_ne (by omega))⟩
  · rw [uZ_ne (by omega)]; exact h.1 j hj
  · rw [uZ_ne (by omega)]; exact h.2.1
  · rw [uZ_ne (by omega)]; exact h.2.2.1
  · rw [uZ_ne (by omega), uZ_ne (by omega)]; exact h.2.2.2.1 i hi
  · rw [uZ_ne (by omega)]; exact h.2.2.2.2 i hi
theorem SI.cnt {p s s' : Nat → Int} {k : Nat} {v : Int} (h : SI p s) (e : s' = uZ s k v) (hk : k < 4) (hv : 0 ≤ v ∧ v ≤ 99) : SI p s' ∧ rM s' = rM s := by
  subst e
  refine ⟨⟨fun j hj => ?_, ?_, ?_, fun i hi => ?_, fun i hi => ?_⟩, rM_same (fun j h1 h2 => uZ_ne (by omega))⟩
  · by_cases q : j = k
    · rw [q, uZ_eq]; exact hv
    · rw [uZ_ne q]; exact h.1 j hj
  · rw [uZ_ne (by omega)]; exact h.2.1
  · rw [uZ_ne (by omega)]; exact h.2.2.1
  · rw [uZ_ne (by omega), uZ_ne (by omega)]; exact h.2.2.2.1 i hi
  · rw [uZ_ne (by omega)]; exact h.2.2.2.2 i hi
theorem SI.ats {p s s' : Nat → Int} {v : Int} (h : SI p s) (e : s' = uZ s 4 v) (hv : 0 ≤ v ∧ v ≤ 9) : SI p s' ∧ rM s' = rM s := by
  subst e
  refine ⟨⟨fun j hj => ?_, ?_, ?_, fun i hi => ?_, fun i hi => ?_⟩, rM_same (fun j h1 h2 => uZ_ne (by omega))⟩
  · rw [uZ_ne (by omega)]; exact h.1 j hj
  · rw [uZ_eq]; exact hv
  · rw [uZ_ne (by omega)]; exact h.2.2.1
  · rw [uZ_ne (by omega), uZ_ne (by omega)]; exact h.2.2.2.1 i hi
  · rw [uZ_ne (by omega)]; exact h.2.2.2.2 i hi
theorem SI.en {p s s' : Nat → Int} {v : Int} (h : SI p s) (e : s' = uZ s 6 v) (hv : 0 ≤ v ∧ v ≤ 3) : SI p s' ∧ rM s' = rM s := by
  subst e
  refine ⟨⟨fun j hj => ?_, ?_, ?_, fun i hi => ?_, fun i hi => ?_⟩, rM_same (fun j h1 h2 => uZ_ne (by omega))⟩
  · rw [uZ_ne (by omega)]; exact h.1 j hj
  · rw [uZ_ne (by omega)]; exact h.2.1
  · rw [uZ_eq]; exact hv
  · rw [uZ_ne (by omega), uZ_ne (by omega)]; exact h.2.2.2.1 i hi
  · rw [uZ_ne (by omega)]; exact h.2.2.2.2 i hi
theorem rM_tk {s s' : Nat → Int} {w : Nat} {v : Int} (e : s' = uZ s (8 + w) v) (hw : w < 20) : rM s' = rM s + s (8 + w) - v := by
  subst e
  unfold rM
  rw [sumZ_upd (f := fun w => 9 - s (8 + w)) (g := fun j => 9 - uZ s (8 + w) v (8 + j)) (j := w) hw (fun k hk hn => by show 9 - uZ s (8 + w) v (8 + k) = 9 - s (8 + k); rw [uZ_ne (by omega)]), sumZ_congr (f := fun i => 4 - popZ (s (28 + i))) (g := fun i => 4 - popZ (uZ s (8 + w) v (28 + i))) (fun k hk => by show 4 - popZ (uZ s (8 + w) v (28 + k)) = 4 - popZ (s (28 + k)); rw [uZ_ne (by omega)])]
  rw [uZ_eq]
  omega
theorem SI.tk0 {p s s' : Nat → Int} {k l i : Nat} {v : Int} (h : SI p s) (e : s' = uZ s k v) (hk : k = 8 + 2 * i) (hl : l = 20 * i + 17) (hi : i < 10) (hv : 0 ≤ v ∧ v ≤ p l) : SI p s' ∧ rM s' = rM s + s k - v := by
  subst hk hl
  refine ⟨?_, rM_tk e (by omega)⟩
  subst e
  refine ⟨fun j hj => ?_, ?_, ?_, fun j hj => ?_, fun j hj => ?_⟩
  · rw [uZ_ne (by omega)]; exact h.1 j hj
  · rw [uZ_ne (by omega)]; exact h.2.1
  · rw [uZ_ne (by omega)]; exact h.2.2.1
  · rw [uZ_ne (j := 8 + (2 * j + 1)) (by omega)]
    by_cases q : j = i
    · subst q; rw [uZ_eq]; exact ⟨hv, (h.2.2.2.1 j hj).2⟩
    · rw [uZ_ne (by omega)]; exact h.2.2.2.1 j hj
  · rw [uZ_ne (by omega)]; exact h.2.2.2.2 j hj
theorem SI.tk1 {p s s' : Nat → Int} {k l i : Nat} {v : Int} (h : SI p s) (e : s' = uZ s k v) (hk : k = 8 + (2 * i + 1)) (hl : l = 20 * i + 19) (hi : i < 10) (hv : 0 ≤ v ∧ v ≤ p l) : SI p s' ∧ rM s' = rM s + s k - v := by
  subst hk hl
  refine ⟨?_, rM_tk e (by omega)⟩
  subst e
  refine ⟨fun j hj => ?_, ?_, ?_, fun j hj => ?_, fun j hj => ?_⟩
  · rw [uZ_ne (by omega)]; exact h.1 j hj
  · rw [uZ_ne (by omega)]; exact h.2.1
  · rw [uZ_ne (by omega)]; exact h.2.2.1
  · rw [uZ_ne (j := 8 + 2 * j) (by omega)]
    by_cases q : j = i
    · subst q; rw [uZ_eq]; exact ⟨(h.2.2.2.1 j hj).1, hv⟩
    · rw [uZ_ne (by omega)]; exact h.2.2.2.1 j hj
  · rw [uZ_ne (by omega)]; exact h.2.2.2.2 j hj
theorem SI.gv {p s s' : Nat → Int} {k i : Nat} {v : Int} (h : SI p s) (e : s' = uZ s k v) (hk : k = 28 + i) (hi : i < 10) (hv : 0 ≤ v ∧ v ≤ 15) : SI p s' ∧ rM s' = rM s + 19 * (popZ (s k) - popZ v) := by
  subst hk
  constructor
  · subst e
    refine ⟨fun j hj => ?_, ?_, ?_, fun j hj => ?_, fun j hj => ?_⟩
    · rw [uZ_ne (by omega)]; exact h.1 j hj
    · rw [uZ_ne (by omega)]; exact h.2.1
    · rw [uZ_ne (by omega)]; exact h.2.2.1
    · rw [uZ_ne (by omega), uZ_ne (by omega)]; exact h.2.2.2.1 j hj
    · by_cases q : j = i
      · subst q; rw [uZ_eq]; exact hv
      · rw [uZ_ne (by omega)]; exact h.2.2.2.2 j hj
  · subst e
    unfold rM
    rw [sumZ_congr (f := fun w => 9 - s (8 + w)) (g := fun j => 9 - uZ s (28 + i) v (8 + j)) (fun k hk => by show 9 - uZ s (28 + i) v (8 + k) = 9 - s (8 + k); rw [uZ_ne (by omega)]), sumZ_upd (f := fun i => 4 - popZ (s (28 + i))) (g := fun j => 4 - popZ (uZ s (28 + i) v (28 + j))) (j := i) hi (fun k hk hn => by show 4 - popZ (uZ s (28 + i) v (28 + k)) = 4 - popZ (s (28 + k)); rw [uZ_ne (by omega)])]
    rw [uZ_eq]
    omega
theorem SI.take {p s : Nat → Int} (h : SI p s) {i : Int} {k l : Nat} (hi : 0 ≤ i ∧ i < 10) (hk : (k : Int) = 8 + 2 * i) (hl : (l : Int) = 20 * i + 17) : 0 ≤ s k ∧ s k ≤ p l := by
  have q := (h.2.2.2.1 i.toNat (by omega)).1
  rw [show k = 8 + 2 * i.toNat by omega, show l = 20 * i.toNat + 17 by omega]; exact q
theorem SI.take1 {p s : Nat → Int} (h : SI p s) {i : Int} {k l : Nat} (hi : 0 ≤ i ∧ i < 10) (hk : (k : Int) = 8 + (2 * i + 1)) (hl : (l : Int) = 20 * i + 19) : 0 ≤ s k ∧ s k ≤ p l := by
  have q := (h.2.2.2.1 i.toNat (by omega)).2
  rw [show k = 8 + (2 * i.toNat + 1) by omega, show l = 20 * i.toNat + 19 by omega]; exact q
theorem SI.gave {p s : Nat → Int} (h : SI p s) {i : Int} {k : Nat} (hi : 0 ≤ i ∧ i < 10) (hk : (k : Int) = 28 + i) : 0 ≤ s k ∧ s k ≤ 15 := by
  have q := h.2.2.2.2 i.toNat (by omega)
  rw [show k = 28 + i.toNat by omega]; exact q
def StOk (p s : Nat → Int) : Prop := SI p s ∧ (0 ≤ s 5 ∧ s 5 ≤ 1001) ∧ (s 6 = 0 → s 5 + rM s ≤ 1000)
theorem rM_pos {p s : Nat → Int} (h : SI p s) (hp : ∀ k, k < 200 → p k ≤ 9) : 0 ≤ rM s := by
  unfold rM
  have a : 0 ≤ sumZ (fun w => 9 - s (8 + w)) 20 := sumZ_pos (fun k hk => by
    show 0 ≤ 9 - s (8 + k)
    have q := h.2.2.2.1 (k / 2) (by omega)
    have q1 := hp (20 * (k / 2) + 17) (by omega)
    have q2 := hp (20 * (k / 2) + 19) (by omega)
    rcases Nat.mod_two_eq_zero_or_one k with z | z
    · rw [show 8 + k = 8 + 2 * (k / 2) by omega]; omega
    · rw [show 8 + k = 8 + (2 * (k / 2) + 1) by omega]; omega)
  have b : 0 ≤ sumZ (fun i => 4 - popZ (s (28 + i))) 10 := sumZ_pos (fun k hk => by
    show 0 ≤ 4 - popZ (s (28 + k))
    have q := h.2.2.2.2 k hk
    have q2 := popZ_bd (s (28 + k)).toNat (List.mem_range.mpr (by omega))
    rw [show (((s (28 + k)).toNat : Nat) : Int) = s (28 + k) by omega] at q2
    omega)
  omega
theorem SI.congr {p p' s s' : Nat → Int} (h : SI p s) (ep : ∀ k, k < 200 → p' k = p k) (es : ∀ k, k < 159 → s' k = s k) : SI p' s' := by
  refine ⟨fun j hj => ?_, ?_, ?_, fun j hj => ?_, fun j hj => ?_⟩
  · rw [es j (by omega)]; exact h.1 j hj
  · rw [es 4 (by omega)]; exact h.2.1
  · rw [es 6 (by omega)]; exact h.2.2.1
  · rw [es (8 + 2 * j) (by omega), es (8 + (2 * j + 1)) (by omega), ep (20 * j + 17) (by omega), ep (20 * j + 19) (by omega)]; exact h.2.2.2.1 j hj
  · rw [es (28 + j) (by omega)]; exact h.2.2.2.2 j hj
theorem StOk.congr {p p' s s' : Nat → Int} (h : StOk p s) (ep : ∀ k, k < 200 → p' k = p k) (es : ∀ k, k < 159 → s' k = s k) : StOk p' s' := by
  refine ⟨h.1.congr ep es, ?_, ?_⟩
  · rw [es 5 (by omega)]; exact h.2.1
  · rw [es 5 (by omega), es 6 (by omega), rM_same (fun j _ h2 => es j (by omega))]; exact h.2.2
theorem StOk.begun {p g g0 g1 g2 g3 g6 : Nat → Int} {a b c d v : Int} (hp : ∀ k, k < 200 → 0 ≤ p k) (hz : ∀ k, k < 159 → g k = 0) (e0 : g0 = uZ g 0 a) (e1 : g1 = uZ g0 1 b) (e2 : g2 = uZ g1 2 c) (e3 : g3 = uZ g2 3 d) (e6 : g6 = uZ g3 6 v) (ha : 0 ≤ a ∧ a ≤ 99) (hb : 0 ≤ b ∧ b ≤ 99) (hc : 0 ≤ c ∧ c ≤ 99) (hd : 0 ≤ d ∧ d ≤ 99) (hv : 0 ≤ v ∧ v ≤ 3) : StOk p g6 := by
  have s0 : SI p g := by
    refine ⟨fun j hj => ?_, ?_, ?_, fun j hj => ?_, fun j hj => ?_⟩
    · rw [hz j (by omega)]; omega
    · rw [hz 4 (by omega)]; omega
    · rw [hz 6 (by omega)]; omega
    · rw [hz (8 + 2 * j) (by omega), hz (8 + (2 * j + 1)) (by omega)]
      exact ⟨⟨by omega, hp _ (by omega)⟩, ⟨by omega, hp _ (by omega)⟩⟩
    · rw [hz (28 + j) (by omega)]; omega
  have r0 : rM g = 940 := rM_zero (fun j _ h2 => hz j (by omega))
  obtain ⟨s1, r1⟩ := s0.cnt e0 (by omega) ha
  obtain ⟨s2, r2⟩ := s1.cnt e1 (by omega) hb
  obtain ⟨s3, r3⟩ := s2.cnt e2 (by omega) hc
  obtain ⟨s4, r4⟩ := s3.cnt e3 (by omega) hd
  obtain ⟨s5, r5⟩ := s4.en e6 hv
  have h5 : g6 5 = 0 := by rw [uZ_off e6 (by omega), uZ_off e3 (by omega), uZ_off e2 (by omega), uZ_off e1 (by omega), uZ_off e0 (by omega)]; exact hz 5 (by omega)
  exact ⟨s5, by omega, fun _ => by omega⟩
/-! programs: 10 lines of 20 numbers -/
def pMax (o : Nat) : Int := [1, 4, 3, 9, 9, 3, 9, 9, 3, 9, 9, 3, 9, 9, 2, 3, 9, 9, 9, 9].getD o 0
def ProgR (g : Nat → Int) : Prop := ∀ k, k < 200 → 0 ≤ g k ∧ g k ≤ pMax (k % 20)
def ProgT (g : Nat → Int) : Prop := ∀ i n, i < 10 → n < 4 → g (20 * i + 2 + 3 * n) = 3 ∨ g (20 * i + 3 + 3 * n) ≤ 3
abbrev ProgOk (g : Nat → Int) : Prop := ProgR g ∧ ProgT g
theorem pMax_9 : ∀ o ∈ List.range 20, pMax o ≤ 9 := by decide
theorem ProgR.le9 {g : Nat → Int} (h : ProgR g) : ∀ k, k < 200 → g k ≤ 9 := fun k hk => by
  have a := (h k hk).2
  have b := pMax_9 (k % 20) (List.mem_range.mpr (Nat.mod_lt _ (by omega)))
  omega
theorem ProgR.pos {g : Nat → Int} (h : ProgR g) : ∀ k, k < 200 → 0 ≤ g k := fun k hk => (h k hk).1
theorem ProgR.at {g : Nat → Int} (h : ProgR g) {e : Int} (i : Int) (o : Nat) {m : Int} (hi : 0 ≤ i ∧ i < 10) (he : e = 20 * i + (o : Int)) (ho : o < 20) (hm : pMax o = m) : 0 ≤ g e.toNat ∧ g e.toNat ≤ m := by
  have q := h e.toNat (by omega)
  rw [show e.toNat % 20 = o by omega, hm] at q
  exact q
theorem ProgR.set {g g' : Nat → Int} {k : Nat} {v : Int} (h : ProgR g) (e : g' = uZ g k v) (o : Nat) {m : Int} (hk : k % 20 = o) (hm : pMax o = m) (hv : 0 ≤ v ∧ v ≤ m) : ProgR g' := by
  subst e hk hm
  exact uZ_all (P := fun j y => 0 ≤ y ∧ y ≤ pMax (j % 20)) h (fun _ => hv)
theorem ProgOk.act {g : Nat → Int} (h : ProgOk g) {i n k : Int} (hi : 0 ≤ i ∧ i < 10) (hn : 0 ≤ n ∧ n < 4) (hk : k = 20 * i + 2 + 3 * n) : (0 ≤ g k.toNat ∧ g k.toNat ≤ 3) ∧ (0 ≤ g (k + 1).toNat ∧ g (k + 1).toNat ≤ 9) ∧ (0 ≤ g (k + 2).toNat ∧ g (k + 2).toNat ≤ 9) ∧ (g k.toNat = 3 ∨ g (k + 1).toNat ≤ 3) := by
  have t := h.2 i.toNat n.toNat (by omega) (by omega)
  rw [show 20 * i.toNat + 2 + 3 * n.toNat = k.toNat by omega, show 20 * i.toNat + 3 + 3 * n.toNat = (k + 1).toNat by omega] at t
  have q1 := h.1 k.toNat (by omega)
  have q2 := h.1 (k + 1).toNat (by omega)
  have q3 := h.1 (k + 2).toNat (by omega)
  rcases (show n = 0 ∨ n = 1 ∨ n = 2 ∨ n = 3 by omega) with rfl | rfl | rfl | rfl
  · rw [show k.toNat % 20 = 2 by omega] at q1
    rw [show (k + 1).toNat % 20 = 3 by omega] at q2
    rw [show (k + 2).toNat % 20 = 4 by omega] at q3
    exact ⟨q1, q2, q3, t⟩
  · rw [show k.toNat % 20 = 5 by omega] at q1
    rw [show (k + 1).toNat % 20 = 6 by omega] at q2
    rw [show (k + 2).toNat % 20 = 7 by omega] at q3
    exact ⟨q1, q2, q3, t⟩
  · rw [show k.toNat % 20 = 8 by omega] at q1
    rw [show (k + 1).toNat % 20 = 9 by omega] at q2
    rw [show (k + 2).toNat % 20 = 10 by omega] at q3
    exact ⟨q1, q2, q3, t⟩
  · rw [show k.toNat % 20 = 11 by omega] at q1
    rw [show (k + 1).toNat % 20 = 12 by omega] at q2
    rw [show (k + 2).toNat % 20 = 13 by omega] at q3
    exact ⟨q1, q2, q3, t⟩
theorem ProgR.setA {g g' : Nat → Int} {k j : Nat} {i n v : Int} (h : ProgR g) (e : g' = uZ g k v) (hi : 0 ≤ i ∧ i < 10) (hn : 0 ≤ n ∧ n < 4) (hj : j < 3) (hk : (k : Int) = 20 * i + 2 + 3 * n + (j : Int)) (hv : 0 ≤ v ∧ v ≤ 9 ∧ (j = 0 → v ≤ 3)) : ProgR g' := by
  have t : pMax (k % 20) = if j = 0 then 3 else 9 := by
    rcases (show n = 0 ∨ n = 1 ∨ n = 2 ∨ n = 3 by omega) with rfl | rfl | rfl | rfl <;> rcases (show j = 0 ∨ j = 1 ∨ j = 2 by omega) with rfl | rfl | rfl
    · rw [show k % 20 = 2 by omega]; rfl
    · rw [show k % 20 = 3 by omega]; rfl
    · rw [show k % 20 = 4 by omega]; rfl
    · rw [show k % 20 = 5 by omega]; rfl
    · rw [show k % 20 = 6 by omega]; rfl
    · rw [show k % 20 = 7 by omega]; rfl
    · rw [show k % 20 = 8 by omega]; rfl
    · rw [show k % 20 = 9 by omega]; rfl
    · rw [show k % 20 = 10 by omega]; rfl
    · rw [show k % 20 = 11 by omega]; rfl
    · rw [show k % 20 = 12 by omega]; rfl
    · rw [show k % 20 = 13 by omega]; rfl
  refine h.set e (k % 20) rfl t ⟨hv.1, ?_⟩
  by_cases z : j = 0
  · rw [if_pos z]; exact hv.2.2 z
  · rw [if_neg z]; exact hv.2.1
theorem ProgT.set {g g' : Nat → Int} {k : Nat} {v : Int} (h : ProgT g) (e : g' = uZ g k v) (hk : k % 20 < 2 ∨ 13 < k % 20 ∨ k % 20 % 3 = 1) : ProgT g' := by
  subst e
  intro i n hi hn
  have q := h i n hi hn
  rcases (show n = 0 ∨ n = 1 ∨ n = 2 ∨ n = 3 by omega) with rfl | rfl | rfl | rfl <;> (rw [uZ_ne (by omega), uZ_ne (by omega)]; exact q)
theorem ProgT.tgt {g g' : Nat → Int} {k : Nat} {v : Int} (h : ProgT g) (e : g' = uZ g k v) (hk : k % 20 % 3 = 0) (hv : v ≤ 3) : ProgT g' := by
  subst e
  intro i n hi hn
  rw [uZ_ne (j := 20 * i + 2 + 3 * n) (by omega)]
  by_cases q : 20 * i + 3 + 3 * n = k
  · rw [q, uZ_eq]; exact Or.inr hv
  · rw [uZ_ne q]; exact h i n hi hn
theorem ProgT.pair {g g1 g2 : Nat → Int} {k k1 : Nat} {v w : Int} (h : ProgT g) (e1 : g1 = uZ g k v) (e2 : g2 = uZ g1 k1 w) (hk : k % 20 % 3 = 2) (hk1 : k1 = k + 1) (hv : v = 3 ∨ w ≤ 3) : ProgT g2 := by
  subst e1 e2 hk1
  intro i n hi hn
  by_cases q : 20 * i + 2 + 3 * n = k
  · rw [uZ_ne (j := 20 * i + 2 + 3 * n) (by omega), q, uZ_eq, show 20 * i + 3 + 3 * n = k + 1 by omega, uZ_eq]; exact hv
  · rw [uZ_ne (by omega), uZ_ne q, uZ_ne (by omega), uZ_ne (by omega)]; exact h i n hi hn
theorem ProgOk.congr {g g' : Nat → Int} (h : ProgOk g) (e : ∀ k, k < 200 → g' k = g k) : ProgOk g' := by
  refine ⟨fun k hk => ?_, fun i n hi hn => ?_⟩
  · rw [e k hk]; exact h.1 k hk
  · rw [e _ (by omega), e _ (by omega)]; exact h.2 i n hi hn
theorem ProgOk.zero {g : Nat → Int} (h : ∀ k, k < 200 → g k = 0) : ProgOk g := by
  refine ⟨fun k hk => ?_, fun i n hi hn => ?_⟩
  · rw [h k hk]
    have q : ∀ o ∈ List.range 20, (0 : Int) ≤ pMax o := by decide
    exact ⟨by omega, q (k % 20) (List.mem_range.mpr (Nat.mod_lt _ (by omega)))⟩
  · rw [h _ (by omega)]; exact Or.inr (by rw [h _ (by omega)]; omega)
/-- the reference's own numbers: thrown, taped, size, at, end, token, whole, nameSize, fault, place, trouble, failed, hasProgram, lines, newLines, wants, newWants, marks, longestOf -/
abbrev ModA (i : Nat → Int) : Prop := (0 ≤ i 11 ∧ i 11 ≤ 1) ∧ (0 ≤ i 14 ∧ i 14 ≤ 10) ∧ (0 ≤ i 16 ∧ i 16 ≤ 6) ∧ (0 ≤ i 7 ∧ i 7 ≤ 900) ∧ zR (i 5)
abbrev ModB (i : Nat → Int) : Prop := (0 ≤ i 1 ∧ i 1 ≤ 900) ∧ (0 ≤ i 2 ∧ i 2 ≤ 900) ∧ (0 ≤ i 3 ∧ i 3 ≤ 900) ∧ (0 ≤ i 4 ∧ i 4 ≤ 900) ∧ zR (i 6) ∧ (0 ≤ i 10 ∧ i 10 ≤ 6)
abbrev ModC (i : Nat → Int) : Prop := (0 ≤ i 12 ∧ i 12 ≤ 1) ∧ (0 ≤ i 13 ∧ i 13 ≤ 10) ∧ (0 ≤ i 15 ∧ i 15 ≤ 6) ∧ (0 ≤ i 17 ∧ i 17 ≤ 4)
def lk (g : Nat → Int) (n x : Int) : Int := if x < n then g x.toNat else -1
theorem lk_congr {g : Nat → Int} {n n' x x' : Int} (hn : n' = n) (hx : x' = x) : lk g n' x' = lk g n x := by rw [hn, hx]
abbrev ModS (i : Nat → Int) : Prop := ModA i ∧ ModB i ∧ ModC i
/-- an implication that arithmetic doesn't look into -/
def Imp (a b : Prop) : Prop := a → b
def ModOk (i : Nat → Int) : Prop := ModS i ∧ Imp (i 5 = 2) (i 7 ≤ 8)
section YB
variable {p : Program} {l : Launch} {e : Env} {R : Room} {s : State} {m : MethodId} {args : Array Value} {below : List Frame} {meth : Method} {c : Code} {H : Heap} {locs : List Loc} {cells slots : Nat} {Q : State → Prop}
variable {cc : ByteArray} {nL : Nat} {own : String} {rest : List Value} {pc : Nat} {ls : Array Slot}
theorem rz_ifb_eq (F : CallFix p m c cc nL s args bw_T own) {a : Int} (ha : 0 ≤ a ∧ a ≤ 1) {off : Int} {tgt : Nat} (hdg : decode cc pc = .ok (.ifCond .eq off, 3)) (ht : (pc : Int) + off = (tgt : Int)) (kt : a = 0 → W p l e R s m args below meth c H locs cells slots Q (F0 m tgt ls rest)) (kf : a = 1 → W p l e R s m args below meth c H locs cells slots Q (F0 m (pc + 3) ls rest)) : W p l e R s m args below meth c H locs cells slots Q (F0 m pc ls (.int (zI a) :: rest)) :=
  rz_if_eq F ⟨by omega, by omega⟩ hdg ht kt (fun h => kf (by omega))
theorem rz_ifb_ne (F : CallFix p m c cc nL s args bw_T own) {a : Int} (ha : 0 ≤ a ∧ a ≤ 1) {off : Int} {tgt : Nat} (hdg : decode cc pc = .ok (.ifCond .ne off, 3)) (ht : (pc : Int) + off = (tgt : Int)) (kt : a = 1 → W p l e R s m args below meth c H locs cells slots Q (F0 m tgt ls rest)) (kf : a = 0 → W p l e R s m args below meth c H locs cells slots Q (F0 m (pc + 3) ls rest)) : W p l e R s m args below meth c H locs cells slots Q (F0 m pc ls (.int (zI a) :: rest)) :=
  rz_if_ne F ⟨by omega, by omega⟩ hdg ht (fun h => kt (by omega)) kf
end YB
theorem zI_nn {z : Int} (h : 0 ≤ z ∧ z ≤ 2147483647) : ¬ zI z < 0 := fun q => by
  have := (zI_lt (a := z) (b := 0) ⟨by omega, by omega⟩ ⟨by omega, by omega⟩).mp q
  omega
theorem zI_ltN {z : Int} {N : Nat} (h : 0 ≤ z ∧ z < (N : Int)) (hN : N < 2 ^ 31) : zI z < nI N := (zI_lt (a := z) (b := (N : Int)) ⟨by omega, by omega⟩ ⟨by omega, by omega⟩).mpr h.2
