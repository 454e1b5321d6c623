/-! ints as whole numbers: an int is zI z; sums and products are those of the numbers, comparisons too where the numbers fit -/
def zI (z : Int) : Int32 := Int32.ofInt z
abbrev zR (z : Int) : Prop := -2147483648 ≤ z ∧ z ≤ 2147483647
theorem zI_toInt {z : Int} (h : zR z) : (zI z).toInt = z := Int32.toInt_ofInt_of_le (by omega) (by omega)
theorem zI_of (x : Int32) : ∃ z : Int, zR z ∧ x = zI z := by
  refine ⟨x.toInt, ⟨?_, ?_⟩, (Int32.ofInt_toInt x).symm⟩
  · have h := Int32.le_toInt x
    omega
  · have h := Int32.toInt_lt x
    omega
theorem zI_add (a b : Int) : zI a + zI b = zI (a + b) := (Int32.ofInt_add a b).symm
theorem zI_sub (a b : Int) : zI a - zI b = zI (a - b) := (Int32.ofInt_sub a b).symm
theorem zI_mul (a b : Int) : zI a * zI b = zI (a * b) := (Int32.ofInt_mul a b).symm
theorem zI_lt {a b : Int} (ha : zR a) (hb : zR b) : zI a < zI b ↔ a < b := by rw [Int32.lt_iff_toInt_lt, zI_toInt ha, zI_toInt hb]
theorem zI_le {a b : Int} (ha : zR a) (hb : zR b) : zI a ≤ zI b ↔ a ≤ b := by rw [Int32.le_iff_toInt_le, zI_toInt ha, zI_toInt hb]
theorem zI_eq {a b : Int} (ha : zR a) (hb : zR b) : zI a = zI b ↔ a = b := by rw [← Int32.toInt_inj, zI_toInt ha, zI_toInt hb]
theorem zI_clamp {a : Int} (ha : zR a) : (zI a).toNatClampNeg = a.toNat := Int32.toNatClampNeg_ofInt_of_le (by omega) (by omega)
theorem zI_in {a : Int} {n : Nat} (h : 0 ≤ a ∧ a < (n : Int)) (hn : n < 2147483648) : vp_in (zI a) n := by
  intro q
  have hr : zR a := ⟨by omega, by omega⟩
  rcases q with q | q
  · have z := (zI_lt hr ⟨by omega, by omega⟩ (b := 0)).mp q
    omega
  · rw [zI_clamp hr] at q
    omega
def uZ (g : Nat → Int) (i : Nat) (v : Int) : Nat → Int := fun k => if k = i then v else g k
theorem uZ_upd (g : Nat → Int) (i : Nat) (v : Int) : upd (fun k => zI (g k)) i (zI v) = fun k => zI (uZ g i v k) := by
  funext k
  by_cases h : k = i
  · subst h; rw [pk_us]; simp [uZ]
  · rw [pk_un h]; simp [uZ, h]
theorem uZ_all {P : Nat → Int → Prop} {g : Nat → Int} {n i : Nat} {v : Int} (h : ∀ k, k < n → P k (g k)) (hv : i < n → P i v) : ∀ k, k < n → P k (uZ g i v k) := by
  intro k hk
  by_cases e : k = i
  · subst e; simp only [uZ, if_true]; exact hv hk
  · simp only [uZ, if_neg e]; exact h k hk
abbrev zU : Type := (Nat → Int) × (Nat → Nat → Int)
theorem zI_div {a b : Int} (ha : 0 ≤ a ∧ a ≤ 2147483647) (hb : 0 < b ∧ b ≤ 2147483647) : zI a / zI b = zI (a / b) := by
  have e := Int32.ofInt_tdiv (a := a) (b := b) (by show (-2147483648 : Int) ≤ a; omega) (by show a ≤ (2147483647 : Int); omega) (by show (-2147483648 : Int) ≤ b; omega) (by show b ≤ (2147483647 : Int); omega)
  rw [Int.tdiv_eq_ediv_of_nonneg ha.1] at e
  exact e.symm
theorem zI_nz {z : Int} (h : z = 0 ∨ z = 1) : narrow .boolean (.int (zI z)) = .int (zI z) := by rcases h with rfl | rfl <;> rfl
theorem zI_fz {z : Int} (h : z = 0 ∨ z = 1) : fits .boolean (.int (zI z)) = true := by rcases h with rfl | rfl <;> rfl
section ZR
variable {p : Program} {l : Launch} {e : Env} {R : Room} {s : State} {m : MethodId} {args : Array Value} {below : List Frame} {meth : Method} {c : Code} {H : Heap} {locs : List Loc} {cells slots : Nat} {Q : State → Prop}
variable {cc : ByteArray} {nL : Nat} {own : String} {G : va_G} {kt : List (ClassId × FieldType)} {w0 : va_W} {A : Nat → Prop} {rest : List Value} {a : Addr} {pc : Nat} {ls : Array Slot}
theorem rz_top {x : Int32} (k : ∀ z : Int, zR z → W p l e R s m args below meth c H locs cells slots Q (F0 m pc ls (.int (zI z) :: rest))) : W p l e R s m args below meth c H locs cells slots Q (F0 m pc ls (.int x :: rest)) := by
  obtain ⟨z, hz, rfl⟩ := zI_of x
  exact k z hz
theorem rz_iald (F : CallFix p m c cc nL s args bw_T own) (hK : va_K G vwCl kt s) (hP : va_P G vwCl w0 H) (q0 t0 : Nat) {cA : ClassId} {n : Nat} {g : Nat → Int} (ha : w0[q0]? = some (a, .inl (cA, n, .inl (fun k => zI (g k))))) (ht : kt[t0]? = some (cA, .int)) {i : Int} (hi : 0 ≤ i ∧ i < (n : Int)) (hn : n < 2147483648) (hdg : decode cc pc = .ok (.iaload, 1))
    (kk : W p l e R s m args below meth c H locs cells slots Q (F0 m (pc + 1) ls (.int (zI (g i.toNat)) :: rest))) : W p l e R s m args below meth c H locs cells slots Q (F0 m pc ls (.int (zI i) :: .ref a :: rest)) :=
  r_iald F hK hP q0 t0 ha ht (zI_in hi hn) hdg (by rw [zI_clamp ⟨by omega, by omega⟩]) kk
theorem rz_iast (F : CallFix p m c cc nL s args bw_T own) (hK : va_K G vwCl kt s) (hP : va_P G vwCl w0 H) (hD : va_D A w0) (hS : va_S A s.heap H locs) (q0 t0 : Nat) {cA : ClassId} {n : Nat} {g : Nat → Int} (ha : w0[q0]? = some (a, .inl (cA, n, .inl (fun k => zI (g k))))) (ht : kt[t0]? = some (cA, .int)) {i v : Int} (hi : 0 ≤ i ∧ i < (n : Int)) (hn : n < 2147483648) (hdg : decode cc pc = .ok (.iastore, 1)) {w1 : va_W} (hw : w0.set q0 (a, .inl (cA, n, .inl (fun k => zI (uZ g i.toNat v k)))) = w1)
    (kk : ∀ (H1 : Heap) (locs1 : List Loc), va_P G vwCl w1 H1 → va_D A w1 → va_S A s.heap H1 locs1 → W p l e R s m args below meth c H1 locs1 cells slots Q (F0 m (pc + 1) ls rest)) : W p l e R s m args below meth c H locs cells slots Q (F0 m pc ls (.int (zI v) :: .int (zI i) :: .ref a :: rest)) :=
  r_iast F hK hP hD hS q0 t0 ha ht (zI_in hi hn) hdg (by rw [zI_clamp ⟨by omega, by omega⟩]; exact uZ_upd g i.toNat v) hw kk
theorem rz_icmp_lt (F : CallFix p m c cc nL s args bw_T own) {a b : Int} (ha : zR a) (hb : zR b) {off : Int} {tgt : Nat} (hdg : decode cc pc = .ok (.if_icmp .lt off, 3)) (ht : (pc : Int) + off = (tgt : Int)) (kt : a < b → W p l e R s m args below meth c H locs cells slots Q (F0 m tgt ls rest)) (kf : b ≤ a → W p l e R s m args below meth c H locs cells slots Q (F0 m (pc + 3) ls rest)) : W p l e R s m args below meth c H locs cells slots Q (F0 m pc ls (.int (zI b) :: .int (zI a) :: rest)) :=
  lv_icmp_lt F.1 F.2.1 hdg ht (fun h => kt ((zI_lt ha hb).mp h)) (fun h => kf (by have z := mt (zI_lt ha hb).mpr h; omega))
theorem rz_icmp_ge (F : CallFix p m c cc nL s args bw_T own) {a b : Int} (ha : zR a) (hb : zR b) {off : Int} {tgt : Nat} (hdg : decode cc pc = .ok (.if_icmp .ge off, 3)) (ht : (pc : Int) + off = (tgt : Int)) (kt : b ≤ a → W p l e R s m args below meth c H locs cells slots Q (F0 m tgt ls rest)) (kf : a < b → W p l e R s m args below meth c H locs cells slots Q (F0 m (pc + 3) ls rest)) : W p l e R s m args below meth c H locs cells slots Q (F0 m pc ls (.int (zI b) :: .int (zI a) :: rest)) :=
  lv_icmp_ge F.1 F.2.1 hdg ht (fun h => kt ((zI_le hb ha).mp h)) (fun h => kf (by have z := mt (zI_le hb ha).mpr h; omega))
theorem rz_icmp_gt (F : CallFix p m c cc nL s args bw_T own) {a b : Int} (ha : zR a) (hb : zR b) {off : Int} {tgt : Nat} (hdg : decode cc pc = .ok (.if_icmp .gt off, 3)) (ht : (pc : Int) + off = (tgt : Int)) (kt : b < a → W p l e R s m args below meth c H locs cells slots Q (F0 m tgt ls rest)) (kf : a ≤ b → W p l e R s m args below meth c H locs cells slots Q (F0 m (pc + 3) ls rest)) : W p l e R s m args below meth c H locs cells slots Q (F0 m pc ls (.int (zI b) :: .int (zI a) :: rest)) :=
  lv_icmp_gt F.1 F.2.1 hdg ht (fun h => kt ((zI_lt hb ha).mp h)) (fun h => kf (by have z := mt (zI_lt hb ha).mpr h; omega))
theorem rz_icmp_le (F : CallFix p m c cc nL s args bw_T own) {a b : Int} (ha : zR a) (hb : zR b) {off : Int} {tgt : Nat} (hdg : decode cc pc = .ok (.if_icmp .le off, 3)) (ht : (pc : Int) + off = (tgt : Int)) (kt : a ≤ b → W p l e R s m args below meth c H locs cells slots Q (F0 m tgt ls rest)) (kf : b < a → W p l e R s m args below meth c H locs cells slots Q (F0 m (pc + 3) ls rest)) : W p l e R s m args below meth c H locs cells slots Q (F0 m pc ls (.int (zI b) :: .int (zI a) :: rest)) :=
  lv_icmp_le F.1 F.2.1 hdg ht (fun h => kt ((zI_le ha hb).mp h)) (fun h => kf (by have z := mt (zI_le ha hb).mpr h; omega))
theorem rz_icmp_eq (F : CallFix p m c cc nL s args bw_T own) {a b : Int} (ha : zR a) (hb : zR b) {off : Int} {tgt : Nat} (hdg : decode cc pc = .ok (.if_icmp .eq off, 3)) (ht : (pc : Int) + off = (tgt : Int)) (kt : a = b → W p l e R s m args below meth c H locs cells slots Q (F0 m tgt ls rest)) (kf : a ≠ b → W p l e R s m args below meth c H locs cells slots Q (F0 m (pc + 3) ls rest)) : W p l e R s m args below meth c H locs cells slots Q (F0 m pc ls (.int (zI b) :: .int (zI a) :: rest)) :=
  lv_icmp_eq F.1 F.2.1 hdg ht (fun h => kt ((zI_eq ha hb).mp h)) (fun h => kf (by have z := mt (zI_eq ha hb).mpr h; omega))
theorem rz_icmp_ne (F : CallFix p m c cc nL s args bw_T own) {a b : Int} (ha : zR a) (hb : zR b) {off : Int} {tgt : Nat} (hdg : decode cc pc = .ok (.if_icmp .ne off, 3)) (ht : (pc : Int) + off = (tgt : Int)) (kt : a ≠ b → W p l e R s m args below meth c H locs cells slots Q (F0 m tgt ls rest)) (kf : a = b → W p l e R s m args below meth c H locs cells slots Q (F0 m (pc + 3) ls rest)) : W p l e R s m args below meth c H locs cells slots Q (F0 m pc ls (.int (zI b) :: .int (zI a) :: rest)) :=
  lv_icmp_ne F.1 F.2.1 hdg ht (fun h => kt (fun z => h ((zI_eq ha hb).mpr z))) (fun h => kf ((zI_eq ha hb).mp h))
theorem rz_if_lt (F : CallFix p m c cc nL s args bw_T own) {a : Int} (ha : zR a) {off : Int} {tgt : Nat} (hdg : decode cc pc = .ok (.ifCond .lt off, 3)) (ht : (pc : Int) + off = (tgt : Int)) (kt : a < 0 → W p l e R s m args below meth c H locs cells slots Q (F0 m tgt ls rest)) (kf : 0 ≤ a → W p l e R s m args below meth c H locs cells slots Q (F0 m (pc + 3) ls rest)) : W p l e R s m args below meth c H locs cells slots Q (F0 m pc ls (.int (zI a) :: rest)) :=
  lv_if_lt F.1 F.2.1 hdg ht (fun h => kt ((zI_lt ha (b := 0) ⟨by omega, by omega⟩).mp h)) (fun h => kf (by have z := mt (zI_lt ha (b := 0) ⟨by omega, by omega⟩).mpr h; omega))
theorem rz_if_ge (F : CallFix p m c cc nL s args bw_T own) {a : Int} (ha : zR a) {off : Int} {tgt : Nat} (hdg : decode cc pc = .ok (.ifCond .ge off, 3)) (ht : (pc : Int) + off = (tgt : Int)) (kt : 0 ≤ a → W p l e R s m args below meth c H locs cells slots Q (F0 m tgt ls rest)) (kf : a < 0 → W p l e R s m args below meth c H locs cells slots Q (F0 m (pc + 3) ls rest)) : W p l e R s m args below meth c H locs cells slots Q (F0 m pc ls (.int (zI a) :: rest)) :=
  lv_if_ge F.1 F.2.1 hdg ht (fun h => kt ((zI_le (a := 0) ⟨by omega, by omega⟩ ha).mp h)) (fun h => kf (by have z := mt (zI_le (a := 0) ⟨by omega, by omega⟩ ha).mpr h; omega))
theorem rz_if_gt (F : CallFix p m c cc nL s args bw_T own) {a : Int} (ha : zR a) {off : Int} {tgt : Nat} (hdg : decode cc pc = .ok (.ifCond .gt off, 3)) (ht : (pc : Int) + off = (tgt : Int)) (kt : 0 < a → W p l e R s m args below meth c H locs cells slots Q (F0 m tgt ls rest)) (kf : a ≤ 0 → W p l e R s m args below meth c H locs cells slots Q (F0 m (pc + 3) ls rest)) : W p l e R s m args below meth c H locs cells slots Q (F0 m pc ls (.int (zI a) :: rest)) :=
  lv_if_gt F.1 F.2.1 hdg ht (fun h => kt ((zI_lt (a := 0) ⟨by omega, by omega⟩ ha).mp h)) (fun h => kf (by have z := mt (zI_lt (a := 0) ⟨by omega, by omega⟩ ha).mpr h; omega))
theorem rz_if_le (F : CallFix p m c cc nL s args bw_T own) {a : Int} (ha : zR a) {off : Int} {tgt : Nat} (hdg : decode cc pc = .ok (.ifCond .le off, 3)) (ht : (pc : Int) + off = (tgt : Int)) (kt : a ≤ 0 → W p l e R s m args below meth c H locs cells slots Q (F0 m tgt ls rest)) (kf : 0 < a → W p l e R s m args below meth c H locs cells slots Q (F0 m (pc + 3) ls rest)) : W p l e R s m args below meth c H locs cells slots Q (F0 m pc ls (.int (zI a) :: rest)) :=
  lv_if_le F.1 F.2.1 hdg ht (fun h => kt ((zI_le ha (b := 0) ⟨by omega, by omega⟩).mp h)) (fun h => kf (by have z := mt (zI_le ha (b := 0) ⟨by omega, by omega⟩).mpr h; omega))
theorem rz_if_eq (F : CallFix p m c cc nL s args bw_T own) {a : Int} (ha : zR a) {off : Int} {tgt : Nat} (hdg : decode cc pc = .ok (.ifCond .eq off, 3)) (ht : (pc : Int) + off = (tgt : Int)) (kt : a = 0 → W p l e R s m args below meth c H locs cells slots Q (F0 m tgt ls rest)) (kf : a ≠ 0 → W p l e R s m args below meth c H locs cells slots Q (F0 m (pc + 3) ls rest)) : W p l e R s m args below meth c H locs cells slots Q (F0 m pc ls (.int (zI a) :: rest)) :=
  lv_if_eq F.1 F.2.1 hdg ht (fun h => kt ((zI_eq ha (b := 0) ⟨by omega, by omega⟩).mp h)) (fun h => kf (by have z := mt (zI_eq ha (b := 0) ⟨by omega, by omega⟩).mpr h; omega))
theorem rz_if_ne (F : CallFix p m c cc nL s args bw_T own) {a : Int} (ha : zR a) {off : Int} {tgt : Nat} (hdg : decode cc pc = .ok (.ifCond .ne off, 3)) (ht : (pc : Int) + off = (tgt : Int)) (kt : a ≠ 0 → W p l e R s m args below meth c H locs cells slots Q (F0 m tgt ls rest)) (kf : a = 0 → W p l e R s m args below meth c H locs cells slots Q (F0 m (pc + 3) ls rest)) : W p l e R s m args below meth c H locs cells slots Q (F0 m pc ls (.int (zI a) :: rest)) :=
  lv_if_ne F.1 F.2.1 hdg ht (fun h => kt (fun z => h ((zI_eq ha (b := 0) ⟨by omega, by omega⟩).mpr z))) (fun h => kf ((zI_eq ha (b := 0) ⟨by omega, by omega⟩).mp h))
theorem rz_iastG (F : CallFix p m c cc nL s args bw_T own) (hK : va_K G vwCl kt s) (hP : va_P G vwCl w0 H) (hD : va_D A w0) (hS : va_S A s.heap H locs) (q0 t0 : Nat) {cA : ClassId} {n : Nat} {g : Nat → Int} (ha : w0[q0]? = some (a, .inl (cA, n, .inl (fun k => zI (g k))))) (ht : kt[t0]? = some (cA, .int)) {i v : Int} (hi : 0 ≤ i ∧ i < (n : Int)) (hn : n < 2147483648) (hdg : decode cc pc = .ok (.iastore, 1)) {w1 : (Nat → Int) → va_W} (hw : ∀ g', w0.set q0 (a, .inl (cA, n, .inl (fun k => zI (g' k)))) = w1 g')
    (kk : ∀ (g' : Nat → Int), g' = uZ g i.toNat v → ∀ (H1 : Heap) (locs1 : List Loc), va_P G vwCl (w1 g') H1 → va_D A (w1 g') → va_S A s.heap H1 locs1 → W p l e R s m args below meth c H1 locs1 cells slots Q (F0 m (pc + 1) ls rest)) : W p l e R s m args below meth c H locs cells slots Q (F0 m pc ls (.int (zI v) :: .int (zI i) :: .ref a :: rest)) :=
  rz_iast F hK hP hD hS q0 t0 ha ht hi hn hdg (hw _) (kk _ rfl)
theorem rz_idiv (F : CallFix p m c cc nL s args bw_T own) {a b : Int} (ha : 0 ≤ a ∧ a ≤ 2147483647) (hb : 0 < b ∧ b ≤ 2147483647) (hdg : decode cc pc = .ok (.idiv, 1)) (kk : ∀ z : Int, (z = a / b ∧ 0 ≤ z ∧ z ≤ a) → W p l e R s m args below meth c H locs cells slots Q (F0 m (pc + 1) ls (.int (zI z) :: rest))) : W p l e R s m args below meth c H locs cells slots Q (F0 m pc ls (.int (zI b) :: .int (zI a) :: rest)) := by
  refine r_idiv F hdg (fun h => ?_) (zI_div ha hb) (kk _ ⟨rfl, Int.ediv_nonneg ha.1 (by omega), Int.ediv_le_self b ha.1⟩)
  have z := (zI_eq (a := b) (b := 0) ⟨by omega, by omega⟩ ⟨by omega, by omega⟩).mp h
  omega
theorem rz_irem (F : CallFix p m c cc nL s args bw_T own) {a b : Int} (ha : 0 ≤ a ∧ a ≤ 2147483647) (hb : 0 < b ∧ b ≤ 2147483647) (hdg : decode cc pc = .ok (.irem, 1)) (kk : ∀ z : Int, (z = a % b ∧ 0 ≤ z ∧ z < b) → W p l e R s m args below meth c H locs cells slots Q (F0 m (pc + 1) ls (.int (zI z) :: rest))) : W p l e R s m args below meth c H locs cells slots Q (F0 m pc ls (.int (zI b) :: .int (zI a) :: rest)) := by
  refine r_irem (v := zI (a % b)) F hdg (fun h => ?_) ?_ (kk _ ⟨rfl, Int.emod_nonneg a (by omega), Int.emod_lt_of_pos a hb.1⟩)
  · have z := (zI_eq (a := b) (b := 0) ⟨by omega, by omega⟩ ⟨by omega, by omega⟩).mp h
    omega
  · rw [zI_div ha hb, zI_mul, zI_sub, Int.emod_def, Int.mul_comm]
end ZR
