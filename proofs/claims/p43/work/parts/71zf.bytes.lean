/-! THE BYTES: what the reference keeps of a number's byte, and what the class does -/
def bA (x s : Int) : Int := (((zI x) >>> ((zI s) &&& 31)) &&& (zI 255)).toInt
def bC (x s : Int) : Int := (vp_nar .byte ((zI x) >>> ((zI s) &&& 31)).toInt8.toInt32).toInt
theorem by_rel (v : Int32) : (0 ≤ (v &&& (zI 255)).toInt ∧ (v &&& (zI 255)).toInt ≤ 255) ∧ (((v &&& (zI 255)).toInt < 128 ∧ (vp_nar .byte v.toInt8.toInt32).toInt = (v &&& (zI 255)).toInt) ∨ (128 ≤ (v &&& (zI 255)).toInt ∧ (vp_nar .byte v.toInt8.toInt32).toInt = (v &&& (zI 255)).toInt - 256)) := by
  have hb : (vp_nar .byte v.toInt8.toInt32).toInt = v.toInt.bmod 256 := by
    show (v.toInt8.toInt32.toInt8.toInt32).toInt = _
    rw [Int8.toInt8_toInt32, Int8.toInt_toInt32]
    exact Int32.toInt_toInt8 v
  have hv : v.toInt = if 2 * v.toBitVec.toNat < 2 ^ 32 then (v.toBitVec.toNat : Int) else (v.toBitVec.toNat : Int) - ((2 ^ 32 : Nat) : Int) := BitVec.toInt_eq_toNat_cond v.toBitVec
  have ha : (v &&& (zI 255)).toInt = ((v.toBitVec.toNat % 2 ^ 8 : Nat) : Int) := by
    rw [pk_and v 8 (by decide)]
    exact nI_toInt (Nat.lt_of_lt_of_le (Nat.mod_lt _ (by decide)) (by decide))
  rw [ha, hb, hv, Int.bmod_def]
  generalize v.toBitVec.toNat = N
  repeat' split
  all_goals omega
theorem TxR.put1 {f g : Nat → Int} {k k' : Nat} {x x' s s' : Int} (h : TxR f g) (hk : k = k') (hx : x = x') (hs : s = s') : TxR (uZ f k (bA x s)) (uZ g k' (bC x' s')) := by
  subst hk; subst hx; subst hs
  intro j hj
  by_cases q : j = k
  · simp only [uZ, if_pos q]; exact by_rel _
  · simp only [uZ, if_neg q]; exact h j hj
/-- four bytes behind each other, as the class puts them -/
def putC (g : Nat → Int) (t x : Int) : Nat → (Nat → Int)
  | 0 => g
  | j + 1 => uZ (putC g t x j) (t + (j : Int)).toNat (bC x (24 - 8 * (j : Int)))
theorem putC_step {g G G' : Nat → Int} {t x a a' s : Int} (h : G = putC g t x (a - t).toNat) (ha : t ≤ a) (e : G' = uZ G a.toNat (bC x s)) (hs : s = 24 - 8 * (a - t)) (ha' : a' = a + 1) : G' = putC g t x (a' - t).toNat := by
  have h1 : (a' - t).toNat = (a - t).toNat + 1 := by omega
  rw [h1, e, h]
  show _ = uZ (putC g t x (a - t).toNat) (t + ((a - t).toNat : Int)).toNat (bC x (24 - 8 * ((a - t).toNat : Int)))
  rw [show ((a - t).toNat : Int) = a - t by omega, hs, show t + (a - t) = a by omega]
def fedW (x0 x1 x2 x3 x4 : Int) (j : Nat) : Int := if j < 4 then x0 else if j < 8 then x1 else if j < 12 then x2 else if j < 16 then x3 else x4
/-- twenty bytes, as the reference puts them -/
def fed (f : Nat → Int) (t x0 x1 x2 x3 x4 : Int) : Nat → (Nat → Int)
  | 0 => f
  | j + 1 => uZ (fed f t x0 x1 x2 x3 x4 j) (t + (j : Int)).toNat (bA (fedW x0 x1 x2 x3 x4 j) (24 - 8 * ((j : Int) % 4)))
theorem fed_step {f G G' : Nat → Int} {t x0 x1 x2 x3 x4 v a y s : Int} (h : G = fed f t x0 x1 x2 x3 x4 v.toNat) (hv : 0 ≤ v) (ha : a = t + v) (hy : y = fedW x0 x1 x2 x3 x4 v.toNat) (hs : s = 24 - 8 * (v % 4)) (e : G' = uZ G a.toNat (bA y s)) : G' = fed f t x0 x1 x2 x3 x4 (v + 1).toNat := by
  have h1 : (v + 1).toNat = v.toNat + 1 := by omega
  rw [h1, e, h]
  show _ = uZ (fed f t x0 x1 x2 x3 x4 v.toNat) (t + (v.toNat : Int)).toNat (bA (fedW x0 x1 x2 x3 x4 v.toNat) (24 - 8 * ((v.toNat : Int) % 4)))
  rw [show (v.toNat : Int) = v by omega, hs, hy, ha]
def put5 (g : Nat → Int) (t x0 x1 x2 x3 x4 : Int) : Nat → Int := putC (putC (putC (putC (putC g t x0 4) (t + 4) x1 4) (t + 8) x2 4) (t + 12) x3 4) (t + 16) x4 4
theorem TxR_fed {f g : Nat → Int} {t x0 x1 x2 x3 x4 : Int} (h : TxR f g) : TxR (fed f t x0 x1 x2 x3 x4 20) (put5 g t x0 x1 x2 x3 x4) := by
  have h0 : TxR (fed f t x0 x1 x2 x3 x4 1) (putC g (t + 0) x0 1) := TxR.put1 (k := (t + ((0 : Nat) : Int)).toNat) (k' := (t + 0 + ((0 : Nat) : Int)).toNat) (s := 24 - 8 * (((0 : Nat) : Int) % 4)) (s' := 24 - 8 * ((0 : Nat) : Int)) h (by omega) rfl (by omega)
  have h1 : TxR (fed f t x0 x1 x2 x3 x4 2) (putC g (t + 0) x0 2) := TxR.put1 (k := (t + ((1 : Nat) : Int)).toNat) (k' := (t + 0 + ((1 : Nat) : Int)).toNat) (s := 24 - 8 * (((1 : Nat) : Int) % 4)) (s' := 24 - 8 * ((1 : Nat) : Int)) h0 (by omega) rfl (by omega)
  have h2 : TxR (fed f t x0 x1 x2 x3 x4 3) (putC g (t + 0) x0 3) := TxR.put1 (k := (t + ((2 : Nat) : Int)).toNat) (k' := (t + 0 + ((2 : Nat) : Int)).toNat) (s := 24 - 8 * (((2 : Nat) : Int) % 4)) (s' := 24 - 8 * ((2 : Nat) : Int)) h1 (by omega) rfl (by omega)
  have h3 : TxR (fed f t x0 x1 x2 x3 x4 4) (putC g (t + 0) x0 4) := TxR.put1 (k := (t + ((3 : Nat) : Int)).toNat) (k' := (t + 0 + ((3 : Nat) : Int)).toNat) (s := 24 - 8 * (((3 : Nat) : Int) % 4)) (s' := 24 - 8 * ((3 : Nat) : Int)) h2 (by omega) rfl (by omega)
  have h4 : TxR (fed f t x0 x1 x2 x3 x4 5) (putC (putC g (t + 0) x0 4) (t + 4) x1 1) := TxR.put1 (k := (t + ((4 : Nat) : Int)).toNat) (k' := (t + 4 + ((0 : Nat) : Int)).toNat) (s := 24 - 8 * (((4 : Nat) : Int) % 4)) (s' := 24 - 8 * ((0 : Nat) : Int)) h3 (by omega) rfl (by omega)
  have h5 : TxR (fed f t x0 x1 x2 x3 x4 6) (putC (putC g (t + 0) x0 4) (t + 4) x1 2) := TxR.put1 (k := (t + ((5 : Nat) : Int)).toNat) (k' := (t + 4 + ((1 : Nat) : Int)).toNat) (s := 24 - 8 * (((5 : Nat) : Int) % 4)) (s' := 24 - 8 * ((1 : Nat) : Int)) h4 (by omega) rfl (by omega)
  have h6 : TxR (fed f t x0 x1 x2 x3 x4 7) (putC (putC g (t + 0) x0 4) (t + 4) x1 3) := TxR.put1 (k := (t + ((6 : Nat) : Int)).toNat) (k' := (t + 4 + ((2 : Nat) : Int)).toNat) (s := 24 - 8 * (((6 : Nat) : Int) % 4)) (s' := 24 - 8 * ((2 : Nat) : Int)) h5 (by omega) rfl (by omega)
  have h7 : TxR (fed f t x0 x1 x2 x3 x4 8) (putC (putC g (t + 0) x0 4) (t + 4) x1 4) := TxR.put1 (k := (t + ((7 : Nat) : Int)).toNat) (k' := (t + 4 + ((3 : Nat) : Int)).toNat) (s := 24 - 8 * (((7 : Nat) : Int) % 4)) (s' := 24 - 8 * ((3 : Nat) : Int)) h6 (by omega) rfl (by omega)
  have h8 : TxR (fed f t x0 x1 x2 x3 x4 9) (putC (putC (putC g (t + 0) x0 4) (t + 4) x1 4) (t + 8) x2 1) := TxR.put1 (k := (t + ((8 : Nat) : Int)).toNat) (k' := (t + 8 + ((0 : Nat) : Int)).toNat) (s := 24 - 8 * (((8 : Nat) : Int) % 4)) (s' := 24 - 8 * ((0 : Nat) : Int)) h7 (by omega) rfl (by omega)
  have h9 : TxR (fed f t x0 x1 x2 x3 x4 10) (putC (putC (putC g (t + 0) x0 4) (t + 4) x1 4) (t + 8) x2 2) := TxR.put1 (k := (t + ((9 : Nat) : Int)).toNat) (k' := (t + 8 + ((1 : Nat) : Int)).toNat) (s := 24 - 8 * (((9 : Nat) : Int) % 4)) (s' := 24 - 8 * ((1 : Nat) : Int)) h8 (by omega) rfl (by omega)
  have h10 : TxR (fed f t x0 x1 x2 x3 x4 11) (putC (putC (putC g (t + 0) x0 4) (t + 4) x1 4) (t + 8) x2 3) := TxR.put1 (k := (t + ((10 : Nat) : Int)).toNat) (k' := (t + 8 + ((2 : Nat) : Int)).toNat) (s := 24 - 8 * (((10 : Nat) : Int) % 4)) (s' := 24 - 8 * ((2 : Nat) : Int)) h9 (by omega) rfl (by omega)
  have h11 : TxR (fed f t x0 x1 x2 x3 x4 12) (putC (putC (putC g (t + 0) x0 4) (t + 4) x1 4) (t + 8) x2 4) := TxR.put1 (k := (t + ((11 : Nat) : Int)).toNat) (k' := (t + 8 + ((3 : Nat) : Int)).toNat) (s := 24 - 8 * (((11 : Nat) : Int) % 4)) (s' := 24 - 8 * ((3 : Nat) : Int)) h10 (by omega) rfl (by omega)
  have h12 : TxR (fed f t x0 x1 x2 x3 x4 13) (putC (putC (putC (putC g (t + 0) x0 4) (t + 4) x1 4) (t + 8) x2 4) (t + 12) x3 1) := TxR.put1 (k := (t + ((12 : Nat) : Int)).toNat) (k' := (t + 12 + ((0 : Nat) : Int)).toNat) (s := 24 - 8 * (((12 : Nat) : Int) % 4)) (s' := 24 - 8 * ((0 : Nat) : Int)) h11 (by omega) rfl (by omega)
  have h13 : TxR (fed f t x0 x1 x2 x3 x4 14) (putC (putC (putC (putC g (t + 0) x0 4) (t + 4) x1 4) (t + 8) x2 4) (t + 12) x3 2) := TxR.put1 (k := (t + ((13 : Nat) : Int)).toNat) (k' := (t + 12 + ((1 : Nat) : Int)).toNat) (s := 24 - 8 * (((13 : Nat) : Int) % 4)) (s' := 24 - 8 * ((1 : Nat) : Int)) h12 (by omega) rfl (by omega)
  have h14 : TxR (fed f t x0 x1 x2 x3 x4 15) (putC (putC (putC (putC g (t + 0) x0 4) (t + 4) x1 4) (t + 8) x2 4) (t + 12) x3 3) := TxR.put1 (k := (t + ((14 : Nat) : Int)).toNat) (k' := (t + 12 + ((2 : Nat) : Int)).toNat) (s := 24 - 8 * (((14 : Nat) : Int) % 4)) (s' := 24 - 8 * ((2 : Nat) : Int)) h13 (by omega) rfl (by omega)
  have h15 : TxR (fed f t x0 x1 x2 x3 x4 16) (putC (putC (putC (putC g (t + 0) x0 4) (t + 4) x1 4) (t + 8) x2 4) (t + 12) x3 4) := TxR.put1 (k := (t + ((15 : Nat) : Int)).toNat) (k' := (t + 12 + ((3 : Nat) : Int)).toNat) (s := 24 - 8 * (((15 : Nat) : Int) % 4)) (s' := 24 - 8 * ((3 : Nat) : Int)) h14 (by omega) rfl (by omega)
  have h16 : TxR (fed f t x0 x1 x2 x3 x4 17) (putC (putC (putC (putC (putC g (t + 0) x0 4) (t + 4) x1 4) (t + 8) x2 4) (t + 12) x3 4) (t + 16) x4 1) := TxR.put1 (k := (t + ((16 : Nat) : Int)).toNat) (k' := (t + 16 + ((0 : Nat) : Int)).toNat) (s := 24 - 8 * (((16 : Nat) : Int) % 4)) (s' := 24 - 8 * ((0 : Nat) : Int)) h15 (by omega) rfl (by omega)
  have h17 : TxR (fed f t x0 x1 x2 x3 x4 18) (putC (putC (putC (putC (putC g (t + 0) x0 4) (t + 4) x1 4) (t + 8) x2 4) (t + 12) x3 4) (t + 16) x4 2) := TxR.put1 (k := (t + ((17 : Nat) : Int)).toNat) (k' := (t + 16 + ((1 : Nat) : Int)).toNat) (s := 24 - 8 * (((17 : Nat) : Int) % 4)) (s' := 24 - 8 * ((1 : Nat) : Int)) h16 (by omega) rfl (by omega)
  have h18 : TxR (fed f t x0 x1 x2 x3 x4 19) (putC (putC (putC (putC (putC g (t + 0) x0 4) (t + 4) x1 4) (t + 8) x2 4) (t + 12) x3 4) (t + 16) x4 3) := TxR.put1 (k := (t + ((18 : Nat) : Int)).toNat) (k' := (t + 16 + ((2 : Nat) : Int)).toNat) (s := 24 - 8 * (((18 : Nat) : Int) % 4)) (s' := 24 - 8 * ((2 : Nat) : Int)) h17 (by omega) rfl (by omega)
  have h19 : TxR (fed f t x0 x1 x2 x3 x4 20) (putC (putC (putC (putC (putC g (t + 0) x0 4) (t + 4) x1 4) (t + 8) x2 4) (t + 12) x3 4) (t + 16) x4 4) := TxR.put1 (k := (t + ((19 : Nat) : Int)).toNat) (k' := (t + 16 + ((3 : Nat) : Int)).toNat) (s := 24 - 8 * (((19 : Nat) : Int) % 4)) (s' := 24 - 8 * ((3 : Nat) : Int)) h18 (by omega) rfl (by omega)
  have e0 : putC g t x0 4 = putC g (t + 0) x0 4 := by rw [Int.add_zero]
  unfold put5
  rw [e0]
  exact h19
section ZBE
variable {p : Program} {l : Launch} {e : Env} {R : Room} {s : State} {m : MethodId} {args : Array Value} {below : List Frame} {meth : Method} {c : Code} {H : Heap} {locs : List Loc} {cells slots : Nat} {Q : State → Prop}
variable {cc : ByteArray} {nL : Nat} {own : String} {G : va_G} {kt : List (ClassId × FieldType)} {w0 : va_W} {A : Nat → Prop} {rest : List Value} {a : Addr} {pc : Nat} {ls : Array Slot}
theorem rz_bastE (F : CallFix p m c cc nL s args bw_T own) (hK : va_K G vwCl kt s) (hP : va_P G vwCl w0 H) (hD : va_D A w0) (hS : va_S A s.heap H locs) (q0 t0 : Nat) {cA : ClassId} {n : Nat} {g : Nat → Int} (ha : w0[q0]? = some (a, .inl (cA, n, .inl (fun k => zI (g k))))) (ht : kt[t0]? = some (cA, .byte)) {i : Int} {x : Int32} (hi : 0 ≤ i ∧ i < (n : Int)) (hn : n < 2147483648) (hdg : decode cc pc = .ok (.bastore, 1)) {w1 : (Nat → Int) → va_W} (hw : ∀ g' : Nat → Int, w0.set q0 (a, .inl (cA, n, .inl (fun k => zI (g' k)))) = w1 g')
    (kk : ∀ (g' : Nat → Int), g' = uZ g i.toNat (vp_nar .byte x).toInt → ∀ (H1 : Heap) (locs1 : List Loc), va_P G vwCl (w1 g') H1 → va_D A (w1 g') → va_S A s.heap H1 locs1 → W p l e R s m args below meth c H1 locs1 cells slots Q (F0 m (pc + 1) ls rest)) : W p l e R s m args below meth c H locs cells slots Q (F0 m pc ls (.int x :: .int (zI i) :: .ref a :: rest)) := by
  refine va_bast F.1 F.2.1 hK hP hD hS q0 t0 ha ht (zI_in hi hn) hdg (fun H1 locs1 hP1 hD1 hS1 => ?_)
  have e1 : vp_nar .byte x = zI (vp_nar .byte x).toInt := (Int32.ofInt_toInt _).symm
  rw [zI_clamp ⟨by omega, by omega⟩, e1, uZ_upd, hw] at hP1 hD1
  exact kk _ rfl H1 locs1 hP1 hD1 hS1
end ZBE
abbrev rm_X3y_put : Room := { frames := 0, cells := 0, slots := 0, locals := 0 }
set_option maxRecDepth 100000 in
set_option maxHeartbeats 8000000 in
theorem c_X3y_put {l : Launch} {E : (Nat → Prop) → State → Prop} (hO : bw_Ok E) {G : va_G} {cI cB cJ cN cW : ClassId} (b : Nat) (q : Nat → Nat) (i : Nat → Int) (g : Nat → Nat → Int) (hY : ReaderOk i) (x : Int) (hx9 : zR x) (hx8 : i 0 ≤ 896) : bw_Cv (S := zV) l yX3_put (bw_ws (Cond.code yX3_put cX3_put 3 none)) rm_X3y_put E G (bw_kt cI cB cJ cN cW) [.ref b, .int (zI x)] [(b, .inr (3, [.ref (q 0), .int (zI (i 0)), .ref (q 3), .ref (q 4), .int (zI (i 1)), .int (zI (i 2)), .ref (q 1), .ref (q 2), .int (zI (i 3)), .int (zI (i 4)), .int (zI (i 5)), .int (zI (i 6)), .long (zL (i 7)), .int (zI (i 8))])), ((q 0), .inl (cB, 900, .inl (fun k => zI ((g 0) k)))), ((q 1), .inl (cJ, 19, .inr (.inl (fun k => zL ((g 1) k))))), ((q 2), .inl (cJ, 10, .inr (.inl (fun k => zL ((g 2) k)))))] (fun u => (ReaderOk ((u 0).1)) ∧ (((u 0).2) 0 = putC (g 0) (i 0) x 4 ∧ ((u 0).2) 1 = g 1 ∧ ((u 0).2) 2 = g 2) ∧ ((u 0).1 0 = i 0 + 4 ∧ (u 0).1 1 = i 1 ∧ (u 0).1 2 = i 2)) (fun u => [(b, .inr (3, [.ref (q 0), .int (zI ((u 0).1 0)), .ref (q 3), .ref (q 4), .int (zI ((u 0).1 1)), .int (zI ((u 0).1 2)), .ref (q 1), .ref (q 2), .int (zI ((u 0).1 3)), .int (zI ((u 0).1 4)), .int (zI ((u 0).1 5)), .int (zI ((u 0).1 6)), .long (zL ((u 0).1 7)), .int (zI ((u 0).1 8))])), ((q 0), .inl (cB, 900, .inl (fun k => zI (((u 0).2 0) k)))), ((q 1), .inl (cJ, 19, .inr (.inl (fun k => zL (((u 0).2 1) k))))), ((q 2), .inl (cJ, 10, .inr (.inl (fun k => zL (((u 0).2 2) k)))))]) := by
  refine bw_Cv.of (cc := cX3_put) (maxL := 3) (by decide) rfl (Nat.le_of_ble_eq_true rfl) ?_
  intro p e s m below meth c A Q hx hb hml hts hown hin hK hA hS hP hD hE ret ls hl
  have F : CallFix p m c cX3_put 3 s ([.ref b, .int (zI x)] : List Value).toArray bw_T RX3 := ⟨hx, hb, hml, hown, fun w h => hts w (List.mem_cons_of_mem _ h)⟩
  replace hl : lv_has ls 3 [(0, .ref b), (1, .int (zI x))] := hl
  have hf1 := hY
  refine lv_bipush (v := zI 24) hx hb dX3_put_0 (by decide) ?_
  refine lv_istore_n (lv' := [(2, .int (zI 24)), (0, .ref b), (1, .int (zI x))]) hx hb dX3_put_2 rfl hl (by decide) rfl (fun ls hl => ?_)
  refine W.widen (k := 0) (n := 0) (Nat.le_of_ble_eq_true rfl) (Nat.le_of_ble_eq_true rfl) ?_
  refine (?_ : ∀ (n9_1 : Nat) (v2 : Int) (ii : Nat → Int) (gg : Nat → Nat → Int) (H : Heap) (locs : List Loc), (-8 ≤ v2 ∧ v2 ≤ 24 ∧ 8 * (ii 0) + v2 = 8 * (i 0) + 24 ∧ (v2 % 8 = 0) ∧ ii 1 = i 1 ∧ ii 2 = i 2) → (v2 + 8 : Int).toNat < n9_1 → (ReaderOk ii) → (gg 0 = putC (g 0) (i 0) x (ii 0 - i 0).toNat ∧ gg 1 = g 1 ∧ gg 2 = g 2) → va_P G vwCl [(b, .inr (3, [.ref (q 0), .int (zI (ii 0)), .ref (q 3), .ref (q 4), .int (zI (ii 1)), .int (zI (ii 2)), .ref (q 1), .ref (q 2), .int (zI (ii 3)), .int (zI (ii 4)), .int (zI (ii 5)), .int (zI (ii 6)), .long (zL (ii 7)), .int (zI (ii 8))])), ((q 0), .inl (cB, 900, .inl (fun k => zI ((gg 0) k)))), ((q 1), .inl (cJ, 19, .inr (.inl (fun k => zL ((gg 1) k))))), ((q 2), .inl (cJ, 10, .inr (.inl (fun k => zL ((gg 2) k)))))] H → va_D A [(b, .inr (3, [.ref (q 0), .int (zI (ii 0)), .ref (q 3), .ref (q 4), .int (zI (ii 1)), .int (zI (ii 2)), .ref (q 1), .ref (q 2), .int (zI (ii 3)), .int (zI (ii 4)), .int (zI (ii 5)), .int (zI (ii 6)), .long (zL (ii 7)), .int (zI (ii 8))])), ((q 0), .inl (cB, 900, .inl (fun k => zI ((gg 0) k)))), ((q 1), .inl (cJ, 19, .inr (.inl (fun k => zL ((gg 1) k))))), ((q 2), .inl (cJ, 10, .inr (.inl (fun k => zL ((gg 2) k)))))] → va_S A s.heap H locs → ∀ ls : Array Slot, lv_has ls 3 [(2, .int (zI v2)), (0, .ref b), (1, .int (zI x))] → W p l e rm_X3y_put s m ([.ref b, .int (zI x)] : List Value).toArray below meth c H locs 0 0 Q (F0 m 3 ls [])) ((24 + 8 : Int).toNat + 1) 24 i g _ _ (by omega) (by omega) hY ⟨(by rw [show (i 0 - i 0).toNat = 0 by omega]; rfl), rfl, rfl⟩ hP hD hS ls hl
  clear hP hD hS hl ls
  intro n9_1
  induction n9_1 with
  | zero =>
    intro v2 ii gg H locs hI hM
    exact absurd hM (by omega)
  | succ n9_1 ih1 =>
    intro v2 ii gg H locs hI1 hM1 hG hpc hP hD hS ls hl
    have hf2 := hG
    refine lv_iload_n hx hb dX3_put_3 rfl (lv_at hl 0 rfl) ?_
    refine rz_if_lt (tgt := 36) F (by omega) dX3_put_4 (by decide) (fun h4_2 => ?_) (fun h4_2 => ?_)
    · exact ret (fun k => [(ii, gg)].getD k (fun _ => 0, fun _ _ => 0)) _ _ _ _ _ _ ⟨hG, (show gg 0 = putC (g 0) (i 0) x 4 ∧ gg 1 = g 1 ∧ gg 2 = g 2 from (by have q8 := hpc; rw [show (ii 0 - i 0).toNat = 4 by omega] at q8; exact q8)), (show ii 0 = i 0 + 4 ∧ ii 1 = i 1 ∧ ii 2 = i 2 from by omega)⟩ (bw_subP (isC := [0, 1, 2, 3]) hP rfl) (hD.sub [0, 1, 2, 3] (by decide) rfl) hS (Nat.le_of_ble_eq_true rfl) (Nat.le_of_ble_eq_true rfl) dX3_put_36
    · refine lv_aload_n hx hb dX3_put_7 rfl (lv_at hl 1 rfl) ?_
      refine r_get F hK hP 0 0 rfl rfl in_X3 (by decide) k_261 rfl dX3_put_8 ?_
      refine lv_aload_n hx hb dX3_put_11 rfl (lv_at hl 1 rfl) ?_
      refine r_get F hK hP 0 1 rfl rfl in_X3 (by decide) k_262 rfl dX3_put_12 ?_
      refine lv_iload_n hx hb dX3_put_15 rfl (lv_at hl 2 rfl) ?_
      refine lv_iload_n hx hb dX3_put_16 rfl (lv_at hl 0 rfl) ?_
      refine lv_ishr hx hb dX3_put_17 ?_
      refine lv_i2b hx hb dX3_put_18 rfl ?_
      refine rz_bastE F hK hP hD hS 1 1 rfl rfl (by omega) (by omega) dX3_put_19 (w1 := fun g5 => [(b, .inr (3, [.ref (q 0), .int (zI (ii 0)), .ref (q 3), .ref (q 4), .int (zI (ii 1)), .int (zI (ii 2)), .ref (q 1), .ref (q 2), .int (zI (ii 3)), .int (zI (ii 4)), .int (zI (ii 5)), .int (zI (ii 6)), .long (zL (ii 7)), .int (zI (ii 8))])), ((q 0), .inl (cB, 900, .inl (fun k => zI (g5 k)))), ((q 1), .inl (cJ, 19, .inr (.inl (fun k => zL ((gg 1) k))))), ((q 2), .inl (cJ, 10, .inr (.inl (fun k => zL ((gg 2) k)))))]) (fun _ => rfl) (fun g5 e_g5 H locs hP hD hS => ?_)
      refine lv_aload_n hx hb dX3_put_20 rfl (lv_at hl 1 rfl) ?_
      refine lv_dup hx hb dX3_put_21 rfl ?_
      refine r_get F hK hP 0 1 rfl rfl in_X3 (by decide) k_262 rfl dX3_put_22 ?_
      refine lv_iconst (v := zI 1) hx hb dX3_put_25 rfl ?_
      refine r_iadd (v := zI ((ii 0) + 1)) F dX3_put_26 (zI_add _ _) ?_
      refine r_put F hK hP hD hS 0 1 rfl rfl in_X3 tyX3 tyX3_ok nmX3 (by decide) k_262 rfl rfl rfl (Nat.le_of_ble_eq_true rfl) dX3_put_27 (w1 := [(b, .inr (3, [.ref (q 0), .int (zI ((ii 0) + 1)), .ref (q 3), .ref (q 4), .int (zI (ii 1)), .int (zI (ii 2)), .ref (q 1), .ref (q 2), .int (zI (ii 3)), .int (zI (ii 4)), .int (zI (ii 5)), .int (zI (ii 6)), .long (zL (ii 7)), .int (zI (ii 8))])), ((q 0), .inl (cB, 900, .inl (fun k => zI (g5 k)))), ((q 1), .inl (cJ, 19, .inr (.inl (fun k => zL ((gg 1) k))))), ((q 2), .inl (cJ, 10, .inr (.inl (fun k => zL ((gg 2) k)))))]) rfl (fun H locs hP hD hS => ?_)
      refine lv_iinc (v := zI (v2 + (-8))) (lv' := [(2, .int (zI (v2 + (-8)))), (0, .ref b), (1, .int (zI x))]) hx hb dX3_put_30 hl (k := 0) rfl (zI_add _ _) (by decide) rfl (fun ls hl => ?_)
      refine lv_goto (tgt := 3) hx hb dX3_put_33 (by decide) ?_
      obtain ⟨i6, e_i6⟩ : ∃ i6 : Nat → Int, i6 = fun k => [((ii 0) + 1), (ii 1), (ii 2), (ii 3), (ii 4), (ii 5), (ii 6), (ii 7), (ii 8)].getD k 0 := ⟨_, rfl⟩
      have e_i6_0 : i6 0 = ((ii 0) + 1) := congrFun e_i6 0
      have e_i6_1 : i6 1 = (ii 1) := congrFun e_i6 1
      have e_i6_2 : i6 2 = (ii 2) := congrFun e_i6 2
      have e_i6_3 : i6 3 = (ii 3) := congrFun e_i6 3
      have e_i6_4 : i6 4 = (ii 4) := congrFun e_i6 4
      have e_i6_5 : i6 5 = (ii 5) := congrFun e_i6 5
      have e_i6_6 : i6 6 = (ii 6) := congrFun e_i6 6
      have e_i6_7 : i6 7 = (ii 7) := congrFun e_i6 7
      have e_i6_8 : i6 8 = (ii 8) := congrFun e_i6 8
      obtain ⟨gg7, e_gg7⟩ : ∃ gg7 : Nat → Nat → Int, gg7 = fun k => [g5, (gg 1), (gg 2)].getD k (fun _ => 0) := ⟨_, rfl⟩
      have hO8 : ReaderOk i6 := by refine ⟨?_, ?_, ?_, ?_, ?_, ?_⟩ <;> omega
      have hf9 := hO8
      have hP : va_P G vwCl [(b, .inr (3, [.ref (q 0), .int (zI (i6 0)), .ref (q 3), .ref (q 4), .int (zI (i6 1)), .int (zI (i6 2)), .ref (q 1), .ref (q 2), .int (zI (i6 3)), .int (zI (i6 4)), .int (zI (i6 5)), .int (zI (i6 6)), .long (zL (i6 7)), .int (zI (i6 8))])), ((q 0), .inl (cB, 900, .inl (fun k => zI ((gg7 0) k)))), ((q 1), .inl (cJ, 19, .inr (.inl (fun k => zL ((gg7 1) k))))), ((q 2), .inl (cJ, 10, .inr (.inl (fun k => zL ((gg7 2) k)))))] H := by subst e_i6 e_gg7; exact hP
      have hD : va_D A [(b, .inr (3, [.ref (q 0), .int (zI (i6 0)), .ref (q 3), .ref (q 4), .int (zI (i6 1)), .int (zI (i6 2)), .ref (q 1), .ref (q 2), .int (zI (i6 3)), .int (zI (i6 4)), .int (zI (i6 5)), .int (zI (i6 6)), .long (zL (i6 7)), .int (zI (i6 8))])), ((q 0), .inl (cB, 900, .inl (fun k => zI ((gg7 0) k)))), ((q 1), .inl (cJ, 19, .inr (.inl (fun k => zL ((gg7 1) k))))), ((q 2), .inl (cJ, 10, .inr (.inl (fun k => zL ((gg7 2) k)))))] := by subst e_i6 e_gg7; exact hD
      exact ih1 (v2 + (-8)) i6 gg7 _ _ (by omega) (by omega) hO8 (by subst e_gg7; exact ⟨putC_step (a := ii 0) (a' := i6 0) (s := v2) hpc.1 (by omega) e_g5 (by omega) (by omega), hpc.2⟩) hP hD hS ls (lv_sub hl [0, 1, 2] rfl)
abbrev rm_X8y_feed : Room := { frames := 1, cells := 0, slots := 0, locals := 22 }
set_option maxRecDepth 100000 in
set_option maxHeartbeats 8000000 in
theorem c_X8y_feed {l : Launch} {E : (Nat → Prop) → State → Prop} (hO : bw_Ok E) {G : va_G} {cI cB cJ cN cW : ClassId} (b : Nat) (q : Nat → Nat) (t ld : Int) (hL : ld = 0 ∨ ld = 1) (ht : 0 ≤ t ∧ t ≤ 6) (qR : Nat → Nat) (iR : Nat → Int) (gR : Nat → Nat → Int) (hc_R : ReaderOk iR) (x0 : Int) (x1 : Int) (x2 : Int) (x3 : Int) (x4 : Int) (hx09 : zR x0) (hx19 : zR x1) (hx29 : zR x2) (hx39 : zR x3) (hx49 : zR x4) : bw_Ci (S := zV) l yX8_feed (bw_ws (Cond.code yX8_feed cX8_feed 6 (some .int))) rm_X8y_feed E G (bw_kt cI cB cJ cN cW) [.ref b, .int (zI x0), .int (zI x1), .int (zI x2), .int (zI x3), .int (zI x4)] [(b, .inr (8, [.int (zI t), .int (zI ld), .ref (q 0), .ref (q 1), .ref (q 2), .ref (q 3), .ref (q 4), .ref (q 5), .ref (q 6), .ref (q 7), .ref (q 8), .ref (q 9), .ref (q 10), .ref (q 11)])), ((q 0), .inr (3, [.ref (qR 0), .int (zI (iR 0)), .ref (qR 3), .ref (qR 4), .int (zI (iR 1)), .int (zI (iR 2)), .ref (qR 1), .ref (qR 2), .int (zI (iR 3)), .int (zI (iR 4)), .int (zI (iR 5)), .int (zI (iR 6)), .long (zL (iR 7)), .int (zI (iR 8))])), ((qR 0), .inl (cB, 900, .inl (fun k => zI ((gR 0) k)))), ((qR 1), .inl (cJ, 19, .inr (.inl (fun k => zL ((gR 1) k))))), ((qR 2), .inl (cJ, 10, .inr (.inl (fun k => zL ((gR 2) k)))))] (fun r u => ∃ z : Int, r = zI z ∧ ((0 ≤ (u 0).1 0 ∧ (u 0).1 0 ≤ 6) ∧ (((u 0).1 1 = 0 ∨ (u 0).1 1 = 1) ∧ (u 0).1 1 = ld ∧ (u 0).1 0 = t)) ∧ (ReaderOk ((u 1).1)) ∧ (((iR 0 ≤ 880 ∧ z = iR 0 + 20 ∧ (u 1).1 0 = iR 0 + 20 ∧ (u 1).2 0 = put5 (gR 0) (iR 0) x0 x1 x2 x3 x4) ∨ (880 < iR 0 ∧ z = -1 ∧ (u 1).1 0 = iR 0 ∧ (u 1).2 0 = gR 0)) ∧ ((u 1).2 1 = gR 1 ∧ (u 1).2 2 = gR 2) ∧ (u 1).1 1 = iR 1 ∧ (u 1).1 2 = iR 2)) (fun u => [(b, .inr (8, [.int (zI ((u 0).1 0)), .int (zI ((u 0).1 1)), .ref (q 0), .ref (q 1), .ref (q 2), .ref (q 3), .ref (q 4), .ref (q 5), .ref (q 6), .ref (q 7), .ref (q 8), .ref (q 9), .ref (q 10), .ref (q 11)])), ((q 0), .inr (3, [.ref (qR 0), .int (zI ((u 1).1 0)), .ref (qR 3), .ref (qR 4), .int (zI ((u 1).1 1)), .int (zI ((u 1).1 2)), .ref (qR 1), .ref (qR 2), .int (zI ((u 1).1 3)), .int (zI ((u 1).1 4)), .int (zI ((u 1).1 5)), .int (zI ((u 1).1 6)), .long (zL ((u 1).1 7)), .int (zI ((u 1).1 8))])), ((qR 0), .inl (cB, 900, .inl (fun k => zI (((u 1).2 0) k)))), ((qR 1), .inl (cJ, 19, .inr (.inl (fun k => zL (((u 1).2 1) k))))), ((qR 2), .inl (cJ, 10, .inr (.inl (fun k => zL (((u 1).2 2) k)))))]) := by
  refine bw_Ci.of (cc := cX8_feed) (maxL := 6) (ty := .int) (by decide) rfl (Nat.le_of_ble_eq_true rfl) ?_
  intro p e s m below meth c A Q hx hb hml hts hown hin hK hA hS hP hD hE ret ls hl
  have F : CallFix p m c cX8_feed 6 s ([.ref b, .int (zI x0), .int (zI x1), .int (zI x2), .int (zI x3), .int (zI x4)] : List Value).toArray bw_T RX8 := ⟨hx, hb, hml, hown, fun w h => hts w (List.mem_cons_of_mem _ h)⟩
  replace hl : lv_has ls 6 [(0, .ref b), (1, .int (zI x0)), (2, .int (zI x1)), (3, .int (zI x2)), (4, .int (zI x3)), (5, .int (zI x4))] := hl
  have hf1 := hc_R
  refine lv_aload_n hx hb dX8_feed_0 rfl (lv_at hl 0 rfl) ?_
  refine r_get F hK hP 0 2 rfl rfl in_X8 (by decide) k_497 rfl dX8_feed_1 ?_
  refine r_get F hK hP 1 1 rfl rfl in_X3 (by decide) k_263 rfl dX8_feed_4 ?_
  refine lv_bipush (v := zI 20) hx hb dX8_feed_7 (by decide) ?_
  refine r_iadd (v := zI ((iR 0) + 20)) F dX8_feed_9 (zI_add _ _) ?_
  refine lv_sipush (v := zI 900) hx hb dX8_feed_10 (by decide) ?_
  refine rz_icmp_le (tgt := 18) F (by omega) (by omega) dX8_feed_13 (by decide) (fun h13_1 => ?_) (fun h13_1 => ?_)
  · refine lv_aload_n hx hb dX8_feed_18 rfl (lv_at hl 0 rfl) ?_
    refine r_get F hK hP 0 2 rfl rfl in_X8 (by decide) k_497 rfl dX8_feed_19 ?_
    refine lv_iload_n hx hb dX8_feed_22 rfl (lv_at hl 1 rfl) ?_
    refine r_callVv (As := [.int (zI x0)]) (rest := []) (wr := [(b, .inr (8, [.int (zI t), .int (zI ld), .ref (q 0), .ref (q 1), .ref (q 2), .ref (q 3), .ref (q 4), .ref (q 5), .ref (q 6), .ref (q 7), .ref (q 8), .ref (q 9), .ref (q 10), .ref (q 11)]))]) F hK hP hD hS hA hO hE (c_X3y_put hO (q 0) qR iR gR hc_R x0 (by omega) (by omega)) k_542 kv_X3_put 1 rfl (by decide +kernel) ⟨Nat.le_of_ble_eq_true rfl, Nat.le_of_ble_eq_true rfl⟩ [1, 2, 3, 4] [0] rfl rfl (by decide) (by decide) (by decide) 0 3 rfl rfl rfl hl.1 rfl (Nat.le_of_ble_eq_true rfl) dX8_feed_23 ⟨Nat.le_of_ble_eq_true rfl, Nat.le_of_ble_eq_true rfl⟩ (w1 := fun u3 => [(b, .inr (8, [.int (zI t), .int (zI ld), .ref (q 0), .ref (q 1), .ref (q 2), .ref (q 3), .ref (q 4), .ref (q 5), .ref (q 6), .ref (q 7), .ref (q 8), .ref (q 9), .ref (q 10), .ref (q 11)])), ((q 0), .inr (3, [.ref (qR 0), .int (zI ((u3 0).1 0)), .ref (qR 3), .ref (qR 4), .int (zI ((u3 0).1 1)), .int (zI ((u3 0).1 2)), .ref (qR 1), .ref (qR 2), .int (zI ((u3 0).1 3)), .int (zI ((u3 0).1 4)), .int (zI ((u3 0).1 5)), .int (zI ((u3 0).1 6)), .long (zL ((u3 0).1 7)), .int (zI ((u3 0).1 8))])), ((qR 0), .inl (cB, 900, .inl (fun k => zI (((u3 0).2 0) k)))), ((qR 1), .inl (cJ, 19, .inr (.inl (fun k => zL (((u3 0).2 1) k))))), ((qR 2), .inl (cJ, 10, .inr (.inl (fun k => zL (((u3 0).2 2) k)))))]) (fun _ => rfl) (fun  u3 H locs hp4 hP hD hS => ?_)
    have hf5 := hp4.1
    have hx6 := hp4.2.1
    have hx7 := hp4.2.2
    refine lv_aload_n hx hb dX8_feed_26 rfl (lv_at hl 0 rfl) ?_
    refine r_get F hK hP 0 2 rfl rfl in_X8 (by decide) k_497 rfl dX8_feed_27 ?_
    refine lv_iload_n hx hb dX8_feed_30 rfl (lv_at hl 2 rfl) ?_
    refine r_callVv (As := [.int (zI x1)]) (rest := []) (wr := [(b, .inr (8, [.int (zI t), .int (zI ld), .ref (q 0), .ref (q 1), .ref (q 2), .ref (q 3), .ref (q 4), .ref (q 5), .ref (q 6), .ref (q 7), .ref (q 8), .ref (q 9), .ref (q 10), .ref (q 11)]))]) F hK hP hD hS hA hO hE (c_X3y_put hO (q 0) qR ((u3 0).1) ((u3 0).2) hp4.1 x1 (by omega) (by omega)) k_542 kv_X3_put 1 rfl (by decide +kernel) ⟨Nat.le_of_ble_eq_true rfl, Nat.le_of_ble_eq_true rfl⟩ [1, 2, 3, 4] [0] rfl rfl (by decide) (by decide) (by decide) 0 3 rfl rfl rfl hl.1 rfl (Nat.le_of_ble_eq_true rfl) dX8_feed_31 ⟨Nat.le_of_ble_eq_true rfl, Nat.le_of_ble_eq_true rfl⟩ (w1 := fun u8 => [(b, .inr (8, [.int (zI t), .int (zI ld), .ref (q 0), .ref (q 1), .ref (q 2), .ref (q 3), .ref (q 4), .ref (q 5), .ref (q 6), .ref (q 7), .ref (q 8), .ref (q 9), .ref (q 10), .ref (q 11)])), ((q 0), .inr (3, [.ref (qR 0), .int (zI ((u8 0).1 0)), .ref (qR 3), .ref (qR 4), .int (zI ((u8 0).1 1)), .int (zI ((u8 0).1 2)), .ref (qR 1), .ref (qR 2), .int (zI ((u8 0).1 3)), .int (zI ((u8 0).1 4)), .int (zI ((u8 0).1 5)), .int (zI ((u8 0).1 6)), .long (zL ((u8 0).1 7)), .int (zI ((u8 0).1 8))])), ((qR 0), .inl (cB, 900, .inl (fun k => zI (((u8 0).2 0) k)))), ((qR 1), .inl (cJ, 19, .inr (.inl (fun k => zL (((u8 0).2 1) k))))), ((qR 2), .inl (cJ, 10, .inr (.inl (fun k => zL (((u8 0).2 2) k)))))]) (fun _ => rfl) (fun  u8 H locs hp9 hP hD hS => ?_)
    have hf10 := hp9.1
    have hx11 := hp9.2.1
    have hx12 := hp9.2.2
    refine lv_aload_n hx hb dX8_feed_34 rfl (lv_at hl 0 rfl) ?_
    refine r_get F hK hP 0 2 rfl rfl in_X8 (by decide) k_497 rfl dX8_feed_35 ?_
    refine lv_iload_n hx hb dX8_feed_38 rfl (lv_at hl 3 rfl) ?_
    refine r_callVv (As := [.int (zI x2)]) (rest := []) (wr := [(b, .inr (8, [.int (zI t), .int (zI ld), .ref (q 0), .ref (q 1), .ref (q 2), .ref (q 3), .ref (q 4), .ref (q 5), .ref (q 6), .ref (q 7), .ref (q 8), .ref (q 9), .ref (q 10), .ref (q 11)]))]) F hK hP hD hS hA hO hE (c_X3y_put hO (q 0) qR ((u8 0).1) ((u8 0).2) hp9.1 x2 (by omega) (by omega)) k_542 kv_X3_put 1 rfl (by decide +kernel) ⟨Nat.le_of_ble_eq_true rfl, Nat.le_of_ble_eq_true rfl⟩ [1, 2, 3, 4] [0] rfl rfl (by decide) (by decide) (by decide) 0 3 rfl rfl rfl hl.1 rfl (Nat.le_of_ble_eq_true rfl) dX8_feed_39 ⟨Nat.le_of_ble_eq_true rfl, Nat.le_of_ble_eq_true rfl⟩ (w1 := fun u13 => [(b, .inr (8, [.int (zI t), .int (zI ld), .ref (q 0), .ref (q 1), .ref (q 2), .ref (q 3), .ref (q 4), .ref (q 5), .ref (q 6), .ref (q 7), .ref (q 8), .ref (q 9), .ref (q 10), .ref (q 11)])), ((q 0), .inr (3, [.ref (qR 0), .int (zI ((u13 0).1 0)), .ref (qR 3), .ref (qR 4), .int (zI ((u13 0).1 1)), .int (zI ((u13 0).1 2)), .ref (qR 1), .ref (qR 2), .int (zI ((u13 0).1 3)), .int (zI ((u13 0).1 4)), .int (zI ((u13 0).1 5)), .int (zI ((u13 0).1 6)), .long (zL ((u13 0).1 7)), .int (zI ((u13 0).1 8))])), ((qR 0), .inl (cB, 900, .inl (fun k => zI (((u13 0).2 0) k)))), ((qR 1), .inl (cJ, 19, .inr (.inl (fun k => zL (((u13 0).2 1) k))))), ((qR 2), .inl (cJ, 10, .inr (.inl (fun k => zL (((u13 0).2 2) k)))))]) (fun _ => rfl) (fun  u13 H locs hp14 hP hD hS => ?_)
    have hf15 := hp14.1
    have hx16 := hp14.2.1
    have hx17 := hp14.2.2
    refine lv_aload_n hx hb dX8_feed_42 rfl (lv_at hl 0 rfl) ?_
    refine r_get F hK hP 0 2 rfl rfl in_X8 (by decide) k_497 rfl dX8_feed_43 ?_
    refine lv_iload hx hb dX8_feed_46 (lv_at hl 4 rfl) ?_
    refine r_callVv (As := [.int (zI x3)]) (rest := []) (wr := [(b, .inr (8, [.int (zI t), .int (zI ld), .ref (q 0), .ref (q 1), .ref (q 2), .ref (q 3), .ref (q 4), .ref (q 5), .ref (q 6), .ref (q 7), .ref (q 8), .ref (q 9), .ref (q 10), .ref (q 11)]))]) F hK hP hD hS hA hO hE (c_X3y_put hO (q 0) qR ((u13 0).1) ((u13 0).2) hp14.1 x3 (by omega) (by omega)) k_542 kv_X3_put 1 rfl (by decide +kernel) ⟨Nat.le_of_ble_eq_true rfl, Nat.le_of_ble_eq_true rfl⟩ [1, 2, 3, 4] [0] rfl rfl (by decide) (by decide) (by decide) 0 3 rfl rfl rfl hl.1 rfl (Nat.le_of_ble_eq_true rfl) dX8_feed_48 ⟨Nat.le_of_ble_eq_true rfl, Nat.le_of_ble_eq_true rfl⟩ (w1 := fun u18 => [(b, .inr (8, [.int (zI t), .int (zI ld), .ref (q 0), .ref (q 1), .ref (q 2), .ref (q 3), .ref (q 4), .ref (q 5), .ref (q 6), .ref (q 7), .ref (q 8), .ref (q 9), .ref (q 10), .ref (q 11)])), ((q 0), .inr (3, [.ref (qR 0), .int (zI ((u18 0).1 0)), .ref (qR 3), .ref (qR 4), .int (zI ((u18 0).1 1)), .int (zI ((u18 0).1 2)), .ref (qR 1), .ref (qR 2), .int (zI ((u18 0).1 3)), .int (zI ((u18 0).1 4)), .int (zI ((u18 0).1 5)), .int (zI ((u18 0).1 6)), .long (zL ((u18 0).1 7)), .int (zI ((u18 0).1 8))])), ((qR 0), .inl (cB, 900, .inl (fun k => zI (((u18 0).2 0) k)))), ((qR 1), .inl (cJ, 19, .inr (.inl (fun k => zL (((u18 0).2 1) k))))), ((qR 2), .inl (cJ, 10, .inr (.inl (fun k => zL (((u18 0).2 2) k)))))]) (fun _ => rfl) (fun  u18 H locs hp19 hP hD hS => ?_)
    have hf20 := hp19.1
    have hx21 := hp19.2.1
    have hx22 := hp19.2.2
    refine lv_aload_n hx hb dX8_feed_51 rfl (lv_at hl 0 rfl) ?_
    refine r_get F hK hP 0 2 rfl rfl in_X8 (by decide) k_497 rfl dX8_feed_52 ?_
    refine lv_iload hx hb dX8_feed_55 (lv_at hl 5 rfl) ?_
    refine r_callVv (As := [.int (zI x4)]) (rest := []) (wr := [(b, .inr (8, [.int (zI t), .int (zI ld), .ref (q 0), .ref (q 1), .ref (q 2), .ref (q 3), .ref (q 4), .ref (q 5), .ref (q 6), .ref (q 7), .ref (q 8), .ref (q 9), .ref (q 10), .ref (q 11)]))]) F hK hP hD hS hA hO hE (c_X3y_put hO (q 0) qR ((u18 0).1) ((u18 0).2) hp19.1 x4 (by omega) (by omega)) k_542 kv_X3_put 1 rfl (by decide +kernel) ⟨Nat.le_of_ble_eq_true rfl, Nat.le_of_ble_eq_true rfl⟩ [1, 2, 3, 4] [0] rfl rfl (by decide) (by decide) (by decide) 0 3 rfl rfl rfl hl.1 rfl (Nat.le_of_ble_eq_true rfl) dX8_feed_57 ⟨Nat.le_of_ble_eq_true rfl, Nat.le_of_ble_eq_true rfl⟩ (w1 := fun u23 => [(b, .inr (8, [.int (zI t), .int (zI ld), .ref (q 0), .ref (q 1), .ref (q 2), .ref (q 3), .ref (q 4), .ref (q 5), .ref (q 6), .ref (q 7), .ref (q 8), .ref (q 9), .ref (q 10), .ref (q 11)])), ((q 0), .inr (3, [.ref (qR 0), .int (zI ((u23 0).1 0)), .ref (qR 3), .ref (qR 4), .int (zI ((u23 0).1 1)), .int (zI ((u23 0).1 2)), .ref (qR 1), .ref (qR 2), .int (zI ((u23 0).1 3)), .int (zI ((u23 0).1 4)), .int (zI ((u23 0).1 5)), .int (zI ((u23 0).1 6)), .long (zL ((u23 0).1 7)), .int (zI ((u23 0).1 8))])), ((qR 0), .inl (cB, 900, .inl (fun k => zI (((u23 0).2 0) k)))), ((qR 1), .inl (cJ, 19, .inr (.inl (fun k => zL (((u23 0).2 1) k))))), ((qR 2), .inl (cJ, 10, .inr (.inl (fun k => zL (((u23 0).2 2) k)))))]) (fun _ => rfl) (fun  u23 H locs hp24 hP hD hS => ?_)
    have hf25 := hp24.1
    have hx26 := hp24.2.1
    have hx27 := hp24.2.2
    refine lv_aload_n hx hb dX8_feed_60 rfl (lv_at hl 0 rfl) ?_
    refine r_get F hK hP 0 2 rfl rfl in_X8 (by decide) k_497 rfl dX8_feed_61 ?_
    refine r_get F hK hP 1 1 rfl rfl in_X3 (by decide) k_263 rfl dX8_feed_64 ?_
    exact ret (zI ((u23 0).1 0)) (fun k => [(fun k => [t, ld].getD k 0, fun _ _ => 0), ((u23 0).1, (u23 0).2)].getD k (fun _ => 0, fun _ _ => 0)) _ _ _ _ _ _ rfl ⟨((u23 0).1 0), rfl, (show ((0 : Int) ≤ t ∧ t ≤ 6) ∧ (((ld : Int) = 0 ∨ (ld : Int) = 1) ∧ (ld : Int) = ld ∧ (t : Int) = t) from by omega), hp24.1, (show ((iR 0 ≤ 880 ∧ (((u23 0).1 0) : Int) = iR 0 + 20 ∧ ((u23 0).1) 0 = iR 0 + 20 ∧ ((u23 0).2) 0 = put5 (gR 0) (iR 0) x0 x1 x2 x3 x4) ∨ (880 < iR 0 ∧ (((u23 0).1 0) : Int) = -1 ∧ ((u23 0).1) 0 = iR 0 ∧ ((u23 0).2) 0 = gR 0)) ∧ (((u23 0).2) 1 = gR 1 ∧ ((u23 0).2) 2 = gR 2) ∧ ((u23 0).1) 1 = iR 1 ∧ ((u23 0).1) 2 = iR 2 from ⟨Or.inl ⟨by omega, by omega, by omega, (by rw [hp24.2.1.1, show ((u18 0).1) 0 = iR 0 + 16 by omega, hp19.2.1.1, show ((u13 0).1) 0 = iR 0 + 12 by omega, hp14.2.1.1, show ((u8 0).1) 0 = iR 0 + 8 by omega, hp9.2.1.1, show ((u3 0).1) 0 = iR 0 + 4 by omega, hp4.2.1.1]; rfl)⟩, ⟨(by rw [hp24.2.1.2.1, hp19.2.1.2.1, hp14.2.1.2.1, hp9.2.1.2.1, hp4.2.1.2.1]), (by rw [hp24.2.1.2.2, hp19.2.1.2.2, hp14.2.1.2.2, hp9.2.1.2.2, hp4.2.1.2.2])⟩, by omega⟩)⟩ (bw_subP (isC := [0, 1, 2, 3, 4]) hP rfl) (hD.sub [0, 1, 2, 3, 4] (by decide) rfl) hS (Nat.le_of_ble_eq_true rfl) (Nat.le_of_ble_eq_true rfl) dX8_feed_67
  · refine lv_iconst (v := zI (-1)) hx hb dX8_feed_16 rfl ?_
    exact ret (zI (-1)) (fun k => [(fun k => [t, ld].getD k 0, fun _ _ => 0), (iR, gR)].getD k (fun _ => 0, fun _ _ => 0)) _ _ _ _ _ _ rfl ⟨(-1), rfl, (show ((0 : Int) ≤ t ∧ t ≤ 6) ∧ (((ld : Int) = 0 ∨ (ld : Int) = 1) ∧ (ld : Int) = ld ∧ (t : Int) = t) from by omega), hc_R, (show ((iR 0 ≤ 880 ∧ ((-1) : Int) = iR 0 + 20 ∧ iR 0 = iR 0 + 20 ∧ gR 0 = put5 (gR 0) (iR 0) x0 x1 x2 x3 x4) ∨ (880 < iR 0 ∧ ((-1) : Int) = -1 ∧ iR 0 = iR 0 ∧ gR 0 = gR 0)) ∧ (gR 1 = gR 1 ∧ gR 2 = gR 2) ∧ iR 1 = iR 1 ∧ iR 2 = iR 2 from ⟨Or.inr ⟨by omega, by omega, by omega, rfl⟩, ⟨rfl, rfl⟩, by omega⟩)⟩ (bw_subP (isC := [0, 1, 2, 3, 4]) hP rfl) (hD.sub [0, 1, 2, 3, 4] (by decide) rfl) hS (Nat.le_of_ble_eq_true rfl) (Nat.le_of_ble_eq_true rfl) dX8_feed_17
