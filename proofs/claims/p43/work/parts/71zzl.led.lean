/-! TOLD LINES, COUNTED -/
noncomputable def iteC (P : Prop) (a b : Int) : Int := @ite Int P (Classical.propDecidable P) a b
theorem iteC_y {P : Prop} {a b : Int} (h : P) : iteC P a b = a := if_pos h
theorem iteC_n {P : Prop} {a b : Int} (h : ¬ P) : iteC P a b = b := if_neg h
noncomputable def tdN (T : Nat → Prop) : Nat → Int
  | 0 => 0
  | k + 1 => tdN T k + iteC (T k) 1 0
theorem tdN_y {T : Nat → Prop} {k : Nat} (h : T k) : tdN T (k + 1) = tdN T k + 1 := by
  show tdN T k + iteC (T k) 1 0 = _
  rw [iteC_y h]
theorem tdN_n {T : Nat → Prop} {k : Nat} (h : ¬ T k) : tdN T (k + 1) = tdN T k := by
  show tdN T k + iteC (T k) 1 0 = _
  rw [iteC_n h]
  exact Int.add_zero _
theorem tdN_le {T : Nat → Prop} {j : Nat} : ∀ d : Nat, tdN T j ≤ tdN T (j + d)
  | 0 => Int.le_refl _
  | d + 1 => by
    have h1 := tdN_le (T := T) (j := j) d
    rcases Classical.em (T (j + d)) with h | h
    · have h2 : tdN T (j + (d + 1)) = tdN T (j + d) + 1 := tdN_y h
      omega
    · have h2 : tdN T (j + (d + 1)) = tdN T (j + d) := tdN_n h
      omega
theorem tdN_lt {T : Nat → Prop} {j k : Nat} (h : j < k) (hj : T j) : tdN T j + 1 ≤ tdN T k := by
  have h1 := tdN_le (T := T) (j := j + 1) (k - (j + 1))
  rw [show j + 1 + (k - (j + 1)) = k by omega, tdN_y hj] at h1
  exact h1
theorem tdN_congr {T T' : Nat → Prop} {n : Nat} (h : ∀ k, k < n → (T k ↔ T' k)) : ∀ k, k ≤ n → tdN T k = tdN T' k
  | 0, _ => rfl
  | k + 1, hk => by
    have h1 := tdN_congr h k (by omega)
    rcases Classical.em (T k) with c | c
    · rw [tdN_y c, tdN_y ((h k (by omega)).mp c), h1]
    · rw [tdN_n c, tdN_n (fun q => c ((h k (by omega)).mpr q)), h1]
/-- z is the line below n that is told as the x-th; or there is none -/
def TdL (T : Nat → Prop) (n x z : Int) : Prop := (z = -1 ∧ ∀ k : Nat, (k : Int) < n → T k → tdN T k ≠ x) ∨ ((0 ≤ z ∧ z < n) ∧ T z.toNat ∧ tdN T z.toNat = x)
theorem TdL.rg {T : Nat → Prop} {n x z : Int} (h : TdL T n x z) : z = -1 ∨ (0 ≤ z ∧ z < n) := h.elim (fun q => Or.inl q.1) (fun q => Or.inr q.1)
theorem TdL.same {T T' : Nat → Prop} {n x z z' : Int} (hT : ∀ k : Nat, (k : Int) < n → (T k ↔ T' k)) (h : TdL T n x z) (h' : TdL T' n x z') : z = z' := by
  have hc : ∀ k : Nat, (k : Int) < n → tdN T k = tdN T' k := fun k hk => tdN_congr (n := n.toNat) (fun j hj => hT j (by omega)) k (by omega)
  rcases h with ⟨a1, a2⟩ | ⟨a1, a2, a3⟩ <;> rcases h' with ⟨b1, b2⟩ | ⟨b1, b2, b3⟩
  · omega
  · have q := a2 z'.toNat (by omega) ((hT z'.toNat (by omega)).mpr b2)
    rw [hc z'.toNat (by omega)] at q
    exact absurd b3 q
  · have q := b2 z.toNat (by omega) ((hT z.toNat (by omega)).mp a2)
    rw [← hc z.toNat (by omega)] at q
    exact absurd a3 q
  · have e : tdN T z'.toNat = x := (hc z'.toNat (by omega)).trans b3
    have t2 := (hT z'.toNat (by omega)).mpr b2
    rcases Nat.lt_trichotomy z.toNat z'.toNat with q | q | q
    · have := tdN_lt q a2
      omega
    · omega
    · have := tdN_lt q t2
      omega
def TdI (T : Nat → Prop) (x b v : Int) : Prop := b = tdN T v.toNat ∧ ∀ k : Nat, (k : Int) < v → T k → tdN T k ≠ x
theorem TdI.zero {T : Nat → Prop} {x : Int} : TdI T x 0 0 := ⟨rfl, fun k hk => absurd hk (by omega)⟩
theorem TdI.no {T : Nat → Prop} {x b v : Int} (h : TdI T x b v) (hv : 0 ≤ v) (ht : ¬ T v.toNat) : TdI T x b (v + 1) := by
  obtain ⟨h1, h2⟩ := h
  refine ⟨?_, fun k hk hT => ?_⟩
  · rw [show (v + 1).toNat = v.toNat + 1 by omega, tdN_n ht]
    exact h1
  · rcases (show (k : Int) < v ∨ k = v.toNat by omega) with q | q
    · exact h2 k q hT
    · exact absurd (q ▸ hT) ht
theorem TdI.yes {T : Nat → Prop} {x b v : Int} (h : TdI T x b v) (hv : 0 ≤ v) (ht : T v.toNat) (hx : b ≠ x) : TdI T x (b + 1) (v + 1) := by
  obtain ⟨h1, h2⟩ := h
  refine ⟨?_, fun k hk hT => ?_⟩
  · rw [show (v + 1).toNat = v.toNat + 1 by omega, tdN_y ht, h1]
  · rcases (show (k : Int) < v ∨ k = v.toNat by omega) with q | q
    · exact h2 k q hT
    · rw [q, ← h1]
      exact hx
theorem TdI.found {T : Nat → Prop} {x b v n : Int} (h : TdI T x b v) (hv : 0 ≤ v ∧ v < n) (ht : T v.toNat) (hx : b = x) : TdL T n x v := Or.inr ⟨hv, ht, h.1.symm.trans hx⟩
theorem TdI.none {T : Nat → Prop} {x b v n : Int} (h : TdI T x b v) (hv : n ≤ v) : TdL T n x (-1) := Or.inl ⟨rfl, fun k hk => h.2 k (by omega)⟩
theorem NRel.tel {g : Nat → Nat → Int} {p : Nat → Int} (h : NRel g p) (k : Nat) (hk : k < 10) : g 0 k ≠ -1 ↔ p (20 * k) = 1 := by
  rcases h k hk with ⟨r1, -, r3⟩ | ⟨r1, ⟨r2, r3⟩, -⟩
  · have := r3 0 (by omega)
    exact ⟨fun q => absurd r1 q, fun q => by rw [show 20 * k + 0 = 20 * k by omega] at this; omega⟩
  · exact ⟨fun _ => r1, fun _ => by omega⟩
theorem led_cmp {g : Nat → Nat → Int} {p : Nat → Int} {n5 n x z1 z2 t hq gw : Int} (h : NRel g p) (hn : n5 = n) (h10 : n ≤ 10) (hp : hq = 1 ∨ n = 0)
    (h1 : (z1 = 1 ∧ TdL (fun k => g 0 k ≠ -1) n5 x (-1)) ∨ (z1 = 0 ∧ 0 ≤ gw ∧ TdL (fun k => g 0 k ≠ -1) n5 x gw))
    (h2 : (t = 1 ∧ (hq = 1 → TdL (fun k => p (20 * k) = 1) n x (-1))) ∨ (t = 0 ∧ 0 ≤ z2 ∧ hq = 1 ∧ TdL (fun k => p (20 * k) = 1) n x z2)) : t = z1 ∧ (z1 = 0 → gw = z2) := by
  subst hn
  have hT : ∀ k : Nat, (k : Int) < n5 → (g 0 k ≠ -1 ↔ p (20 * k) = 1) := fun k hk => h.tel k (by omega)
  rcases h1 with ⟨a1, a2⟩ | ⟨a1, a3, a4⟩ <;> rcases h2 with ⟨b1, b2⟩ | ⟨b1, b2, b3, b4⟩
  · exact ⟨by omega, fun q => by omega⟩
  · have := TdL.same hT a2 b4
    omega
  · rcases hp with q | q
    · have := TdL.same hT a4 (b2 q)
      omega
    · have := a4.rg
      omega
  · have := TdL.same hT a4 b4
    exact ⟨by omega, fun _ => by omega⟩
abbrev rm_X2z_toldLine : Room := { frames := 1, cells := 0, slots := 0, locals := 21 }
set_option maxRecDepth 100000 in
set_option maxHeartbeats 8000000 in
theorem c_X2z_toldLine {l : Launch} {E : (Nat → Prop) → State → Prop} (hO : bw_Ok E) {G : va_G} {cI cB cJ cN cW : ClassId} (b : Nat) (q : Nat → Nat) (n : Int) (g : Nat → Nat → Int) (hN : NetOk n g) (x : Int) (hx9 : zR x) : bw_Ci (S := zU) l yX2_toldLine (bw_ws (Cond.code yX2_toldLine cX2_toldLine 4 (some .int))) rm_X2z_toldLine E G (bw_kt cI cB cJ cN cW) [.ref b, .int (zI x)] [(b, .inr (2, [.int (zI n), .ref (q 0), .ref (q 1), .ref (q 2), .ref (q 3), .ref (q 4), .ref (q 5), .ref (q 6), .ref (q 7)])), ((q 0), .inl (cI, 10, .inl (fun k => zI ((g 0) k)))), ((q 1), .inl (cI, 10, .inl (fun k => zI ((g 1) k)))), ((q 2), .inl (cI, 10, .inl (fun k => zI ((g 2) k)))), ((q 3), .inl (cI, 40, .inl (fun k => zI ((g 3) k)))), ((q 4), .inl (cI, 40, .inl (fun k => zI ((g 4) k)))), ((q 5), .inl (cI, 40, .inl (fun k => zI ((g 5) k)))), ((q 6), .inl (cI, 20, .inl (fun k => zI ((g 6) k)))), ((q 7), .inl (cI, 20, .inl (fun k => zI ((g 7) k))))] (fun r _ => ∃ z : Int, r = zI z ∧ ((z = -1 ∨ (0 ≤ z ∧ z < n)) ∧ TdL (fun k => g 0 k ≠ -1) n x z)) (fun _ => [(b, .inr (2, [.int (zI n), .ref (q 0), .ref (q 1), .ref (q 2), .ref (q 3), .ref (q 4), .ref (q 5), .ref (q 6), .ref (q 7)])), ((q 0), .inl (cI, 10, .inl (fun k => zI ((g 0) k)))), ((q 1), .inl (cI, 10, .inl (fun k => zI ((g 1) k)))), ((q 2), .inl (cI, 10, .inl (fun k => zI ((g 2) k)))), ((q 3), .inl (cI, 40, .inl (fun k => zI ((g 3) k)))), ((q 4), .inl (cI, 40, .inl (fun k => zI ((g 4) k)))), ((q 5), .inl (cI, 40, .inl (fun k => zI ((g 5) k)))), ((q 6), .inl (cI, 20, .inl (fun k => zI ((g 6) k)))), ((q 7), .inl (cI, 20, .inl (fun k => zI ((g 7) k))))]) := by
  refine bw_Ci.of (cc := cX2_toldLine) (maxL := 4) (ty := .int) (by decide) rfl (Nat.le_of_ble_eq_true rfl) ?_
  intro p e s m below meth c A Q hx hb hml hts hown hin hK hA hS hP hD hE ret ls hl
  have F : CallFix p m c cX2_toldLine 4 s ([.ref b, .int (zI x)] : List Value).toArray bw_T RX2 := ⟨hx, hb, hml, hown, fun w h => hts w (List.mem_cons_of_mem _ h)⟩
  replace hl : lv_has ls 4 [(0, .ref b), (1, .int (zI x))] := hl
  have hN0 := hN.1
  refine lv_iconst (v := zI 0) hx hb dX2_toldLine_0 rfl ?_
  refine lv_istore_n (lv' := [(2, .int (zI 0)), (0, .ref b), (1, .int (zI x))]) hx hb dX2_toldLine_1 rfl hl (by decide) rfl (fun ls hl => ?_)
  refine lv_iconst (v := zI 0) hx hb dX2_toldLine_2 rfl ?_
  refine lv_istore_n (lv' := [(3, .int (zI 0)), (2, .int (zI 0)), (0, .ref b), (1, .int (zI x))]) hx hb dX2_toldLine_3 rfl hl (by decide) rfl (fun ls hl => ?_)
  refine W.widen (k := 0) (n := 0) (Nat.le_of_ble_eq_true rfl) (Nat.le_of_ble_eq_true rfl) ?_
  refine (?_ : ∀ (n9_1 : Nat) (v2 : Int) (v3 : Int) (H : Heap) (locs : List Loc), (0 ≤ v3 ∧ v3 ≤ n ∧ 0 ≤ v2 ∧ v2 ≤ v3) → (n - v3 : Int).toNat < n9_1 → (TdI (fun k => g 0 k ≠ -1) x v2 v3) → va_P G vwCl [(b, .inr (2, [.int (zI n), .ref (q 0), .ref (q 1), .ref (q 2), .ref (q 3), .ref (q 4), .ref (q 5), .ref (q 6), .ref (q 7)])), ((q 0), .inl (cI, 10, .inl (fun k => zI ((g 0) k)))), ((q 1), .inl (cI, 10, .inl (fun k => zI ((g 1) k)))), ((q 2), .inl (cI, 10, .inl (fun k => zI ((g 2) k)))), ((q 3), .inl (cI, 40, .inl (fun k => zI ((g 3) k)))), ((q 4), .inl (cI, 40, .inl (fun k => zI ((g 4) k)))), ((q 5), .inl (cI, 40, .inl (fun k => zI ((g 5) k)))), ((q 6), .inl (cI, 20, .inl (fun k => zI ((g 6) k)))), ((q 7), .inl (cI, 20, .inl (fun k => zI ((g 7) k))))] H → va_D A [(b, .inr (2, [.int (zI n), .ref (q 0), .ref (q 1), .ref (q 2), .ref (q 3), .ref (q 4), .ref (q 5), .ref (q 6), .ref (q 7)])), ((q 0), .inl (cI, 10, .inl (fun k => zI ((g 0) k)))), ((q 1), .inl (cI, 10, .inl (fun k => zI ((g 1) k)))), ((q 2), .inl (cI, 10, .inl (fun k => zI ((g 2) k)))), ((q 3), .inl (cI, 40, .inl (fun k => zI ((g 3) k)))), ((q 4), .inl (cI, 40, .inl (fun k => zI ((g 4) k)))), ((q 5), .inl (cI, 40, .inl (fun k => zI ((g 5) k)))), ((q 6), .inl (cI, 20, .inl (fun k => zI ((g 6) k)))), ((q 7), .inl (cI, 20, .inl (fun k => zI ((g 7) k))))] → va_S A s.heap H locs → ∀ ls : Array Slot, lv_has ls 4 [(3, .int (zI v3)), (2, .int (zI v2)), (0, .ref b), (1, .int (zI x))] → W p l e rm_X2z_toldLine s m ([.ref b, .int (zI x)] : List Value).toArray below meth c H locs 0 0 Q (F0 m 4 ls [])) ((n - 0 : Int).toNat + 1) 0 0 _ _ (by omega) (by omega) TdI.zero hP hD hS ls hl
  clear hP hD hS hl ls
  intro n9_1
  induction n9_1 with
  | zero =>
    intro v2 v3 H locs hI hM
    exact absurd hM (by omega)
  | succ n9_1 ih1 =>
    intro v2 v3 H locs hI1 hM1 htd hP hD hS ls hl
    refine lv_iload_n hx hb dX2_toldLine_4 rfl (lv_at hl 0 rfl) ?_
    refine lv_aload_n hx hb dX2_toldLine_5 rfl (lv_at hl 2 rfl) ?_
    refine r_get F hK hP 0 0 rfl rfl in_X2 (by decide) k_144 rfl dX2_toldLine_6 ?_
    refine rz_icmp_ge (tgt := 36) F (by omega) (by omega) dX2_toldLine_9 (by decide) (fun h9_0 => ?_) (fun h9_0 => ?_)
    · refine lv_iconst (v := zI (-1)) hx hb dX2_toldLine_36 rfl ?_
      exact ret (zI (-1)) (fun _ => 0, fun _ _ => 0) _ _ _ _ _ _ rfl ⟨(-1), rfl, ⟨by omega, htd.none (by omega)⟩⟩ (bw_subP (isC := [0, 1, 2, 3, 4, 5, 6, 7, 8]) hP rfl) (hD.sub [0, 1, 2, 3, 4, 5, 6, 7, 8] (by decide) rfl) hS (Nat.le_of_ble_eq_true rfl) (Nat.le_of_ble_eq_true rfl) dX2_toldLine_37
    · refine lv_aload_n hx hb dX2_toldLine_12 rfl (lv_at hl 2 rfl) ?_
      refine lv_iload_n hx hb dX2_toldLine_13 rfl (lv_at hl 0 rfl) ?_
      refine r_callVi (As := [.int (zI v3)]) (rest := []) (wr := []) F hK hP hD hS hA hO hE (c_X2z_tells hO b q n g hN v3 (by omega)) k_969 kv_X2_tells 1 rfl (by decide +kernel) ⟨Nat.le_of_ble_eq_true rfl, Nat.le_of_ble_eq_true rfl⟩ [0, 1, 2, 3, 4, 5, 6, 7, 8] [] rfl rfl (by decide) (by decide) (by decide) 0 2 rfl rfl rfl hl.1 rfl (Nat.le_of_ble_eq_true rfl) dX2_toldLine_14 ⟨Nat.le_of_ble_eq_true rfl, Nat.le_of_ble_eq_true rfl⟩ (w1 := fun u2 => [(b, .inr (2, [.int (zI n), .ref (q 0), .ref (q 1), .ref (q 2), .ref (q 3), .ref (q 4), .ref (q 5), .ref (q 6), .ref (q 7)])), ((q 0), .inl (cI, 10, .inl (fun k => zI ((g 0) k)))), ((q 1), .inl (cI, 10, .inl (fun k => zI ((g 1) k)))), ((q 2), .inl (cI, 10, .inl (fun k => zI ((g 2) k)))), ((q 3), .inl (cI, 40, .inl (fun k => zI ((g 3) k)))), ((q 4), .inl (cI, 40, .inl (fun k => zI ((g 4) k)))), ((q 5), .inl (cI, 40, .inl (fun k => zI ((g 5) k)))), ((q 6), .inl (cI, 20, .inl (fun k => zI ((g 6) k)))), ((q 7), .inl (cI, 20, .inl (fun k => zI ((g 7) k))))]) (fun _ => rfl) (fun r3 u2 H locs hp4 hP hD hS => ?_)
      obtain ⟨z5, rfl, h_z5⟩ := hp4
      have htl6 := h_z5
      refine rz_if_eq (tgt := 30) F (by omega) dX2_toldLine_17 (by decide) (fun h17_6 => ?_) (fun h17_6 => ?_)
      · refine lv_iinc (v := zI (v3 + 1)) (lv' := [(3, .int (zI (v3 + 1))), (2, .int (zI v2)), (0, .ref b), (1, .int (zI x))]) hx hb dX2_toldLine_30 hl (k := 0) rfl (zI_add _ _) (by decide) rfl (fun ls hl => ?_)
        refine lv_goto (tgt := 4) hx hb dX2_toldLine_33 (by decide) ?_
        exact ih1 v2 (v3 + 1) _ _ (by omega) (by omega) (htd.no (by omega) (show ¬ (g 0 (v3).toNat ≠ -1) by omega)) hP hD hS ls (lv_sub hl [0, 1, 2, 3] rfl)
      · refine lv_iload_n hx hb dX2_toldLine_20 rfl (lv_at hl 1 rfl) ?_
        refine lv_iload_n hx hb dX2_toldLine_21 rfl (lv_at hl 3 rfl) ?_
        refine rz_icmp_ne (tgt := 27) F (by omega) (by omega) dX2_toldLine_22 (by decide) (fun h22_7 => ?_) (fun h22_7 => ?_)
        · refine lv_iinc (v := zI (v2 + 1)) (lv' := [(2, .int (zI (v2 + 1))), (3, .int (zI v3)), (0, .ref b), (1, .int (zI x))]) hx hb dX2_toldLine_27 hl (k := 1) rfl (zI_add _ _) (by decide) rfl (fun ls hl => ?_)
          refine lv_iinc (v := zI (v3 + 1)) (lv' := [(3, .int (zI (v3 + 1))), (2, .int (zI (v2 + 1))), (0, .ref b), (1, .int (zI x))]) hx hb dX2_toldLine_30 hl (k := 1) rfl (zI_add _ _) (by decide) rfl (fun ls hl => ?_)
          refine lv_goto (tgt := 4) hx hb dX2_toldLine_33 (by decide) ?_
          exact ih1 (v2 + 1) (v3 + 1) _ _ (by omega) (by omega) (htd.yes (by omega) (show (g 0 (v3).toNat ≠ -1) by omega) (by omega)) hP hD hS ls (lv_sub hl [0, 1, 2, 3] rfl)
        · refine lv_iload_n hx hb dX2_toldLine_25 rfl (lv_at hl 0 rfl) ?_
          exact ret (zI v3) (fun _ => 0, fun _ _ => 0) _ _ _ _ _ _ rfl ⟨v3, rfl, ⟨by omega, htd.found (by omega) (show g 0 (v3).toNat ≠ -1 by omega) (by omega)⟩⟩ (bw_subP (isC := [0, 1, 2, 3, 4, 5, 6, 7, 8]) hP rfl) (hD.sub [0, 1, 2, 3, 4, 5, 6, 7, 8] (by decide) rfl) hS (Nat.le_of_ble_eq_true rfl) (Nat.le_of_ble_eq_true rfl) dX2_toldLine_26
abbrev rm_X8_ledX : Room := { frames := 7, cells := 1, slots := 6, locals := 90 }
set_option maxRecDepth 100000 in
set_option maxHeartbeats 8000000 in
theorem c_X8_ledX {l : Launch} (hst : l.stackTraces = false) {E : (Nat → Prop) → State → Prop} (hO : bw_Ok E) {st : Nat} (hX : bw_Thr E st) {G : va_G} {cI cB cJ cN cW : ClassId} (b : Nat) (q : Nat → Nat) (t ld : Int) (hL : ld = 0 ∨ ld = 1) (ht : 0 ≤ t ∧ t ≤ 6) (qN : Nat → Nat) (nN : Int) (gN : Nat → Nat → Int) (hc_N : NetOk nN gN) (x : Int) (hx9 : zR x) (sz : Nat) : vx_Met l yX8_led (bw_ws (Cond.code yX8_led cX8_led 3 (some .int))) rm_X8_ledX (va_Pc [.ref b, .int (zI x)] (bw_PB E G (bw_kt cI cB cJ cN cW) [(b, .inr (8, [.int (zI t), .int (zI ld), .ref (q 0), .ref (q 1), .ref (q 2), .ref (q 3), .ref (q 4), .ref (q 5), .ref (q 6), .ref (q 7), .ref (q 8), .ref (q 9), .ref (q 10), .ref (q 11)])), ((q 2), .inr (2, [.int (zI nN), .ref (qN 0), .ref (qN 1), .ref (qN 2), .ref (qN 3), .ref (qN 4), .ref (qN 5), .ref (qN 6), .ref (qN 7)])), ((qN 0), .inl (cI, 10, .inl (fun k => zI ((gN 0) k)))), ((qN 1), .inl (cI, 10, .inl (fun k => zI ((gN 1) k)))), ((qN 2), .inl (cI, 10, .inl (fun k => zI ((gN 2) k)))), ((qN 3), .inl (cI, 40, .inl (fun k => zI ((gN 3) k)))), ((qN 4), .inl (cI, 40, .inl (fun k => zI ((gN 4) k)))), ((qN 5), .inl (cI, 40, .inl (fun k => zI ((gN 5) k)))), ((qN 6), .inl (cI, 20, .inl (fun k => zI ((gN 6) k)))), ((qN 7), .inl (cI, 20, .inl (fun k => zI ((gN 7) k))))] sz)) (va_Qi (fun (r : Int32) (_ : Unit) => ∃ w : Int, r = zI w ∧ 0 ≤ w ∧ TdL (fun k => gN 0 k ≠ -1) nN x w) (fun _ t9 => bw_QB G (va_A [(b, .inr (8, [.int (zI t), .int (zI ld), .ref (q 0), .ref (q 1), .ref (q 2), .ref (q 3), .ref (q 4), .ref (q 5), .ref (q 6), .ref (q 7), .ref (q 8), .ref (q 9), .ref (q 10), .ref (q 11)])), ((q 2), .inr (2, [.int (zI nN), .ref (qN 0), .ref (qN 1), .ref (qN 2), .ref (qN 3), .ref (qN 4), .ref (qN 5), .ref (qN 6), .ref (qN 7)])), ((qN 0), .inl (cI, 10, .inl (fun k => zI ((gN 0) k)))), ((qN 1), .inl (cI, 10, .inl (fun k => zI ((gN 1) k)))), ((qN 2), .inl (cI, 10, .inl (fun k => zI ((gN 2) k)))), ((qN 3), .inl (cI, 40, .inl (fun k => zI ((gN 3) k)))), ((qN 4), .inl (cI, 40, .inl (fun k => zI ((gN 4) k)))), ((qN 5), .inl (cI, 40, .inl (fun k => zI ((gN 5) k)))), ((qN 6), .inl (cI, 20, .inl (fun k => zI ((gN 6) k)))), ((qN 7), .inl (cI, 20, .inl (fun k => zI ((gN 7) k))))] sz) [(b, .inr (8, [.int (zI t), .int (zI ld), .ref (q 0), .ref (q 1), .ref (q 2), .ref (q 3), .ref (q 4), .ref (q 5), .ref (q 6), .ref (q 7), .ref (q 8), .ref (q 9), .ref (q 10), .ref (q 11)])), ((q 2), .inr (2, [.int (zI nN), .ref (qN 0), .ref (qN 1), .ref (qN 2), .ref (qN 3), .ref (qN 4), .ref (qN 5), .ref (qN 6), .ref (qN 7)])), ((qN 0), .inl (cI, 10, .inl (fun k => zI ((gN 0) k)))), ((qN 1), .inl (cI, 10, .inl (fun k => zI ((gN 1) k)))), ((qN 2), .inl (cI, 10, .inl (fun k => zI ((gN 2) k)))), ((qN 3), .inl (cI, 40, .inl (fun k => zI ((gN 3) k)))), ((qN 4), .inl (cI, 40, .inl (fun k => zI ((gN 4) k)))), ((qN 5), .inl (cI, 40, .inl (fun k => zI ((gN 5) k)))), ((qN 6), .inl (cI, 20, .inl (fun k => zI ((gN 6) k)))), ((qN 7), .inl (cI, 20, .inl (fun k => zI ((gN 7) k))))] t9) (va_A [(b, .inr (8, [.int (zI t), .int (zI ld), .ref (q 0), .ref (q 1), .ref (q 2), .ref (q 3), .ref (q 4), .ref (q 5), .ref (q 6), .ref (q 7), .ref (q 8), .ref (q 9), .ref (q 10), .ref (q 11)])), ((q 2), .inr (2, [.int (zI nN), .ref (qN 0), .ref (qN 1), .ref (qN 2), .ref (qN 3), .ref (qN 4), .ref (qN 5), .ref (qN 6), .ref (qN 7)])), ((qN 0), .inl (cI, 10, .inl (fun k => zI ((gN 0) k)))), ((qN 1), .inl (cI, 10, .inl (fun k => zI ((gN 1) k)))), ((qN 2), .inl (cI, 10, .inl (fun k => zI ((gN 2) k)))), ((qN 3), .inl (cI, 40, .inl (fun k => zI ((gN 3) k)))), ((qN 4), .inl (cI, 40, .inl (fun k => zI ((gN 4) k)))), ((qN 5), .inl (cI, 40, .inl (fun k => zI ((gN 5) k)))), ((qN 6), .inl (cI, 20, .inl (fun k => zI ((gN 6) k)))), ((qN 7), .inl (cI, 20, .inl (fun k => zI ((gN 7) k))))] sz)) (vx_X (fun _ : Unit => TdL (fun k => gN 0 k ≠ -1) nN x (-1)) (fun E9 _ t9 => E9 = "java/util/NoSuchElementException" ∧ bw_QB G (va_A [(b, .inr (8, [.int (zI t), .int (zI ld), .ref (q 0), .ref (q 1), .ref (q 2), .ref (q 3), .ref (q 4), .ref (q 5), .ref (q 6), .ref (q 7), .ref (q 8), .ref (q 9), .ref (q 10), .ref (q 11)])), ((q 2), .inr (2, [.int (zI nN), .ref (qN 0), .ref (qN 1), .ref (qN 2), .ref (qN 3), .ref (qN 4), .ref (qN 5), .ref (qN 6), .ref (qN 7)])), ((qN 0), .inl (cI, 10, .inl (fun k => zI ((gN 0) k)))), ((qN 1), .inl (cI, 10, .inl (fun k => zI ((gN 1) k)))), ((qN 2), .inl (cI, 10, .inl (fun k => zI ((gN 2) k)))), ((qN 3), .inl (cI, 40, .inl (fun k => zI ((gN 3) k)))), ((qN 4), .inl (cI, 40, .inl (fun k => zI ((gN 4) k)))), ((qN 5), .inl (cI, 40, .inl (fun k => zI ((gN 5) k)))), ((qN 6), .inl (cI, 20, .inl (fun k => zI ((gN 6) k)))), ((qN 7), .inl (cI, 20, .inl (fun k => zI ((gN 7) k))))] sz) [(b, .inr (8, [.int (zI t), .int (zI ld), .ref (q 0), .ref (q 1), .ref (q 2), .ref (q 3), .ref (q 4), .ref (q 5), .ref (q 6), .ref (q 7), .ref (q 8), .ref (q 9), .ref (q 10), .ref (q 11)])), ((q 2), .inr (2, [.int (zI nN), .ref (qN 0), .ref (qN 1), .ref (qN 2), .ref (qN 3), .ref (qN 4), .ref (qN 5), .ref (qN 6), .ref (qN 7)])), ((qN 0), .inl (cI, 10, .inl (fun k => zI ((gN 0) k)))), ((qN 1), .inl (cI, 10, .inl (fun k => zI ((gN 1) k)))), ((qN 2), .inl (cI, 10, .inl (fun k => zI ((gN 2) k)))), ((qN 3), .inl (cI, 40, .inl (fun k => zI ((gN 3) k)))), ((qN 4), .inl (cI, 40, .inl (fun k => zI ((gN 4) k)))), ((qN 5), .inl (cI, 40, .inl (fun k => zI ((gN 5) k)))), ((qN 6), .inl (cI, 20, .inl (fun k => zI ((gN 6) k)))), ((qN 7), .inl (cI, 20, .inl (fun k => zI ((gN 7) k))))] t9) (va_A [(b, .inr (8, [.int (zI t), .int (zI ld), .ref (q 0), .ref (q 1), .ref (q 2), .ref (q 3), .ref (q 4), .ref (q 5), .ref (q 6), .ref (q 7), .ref (q 8), .ref (q 9), .ref (q 10), .ref (q 11)])), ((q 2), .inr (2, [.int (zI nN), .ref (qN 0), .ref (qN 1), .ref (qN 2), .ref (qN 3), .ref (qN 4), .ref (qN 5), .ref (qN 6), .ref (qN 7)])), ((qN 0), .inl (cI, 10, .inl (fun k => zI ((gN 0) k)))), ((qN 1), .inl (cI, 10, .inl (fun k => zI ((gN 1) k)))), ((qN 2), .inl (cI, 10, .inl (fun k => zI ((gN 2) k)))), ((qN 3), .inl (cI, 40, .inl (fun k => zI ((gN 3) k)))), ((qN 4), .inl (cI, 40, .inl (fun k => zI ((gN 4) k)))), ((qN 5), .inl (cI, 40, .inl (fun k => zI ((gN 5) k)))), ((qN 6), .inl (cI, 20, .inl (fun k => zI ((gN 6) k)))), ((qN 7), .inl (cI, 20, .inl (fun k => zI ((gN 7) k))))] sz)) rm_X8_ledX.cells rm_X8_ledX.slots (va_A [(b, .inr (8, [.int (zI t), .int (zI ld), .ref (q 0), .ref (q 1), .ref (q 2), .ref (q 3), .ref (q 4), .ref (q 5), .ref (q 6), .ref (q 7), .ref (q 8), .ref (q 9), .ref (q 10), .ref (q 11)])), ((q 2), .inr (2, [.int (zI nN), .ref (qN 0), .ref (qN 1), .ref (qN 2), .ref (qN 3), .ref (qN 4), .ref (qN 5), .ref (qN 6), .ref (qN 7)])), ((qN 0), .inl (cI, 10, .inl (fun k => zI ((gN 0) k)))), ((qN 1), .inl (cI, 10, .inl (fun k => zI ((gN 1) k)))), ((qN 2), .inl (cI, 10, .inl (fun k => zI ((gN 2) k)))), ((qN 3), .inl (cI, 40, .inl (fun k => zI ((gN 3) k)))), ((qN 4), .inl (cI, 40, .inl (fun k => zI ((gN 4) k)))), ((qN 5), .inl (cI, 40, .inl (fun k => zI ((gN 5) k)))), ((qN 6), .inl (cI, 20, .inl (fun k => zI ((gN 6) k)))), ((qN 7), .inl (cI, 20, .inl (fun k => zI ((gN 7) k))))] sz) := by
  refine vx_ofW (cc := cX8_led) (maxL := 3) (ret := some .int) (by decide) rfl ?_
  intro p e s m args below meth c s₁ B hml htab hv
  obtain ⟨rfl, hsz, hP, hK, hD0, hE⟩ := hv
  have hx := B.exec
  have hb := B.bytes
  have hr := B.returns
  have hts := atoms_spec (ws := bw_ws (Cond.code yX8_led cX8_led 3 (some .int))) B.pre
  have hown : s.vm.findClass RX8 = some m.cls := findClass_of_methodNamed B.named
  have hlocks := B.notSynchronized
  subst hsz
  have hD := hD0.self (sz := s.heap.size)
  generalize hAe : va_A [(b, .inr (8, [.int (zI t), .int (zI ld), .ref (q 0), .ref (q 1), .ref (q 2), .ref (q 3), .ref (q 4), .ref (q 5), .ref (q 6), .ref (q 7), .ref (q 8), .ref (q 9), .ref (q 10), .ref (q 11)])), ((q 2), .inr (2, [.int (zI nN), .ref (qN 0), .ref (qN 1), .ref (qN 2), .ref (qN 3), .ref (qN 4), .ref (qN 5), .ref (qN 6), .ref (qN 7)])), ((qN 0), .inl (cI, 10, .inl (fun k => zI ((gN 0) k)))), ((qN 1), .inl (cI, 10, .inl (fun k => zI ((gN 1) k)))), ((qN 2), .inl (cI, 10, .inl (fun k => zI ((gN 2) k)))), ((qN 3), .inl (cI, 40, .inl (fun k => zI ((gN 3) k)))), ((qN 4), .inl (cI, 40, .inl (fun k => zI ((gN 4) k)))), ((qN 5), .inl (cI, 40, .inl (fun k => zI ((gN 5) k)))), ((qN 6), .inl (cI, 20, .inl (fun k => zI ((gN 6) k)))), ((qN 7), .inl (cI, 20, .inl (fun k => zI ((gN 7) k))))] s.heap.size = A at hD hE ⊢
  have hA : ∀ q : Nat, s.heap.size ≤ q → A q := fun q h => by rw [← hAe]; exact Or.inr h
  have hS : va_S A s.heap s.heap [] := va_S.rf
  have hl := lv_entry ([.ref b, .int (zI x)]) (n := 3) (Nat.le_of_ble_eq_true rfl)
  rw [lg_entry_eq]
  generalize (lg_sl ([.ref b, .int (zI x)]) ++ List.replicate (3 - (lg_sl ([.ref b, .int (zI x)])).length) Slot.unset).toArray = ls at hl ⊢
  have hl : lv_has ls 3 [(0, .ref b), (1, .int (zI x))] := hl
  have F : CallFix p m c cX8_led 3 s ([.ref b, .int (zI x)] : List Value).toArray bw_T RX8 := ⟨hx, hb, hml, hown, fun w h => hts w (List.mem_cons_of_mem _ h)⟩
  have hf1 := hc_N.1
  refine lv_aload_n hx hb dX8_led_0 rfl (lv_at hl 0 rfl) ?_
  refine r_get F hK hP 0 4 rfl rfl in_X8 (by decide) k_499 rfl dX8_led_1 ?_
  refine lv_iload_n hx hb dX8_led_4 rfl (lv_at hl 1 rfl) ?_
  refine r_callVi (As := [.int (zI x)]) (rest := []) (wr := [(b, .inr (8, [.int (zI t), .int (zI ld), .ref (q 0), .ref (q 1), .ref (q 2), .ref (q 3), .ref (q 4), .ref (q 5), .ref (q 6), .ref (q 7), .ref (q 8), .ref (q 9), .ref (q 10), .ref (q 11)]))]) F hK hP hD hS hA hO hE (c_X2z_toldLine hO (q 2) qN nN gN hc_N x (by omega)) k_1088 kv_X2_toldLine 1 rfl (by decide +kernel) ⟨Nat.le_of_ble_eq_true rfl, Nat.le_of_ble_eq_true rfl⟩ [1, 2, 3, 4, 5, 6, 7, 8, 9] [0] rfl rfl (by decide) (by decide) (by decide) 0 2 rfl rfl rfl hl.1 rfl (Nat.le_of_ble_eq_true rfl) dX8_led_5 ⟨Nat.le_of_ble_eq_true rfl, Nat.le_of_ble_eq_true rfl⟩ (w1 := fun u2 => [(b, .inr (8, [.int (zI t), .int (zI ld), .ref (q 0), .ref (q 1), .ref (q 2), .ref (q 3), .ref (q 4), .ref (q 5), .ref (q 6), .ref (q 7), .ref (q 8), .ref (q 9), .ref (q 10), .ref (q 11)])), ((q 2), .inr (2, [.int (zI nN), .ref (qN 0), .ref (qN 1), .ref (qN 2), .ref (qN 3), .ref (qN 4), .ref (qN 5), .ref (qN 6), .ref (qN 7)])), ((qN 0), .inl (cI, 10, .inl (fun k => zI ((gN 0) k)))), ((qN 1), .inl (cI, 10, .inl (fun k => zI ((gN 1) k)))), ((qN 2), .inl (cI, 10, .inl (fun k => zI ((gN 2) k)))), ((qN 3), .inl (cI, 40, .inl (fun k => zI ((gN 3) k)))), ((qN 4), .inl (cI, 40, .inl (fun k => zI ((gN 4) k)))), ((qN 5), .inl (cI, 40, .inl (fun k => zI ((gN 5) k)))), ((qN 6), .inl (cI, 20, .inl (fun k => zI ((gN 6) k)))), ((qN 7), .inl (cI, 20, .inl (fun k => zI ((gN 7) k))))]) (fun _ => rfl) (fun r3 u2 H locs hp4 hP hD hS => ?_)
  obtain ⟨z5, rfl, h_z5⟩ := hp4
  have htl9 := h_z5
  have htl8 := h_z5.1
  refine lv_istore_n (lv' := [(2, .int (zI z5)), (0, .ref b), (1, .int (zI x))]) hx hb dX8_led_8 rfl hl (by decide) rfl (fun ls hl => ?_)
  refine lv_iload_n hx hb dX8_led_9 rfl (lv_at hl 0 rfl) ?_
  refine lv_iconst (v := zI (-1)) hx hb dX8_led_10 rfl ?_
  refine rz_icmp_ne (tgt := 25) F (by omega) (by omega) dX8_led_11 (by decide) (fun h11_5 => ?_) (fun h11_5 => ?_)
  · refine lv_iload_n hx hb dX8_led_25 rfl (lv_at hl 0 rfl) ?_
    have hPw : va_P G vwCl [(b, .inr (8, [.int (zI t), .int (zI ld), .ref (q 0), .ref (q 1), .ref (q 2), .ref (q 3), .ref (q 4), .ref (q 5), .ref (q 6), .ref (q 7), .ref (q 8), .ref (q 9), .ref (q 10), .ref (q 11)])), ((q 2), .inr (2, [.int (zI nN), .ref (qN 0), .ref (qN 1), .ref (qN 2), .ref (qN 3), .ref (qN 4), .ref (qN 5), .ref (qN 6), .ref (qN 7)])), ((qN 0), .inl (cI, 10, .inl (fun k => zI ((gN 0) k)))), ((qN 1), .inl (cI, 10, .inl (fun k => zI ((gN 1) k)))), ((qN 2), .inl (cI, 10, .inl (fun k => zI ((gN 2) k)))), ((qN 3), .inl (cI, 40, .inl (fun k => zI ((gN 3) k)))), ((qN 4), .inl (cI, 40, .inl (fun k => zI ((gN 4) k)))), ((qN 5), .inl (cI, 40, .inl (fun k => zI ((gN 5) k)))), ((qN 6), .inl (cI, 20, .inl (fun k => zI ((gN 6) k)))), ((qN 7), .inl (cI, 20, .inl (fun k => zI ((gN 7) k))))] H := bw_subP (isC := [0, 1, 2, 3, 4, 5, 6, 7, 8, 9]) hP rfl
    have hDw : va_D A [(b, .inr (8, [.int (zI t), .int (zI ld), .ref (q 0), .ref (q 1), .ref (q 2), .ref (q 3), .ref (q 4), .ref (q 5), .ref (q 6), .ref (q 7), .ref (q 8), .ref (q 9), .ref (q 10), .ref (q 11)])), ((q 2), .inr (2, [.int (zI nN), .ref (qN 0), .ref (qN 1), .ref (qN 2), .ref (qN 3), .ref (qN 4), .ref (qN 5), .ref (qN 6), .ref (qN 7)])), ((qN 0), .inl (cI, 10, .inl (fun k => zI ((gN 0) k)))), ((qN 1), .inl (cI, 10, .inl (fun k => zI ((gN 1) k)))), ((qN 2), .inl (cI, 10, .inl (fun k => zI ((gN 2) k)))), ((qN 3), .inl (cI, 40, .inl (fun k => zI ((gN 3) k)))), ((qN 4), .inl (cI, 40, .inl (fun k => zI ((gN 4) k)))), ((qN 5), .inl (cI, 40, .inl (fun k => zI ((gN 5) k)))), ((qN 6), .inl (cI, 20, .inl (fun k => zI ((gN 6) k)))), ((qN 7), .inl (cI, 20, .inl (fun k => zI ((gN 7) k))))] := hD.sub [0, 1, 2, 3, 4, 5, 6, 7, 8, 9] (by decide) rfl
    refine vx_ret ?_
    refine W.widen (k := rm_X8_ledX.cells) (n := rm_X8_ledX.slots) (Nat.le_of_ble_eq_true rfl) (Nat.le_of_ble_eq_true rfl) ?_
    exact W.zret hx hb hr rfl (fun t ht hW => ⟨⟨zI z5, (), rfl, ⟨z5, rfl, by omega, htl9.2⟩, by rw [ht]; exact hPw, hDw⟩, hS.F ht⟩) hS.2.2 dX8_led_26 hlocks
  · have hPw : va_P G vwCl [(b, .inr (8, [.int (zI t), .int (zI ld), .ref (q 0), .ref (q 1), .ref (q 2), .ref (q 3), .ref (q 4), .ref (q 5), .ref (q 6), .ref (q 7), .ref (q 8), .ref (q 9), .ref (q 10), .ref (q 11)])), ((q 2), .inr (2, [.int (zI nN), .ref (qN 0), .ref (qN 1), .ref (qN 2), .ref (qN 3), .ref (qN 4), .ref (qN 5), .ref (qN 6), .ref (qN 7)])), ((qN 0), .inl (cI, 10, .inl (fun k => zI ((gN 0) k)))), ((qN 1), .inl (cI, 10, .inl (fun k => zI ((gN 1) k)))), ((qN 2), .inl (cI, 10, .inl (fun k => zI ((gN 2) k)))), ((qN 3), .inl (cI, 40, .inl (fun k => zI ((gN 3) k)))), ((qN 4), .inl (cI, 40, .inl (fun k => zI ((gN 4) k)))), ((qN 5), .inl (cI, 40, .inl (fun k => zI ((gN 5) k)))), ((qN 6), .inl (cI, 20, .inl (fun k => zI ((gN 6) k)))), ((qN 7), .inl (cI, 20, .inl (fun k => zI ((gN 7) k))))] H := bw_subP (isC := [0, 1, 2, 3, 4, 5, 6, 7, 8, 9]) hP rfl
    have hDw : va_D A [(b, .inr (8, [.int (zI t), .int (zI ld), .ref (q 0), .ref (q 1), .ref (q 2), .ref (q 3), .ref (q 4), .ref (q 5), .ref (q 6), .ref (q 7), .ref (q 8), .ref (q 9), .ref (q 10), .ref (q 11)])), ((q 2), .inr (2, [.int (zI nN), .ref (qN 0), .ref (qN 1), .ref (qN 2), .ref (qN 3), .ref (qN 4), .ref (qN 5), .ref (qN 6), .ref (qN 7)])), ((qN 0), .inl (cI, 10, .inl (fun k => zI ((gN 0) k)))), ((qN 1), .inl (cI, 10, .inl (fun k => zI ((gN 1) k)))), ((qN 2), .inl (cI, 10, .inl (fun k => zI ((gN 2) k)))), ((qN 3), .inl (cI, 40, .inl (fun k => zI ((gN 3) k)))), ((qN 4), .inl (cI, 40, .inl (fun k => zI ((gN 4) k)))), ((qN 5), .inl (cI, 40, .inl (fun k => zI ((gN 5) k)))), ((qN 6), .inl (cI, 20, .inl (fun k => zI ((gN 6) k)))), ((qN 7), .inl (cI, 20, .inl (fun k => zI ((gN 7) k))))] := hD.sub [0, 1, 2, 3, 4, 5, 6, 7, 8, 9] (by decide) rfl
    exact bx_throw (A := A) (sa := st) hx hb hst hown (F.2.2.2.2 _ k_1092) (F.2.2.2.2 _ k_114) (hX _ _ hE).1 (bw_at_all hX hE F.2.2.2.2) (hX _ _ hE).2.1 (hX _ _ hE).2.2.1 hS (hl.1.trans hml.symm) dX8_led_14 dX8_led_17 dX8_led_18 dX8_led_21 dX8_led_24 (fun z hz => (htab z hz).elim) (Nat.le_of_ble_eq_true rfl) (Nat.le_of_ble_eq_true rfl) (Nat.le_of_ble_eq_true rfl) (Nat.le_of_ble_eq_true rfl) hlocks (fun t _ h1 h2 => ⟨(), (by have q9 := htl9.2; rwa [show z5 = -1 by omega] at q9), ⟨rfl, va_P.kept hPw (fun k q hk => h2 q.1 (hPw k q hk).lt), hDw⟩, Nat.le_trans hS.1 h1, fun z hz hn => (h2 z (Nat.lt_of_lt_of_le hz hS.1)).trans (hS.2.1 z hz hn)⟩) hS.2.2 (Nat.le_of_ble_eq_true rfl) (Nat.le_of_ble_eq_true rfl)
abbrev rm_L_ledX : Room := { frames := 8, cells := 1, slots := 6, locals := 112 }
set_option maxRecDepth 100000 in
set_option maxHeartbeats 8000000 in
theorem c_L_ledX {l : Launch} (hst : l.stackTraces = false) {E : (Nat → Prop) → State → Prop} (hO : bw_Ok E) {st : Nat} (hX : bw_Thr E st) {G : va_G} {cI cB cJ cN cW : ClassId} (b : Nat) (q : Nat → Nat) (t ld : Int) (hL : ld = 0 ∨ ld = 1) (ht : 0 ≤ t ∧ t ≤ 6) (qN : Nat → Nat) (nN : Int) (gN : Nat → Nat → Int) (hc_N : NetOk nN gN) (x : Int) (hx9 : zR x) (o : Nat) (go : Nat → Int) : bw_Ci (S := zU) l yL_led (bw_ws (Cond.codeWith yL_led cL_led 4 (some .int) [(0, 9, 12, 13)])) rm_L_ledX E G (bw_kt cI cB cJ cN cW) [.ref b, .int (zI x), .ref o] [(b, .inr (8, [.int (zI t), .int (zI ld), .ref (q 0), .ref (q 1), .ref (q 2), .ref (q 3), .ref (q 4), .ref (q 5), .ref (q 6), .ref (q 7), .ref (q 8), .ref (q 9), .ref (q 10), .ref (q 11)])), ((q 2), .inr (2, [.int (zI nN), .ref (qN 0), .ref (qN 1), .ref (qN 2), .ref (qN 3), .ref (qN 4), .ref (qN 5), .ref (qN 6), .ref (qN 7)])), ((qN 0), .inl (cI, 10, .inl (fun k => zI ((gN 0) k)))), ((qN 1), .inl (cI, 10, .inl (fun k => zI ((gN 1) k)))), ((qN 2), .inl (cI, 10, .inl (fun k => zI ((gN 2) k)))), ((qN 3), .inl (cI, 40, .inl (fun k => zI ((gN 3) k)))), ((qN 4), .inl (cI, 40, .inl (fun k => zI ((gN 4) k)))), ((qN 5), .inl (cI, 40, .inl (fun k => zI ((gN 5) k)))), ((qN 6), .inl (cI, 20, .inl (fun k => zI ((gN 6) k)))), ((qN 7), .inl (cI, 20, .inl (fun k => zI ((gN 7) k)))), (o, .inl (cJ, 1, .inr (.inl (fun k => zL (go k)))))] (fun r u => ∃ z : Int, r = zI z ∧ ((z = 1 ∧ TdL (fun k => gN 0 k ≠ -1) nN x (-1)) ∨ (z = 0 ∧ 0 ≤ (u.2 0) 0 ∧ TdL (fun k => gN 0 k ≠ -1) nN x ((u.2 0) 0)))) (fun u => [(b, .inr (8, [.int (zI t), .int (zI ld), .ref (q 0), .ref (q 1), .ref (q 2), .ref (q 3), .ref (q 4), .ref (q 5), .ref (q 6), .ref (q 7), .ref (q 8), .ref (q 9), .ref (q 10), .ref (q 11)])), ((q 2), .inr (2, [.int (zI nN), .ref (qN 0), .ref (qN 1), .ref (qN 2), .ref (qN 3), .ref (qN 4), .ref (qN 5), .ref (qN 6), .ref (qN 7)])), ((qN 0), .inl (cI, 10, .inl (fun k => zI ((gN 0) k)))), ((qN 1), .inl (cI, 10, .inl (fun k => zI ((gN 1) k)))), ((qN 2), .inl (cI, 10, .inl (fun k => zI ((gN 2) k)))), ((qN 3), .inl (cI, 40, .inl (fun k => zI ((gN 3) k)))), ((qN 4), .inl (cI, 40, .inl (fun k => zI ((gN 4) k)))), ((qN 5), .inl (cI, 40, .inl (fun k => zI ((gN 5) k)))), ((qN 6), .inl (cI, 20, .inl (fun k => zI ((gN 6) k)))), ((qN 7), .inl (cI, 20, .inl (fun k => zI ((gN 7) k)))), (o, .inl (cJ, 1, .inr (.inl (fun k => zL ((u.2 0) k)))))]) := by
  intro sz
  refine va_MetW (cc := cL_led) (maxL := 4) (ret := some .int) (hh := [(0, 9, 12, 13)]) (by decide) rfl ?_
  intro p e s m args below meth c s₁ B hml hv
  obtain ⟨rfl, hsz, hP, hK, hD0, hE⟩ := hv
  have hx := B.exec
  have hb := B.bytes
  have hr := B.returns
  have hts := atoms_spec (ws := bw_ws (Cond.codeWith yL_led cL_led 4 (some .int) [(0, 9, 12, 13)])) B.pre
  have hown : s.vm.findClass RL = some m.cls := findClass_of_methodNamed B.named
  have hlocks := B.notSynchronized
  have htab : c.exceptionTable.toList = tableOf [(0, 9, 12, 13)] := vx_table (x := yL_led) B (hts _ List.mem_cons_self)
  subst hsz
  have hD := hD0.self (sz := s.heap.size)
  generalize hAe : va_A [(b, .inr (8, [.int (zI t), .int (zI ld), .ref (q 0), .ref (q 1), .ref (q 2), .ref (q 3), .ref (q 4), .ref (q 5), .ref (q 6), .ref (q 7), .ref (q 8), .ref (q 9), .ref (q 10), .ref (q 11)])), ((q 2), .inr (2, [.int (zI nN), .ref (qN 0), .ref (qN 1), .ref (qN 2), .ref (qN 3), .ref (qN 4), .ref (qN 5), .ref (qN 6), .ref (qN 7)])), ((qN 0), .inl (cI, 10, .inl (fun k => zI ((gN 0) k)))), ((qN 1), .inl (cI, 10, .inl (fun k => zI ((gN 1) k)))), ((qN 2), .inl (cI, 10, .inl (fun k => zI ((gN 2) k)))), ((qN 3), .inl (cI, 40, .inl (fun k => zI ((gN 3) k)))), ((qN 4), .inl (cI, 40, .inl (fun k => zI ((gN 4) k)))), ((qN 5), .inl (cI, 40, .inl (fun k => zI ((gN 5) k)))), ((qN 6), .inl (cI, 20, .inl (fun k => zI ((gN 6) k)))), ((qN 7), .inl (cI, 20, .inl (fun k => zI ((gN 7) k)))), (o, .inl (cJ, 1, .inr (.inl (fun k => zL (go k)))))] s.heap.size = A at hD hE ⊢
  have hA : ∀ q : Nat, s.heap.size ≤ q → A q := fun q h => by rw [← hAe]; exact Or.inr h
  have hS : va_S A s.heap s.heap [] := va_S.rf
  have hl := lv_entry ([.ref b, .int (zI x), .ref o]) (n := 4) (Nat.le_of_ble_eq_true rfl)
  rw [lg_entry_eq]
  generalize (lg_sl ([.ref b, .int (zI x), .ref o]) ++ List.replicate (4 - (lg_sl ([.ref b, .int (zI x), .ref o])).length) Slot.unset).toArray = ls at hl ⊢
  have hl : lv_has ls 4 [(0, .ref b), (1, .int (zI x)), (2, .ref o)] := hl
  have F : CallFix p m c cL_led 4 s ([.ref b, .int (zI x), .ref o] : List Value).toArray bw_T RL := ⟨hx, hb, hml, hown, fun w h => hts w (List.mem_cons_of_mem _ h)⟩
  refine lv_aload_n hx hb dL_led_0 rfl (lv_at hl 2 rfl) ?_
  refine lv_iconst (v := zI 0) hx hb dL_led_1 rfl ?_
  refine lv_aload_n hx hb dL_led_2 rfl (lv_at hl 0 rfl) ?_
  refine lv_iload_n hx hb dL_led_3 rfl (lv_at hl 1 rfl) ?_
  have hPc : va_P G vwCl [(b, .inr (8, [.int (zI t), .int (zI ld), .ref (q 0), .ref (q 1), .ref (q 2), .ref (q 3), .ref (q 4), .ref (q 5), .ref (q 6), .ref (q 7), .ref (q 8), .ref (q 9), .ref (q 10), .ref (q 11)])), ((q 2), .inr (2, [.int (zI nN), .ref (qN 0), .ref (qN 1), .ref (qN 2), .ref (qN 3), .ref (qN 4), .ref (qN 5), .ref (qN 6), .ref (qN 7)])), ((qN 0), .inl (cI, 10, .inl (fun k => zI ((gN 0) k)))), ((qN 1), .inl (cI, 10, .inl (fun k => zI ((gN 1) k)))), ((qN 2), .inl (cI, 10, .inl (fun k => zI ((gN 2) k)))), ((qN 3), .inl (cI, 40, .inl (fun k => zI ((gN 3) k)))), ((qN 4), .inl (cI, 40, .inl (fun k => zI ((gN 4) k)))), ((qN 5), .inl (cI, 40, .inl (fun k => zI ((gN 5) k)))), ((qN 6), .inl (cI, 20, .inl (fun k => zI ((gN 6) k)))), ((qN 7), .inl (cI, 20, .inl (fun k => zI ((gN 7) k))))] s.heap := bw_subP (isC := [0, 1, 2, 3, 4, 5, 6, 7, 8, 9]) hP rfl
  have hDc : va_D A [(b, .inr (8, [.int (zI t), .int (zI ld), .ref (q 0), .ref (q 1), .ref (q 2), .ref (q 3), .ref (q 4), .ref (q 5), .ref (q 6), .ref (q 7), .ref (q 8), .ref (q 9), .ref (q 10), .ref (q 11)])), ((q 2), .inr (2, [.int (zI nN), .ref (qN 0), .ref (qN 1), .ref (qN 2), .ref (qN 3), .ref (qN 4), .ref (qN 5), .ref (qN 6), .ref (qN 7)])), ((qN 0), .inl (cI, 10, .inl (fun k => zI ((gN 0) k)))), ((qN 1), .inl (cI, 10, .inl (fun k => zI ((gN 1) k)))), ((qN 2), .inl (cI, 10, .inl (fun k => zI ((gN 2) k)))), ((qN 3), .inl (cI, 40, .inl (fun k => zI ((gN 3) k)))), ((qN 4), .inl (cI, 40, .inl (fun k => zI ((gN 4) k)))), ((qN 5), .inl (cI, 40, .inl (fun k => zI ((gN 5) k)))), ((qN 6), .inl (cI, 20, .inl (fun k => zI ((gN 6) k)))), ((qN 7), .inl (cI, 20, .inl (fun k => zI ((gN 7) k))))] := hD.sub [0, 1, 2, 3, 4, 5, 6, 7, 8, 9] (by decide) rfl
  have hF := va_free (wc := [(b, .inr (8, [.int (zI t), .int (zI ld), .ref (q 0), .ref (q 1), .ref (q 2), .ref (q 3), .ref (q 4), .ref (q 5), .ref (q 6), .ref (q 7), .ref (q 8), .ref (q 9), .ref (q 10), .ref (q 11)])), ((q 2), .inr (2, [.int (zI nN), .ref (qN 0), .ref (qN 1), .ref (qN 2), .ref (qN 3), .ref (qN 4), .ref (qN 5), .ref (qN 6), .ref (qN 7)])), ((qN 0), .inl (cI, 10, .inl (fun k => zI ((gN 0) k)))), ((qN 1), .inl (cI, 10, .inl (fun k => zI ((gN 1) k)))), ((qN 2), .inl (cI, 10, .inl (fun k => zI ((gN 2) k)))), ((qN 3), .inl (cI, 40, .inl (fun k => zI ((gN 3) k)))), ((qN 4), .inl (cI, 40, .inl (fun k => zI ((gN 4) k)))), ((qN 5), .inl (cI, 40, .inl (fun k => zI ((gN 5) k)))), ((qN 6), .inl (cI, 20, .inl (fun k => zI ((gN 6) k)))), ((qN 7), .inl (cI, 20, .inl (fun k => zI ((gN 7) k))))]) hD hS hA [0, 1, 2, 3, 4, 5, 6, 7, 8, 9] rfl
  have hp := bw_Cv.hp (av := [.ref b, .int (zI x)]) hO.1 hK hPc hDc (fun U hU hW => hO.2 A _ s U s.heap [] hE hS hF hU hW)
  refine vx_calli (vx_runV (As := [.int (zI x)]) (rest := [.int (zI 0), .ref o]) F (c_X8_ledX hst hO hX b q t ld hL ht qN nN gN hc_N x hx9 s.heap.size) (cwV 1 F.2.2.2.2 (bw_gV k_1084 kv_X8_led) rfl rfl rfl (by decide +kernel) ⟨Nat.le_of_ble_eq_true rfl, Nat.le_of_ble_eq_true rfl⟩) ⟨hp.1, va_recv hK hPc (ci := 8) (q0 := 0) rfl rfl, hp.2⟩ rfl rfl hl.1 rfl (lv_room (Nat.le_of_ble_eq_true rfl)) dL_led_4 ⟨Nat.le_of_ble_eq_true rfl, Nat.le_of_ble_eq_true rfl⟩) hS (fun q _ h => hF q h) hF (fun q _ h => hF q h) (fun E9 ce q9 u t9 H locs ht9 hvm hpo hB hz hk1 hS hce hcv hcl => ?_) (fun r u t9 H locs ht9 hvm hpo hB hz hk1 hS => ?_)
  · obtain ⟨hE9, hB1, hB2⟩ := hB
    subst hE9
    rw [ht9] at hB1
    obtain ⟨hP, hD⟩ := va_join (wr := [(o, .inl (cJ, 1, .inr (.inl (fun k => zL (go k)))))]) (w1 := [(b, .inr (8, [.int (zI t), .int (zI ld), .ref (q 0), .ref (q 1), .ref (q 2), .ref (q 3), .ref (q 4), .ref (q 5), .ref (q 6), .ref (q 7), .ref (q 8), .ref (q 9), .ref (q 10), .ref (q 11)])), ((q 2), .inr (2, [.int (zI nN), .ref (qN 0), .ref (qN 1), .ref (qN 2), .ref (qN 3), .ref (qN 4), .ref (qN 5), .ref (qN 6), .ref (qN 7)])), ((qN 0), .inl (cI, 10, .inl (fun k => zI ((gN 0) k)))), ((qN 1), .inl (cI, 10, .inl (fun k => zI ((gN 1) k)))), ((qN 2), .inl (cI, 10, .inl (fun k => zI ((gN 2) k)))), ((qN 3), .inl (cI, 40, .inl (fun k => zI ((gN 3) k)))), ((qN 4), .inl (cI, 40, .inl (fun k => zI ((gN 4) k)))), ((qN 5), .inl (cI, 40, .inl (fun k => zI ((gN 5) k)))), ((qN 6), .inl (cI, 20, .inl (fun k => zI ((gN 6) k)))), ((qN 7), .inl (cI, 20, .inl (fun k => zI ((gN 7) k))))]) hP hD [0, 1, 2, 3, 4, 5, 6, 7, 8, 9] [10] rfl rfl (by decide) (by decide) hk1 hF hB1 hB2
    refine bx_catch (x := ⟨0, 9, 12, 13⟩) hown htab (by decide) (by decide) (F.2.2.2.2 _ k_1083) (va_Nw.use (bw_B_face _ bw_B_cast).1 ((hX _ _ hE).2.2.2 _ bw_B_cast)) hce hcv hcl ?_
    refine lv_astore_n (lv' := [(3, .ref q9), (0, .ref b), (1, .int (zI x)), (2, .ref o)]) hx hb dL_led_12 rfl hl (by decide) rfl (fun ls hl => ?_)
    refine lv_iconst (v := zI 1) hx hb dL_led_13 rfl ?_
    refine W.widen (k := rm_L_ledX.cells) (n := rm_L_ledX.slots) (Nat.le_of_ble_eq_true rfl) (Nat.le_of_ble_eq_true rfl) ?_
    exact W.zret hx hb hr rfl (fun t8 ht8 hW => ⟨⟨zI 1, (fun _ => 0, fun _ => go), rfl, ⟨1, rfl, Or.inl ⟨rfl, hpo⟩⟩, by rw [ht8]; exact bw_subP (isC := [1, 2, 3, 4, 5, 6, 7, 8, 9, 10, 0]) hP rfl, hD.sub [1, 2, 3, 4, 5, 6, 7, 8, 9, 10, 0] (by decide) rfl⟩, hS.F ht8⟩) hS.2.2 dL_led_14 hlocks
  · obtain ⟨hB1, hB2⟩ := hB
    rw [ht9] at hB1
    obtain ⟨hP, hD⟩ := va_join (wr := [(o, .inl (cJ, 1, .inr (.inl (fun k => zL (go k)))))]) (w1 := [(b, .inr (8, [.int (zI t), .int (zI ld), .ref (q 0), .ref (q 1), .ref (q 2), .ref (q 3), .ref (q 4), .ref (q 5), .ref (q 6), .ref (q 7), .ref (q 8), .ref (q 9), .ref (q 10), .ref (q 11)])), ((q 2), .inr (2, [.int (zI nN), .ref (qN 0), .ref (qN 1), .ref (qN 2), .ref (qN 3), .ref (qN 4), .ref (qN 5), .ref (qN 6), .ref (qN 7)])), ((qN 0), .inl (cI, 10, .inl (fun k => zI ((gN 0) k)))), ((qN 1), .inl (cI, 10, .inl (fun k => zI ((gN 1) k)))), ((qN 2), .inl (cI, 10, .inl (fun k => zI ((gN 2) k)))), ((qN 3), .inl (cI, 40, .inl (fun k => zI ((gN 3) k)))), ((qN 4), .inl (cI, 40, .inl (fun k => zI ((gN 4) k)))), ((qN 5), .inl (cI, 40, .inl (fun k => zI ((gN 5) k)))), ((qN 6), .inl (cI, 20, .inl (fun k => zI ((gN 6) k)))), ((qN 7), .inl (cI, 20, .inl (fun k => zI ((gN 7) k))))]) hP hD [0, 1, 2, 3, 4, 5, 6, 7, 8, 9] [10] rfl rfl (by decide) (by decide) hk1 hF hB1 hB2
    obtain ⟨w9, rfl, hw0, hw9⟩ := hpo
    refine lv_i2l hx hb dL_led_7 rfl ?_
    refine rz_eqL (z := w9) (zI_toL (by have q9 := hw9.rg; have q8 := hc_N.1; omega)) ?_
    refine rz_lastG F hK hP hD hS 0 2 rfl rfl (by omega) (by omega) dL_led_8 (w1 := fun g9 => [(o, .inl (cJ, 1, .inr (.inl (fun k => zL (g9 k))))), (b, .inr (8, [.int (zI t), .int (zI ld), .ref (q 0), .ref (q 1), .ref (q 2), .ref (q 3), .ref (q 4), .ref (q 5), .ref (q 6), .ref (q 7), .ref (q 8), .ref (q 9), .ref (q 10), .ref (q 11)])), ((q 2), .inr (2, [.int (zI nN), .ref (qN 0), .ref (qN 1), .ref (qN 2), .ref (qN 3), .ref (qN 4), .ref (qN 5), .ref (qN 6), .ref (qN 7)])), ((qN 0), .inl (cI, 10, .inl (fun k => zI ((gN 0) k)))), ((qN 1), .inl (cI, 10, .inl (fun k => zI ((gN 1) k)))), ((qN 2), .inl (cI, 10, .inl (fun k => zI ((gN 2) k)))), ((qN 3), .inl (cI, 40, .inl (fun k => zI ((gN 3) k)))), ((qN 4), .inl (cI, 40, .inl (fun k => zI ((gN 4) k)))), ((qN 5), .inl (cI, 40, .inl (fun k => zI ((gN 5) k)))), ((qN 6), .inl (cI, 20, .inl (fun k => zI ((gN 6) k)))), ((qN 7), .inl (cI, 20, .inl (fun k => zI ((gN 7) k))))]) (fun _ => rfl) (fun g9 e_g9 H locs hP hD hS => ?_)
    refine lv_goto (tgt := 15) hx hb dL_led_9 (by decide) ?_
    refine lv_iconst (v := zI 0) hx hb dL_led_15 rfl ?_
    refine W.widen (k := rm_L_ledX.cells) (n := rm_L_ledX.slots) (Nat.le_of_ble_eq_true rfl) (Nat.le_of_ble_eq_true rfl) ?_
    exact W.zret hx hb hr rfl (fun t8 ht8 hW => ⟨⟨zI 0, (fun _ => 0, fun _ => g9), rfl, ⟨0, rfl, Or.inr (have hg9 : g9 0 = w9 := (by rw [e_g9]; simp [uZ]); ⟨rfl, (show 0 ≤ g9 0 by omega), (show TdL (fun k => gN 0 k ≠ -1) nN x (g9 0) by rw [hg9]; exact hw9)⟩)⟩, by rw [ht8]; exact bw_subP (isC := [1, 2, 3, 4, 5, 6, 7, 8, 9, 10, 0]) hP rfl, hD.sub [1, 2, 3, 4, 5, 6, 7, 8, 9, 10, 0] (by decide) rfl⟩, hS.F ht8⟩) hS.2.2 dL_led_16 hlocks
abbrev rm_X9_ledX : Room := { frames := 1, cells := 0, slots := 0, locals := 21 }
set_option maxRecDepth 100000 in
set_option maxHeartbeats 8000000 in
theorem c_X9_ledX {l : Launch} {E : (Nat → Prop) → State → Prop} (hO : bw_Ok E) {G : va_G} {cI cB cJ cN cW : ClassId} (y : Nat) (q : Nat → Nat) (i : Nat → Int) (hM : ModOk i) (g_now : Nat → Int) (x : Int) (hx9 : zR x) (hpn : ProgOk g_now) : bw_Ci (S := zV) l yX9_led (bw_ws (Cond.code yX9_led cX9_led 4 (some .int))) rm_X9_ledX E G (bw_kt cI cB cJ cN cW) [.ref y, .int (zI x)] [(y, .inr (9, [.int (zI (i 0)), .ref (q 0), .int (zI (i 1)), .int (zI (i 2)), .int (zI (i 3)), .int (zI (i 4)), .int (zI (i 5)), .int (zI (i 6)), .int (zI (i 7)), .int (zI (i 8)), .int (zI (i 9)), .int (zI (i 10)), .ref (q 1), .int (zI (i 11)), .int (zI (i 12)), .ref (q 2), .ref (q 3), .ref (q 4), .ref (q 5), .ref (q 6), .ref (q 7), .ref (q 8), .ref (q 9), .ref (q 10), .ref (q 11), .ref (q 12), .ref (q 13), .ref (q 14), .ref (q 15), .ref (q 16), .int (zI (i 13)), .int (zI (i 14)), .int (zI (i 15)), .int (zI (i 16)), .int (zI (i 17)), .int (zI (i 18)), .ref (q 17), .ref (q 18), .ref (q 19), .ref (q 20)])), ((q 3), .inl (cI, 200, .inl (fun k => zI (g_now k))))] (fun r u => ∃ z : Int, r = zI z ∧ (ModOk (u 0).1) ∧ ((((u 0).1 1 = i 1 ∧ (u 0).1 8 = i 8 ∧ (u 0).1 9 = i 9 ∧ (u 0).1 12 = i 12 ∧ (u 0).1 13 = i 13 ∧ (u 0).1 15 = i 15 ∧ (u 0).1 17 = i 17 ∧ (u 0).1 10 = i 10)) ∧ (((u 0).1 0 = 1 ∧ (i 12 = 1 → TdL (fun k => g_now (20 * k) = 1) (i 13) x (-1))) ∨ ((u 0).1 0 = 0 ∧ 0 ≤ z ∧ i 12 = 1 ∧ TdL (fun k => g_now (20 * k) = 1) (i 13) x z)))) (fun u => [(y, .inr (9, [.int (zI ((u 0).1 0)), .ref (q 0), .int (zI ((u 0).1 1)), .int (zI ((u 0).1 2)), .int (zI ((u 0).1 3)), .int (zI ((u 0).1 4)), .int (zI ((u 0).1 5)), .int (zI ((u 0).1 6)), .int (zI ((u 0).1 7)), .int (zI ((u 0).1 8)), .int (zI ((u 0).1 9)), .int (zI ((u 0).1 10)), .ref (q 1), .int (zI ((u 0).1 11)), .int (zI ((u 0).1 12)), .ref (q 2), .ref (q 3), .ref (q 4), .ref (q 5), .ref (q 6), .ref (q 7), .ref (q 8), .ref (q 9), .ref (q 10), .ref (q 11), .ref (q 12), .ref (q 13), .ref (q 14), .ref (q 15), .ref (q 16), .int (zI ((u 0).1 13)), .int (zI ((u 0).1 14)), .int (zI ((u 0).1 15)), .int (zI ((u 0).1 16)), .int (zI ((u 0).1 17)), .int (zI ((u 0).1 18)), .ref (q 17), .ref (q 18), .ref (q 19), .ref (q 20)])), ((q 3), .inl (cI, 200, .inl (fun k => zI (g_now k))))]) := by
  refine bw_Ci.of (cc := cX9_led) (maxL := 4) (ty := .int) (by decide) rfl (Nat.le_of_ble_eq_true rfl) ?_
  intro p e s m below meth c A Q hx hb hml hts hown hin hK hA hS hP hD hE ret ls hl
  have F : CallFix p m c cX9_led 4 s ([.ref y, .int (zI x)] : List Value).toArray bw_T RX9 := ⟨hx, hb, hml, hown, fun w h => hts w (List.mem_cons_of_mem _ h)⟩
  replace hl : lv_has ls 4 [(0, .ref y), (1, .int (zI x))] := hl
  have hf1 := hM.1
  refine lv_iconst (v := zI 0) hx hb dX9_led_0 rfl ?_
  refine lv_istore_n (lv' := [(2, .int (zI 0)), (0, .ref y), (1, .int (zI x))]) hx hb dX9_led_1 rfl hl (by decide) rfl (fun ls hl => ?_)
  refine lv_iconst (v := zI 0) hx hb dX9_led_2 rfl ?_
  refine lv_istore_n (lv' := [(3, .int (zI 0)), (2, .int (zI 0)), (0, .ref y), (1, .int (zI x))]) hx hb dX9_led_3 rfl hl (by decide) rfl (fun ls hl => ?_)
  refine W.widen (k := 0) (n := 0) (Nat.le_of_ble_eq_true rfl) (Nat.le_of_ble_eq_true rfl) ?_
  refine (?_ : ∀ (n9_1 : Nat) (v2 : Int) (v3 : Int) (H : Heap) (locs : List Loc), (0 ≤ v3 ∧ v3 ≤ 10 ∧ 0 ≤ v2 ∧ v2 ≤ v3) → (10 - v3 : Int).toNat < n9_1 → (TdI (fun k => g_now (20 * k) = 1) x v2 v3) → va_P G vwCl [(y, .inr (9, [.int (zI (i 0)), .ref (q 0), .int (zI (i 1)), .int (zI (i 2)), .int (zI (i 3)), .int (zI (i 4)), .int (zI (i 5)), .int (zI (i 6)), .int (zI (i 7)), .int (zI (i 8)), .int (zI (i 9)), .int (zI (i 10)), .ref (q 1), .int (zI (i 11)), .int (zI (i 12)), .ref (q 2), .ref (q 3), .ref (q 4), .ref (q 5), .ref (q 6), .ref (q 7), .ref (q 8), .ref (q 9), .ref (q 10), .ref (q 11), .ref (q 12), .ref (q 13), .ref (q 14), .ref (q 15), .ref (q 16), .int (zI (i 13)), .int (zI (i 14)), .int (zI (i 15)), .int (zI (i 16)), .int (zI (i 17)), .int (zI (i 18)), .ref (q 17), .ref (q 18), .ref (q 19), .ref (q 20)])), ((q 3), .inl (cI, 200, .inl (fun k => zI (g_now k))))] H → va_D A [(y, .inr (9, [.int (zI (i 0)), .ref (q 0), .int (zI (i 1)), .int (zI (i 2)), .int (zI (i 3)), .int (zI (i 4)), .int (zI (i 5)), .int (zI (i 6)), .int (zI (i 7)), .int (zI (i 8)), .int (zI (i 9)), .int (zI (i 10)), .ref (q 1), .int (zI (i 11)), .int (zI (i 12)), .ref (q 2), .ref (q 3), .ref (q 4), .ref (q 5), .ref (q 6), .ref (q 7), .ref (q 8), .ref (q 9), .ref (q 10), .ref (q 11), .ref (q 12), .ref (q 13), .ref (q 14), .ref (q 15), .ref (q 16), .int (zI (i 13)), .int (zI (i 14)), .int (zI (i 15)), .int (zI (i 16)), .int (zI (i 17)), .int (zI (i 18)), .ref (q 17), .ref (q 18), .ref (q 19), .ref (q 20)])), ((q 3), .inl (cI, 200, .inl (fun k => zI (g_now k))))] → va_S A s.heap H locs → ∀ ls : Array Slot, lv_has ls 4 [(3, .int (zI v3)), (2, .int (zI v2)), (0, .ref y), (1, .int (zI x))] → W p l e rm_X9_ledX s m ([.ref y, .int (zI x)] : List Value).toArray below meth c H locs 0 0 Q (F0 m 4 ls [])) ((10 - 0 : Int).toNat + 1) 0 0 _ _ (by omega) (by omega) TdI.zero hP hD hS ls hl
  clear hP hD hS hl ls
  intro n9_1
  induction n9_1 with
  | zero =>
    intro v2 v3 H locs hI hM
    exact absurd hM (by omega)
  | succ n9_1 ih1 =>
    intro v2 v3 H locs hI1 hM1 htd hP hD hS ls hl
    refine lv_aload_n hx hb dX9_led_4 rfl (lv_at hl 2 rfl) ?_
    refine r_get F hK hP 0 14 rfl rfl in_X9 (by decide) k_1177 rfl dX9_led_5 ?_
    refine rz_ifb_eq (tgt := 54) F (by omega) dX9_led_8 (by decide) (fun h8_1 => ?_) (fun h8_1 => ?_)
    · refine lv_aload_n hx hb dX9_led_54 rfl (lv_at hl 2 rfl) ?_
      refine lv_iconst (v := zI 1) hx hb dX9_led_55 rfl ?_
      refine r_put F hK hP hD hS 0 0 rfl rfl in_X9 tyX9 tyX9_ok nmX9 (by decide) k_1163 rfl rfl rfl (Nat.le_of_ble_eq_true rfl) dX9_led_56 (w1 := [(y, .inr (9, [.int (zI 1), .ref (q 0), .int (zI (i 1)), .int (zI (i 2)), .int (zI (i 3)), .int (zI (i 4)), .int (zI (i 5)), .int (zI (i 6)), .int (zI (i 7)), .int (zI (i 8)), .int (zI (i 9)), .int (zI (i 10)), .ref (q 1), .int (zI (i 11)), .int (zI (i 12)), .ref (q 2), .ref (q 3), .ref (q 4), .ref (q 5), .ref (q 6), .ref (q 7), .ref (q 8), .ref (q 9), .ref (q 10), .ref (q 11), .ref (q 12), .ref (q 13), .ref (q 14), .ref (q 15), .ref (q 16), .int (zI (i 13)), .int (zI (i 14)), .int (zI (i 15)), .int (zI (i 16)), .int (zI (i 17)), .int (zI (i 18)), .ref (q 17), .ref (q 18), .ref (q 19), .ref (q 20)])), ((q 3), .inl (cI, 200, .inl (fun k => zI (g_now k))))]) rfl (fun H locs hP hD hS => ?_)
      refine lv_iconst (v := zI 0) hx hb dX9_led_59 rfl ?_
      obtain ⟨i3, e_i3⟩ : ∃ i3 : Nat → Int, i3 = fun k => [1, (i 1), (i 2), (i 3), (i 4), (i 5), (i 6), (i 7), (i 8), (i 9), (i 10), (i 11), (i 12), (i 13), (i 14), (i 15), (i 16), (i 17), (i 18)].getD k 0 := ⟨_, rfl⟩
      have e_i3_0 : i3 0 = 1 := congrFun e_i3 0
      have e_i3_1 : i3 1 = (i 1) := congrFun e_i3 1
      have e_i3_2 : i3 2 = (i 2) := congrFun e_i3 2
      have e_i3_3 : i3 3 = (i 3) := congrFun e_i3 3
      have e_i3_4 : i3 4 = (i 4) := congrFun e_i3 4
      have e_i3_5 : i3 5 = (i 5) := congrFun e_i3 5
      have e_i3_6 : i3 6 = (i 6) := congrFun e_i3 6
      have e_i3_7 : i3 7 = (i 7) := congrFun e_i3 7
      have e_i3_8 : i3 8 = (i 8) := congrFun e_i3 8
      have e_i3_9 : i3 9 = (i 9) := congrFun e_i3 9
      have e_i3_10 : i3 10 = (i 10) := congrFun e_i3 10
      have e_i3_11 : i3 11 = (i 11) := congrFun e_i3 11
      have e_i3_12 : i3 12 = (i 12) := congrFun e_i3 12
      have e_i3_13 : i3 13 = (i 13) := congrFun e_i3 13
      have e_i3_14 : i3 14 = (i 14) := congrFun e_i3 14
      have e_i3_15 : i3 15 = (i 15) := congrFun e_i3 15
      have e_i3_16 : i3 16 = (i 16) := congrFun e_i3 16
      have e_i3_17 : i3 17 = (i 17) := congrFun e_i3 17
      have e_i3_18 : i3 18 = (i 18) := congrFun e_i3 18
      have hO4 : ModOk i3 := ⟨⟨⟨(by rw [e_i3_11]; exact hM.1.1.1), (by rw [e_i3_14]; exact hM.1.1.2.1), (by rw [e_i3_16]; exact hM.1.1.2.2.1), (by rw [e_i3_7]; exact hM.1.1.2.2.2.1), (by rw [e_i3_5]; exact hM.1.1.2.2.2.2)⟩, ⟨(by rw [e_i3_1]; exact hM.1.2.1.1), (by rw [e_i3_2]; exact hM.1.2.1.2.1), (by rw [e_i3_3]; exact hM.1.2.1.2.2.1), (by rw [e_i3_4]; exact hM.1.2.1.2.2.2.1), (by rw [e_i3_6]; exact hM.1.2.1.2.2.2.2.1), (by rw [e_i3_10]; exact hM.1.2.1.2.2.2.2.2)⟩, ⟨(by rw [e_i3_12]; exact hM.1.2.2.1), (by rw [e_i3_13]; exact hM.1.2.2.2.1), (by rw [e_i3_15]; exact hM.1.2.2.2.2.1), (by rw [e_i3_17]; exact hM.1.2.2.2.2.2)⟩⟩, fun q5 => by rw [e_i3_7]; exact hM.2 (by rw [← e_i3_5]; exact q5)⟩
      have hf5 := hO4.1
      have hP : va_P G vwCl [(y, .inr (9, [.int (zI (i3 0)), .ref (q 0), .int (zI (i3 1)), .int (zI (i3 2)), .int (zI (i3 3)), .int (zI (i3 4)), .int (zI (i3 5)), .int (zI (i3 6)), .int (zI (i3 7)), .int (zI (i3 8)), .int (zI (i3 9)), .int (zI (i3 10)), .ref (q 1), .int (zI (i3 11)), .int (zI (i3 12)), .ref (q 2), .ref (q 3), .ref (q 4), .ref (q 5), .ref (q 6), .ref (q 7), .ref (q 8), .ref (q 9), .ref (q 10), .ref (q 11), .ref (q 12), .ref (q 13), .ref (q 14), .ref (q 15), .ref (q 16), .int (zI (i3 13)), .int (zI (i3 14)), .int (zI (i3 15)), .int (zI (i3 16)), .int (zI (i3 17)), .int (zI (i3 18)), .ref (q 17), .ref (q 18), .ref (q 19), .ref (q 20)])), ((q 3), .inl (cI, 200, .inl (fun k => zI (g_now k))))] H := by subst e_i3; exact hP
      have hD : va_D A [(y, .inr (9, [.int (zI (i3 0)), .ref (q 0), .int (zI (i3 1)), .int (zI (i3 2)), .int (zI (i3 3)), .int (zI (i3 4)), .int (zI (i3 5)), .int (zI (i3 6)), .int (zI (i3 7)), .int (zI (i3 8)), .int (zI (i3 9)), .int (zI (i3 10)), .ref (q 1), .int (zI (i3 11)), .int (zI (i3 12)), .ref (q 2), .ref (q 3), .ref (q 4), .ref (q 5), .ref (q 6), .ref (q 7), .ref (q 8), .ref (q 9), .ref (q 10), .ref (q 11), .ref (q 12), .ref (q 13), .ref (q 14), .ref (q 15), .ref (q 16), .int (zI (i3 13)), .int (zI (i3 14)), .int (zI (i3 15)), .int (zI (i3 16)), .int (zI (i3 17)), .int (zI (i3 18)), .ref (q 17), .ref (q 18), .ref (q 19), .ref (q 20)])), ((q 3), .inl (cI, 200, .inl (fun k => zI (g_now k))))] := by subst e_i3; exact hD
      exact ret (zI 0) (fun k => [(i3, fun _ _ => 0)].getD k (fun _ => 0, fun _ _ => 0)) _ _ _ _ _ _ rfl ⟨0, rfl, hO4, ⟨(show i3 1 = i 1 ∧ i3 8 = i 8 ∧ i3 9 = i 9 ∧ i3 12 = i 12 ∧ i3 13 = i 13 ∧ i3 15 = i 15 ∧ i3 17 = i 17 ∧ i3 10 = i 10 from by omega), (show (i3 0 = 1 ∧ (i 12 = 1 → TdL (fun k => g_now (20 * k) = 1) (i 13) x (-1))) ∨ (i3 0 = 0 ∧ 0 ≤ (0 : Int) ∧ i 12 = 1 ∧ TdL (fun k => g_now (20 * k) = 1) (i 13) x (0 : Int)) from Or.inl ⟨by omega, fun q9 => htd.none (by omega)⟩)⟩⟩ (bw_subP (isC := [0, 1]) hP rfl) (hD.sub [0, 1] (by decide) rfl) hS (Nat.le_of_ble_eq_true rfl) (Nat.le_of_ble_eq_true rfl) dX9_led_60
    · refine lv_iload_n hx hb dX9_led_11 rfl (lv_at hl 0 rfl) ?_
      refine lv_aload_n hx hb dX9_led_12 rfl (lv_at hl 2 rfl) ?_
      refine r_get F hK hP 0 30 rfl rfl in_X9 (by decide) k_1193 rfl dX9_led_13 ?_
      refine rz_icmp_ge (tgt := 54) F (by omega) (by omega) dX9_led_16 (by decide) (fun h16_5 => ?_) (fun h16_5 => ?_)
      · refine lv_aload_n hx hb dX9_led_54 rfl (lv_at hl 2 rfl) ?_
        refine lv_iconst (v := zI 1) hx hb dX9_led_55 rfl ?_
        refine r_put F hK hP hD hS 0 0 rfl rfl in_X9 tyX9 tyX9_ok nmX9 (by decide) k_1163 rfl rfl rfl (Nat.le_of_ble_eq_true rfl) dX9_led_56 (w1 := [(y, .inr (9, [.int (zI 1), .ref (q 0), .int (zI (i 1)), .int (zI (i 2)), .int (zI (i 3)), .int (zI (i 4)), .int (zI (i 5)), .int (zI (i 6)), .int (zI (i 7)), .int (zI (i 8)), .int (zI (i 9)), .int (zI (i 10)), .ref (q 1), .int (zI (i 11)), .int (zI (i 12)), .ref (q 2), .ref (q 3), .ref (q 4), .ref (q 5), .ref (q 6), .ref (q 7), .ref (q 8), .ref (q 9), .ref (q 10), .ref (q 11), .ref (q 12), .ref (q 13), .ref (q 14), .ref (q 15), .ref (q 16), .int (zI (i 13)), .int (zI (i 14)), .int (zI (i 15)), .int (zI (i 16)), .int (zI (i 17)), .int (zI (i 18)), .ref (q 17), .ref (q 18), .ref (q 19), .ref (q 20)])), ((q 3), .inl (cI, 200, .inl (fun k => zI (g_now k))))]) rfl (fun H locs hP hD hS => ?_)
        refine lv_iconst (v := zI 0) hx hb dX9_led_59 rfl ?_
        obtain ⟨i7, e_i7⟩ : ∃ i7 : Nat → Int, i7 = fun k => [1, (i 1), (i 2), (i 3), (i 4), (i 5), (i 6), (i 7), (i 8), (i 9), (i 10), (i 11), (i 12), (i 13), (i 14), (i 15), (i 16), (i 17), (i 18)].getD k 0 := ⟨_, rfl⟩
        have e_i7_0 : i7 0 = 1 := congrFun e_i7 0
        have e_i7_1 : i7 1 = (i 1) := congrFun e_i7 1
        have e_i7_2 : i7 2 = (i 2) := congrFun e_i7 2
        have e_i7_3 : i7 3 = (i 3) := congrFun e_i7 3
        have e_i7_4 : i7 4 = (i 4) := congrFun e_i7 4
        have e_i7_5 : i7 5 = (i 5) := congrFun e_i7 5
        have e_i7_6 : i7 6 = (i 6) := congrFun e_i7 6
        have e_i7_7 : i7 7 = (i 7) := congrFun e_i7 7
        have e_i7_8 : i7 8 = (i 8) := congrFun e_i7 8
        have e_i7_9 : i7 9 = (i 9) := congrFun e_i7 9
        have e_i7_10 : i7 10 = (i 10) := congrFun e_i7 10
        have e_i7_11 : i7 11 = (i 11) := congrFun e_i7 11
        have e_i7_12 : i7 12 = (i 12) := congrFun e_i7 12
        have e_i7_13 : i7 13 = (i 13) := congrFun e_i7 13
        have e_i7_14 : i7 14 = (i 14) := congrFun e_i7 14
        have e_i7_15 : i7 15 = (i 15) := congrFun e_i7 15
        have e_i7_16 : i7 16 = (i 16) := congrFun e_i7 16
        have e_i7_17 : i7 17 = (i 17) := congrFun e_i7 17
        have e_i7_18 : i7 18 = (i 18) := congrFun e_i7 18
        have hO8 : ModOk i7 := ⟨⟨⟨(by rw [e_i7_11]; exact hM.1.1.1), (by rw [e_i7_14]; exact hM.1.1.2.1), (by rw [e_i7_16]; exact hM.1.1.2.2.1), (by rw [e_i7_7]; exact hM.1.1.2.2.2.1), (by rw [e_i7_5]; exact hM.1.1.2.2.2.2)⟩, ⟨(by rw [e_i7_1]; exact hM.1.2.1.1), (by rw [e_i7_2]; exact hM.1.2.1.2.1), (by rw [e_i7_3]; exact hM.1.2.1.2.2.1), (by rw [e_i7_4]; exact hM.1.2.1.2.2.2.1), (by rw [e_i7_6]; exact hM.1.2.1.2.2.2.2.1), (by rw [e_i7_10]; exact hM.1.2.1.2.2.2.2.2)⟩, ⟨(by rw [e_i7_12]; exact hM.1.2.2.1), (by rw [e_i7_13]; exact hM.1.2.2.2.1), (by rw [e_i7_15]; exact hM.1.2.2.2.2.1), (by rw [e_i7_17]; exact hM.1.2.2.2.2.2)⟩⟩, fun q5 => by rw [e_i7_7]; exact hM.2 (by rw [← e_i7_5]; exact q5)⟩
        have hf9 := hO8.1
        have hP : va_P G vwCl [(y, .inr (9, [.int (zI (i7 0)), .ref (q 0), .int (zI (i7 1)), .int (zI (i7 2)), .int (zI (i7 3)), .int (zI (i7 4)), .int (zI (i7 5)), .int (zI (i7 6)), .int (zI (i7 7)), .int (zI (i7 8)), .int (zI (i7 9)), .int (zI (i7 10)), .ref (q 1), .int (zI (i7 11)), .int (zI (i7 12)), .ref (q 2), .ref (q 3), .ref (q 4), .ref (q 5), .ref (q 6), .ref (q 7), .ref (q 8), .ref (q 9), .ref (q 10), .ref (q 11), .ref (q 12), .ref (q 13), .ref (q 14), .ref (q 15), .ref (q 16), .int (zI (i7 13)), .int (zI (i7 14)), .int (zI (i7 15)), .int (zI (i7 16)), .int (zI (i7 17)), .int (zI (i7 18)), .ref (q 17), .ref (q 18), .ref (q 19), .ref (q 20)])), ((q 3), .inl (cI, 200, .inl (fun k => zI (g_now k))))] H := by subst e_i7; exact hP
        have hD : va_D A [(y, .inr (9, [.int (zI (i7 0)), .ref (q 0), .int (zI (i7 1)), .int (zI (i7 2)), .int (zI (i7 3)), .int (zI (i7 4)), .int (zI (i7 5)), .int (zI (i7 6)), .int (zI (i7 7)), .int (zI (i7 8)), .int (zI (i7 9)), .int (zI (i7 10)), .ref (q 1), .int (zI (i7 11)), .int (zI (i7 12)), .ref (q 2), .ref (q 3), .ref (q 4), .ref (q 5), .ref (q 6), .ref (q 7), .ref (q 8), .ref (q 9), .ref (q 10), .ref (q 11), .ref (q 12), .ref (q 13), .ref (q 14), .ref (q 15), .ref (q 16), .int (zI (i7 13)), .int (zI (i7 14)), .int (zI (i7 15)), .int (zI (i7 16)), .int (zI (i7 17)), .int (zI (i7 18)), .ref (q 17), .ref (q 18), .ref (q 19), .ref (q 20)])), ((q 3), .inl (cI, 200, .inl (fun k => zI (g_now k))))] := by subst e_i7; exact hD
        exact ret (zI 0) (fun k => [(i7, fun _ _ => 0)].getD k (fun _ => 0, fun _ _ => 0)) _ _ _ _ _ _ rfl ⟨0, rfl, hO8, ⟨(show i7 1 = i 1 ∧ i7 8 = i 8 ∧ i7 9 = i 9 ∧ i7 12 = i 12 ∧ i7 13 = i 13 ∧ i7 15 = i 15 ∧ i7 17 = i 17 ∧ i7 10 = i 10 from by omega), (show (i7 0 = 1 ∧ (i 12 = 1 → TdL (fun k => g_now (20 * k) = 1) (i 13) x (-1))) ∨ (i7 0 = 0 ∧ 0 ≤ (0 : Int) ∧ i 12 = 1 ∧ TdL (fun k => g_now (20 * k) = 1) (i 13) x (0 : Int)) from Or.inl ⟨by omega, fun q9 => htd.none (by omega)⟩)⟩⟩ (bw_subP (isC := [0, 1]) hP rfl) (hD.sub [0, 1] (by decide) rfl) hS (Nat.le_of_ble_eq_true rfl) (Nat.le_of_ble_eq_true rfl) dX9_led_60
      · refine lv_aload_n hx hb dX9_led_19 rfl (lv_at hl 2 rfl) ?_
        refine r_get F hK hP 0 16 rfl rfl in_X9 (by decide) k_1179 rfl dX9_led_20 ?_
        refine lv_iload_n hx hb dX9_led_23 rfl (lv_at hl 0 rfl) ?_
        refine r_callSi (As := [.ref (q 3), .int (zI v3)]) (rest := []) (wr := [(y, .inr (9, [.int (zI (i 0)), .ref (q 0), .int (zI (i 1)), .int (zI (i 2)), .int (zI (i 3)), .int (zI (i 4)), .int (zI (i 5)), .int (zI (i 6)), .int (zI (i 7)), .int (zI (i 8)), .int (zI (i 9)), .int (zI (i 10)), .ref (q 1), .int (zI (i 11)), .int (zI (i 12)), .ref (q 2), .ref (q 3), .ref (q 4), .ref (q 5), .ref (q 6), .ref (q 7), .ref (q 8), .ref (q 9), .ref (q 10), .ref (q 11), .ref (q 12), .ref (q 13), .ref (q 14), .ref (q 15), .ref (q 16), .int (zI (i 13)), .int (zI (i 14)), .int (zI (i 15)), .int (zI (i 16)), .int (zI (i 17)), .int (zI (i 18)), .ref (q 17), .ref (q 18), .ref (q 19), .ref (q 20)]))]) F hK hP hD hS hA hO hE (c_X9_isToldX hO (q 3) g_now v3 (by omega) hpn (by omega)) k_1424 ks_X9_isTold 2 rfl (by decide +kernel) ⟨Nat.le_of_ble_eq_true rfl, Nat.le_of_ble_eq_true rfl⟩ [1] [0] rfl rfl (by decide) (by decide) (by decide) hl.1 rfl (Nat.le_of_ble_eq_true rfl) dX9_led_24 ⟨Nat.le_of_ble_eq_true rfl, Nat.le_of_ble_eq_true rfl⟩ (w1 := fun u10 => [(y, .inr (9, [.int (zI (i 0)), .ref (q 0), .int (zI (i 1)), .int (zI (i 2)), .int (zI (i 3)), .int (zI (i 4)), .int (zI (i 5)), .int (zI (i 6)), .int (zI (i 7)), .int (zI (i 8)), .int (zI (i 9)), .int (zI (i 10)), .ref (q 1), .int (zI (i 11)), .int (zI (i 12)), .ref (q 2), .ref (q 3), .ref (q 4), .ref (q 5), .ref (q 6), .ref (q 7), .ref (q 8), .ref (q 9), .ref (q 10), .ref (q 11), .ref (q 12), .ref (q 13), .ref (q 14), .ref (q 15), .ref (q 16), .int (zI (i 13)), .int (zI (i 14)), .int (zI (i 15)), .int (zI (i 16)), .int (zI (i 17)), .int (zI (i 18)), .ref (q 17), .ref (q 18), .ref (q 19), .ref (q 20)])), ((q 3), .inl (cI, 200, .inl (fun k => zI (g_now k))))]) (fun _ => rfl) (fun r11 u10 H locs hp12 hP hD hS => ?_)
        obtain ⟨z13, rfl, h_z13⟩ := hp12
        have hit14 : (z13 = 1 → g_now (20 * v3 + 0).toNat = 1) ∧ (z13 = 0 → g_now (20 * v3 + 0).toNat ≠ 1) := ⟨h_z13.2.1, h_z13.2.2⟩
        have hc15 := h_z13.1
        refine rz_ifb_ne (tgt := 33) F (by omega) dX9_led_27 (by decide) (fun h27_15 => ?_) (fun h27_15 => ?_)
        · refine lv_iload_n hx hb dX9_led_33 rfl (lv_at hl 1 rfl) ?_
          refine lv_iload_n hx hb dX9_led_34 rfl (lv_at hl 3 rfl) ?_
          refine rz_icmp_ne (tgt := 45) F (by omega) (by omega) dX9_led_35 (by decide) (fun h35_16 => ?_) (fun h35_16 => ?_)
          · refine lv_iinc (v := zI (v2 + 1)) (lv' := [(2, .int (zI (v2 + 1))), (3, .int (zI v3)), (0, .ref y), (1, .int (zI x))]) hx hb dX9_led_45 hl (k := 1) rfl (zI_add _ _) (by decide) rfl (fun ls hl => ?_)
            refine lv_iinc (v := zI (v3 + 1)) (lv' := [(3, .int (zI (v3 + 1))), (2, .int (zI (v2 + 1))), (0, .ref y), (1, .int (zI x))]) hx hb dX9_led_48 hl (k := 1) rfl (zI_add _ _) (by decide) rfl (fun ls hl => ?_)
            refine lv_goto (tgt := 4) hx hb dX9_led_51 (by decide) ?_
            exact ih1 (v2 + 1) (v3 + 1) _ _ (by omega) (by omega) (htd.yes (by omega) (show (g_now (20 * (v3).toNat) = 1) by rw [show 20 * (v3).toNat = (20 * v3 + 0).toNat by omega]; omega) (by omega)) hP hD hS ls (lv_sub hl [0, 1, 2, 3] rfl)
          · refine lv_aload_n hx hb dX9_led_38 rfl (lv_at hl 2 rfl) ?_
            refine lv_iconst (v := zI 0) hx hb dX9_led_39 rfl ?_
            refine r_put F hK hP hD hS 0 0 rfl rfl in_X9 tyX9 tyX9_ok nmX9 (by decide) k_1163 rfl rfl rfl (Nat.le_of_ble_eq_true rfl) dX9_led_40 (w1 := [(y, .inr (9, [.int (zI 0), .ref (q 0), .int (zI (i 1)), .int (zI (i 2)), .int (zI (i 3)), .int (zI (i 4)), .int (zI (i 5)), .int (zI (i 6)), .int (zI (i 7)), .int (zI (i 8)), .int (zI (i 9)), .int (zI (i 10)), .ref (q 1), .int (zI (i 11)), .int (zI (i 12)), .ref (q 2), .ref (q 3), .ref (q 4), .ref (q 5), .ref (q 6), .ref (q 7), .ref (q 8), .ref (q 9), .ref (q 10), .ref (q 11), .ref (q 12), .ref (q 13), .ref (q 14), .ref (q 15), .ref (q 16), .int (zI (i 13)), .int (zI (i 14)), .int (zI (i 15)), .int (zI (i 16)), .int (zI (i 17)), .int (zI (i 18)), .ref (q 17), .ref (q 18), .ref (q 19), .ref (q 20)])), ((q 3), .inl (cI, 200, .inl (fun k => zI (g_now k))))]) rfl (fun H locs hP hD hS => ?_)
            refine lv_iload_n hx hb dX9_led_43 rfl (lv_at hl 0 rfl) ?_
            obtain ⟨i18, e_i18⟩ : ∃ i18 : Nat → Int, i18 = fun k => [0, (i 1), (i 2), (i 3), (i 4), (i 5), (i 6), (i 7), (i 8), (i 9), (i 10), (i 11), (i 12), (i 13), (i 14), (i 15), (i 16), (i 17), (i 18)].getD k 0 := ⟨_, rfl⟩
            have e_i18_0 : i18 0 = 0 := congrFun e_i18 0
            have e_i18_1 : i18 1 = (i 1) := congrFun e_i18 1
            have e_i18_2 : i18 2 = (i 2) := congrFun e_i18 2
            have e_i18_3 : i18 3 = (i 3) := congrFun e_i18 3
            have e_i18_4 : i18 4 = (i 4) := congrFun e_i18 4
            have e_i18_5 : i18 5 = (i 5) := congrFun e_i18 5
            have e_i18_6 : i18 6 = (i 6) := congrFun e_i18 6
            have e_i18_7 : i18 7 = (i 7) := congrFun e_i18 7
            have e_i18_8 : i18 8 = (i 8) := congrFun e_i18 8
            have e_i18_9 : i18 9 = (i 9) := congrFun e_i18 9
            have e_i18_10 : i18 10 = (i 10) := congrFun e_i18 10
            have e_i18_11 : i18 11 = (i 11) := congrFun e_i18 11
            have e_i18_12 : i18 12 = (i 12) := congrFun e_i18 12
            have e_i18_13 : i18 13 = (i 13) := congrFun e_i18 13
            have e_i18_14 : i18 14 = (i 14) := congrFun e_i18 14
            have e_i18_15 : i18 15 = (i 15) := congrFun e_i18 15
            have e_i18_16 : i18 16 = (i 16) := congrFun e_i18 16
            have e_i18_17 : i18 17 = (i 17) := congrFun e_i18 17
            have e_i18_18 : i18 18 = (i 18) := congrFun e_i18 18
            have hO19 : ModOk i18 := ⟨⟨⟨(by rw [e_i18_11]; exact hM.1.1.1), (by rw [e_i18_14]; exact hM.1.1.2.1), (by rw [e_i18_16]; exact hM.1.1.2.2.1), (by rw [e_i18_7]; exact hM.1.1.2.2.2.1), (by rw [e_i18_5]; exact hM.1.1.2.2.2.2)⟩, ⟨(by rw [e_i18_1]; exact hM.1.2.1.1), (by rw [e_i18_2]; exact hM.1.2.1.2.1), (by rw [e_i18_3]; exact hM.1.2.1.2.2.1), (by rw [e_i18_4]; exact hM.1.2.1.2.2.2.1), (by rw [e_i18_6]; exact hM.1.2.1.2.2.2.2.1), (by rw [e_i18_10]; exact hM.1.2.1.2.2.2.2.2)⟩, ⟨(by rw [e_i18_12]; exact hM.1.2.2.1), (by rw [e_i18_13]; exact hM.1.2.2.2.1), (by rw [e_i18_15]; exact hM.1.2.2.2.2.1), (by rw [e_i18_17]; exact hM.1.2.2.2.2.2)⟩⟩, fun q5 => by rw [e_i18_7]; exact hM.2 (by rw [← e_i18_5]; exact q5)⟩
            have hf20 := hO19.1
            have hP : va_P G vwCl [(y, .inr (9, [.int (zI (i18 0)), .ref (q 0), .int (zI (i18 1)), .int (zI (i18 2)), .int (zI (i18 3)), .int (zI (i18 4)), .int (zI (i18 5)), .int (zI (i18 6)), .int (zI (i18 7)), .int (zI (i18 8)), .int (zI (i18 9)), .int (zI (i18 10)), .ref (q 1), .int (zI (i18 11)), .int (zI (i18 12)), .ref (q 2), .ref (q 3), .ref (q 4), .ref (q 5), .ref (q 6), .ref (q 7), .ref (q 8), .ref (q 9), .ref (q 10), .ref (q 11), .ref (q 12), .ref (q 13), .ref (q 14), .ref (q 15), .ref (q 16), .int (zI (i18 13)), .int (zI (i18 14)), .int (zI (i18 15)), .int (zI (i18 16)), .int (zI (i18 17)), .int (zI (i18 18)), .ref (q 17), .ref (q 18), .ref (q 19), .ref (q 20)])), ((q 3), .inl (cI, 200, .inl (fun k => zI (g_now k))))] H := by subst e_i18; exact hP
            have hD : va_D A [(y, .inr (9, [.int (zI (i18 0)), .ref (q 0), .int (zI (i18 1)), .int (zI (i18 2)), .int (zI (i18 3)), .int (zI (i18 4)), .int (zI (i18 5)), .int (zI (i18 6)), .int (zI (i18 7)), .int (zI (i18 8)), .int (zI (i18 9)), .int (zI (i18 10)), .ref (q 1), .int (zI (i18 11)), .int (zI (i18 12)), .ref (q 2), .ref (q 3), .ref (q 4), .ref (q 5), .ref (q 6), .ref (q 7), .ref (q 8), .ref (q 9), .ref (q 10), .ref (q 11), .ref (q 12), .ref (q 13), .ref (q 14), .ref (q 15), .ref (q 16), .int (zI (i18 13)), .int (zI (i18 14)), .int (zI (i18 15)), .int (zI (i18 16)), .int (zI (i18 17)), .int (zI (i18 18)), .ref (q 17), .ref (q 18), .ref (q 19), .ref (q 20)])), ((q 3), .inl (cI, 200, .inl (fun k => zI (g_now k))))] := by subst e_i18; exact hD
            exact ret (zI v3) (fun k => [(i18, fun _ _ => 0)].getD k (fun _ => 0, fun _ _ => 0)) _ _ _ _ _ _ rfl ⟨v3, rfl, hO19, ⟨(show i18 1 = i 1 ∧ i18 8 = i 8 ∧ i18 9 = i 9 ∧ i18 12 = i 12 ∧ i18 13 = i 13 ∧ i18 15 = i 15 ∧ i18 17 = i 17 ∧ i18 10 = i 10 from by omega), (show (i18 0 = 1 ∧ (i 12 = 1 → TdL (fun k => g_now (20 * k) = 1) (i 13) x (-1))) ∨ (i18 0 = 0 ∧ 0 ≤ (v3 : Int) ∧ i 12 = 1 ∧ TdL (fun k => g_now (20 * k) = 1) (i 13) x (v3 : Int)) from Or.inr ⟨by omega, by omega, by omega, htd.found (by omega) (show (g_now (20 * (v3).toNat) = 1) by rw [show 20 * (v3).toNat = (20 * v3 + 0).toNat by omega]; omega) (by omega)⟩)⟩⟩ (bw_subP (isC := [0, 1]) hP rfl) (hD.sub [0, 1] (by decide) rfl) hS (Nat.le_of_ble_eq_true rfl) (Nat.le_of_ble_eq_true rfl) dX9_led_44
        · refine lv_goto (tgt := 48) hx hb dX9_led_30 (by decide) ?_
          refine lv_iinc (v := zI (v3 + 1)) (lv' := [(3, .int (zI (v3 + 1))), (2, .int (zI v2)), (0, .ref y), (1, .int (zI x))]) hx hb dX9_led_48 hl (k := 0) rfl (zI_add _ _) (by decide) rfl (fun ls hl => ?_)
          refine lv_goto (tgt := 4) hx hb dX9_led_51 (by decide) ?_
          exact ih1 v2 (v3 + 1) _ _ (by omega) (by omega) (htd.no (by omega) (show ¬ (g_now (20 * (v3).toNat) = 1) by rw [show 20 * (v3).toNat = (20 * v3 + 0).toNat by omega]; omega)) hP hD hS ls (lv_sub hl [0, 1, 2, 3] rfl)
abbrev rm_X9_thrownX : Room := { frames := 0, cells := 0, slots := 0, locals := 0 }
set_option maxRecDepth 100000 in
set_option maxHeartbeats 8000000 in
theorem c_X9_thrownX {l : Launch} {E : (Nat → Prop) → State → Prop} (hO : bw_Ok E) {G : va_G} {cI cB cJ cN cW : ClassId} (y : Nat) (q : Nat → Nat) (i : Nat → Int) (hM : ModOk i)  : bw_Ci (S := zV) l yX9_thrown (bw_ws (Cond.code yX9_thrown cX9_thrown 1 (some .int))) rm_X9_thrownX E G (bw_kt cI cB cJ cN cW) [.ref y] [(y, .inr (9, [.int (zI (i 0)), .ref (q 0), .int (zI (i 1)), .int (zI (i 2)), .int (zI (i 3)), .int (zI (i 4)), .int (zI (i 5)), .int (zI (i 6)), .int (zI (i 7)), .int (zI (i 8)), .int (zI (i 9)), .int (zI (i 10)), .ref (q 1), .int (zI (i 11)), .int (zI (i 12)), .ref (q 2), .ref (q 3), .ref (q 4), .ref (q 5), .ref (q 6), .ref (q 7), .ref (q 8), .ref (q 9), .ref (q 10), .ref (q 11), .ref (q 12), .ref (q 13), .ref (q 14), .ref (q 15), .ref (q 16), .int (zI (i 13)), .int (zI (i 14)), .int (zI (i 15)), .int (zI (i 16)), .int (zI (i 17)), .int (zI (i 18)), .ref (q 17), .ref (q 18), .ref (q 19), .ref (q 20)]))] (fun r u => ∃ z : Int, r = zI z ∧ (z = i 0)) (fun u => [(y, .inr (9, [.int (zI (i 0)), .ref (q 0), .int (zI (i 1)), .int (zI (i 2)), .int (zI (i 3)), .int (zI (i 4)), .int (zI (i 5)), .int (zI (i 6)), .int (zI (i 7)), .int (zI (i 8)), .int (zI (i 9)), .int (zI (i 10)), .ref (q 1), .int (zI (i 11)), .int (zI (i 12)), .ref (q 2), .ref (q 3), .ref (q 4), .ref (q 5), .ref (q 6), .ref (q 7), .ref (q 8), .ref (q 9), .ref (q 10), .ref (q 11), .ref (q 12), .ref (q 13), .ref (q 14), .ref (q 15), .ref (q 16), .int (zI (i 13)), .int (zI (i 14)), .int (zI (i 15)), .int (zI (i 16)), .int (zI (i 17)), .int (zI (i 18)), .ref (q 17), .ref (q 18), .ref (q 19), .ref (q 20)]))]) := by
  refine bw_Ci.of (cc := cX9_thrown) (maxL := 1) (ty := .int) (by decide) rfl (Nat.le_of_ble_eq_true rfl) ?_
  intro p e s m below meth c A Q hx hb hml hts hown hin hK hA hS hP hD hE ret ls hl
  have F : CallFix p m c cX9_thrown 1 s ([.ref y] : List Value).toArray bw_T RX9 := ⟨hx, hb, hml, hown, fun w h => hts w (List.mem_cons_of_mem _ h)⟩
  replace hl : lv_has ls 1 [(0, .ref y)] := hl
  have hf1 := hM.1
  refine lv_aload_n hx hb dX9_thrown_0 rfl (lv_at hl 0 rfl) ?_
  refine r_get F hK hP 0 0 rfl rfl in_X9 (by decide) k_1163 rfl dX9_thrown_1 ?_
  exact ret (zI (i 0)) (fun k => [((fun _ => 0), fun _ _ => 0)].getD k (fun _ => 0, fun _ _ => 0)) _ _ _ _ _ _ rfl ⟨(i 0), rfl, (show ((i 0) : Int) = i 0 from by omega)⟩ (bw_subP (isC := [0]) hP rfl) (hD.sub [0] (by decide) rfl) hS (Nat.le_of_ble_eq_true rfl) (Nat.le_of_ble_eq_true rfl) dX9_thrown_4
