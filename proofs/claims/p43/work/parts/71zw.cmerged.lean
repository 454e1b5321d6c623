theorem sameA_step {g : Nat → Nat → Int} {x y v : Int} (h : SameA g x y v) (e : g 3 (x * 4 + v).toNat = g 3 (y * 4 + v).toNat ∧ g 4 (x * 4 + v).toNat = g 4 (y * 4 + v).toNat ∧ g 5 (x * 4 + v).toNat = g 5 (y * 4 + v).toNat) : SameA g x y (v + 1) := fun j j0 hj => by
  by_cases c : j < v
  · exact h j j0 c
  · rw [show j = v by omega]
    exact e
theorem mrg7_step {go gg : Nat → Nat → Int} {f : Nat → Int} {x y v z : Int} (hv : 0 ≤ v ∧ v < 2) (hx : 0 ≤ x ∧ x < 10) (hy : 0 ≤ y ∧ y < 10) (hxy : x ≠ y) (h : ∀ l s : Nat, l < 10 → s < 2 → gg 7 (2 * l + s) = if (l : Int) = x ∧ (s : Int) < v then lessZ 9 (go 7 (2 * l + s) + go 7 (2 * y.toNat + s)) else go 7 (2 * l + s)) (e : f = uZ (gg 7) (2 * x + v).toNat z) (hz : z = lessZ 9 (gg 7 (2 * x + v).toNat + gg 7 (2 * y + v).toNat)) : ∀ l s : Nat, l < 10 → s < 2 → f (2 * l + s) = if (l : Int) = x ∧ (s : Int) < v + 1 then lessZ 9 (go 7 (2 * l + s) + go 7 (2 * y.toNat + s)) else go 7 (2 * l + s) := by
  intro l s hl hs
  have i1 : (2 * x + v).toNat = 2 * x.toNat + v.toNat := by omega
  have i2 : (2 * y + v).toNat = 2 * y.toNat + v.toNat := by omega
  rw [e, i1]
  rw [i1, i2] at hz
  have k1 := h x.toNat v.toNat (by omega) (by omega)
  have k2 := h y.toNat v.toNat (by omega) (by omega)
  rw [if_neg (by omega)] at k1 k2
  by_cases c : (l : Int) = x ∧ (s : Int) = v
  · obtain ⟨c1, c2⟩ := c
    have e1 : x.toNat = l := by omega
    have e2 : v.toNat = s := by omega
    rw [e1, e2] at k1
    rw [e2] at k2
    rw [e1, e2] at hz
    rw [e1, e2, uZ_eq, if_pos ⟨c1, by omega⟩, hz, k1, k2]
  · rw [uZ_nk _ _ (show ¬ 2 * l + s = 2 * x.toNat + v.toNat by omega), h l s hl hs]
    by_cases d : (l : Int) = x ∧ (s : Int) < v
    · rw [if_pos d, if_pos ⟨d.1, by omega⟩]
    · rw [if_neg d, if_neg (fun q => c ⟨q.1, by omega⟩)]
/-- on the way to MrgC: leads to v, targets to t -/
def MA (go g : Nat → Nat → Int) (x y v t : Int) : Prop :=
  ((∀ k : Nat, k < 10 → g 0 k = if (k : Int) = y then -1 else go 0 k) ∧ (∀ k : Nat, k < 10 → g 1 k = if (k : Int) = y then -2 else go 1 k) ∧ (∀ k : Nat, k < 10 → g 2 k = if (k : Int) = y then 0 else go 2 k))
  ∧ ((∀ k : Nat, k < 40 → g 3 k = go 3 k) ∧ (∀ k : Nat, k < 40 → g 4 k = if (k : Int) < t ∧ go 3 k = 3 ∧ go 4 k = y then x else go 4 k) ∧ (∀ k : Nat, k < 40 → g 5 k = go 5 k))
  ∧ (∀ k : Nat, k < 20 → g 6 k = if ((k / 2 : Nat) : Int) = y then -2 else if (k : Int) < v ∧ go 6 k = y then x else go 6 k)
  ∧ (∀ l s : Nat, l < 10 → s < 2 → g 7 (2 * l + s) = if (l : Int) = y then 0 else if (l : Int) = x then lessZ 9 (go 7 (2 * l + s) + go 7 (2 * y.toNat + s)) else go 7 (2 * l + s))
theorem MA.of {go gg g : Nat → Nat → Int} {x y v : Int} (hx : 0 ≤ x ∧ x < 10) (hy : 0 ≤ y ∧ y < 10) (hv : 2 ≤ v) (h : (∀ j k : Nat, j ≠ 7 → k < netLen j → gg j k = go j k) ∧ ∀ l s : Nat, l < 10 → s < 2 → gg 7 (2 * l + s) = if (l : Int) = x ∧ (s : Int) < v then lessZ 9 (go 7 (2 * l + s) + go 7 (2 * y.toNat + s)) else go 7 (2 * l + s)) (u : UntR gg g y) : MA go g x y 0 0 := by
  obtain ⟨h1, h7⟩ := h
  obtain ⟨u0, u1, u2, ⟨u3, u4, u5⟩, u6, u7⟩ := u
  have l0 : netLen 0 = 10 := rfl
  have l1 : netLen 1 = 10 := rfl
  have l2 : netLen 2 = 10 := rfl
  have l3 : netLen 3 = 40 := rfl
  have l4 : netLen 4 = 40 := rfl
  have l5 : netLen 5 = 40 := rfl
  have l6 : netLen 6 = 20 := rfl
  have one : ∀ (f h : Nat → Int) (w : Int) (k : Nat), k < 10 → f k = h k → uZ f y.toNat w k = if (k : Int) = y then w else h k := fun f h w k hk e => by
    by_cases c : (k : Int) = y
    · rw [if_pos c, show k = y.toNat by omega, uZ_eq]
    · rw [if_neg c, uZ_nk _ _ (by omega)]
      exact e
  have i2 : (2 * y).toNat = 2 * y.toNat := by omega
  have i3 : (2 * y + 1).toNat = 2 * y.toNat + 1 := by omega
  refine ⟨⟨fun k hk => ?_, fun k hk => ?_, fun k hk => ?_⟩, ⟨fun k hk => ?_, fun k hk => ?_, fun k hk => ?_⟩, fun k hk => ?_, fun l s hl hs => ?_⟩
  · rw [u0]; exact one _ _ _ k hk (h1 0 k (by decide) (by omega))
  · rw [u1]; exact one _ _ _ k hk (h1 1 k (by decide) (by omega))
  · rw [u2]; exact one _ _ _ k hk (h1 2 k (by decide) (by omega))
  · rw [u3]; exact h1 3 k (by decide) (by omega)
  · rw [u4, if_neg (by omega)]; exact h1 4 k (by decide) (by omega)
  · rw [u5]; exact h1 5 k (by decide) (by omega)
  · rw [u6, i2, i3]
    by_cases c : ((k / 2 : Nat) : Int) = y
    · rw [if_pos c]
      by_cases d : k = 2 * y.toNat + 1
      · rw [d, uZ_eq]
      · rw [uZ_nk _ _ d, show k = 2 * y.toNat by omega, uZ_eq]
    · rw [if_neg c, if_neg (by omega), uZ_nk _ _ (by omega), uZ_nk _ _ (by omega)]
      exact h1 6 k (by decide) (by omega)
  · rw [u7, i2, i3]
    by_cases c : (l : Int) = y
    · rw [if_pos c]
      by_cases d : 2 * l + s = 2 * y.toNat + 1
      · rw [d, uZ_eq]
      · rw [uZ_nk _ _ d, show 2 * l + s = 2 * y.toNat by omega, uZ_eq]
    · rw [if_neg c, uZ_nk _ _ (by omega), uZ_nk _ _ (by omega), h7 l s hl hs]
      by_cases d : (l : Int) = x
      · rw [if_pos d, if_pos ⟨d, by omega⟩]
      · rw [if_neg d, if_neg (fun q => d q.1)]
theorem MA.st6 {go gg : Nat → Nat → Int} {f : Nat → Int} {x y v z : Int} (h : MA go gg x y v 0) (hv : 0 ≤ v ∧ v < 20) (hy : 0 ≤ y) (e : f = uZ (gg 6) v.toNat z) (hz : (gg 6 v.toNat = y ∧ z = x) ∨ (gg 6 v.toNat ≠ y ∧ z = gg 6 v.toNat)) : MA go (nSet gg 6 f) x y (v + 1) 0 := by
  obtain ⟨a, b, c6, c7⟩ := h
  refine ⟨a, b, fun k hk => ?_, c7⟩
  show f k = _
  have q := c6 v.toNat (by omega)
  rw [if_neg (show ¬ ((v.toNat : Int) < v ∧ go 6 v.toNat = y) by omega)] at q
  rw [e]
  by_cases c : k = v.toNat
  · subst c
    rw [uZ_eq]
    by_cases d : ((v.toNat / 2 : Nat) : Int) = y
    · rw [if_pos d] at q ⊢
      rcases hz with ⟨z1, z2⟩ | ⟨z1, z2⟩ <;> omega
    · rw [if_neg d] at q ⊢
      rcases hz with ⟨z1, z2⟩ | ⟨z1, z2⟩
      · rw [if_pos ⟨by omega, by omega⟩]
        exact z2
      · rw [if_neg (by omega)]
        omega
  · rw [uZ_nk _ _ c, c6 k hk]
    by_cases d : ((k / 2 : Nat) : Int) = y
    · rw [if_pos d, if_pos d]
    · rw [if_neg d, if_neg d]
      by_cases g : (k : Int) < v ∧ go 6 k = y
      · rw [if_pos g, if_pos ⟨by omega, g.2⟩]
      · rw [if_neg g, if_neg (fun q => g ⟨by omega, q.2⟩)]
theorem MA.v20 {go g : Nat → Nat → Int} {x y v t : Int} (h : MA go g x y v t) (hv : v = 20) : MA go g x y 20 t := hv ▸ h
theorem MA.st4 {go gg : Nat → Nat → Int} {f : Nat → Int} {x y v : Int} (h : MA go gg x y 20 v) (hv : 0 ≤ v ∧ v < 40) (hc : gg 3 v.toNat = 3 ∧ gg 4 v.toNat = y) (e : f = uZ (gg 4) v.toNat x) : MA go (nSet gg 4 f) x y 20 (v + 1) := by
  obtain ⟨a, ⟨c3, c4, c5⟩, b⟩ := h
  have q3 := c3 v.toNat (by omega)
  have q4 := c4 v.toNat (by omega)
  rw [if_neg (show ¬ ((v.toNat : Int) < v ∧ go 3 v.toNat = 3 ∧ go 4 v.toNat = y) by omega)] at q4
  refine ⟨a, ⟨c3, fun k hk => ?_, c5⟩, b⟩
  show f k = _
  rw [e]
  by_cases c : k = v.toNat
  · subst c
    rw [uZ_eq, if_pos ⟨by omega, by omega, by omega⟩]
  · rw [uZ_nk _ _ c, c4 k hk]
    by_cases g : (k : Int) < v ∧ go 3 k = 3 ∧ go 4 k = y
    · rw [if_pos g, if_pos ⟨by omega, g.2⟩]
    · rw [if_neg g, if_neg (fun q => g ⟨by omega, q.2⟩)]
theorem MA.no4 {go gg : Nat → Nat → Int} {x y v : Int} (h : MA go gg x y 20 v) (hv : 0 ≤ v ∧ v < 40) (hc : ¬ (gg 3 v.toNat = 3 ∧ gg 4 v.toNat = y)) : MA go gg x y 20 (v + 1) := by
  obtain ⟨a, ⟨c3, c4, c5⟩, b⟩ := h
  have q3 := c3 v.toNat (by omega)
  have q4 := c4 v.toNat (by omega)
  rw [if_neg (show ¬ ((v.toNat : Int) < v ∧ go 3 v.toNat = 3 ∧ go 4 v.toNat = y) by omega)] at q4
  refine ⟨a, ⟨c3, fun k hk => ?_, c5⟩, b⟩
  rw [c4 k hk]
  by_cases g : (k : Int) < v ∧ go 3 k = 3 ∧ go 4 k = y
  · rw [if_pos g, if_pos ⟨by omega, g.2⟩]
  · rw [if_neg g, if_neg (fun q => by
      by_cases c : k = v.toNat
      · subst c
        omega
      · exact g ⟨by omega, q.2⟩)]
theorem MA.end {go g : Nat → Nat → Int} {x y v : Int} (h : MA go g x y 20 v) (hv : 40 ≤ v) : MrgC go g x y := by
  obtain ⟨a, ⟨c3, c4, c5⟩, c6, c7⟩ := h
  refine ⟨a, ⟨c3, fun k hk => ?_, c5⟩, fun l s hl hs => ?_, c7⟩
  · rw [c4 k hk]
    by_cases g : go 3 k = 3 ∧ go 4 k = y
    · rw [if_pos g, if_pos ⟨by omega, g⟩]
    · rw [if_neg g, if_neg (fun q => g q.2)]
  · rw [c6 _ (by omega), show (2 * l + s) / 2 = l by omega]
    by_cases c : (l : Int) = y
    · rw [if_pos c, if_pos c]
    · rw [if_neg c, if_neg c]
      by_cases g : go 6 (2 * l + s) = y
      · rw [if_pos g, if_pos ⟨by omega, g⟩]
      · rw [if_neg g, if_neg (fun q => g q.2)]
abbrev rm_X2z_tells : Room := { frames := 0, cells := 0, slots := 0, locals := 0 }
set_option maxRecDepth 100000 in
set_option maxHeartbeats 8000000 in
theorem c_X2z_tells {l : Launch} {E : (Nat → Prop) → State → Prop} (hO : bw_Ok E) {G : va_G} {cI cB cJ cN cW : ClassId} (b : Nat) (q : Nat → Nat) (n : Int) (g : Nat → Nat → Int) (hN : NetOk n g) (x : Int) (hx9 : 0 ≤ x ∧ x < 10) : bw_Ci (S := zU) l yX2_tells (bw_ws (Cond.code yX2_tells cX2_tells 2 (some .boolean))) rm_X2z_tells E G (bw_kt cI cB cJ cN cW) [.ref b, .int (zI x)] [(b, .inr (2, [.int (zI n), .ref (q 0), .ref (q 1), .ref (q 2), .ref (q 3), .ref (q 4), .ref (q 5), .ref (q 6), .ref (q 7)])), ((q 0), .inl (cI, 10, .inl (fun k => zI ((g 0) k)))), ((q 1), .inl (cI, 10, .inl (fun k => zI ((g 1) k)))), ((q 2), .inl (cI, 10, .inl (fun k => zI ((g 2) k)))), ((q 3), .inl (cI, 40, .inl (fun k => zI ((g 3) k)))), ((q 4), .inl (cI, 40, .inl (fun k => zI ((g 4) k)))), ((q 5), .inl (cI, 40, .inl (fun k => zI ((g 5) k)))), ((q 6), .inl (cI, 20, .inl (fun k => zI ((g 6) k)))), ((q 7), .inl (cI, 20, .inl (fun k => zI ((g 7) k))))] (fun r _ => ∃ z : Int, r = zI z ∧ ((0 ≤ z ∧ z ≤ 1) ∧ (z = 1 ↔ g 0 x.toNat ≠ -1))) (fun _ => [(b, .inr (2, [.int (zI n), .ref (q 0), .ref (q 1), .ref (q 2), .ref (q 3), .ref (q 4), .ref (q 5), .ref (q 6), .ref (q 7)])), ((q 0), .inl (cI, 10, .inl (fun k => zI ((g 0) k)))), ((q 1), .inl (cI, 10, .inl (fun k => zI ((g 1) k)))), ((q 2), .inl (cI, 10, .inl (fun k => zI ((g 2) k)))), ((q 3), .inl (cI, 40, .inl (fun k => zI ((g 3) k)))), ((q 4), .inl (cI, 40, .inl (fun k => zI ((g 4) k)))), ((q 5), .inl (cI, 40, .inl (fun k => zI ((g 5) k)))), ((q 6), .inl (cI, 20, .inl (fun k => zI ((g 6) k)))), ((q 7), .inl (cI, 20, .inl (fun k => zI ((g 7) k))))]) := by
  refine bw_Ci.of (cc := cX2_tells) (maxL := 2) (ty := .boolean) (by decide) rfl (Nat.le_of_ble_eq_true rfl) ?_
  intro p e s m below meth c A Q hx hb hml hts hown hin hK hA hS hP hD hE ret ls hl
  have F : CallFix p m c cX2_tells 2 s ([.ref b, .int (zI x)] : List Value).toArray bw_T RX2 := ⟨hx, hb, hml, hown, fun w h => hts w (List.mem_cons_of_mem _ h)⟩
  replace hl : lv_has ls 2 [(0, .ref b), (1, .int (zI x))] := hl
  have hN0 := hN.1
  refine lv_aload_n hx hb dX2_tells_0 rfl (lv_at hl 0 rfl) ?_
  refine r_get F hK hP 0 1 rfl rfl in_X2 (by decide) k_147 rfl dX2_tells_1 ?_
  refine lv_iload_n hx hb dX2_tells_4 rfl (lv_at hl 1 rfl) ?_
  refine rz_iald F hK hP 1 0 rfl rfl (by omega) (by omega) dX2_tells_5 ?_
  have hc1 := hN.2.1 (x).toNat (by omega)
  refine lv_iconst (v := zI (-1)) hx hb dX2_tells_6 rfl ?_
  refine rz_icmp_eq (tgt := 14) F (by omega) (by omega) dX2_tells_7 (by decide) (fun h7_1 => ?_) (fun h7_1 => ?_)
  · refine lv_iconst (v := zI 0) hx hb dX2_tells_14 rfl ?_
    exact ret (zI 0) (fun _ => 0, fun _ _ => 0) _ _ _ _ _ _ rfl ⟨0, rfl, ⟨by omega, by constructor <;> intro q9 <;> omega⟩⟩ (bw_subP (isC := [0, 1, 2, 3, 4, 5, 6, 7, 8]) hP rfl) (hD.sub [0, 1, 2, 3, 4, 5, 6, 7, 8] (by decide) rfl) hS (Nat.le_of_ble_eq_true rfl) (Nat.le_of_ble_eq_true rfl) dX2_tells_15
  · refine lv_iconst (v := zI 1) hx hb dX2_tells_10 rfl ?_
    refine lv_goto (tgt := 15) hx hb dX2_tells_11 (by decide) ?_
    exact ret (zI 1) (fun _ => 0, fun _ _ => 0) _ _ _ _ _ _ rfl ⟨1, rfl, ⟨by omega, by constructor <;> intro q9 <;> omega⟩⟩ (bw_subP (isC := [0, 1, 2, 3, 4, 5, 6, 7, 8]) hP rfl) (hD.sub [0, 1, 2, 3, 4, 5, 6, 7, 8] (by decide) rfl) hS (Nat.le_of_ble_eq_true rfl) (Nat.le_of_ble_eq_true rfl) dX2_tells_15
abbrev rm_X2z_haveSameActs : Room := { frames := 0, cells := 0, slots := 0, locals := 0 }
set_option maxRecDepth 100000 in
set_option maxHeartbeats 8000000 in
theorem c_X2z_haveSameActs {l : Launch} {E : (Nat → Prop) → State → Prop} (hO : bw_Ok E) {G : va_G} {cI cB cJ cN cW : ClassId} (b : Nat) (q : Nat → Nat) (n : Int) (g : Nat → Nat → Int) (hN : NetOk n g) (x : Int) (y : Int) (hx9 : 0 ≤ x ∧ x < 10) (hy9 : 0 ≤ y ∧ y < 10) : bw_Ci (S := zU) l yX2_haveSameActs (bw_ws (Cond.code yX2_haveSameActs cX2_haveSameActs 6 (some .boolean))) rm_X2z_haveSameActs E G (bw_kt cI cB cJ cN cW) [.ref b, .int (zI x), .int (zI y)] [(b, .inr (2, [.int (zI n), .ref (q 0), .ref (q 1), .ref (q 2), .ref (q 3), .ref (q 4), .ref (q 5), .ref (q 6), .ref (q 7)])), ((q 0), .inl (cI, 10, .inl (fun k => zI ((g 0) k)))), ((q 1), .inl (cI, 10, .inl (fun k => zI ((g 1) k)))), ((q 2), .inl (cI, 10, .inl (fun k => zI ((g 2) k)))), ((q 3), .inl (cI, 40, .inl (fun k => zI ((g 3) k)))), ((q 4), .inl (cI, 40, .inl (fun k => zI ((g 4) k)))), ((q 5), .inl (cI, 40, .inl (fun k => zI ((g 5) k)))), ((q 6), .inl (cI, 20, .inl (fun k => zI ((g 6) k)))), ((q 7), .inl (cI, 20, .inl (fun k => zI ((g 7) k))))] (fun r _ => ∃ z : Int, r = zI z ∧ ((0 ≤ z ∧ z ≤ 1) ∧ (z = 1 ↔ g 2 x.toNat = g 2 y.toNat ∧ SameA g x y (g 2 x.toNat)))) (fun _ => [(b, .inr (2, [.int (zI n), .ref (q 0), .ref (q 1), .ref (q 2), .ref (q 3), .ref (q 4), .ref (q 5), .ref (q 6), .ref (q 7)])), ((q 0), .inl (cI, 10, .inl (fun k => zI ((g 0) k)))), ((q 1), .inl (cI, 10, .inl (fun k => zI ((g 1) k)))), ((q 2), .inl (cI, 10, .inl (fun k => zI ((g 2) k)))), ((q 3), .inl (cI, 40, .inl (fun k => zI ((g 3) k)))), ((q 4), .inl (cI, 40, .inl (fun k => zI ((g 4) k)))), ((q 5), .inl (cI, 40, .inl (fun k => zI ((g 5) k)))), ((q 6), .inl (cI, 20, .inl (fun k => zI ((g 6) k)))), ((q 7), .inl (cI, 20, .inl (fun k => zI ((g 7) k))))]) := by
  refine bw_Ci.of (cc := cX2_haveSameActs) (maxL := 6) (ty := .boolean) (by decide) rfl (Nat.le_of_ble_eq_true rfl) ?_
  intro p e s m below meth c A Q hx hb hml hts hown hin hK hA hS hP hD hE ret ls hl
  have F : CallFix p m c cX2_haveSameActs 6 s ([.ref b, .int (zI x), .int (zI y)] : List Value).toArray bw_T RX2 := ⟨hx, hb, hml, hown, fun w h => hts w (List.mem_cons_of_mem _ h)⟩
  replace hl : lv_has ls 6 [(0, .ref b), (1, .int (zI x)), (2, .int (zI y))] := hl
  have hN0 := hN.1
  refine lv_aload_n hx hb dX2_haveSameActs_0 rfl (lv_at hl 0 rfl) ?_
  refine r_get F hK hP 0 3 rfl rfl in_X2 (by decide) k_153 rfl dX2_haveSameActs_1 ?_
  refine lv_iload_n hx hb dX2_haveSameActs_4 rfl (lv_at hl 1 rfl) ?_
  refine rz_iald F hK hP 3 0 rfl rfl (by omega) (by omega) dX2_haveSameActs_5 ?_
  have hc1 := hN.2.2.2.1 (x).toNat (by omega)
  refine lv_aload_n hx hb dX2_haveSameActs_6 rfl (lv_at hl 0 rfl) ?_
  refine r_get F hK hP 0 3 rfl rfl in_X2 (by decide) k_153 rfl dX2_haveSameActs_7 ?_
  refine lv_iload_n hx hb dX2_haveSameActs_10 rfl (lv_at hl 2 rfl) ?_
  refine rz_iald F hK hP 3 0 rfl rfl (by omega) (by omega) dX2_haveSameActs_11 ?_
  have hc2 := hN.2.2.2.1 (y).toNat (by omega)
  refine rz_icmp_eq (tgt := 17) F (by omega) (by omega) dX2_haveSameActs_12 (by decide) (fun h12_2 => ?_) (fun h12_2 => ?_)
  · refine lv_iconst (v := zI 0) hx hb dX2_haveSameActs_17 rfl ?_
    refine lv_istore_n (lv' := [(3, .int (zI 0)), (0, .ref b), (1, .int (zI x)), (2, .int (zI y))]) hx hb dX2_haveSameActs_18 rfl hl (by decide) rfl (fun ls hl => ?_)
    refine W.widen (k := 0) (n := 0) (Nat.le_of_ble_eq_true rfl) (Nat.le_of_ble_eq_true rfl) ?_
    refine (?_ : ∀ (n9_1 : Nat) (v3 : Int) (H : Heap) (locs : List Loc), (0 ≤ v3 ∧ v3 ≤ 4 ∧ v3 ≤ g 2 (x).toNat) → (4 - v3 : Int).toNat < n9_1 → (SameA g x y v3) → va_P G vwCl [(b, .inr (2, [.int (zI n), .ref (q 0), .ref (q 1), .ref (q 2), .ref (q 3), .ref (q 4), .ref (q 5), .ref (q 6), .ref (q 7)])), ((q 0), .inl (cI, 10, .inl (fun k => zI ((g 0) k)))), ((q 1), .inl (cI, 10, .inl (fun k => zI ((g 1) k)))), ((q 2), .inl (cI, 10, .inl (fun k => zI ((g 2) k)))), ((q 3), .inl (cI, 40, .inl (fun k => zI ((g 3) k)))), ((q 4), .inl (cI, 40, .inl (fun k => zI ((g 4) k)))), ((q 5), .inl (cI, 40, .inl (fun k => zI ((g 5) k)))), ((q 6), .inl (cI, 20, .inl (fun k => zI ((g 6) k)))), ((q 7), .inl (cI, 20, .inl (fun k => zI ((g 7) k))))] H → va_D A [(b, .inr (2, [.int (zI n), .ref (q 0), .ref (q 1), .ref (q 2), .ref (q 3), .ref (q 4), .ref (q 5), .ref (q 6), .ref (q 7)])), ((q 0), .inl (cI, 10, .inl (fun k => zI ((g 0) k)))), ((q 1), .inl (cI, 10, .inl (fun k => zI ((g 1) k)))), ((q 2), .inl (cI, 10, .inl (fun k => zI ((g 2) k)))), ((q 3), .inl (cI, 40, .inl (fun k => zI ((g 3) k)))), ((q 4), .inl (cI, 40, .inl (fun k => zI ((g 4) k)))), ((q 5), .inl (cI, 40, .inl (fun k => zI ((g 5) k)))), ((q 6), .inl (cI, 20, .inl (fun k => zI ((g 6) k)))), ((q 7), .inl (cI, 20, .inl (fun k => zI ((g 7) k))))] → va_S A s.heap H locs → ∀ ls : Array Slot, lv_has ls 6 [(3, .int (zI v3)), (0, .ref b), (1, .int (zI x)), (2, .int (zI y))] → W p l e rm_X2z_haveSameActs s m ([.ref b, .int (zI x), .int (zI y)] : List Value).toArray below meth c H locs 0 0 Q (F0 m 19 ls [])) ((4 - 0 : Int).toNat + 1) 0 _ _ (by omega) (by omega) (fun j j0 hj => absurd hj (by omega)) hP hD hS ls hl
    clear hP hD hS hl ls
    intro n9_1
    induction n9_1 with
    | zero =>
      intro v3 H locs hI hM
      exact absurd hM (by omega)
    | succ n9_1 ih1 =>
      intro v3 H locs hI1 hM1 hsa hP hD hS ls hl
      refine lv_iload_n hx hb dX2_haveSameActs_19 rfl (lv_at hl 0 rfl) ?_
      refine lv_aload_n hx hb dX2_haveSameActs_20 rfl (lv_at hl 1 rfl) ?_
      refine r_get F hK hP 0 3 rfl rfl in_X2 (by decide) k_153 rfl dX2_haveSameActs_21 ?_
      refine lv_iload_n hx hb dX2_haveSameActs_24 rfl (lv_at hl 2 rfl) ?_
      refine rz_iald F hK hP 3 0 rfl rfl (by omega) (by omega) dX2_haveSameActs_25 ?_
      have hc4 := hN.2.2.2.1 (x).toNat (by omega)
      refine rz_icmp_ge (tgt := 102) F (by omega) (by omega) dX2_haveSameActs_26 (by decide) (fun h26_4 => ?_) (fun h26_4 => ?_)
      · refine lv_iconst (v := zI 1) hx hb dX2_haveSameActs_102 rfl ?_
        exact ret (zI 1) (fun _ => 0, fun _ _ => 0) _ _ _ _ _ _ rfl ⟨1, rfl, ⟨by omega, fun _ => ⟨by omega, by have q8 := hsa; rw [show v3 = g 2 (x).toNat by omega] at q8; exact q8⟩, fun _ => rfl⟩⟩ (bw_subP (isC := [0, 1, 2, 3, 4, 5, 6, 7, 8]) hP rfl) (hD.sub [0, 1, 2, 3, 4, 5, 6, 7, 8] (by decide) rfl) hS (Nat.le_of_ble_eq_true rfl) (Nat.le_of_ble_eq_true rfl) dX2_haveSameActs_103
      · refine lv_iload_n hx hb dX2_haveSameActs_29 rfl (lv_at hl 2 rfl) ?_
        refine lv_iconst (v := zI 4) hx hb dX2_haveSameActs_30 rfl ?_
        refine r_imul (v := zI (x * 4)) F dX2_haveSameActs_31 (zI_mul _ _) ?_
        refine lv_iload_n hx hb dX2_haveSameActs_32 rfl (lv_at hl 0 rfl) ?_
        refine r_iadd (v := zI ((x * 4) + v3)) F dX2_haveSameActs_33 (zI_add _ _) ?_
        refine lv_istore (lv' := [(4, .int (zI ((x * 4) + v3))), (3, .int (zI v3)), (0, .ref b), (1, .int (zI x)), (2, .int (zI y))]) hx hb dX2_haveSameActs_34 hl (by decide) rfl (fun ls hl => ?_)
        refine lv_iload_n hx hb dX2_haveSameActs_36 rfl (lv_at hl 4 rfl) ?_
        refine lv_iconst (v := zI 4) hx hb dX2_haveSameActs_37 rfl ?_
        refine r_imul (v := zI (y * 4)) F dX2_haveSameActs_38 (zI_mul _ _) ?_
        refine lv_iload_n hx hb dX2_haveSameActs_39 rfl (lv_at hl 1 rfl) ?_
        refine r_iadd (v := zI ((y * 4) + v3)) F dX2_haveSameActs_40 (zI_add _ _) ?_
        refine lv_istore (lv' := [(5, .int (zI ((y * 4) + v3))), (4, .int (zI ((x * 4) + v3))), (3, .int (zI v3)), (0, .ref b), (1, .int (zI x)), (2, .int (zI y))]) hx hb dX2_haveSameActs_41 hl (by decide) rfl (fun ls hl => ?_)
        refine lv_aload_n hx hb dX2_haveSameActs_43 rfl (lv_at hl 3 rfl) ?_
        refine r_get F hK hP 0 4 rfl rfl in_X2 (by decide) k_156 rfl dX2_haveSameActs_44 ?_
        refine lv_iload hx hb dX2_haveSameActs_47 (lv_at hl 1 rfl) ?_
        refine rz_iald F hK hP 4 0 rfl rfl (by omega) (by omega) dX2_haveSameActs_49 ?_
        have hc6 := hN.2.2.2.2.1 (((x * 4) + v3)).toNat (by omega)
        refine lv_aload_n hx hb dX2_haveSameActs_50 rfl (lv_at hl 3 rfl) ?_
        refine r_get F hK hP 0 4 rfl rfl in_X2 (by decide) k_156 rfl dX2_haveSameActs_51 ?_
        refine lv_iload hx hb dX2_haveSameActs_54 (lv_at hl 0 rfl) ?_
        refine rz_iald F hK hP 4 0 rfl rfl (by omega) (by omega) dX2_haveSameActs_56 ?_
        have hc7 := hN.2.2.2.2.1 (((y * 4) + v3)).toNat (by omega)
        refine rz_icmp_ne (tgt := 94) F (by omega) (by omega) dX2_haveSameActs_57 (by decide) (fun h57_7 => ?_) (fun h57_7 => ?_)
        · refine lv_iconst (v := zI 0) hx hb dX2_haveSameActs_94 rfl ?_
          exact ret (zI 0) (fun _ => 0, fun _ _ => 0) _ _ _ _ _ _ rfl ⟨0, rfl, ⟨by omega, fun q9 => absurd q9 (by decide), fun q9 => by have q8 := q9.2 v3 (by omega) (by omega); omega⟩⟩ (bw_subP (isC := [0, 1, 2, 3, 4, 5, 6, 7, 8]) hP rfl) (hD.sub [0, 1, 2, 3, 4, 5, 6, 7, 8] (by decide) rfl) hS (Nat.le_of_ble_eq_true rfl) (Nat.le_of_ble_eq_true rfl) dX2_haveSameActs_95
        · refine lv_aload_n hx hb dX2_haveSameActs_60 rfl (lv_at hl 3 rfl) ?_
          refine r_get F hK hP 0 5 rfl rfl in_X2 (by decide) k_159 rfl dX2_haveSameActs_61 ?_
          refine lv_iload hx hb dX2_haveSameActs_64 (lv_at hl 1 rfl) ?_
          refine rz_iald F hK hP 5 0 rfl rfl (by omega) (by omega) dX2_haveSameActs_66 ?_
          have hc9 := hN.2.2.2.2.2.1 (((x * 4) + v3)).toNat (by omega)
          refine lv_aload_n hx hb dX2_haveSameActs_67 rfl (lv_at hl 3 rfl) ?_
          refine r_get F hK hP 0 5 rfl rfl in_X2 (by decide) k_159 rfl dX2_haveSameActs_68 ?_
          refine lv_iload hx hb dX2_haveSameActs_71 (lv_at hl 0 rfl) ?_
          refine rz_iald F hK hP 5 0 rfl rfl (by omega) (by omega) dX2_haveSameActs_73 ?_
          have hc10 := hN.2.2.2.2.2.1 (((y * 4) + v3)).toNat (by omega)
          refine rz_icmp_ne (tgt := 94) F (by omega) (by omega) dX2_haveSameActs_74 (by decide) (fun h74_10 => ?_) (fun h74_10 => ?_)
          · refine lv_iconst (v := zI 0) hx hb dX2_haveSameActs_94 rfl ?_
            exact ret (zI 0) (fun _ => 0, fun _ _ => 0) _ _ _ _ _ _ rfl ⟨0, rfl, ⟨by omega, fun q9 => absurd q9 (by decide), fun q9 => by have q8 := q9.2 v3 (by omega) (by omega); omega⟩⟩ (bw_subP (isC := [0, 1, 2, 3, 4, 5, 6, 7, 8]) hP rfl) (hD.sub [0, 1, 2, 3, 4, 5, 6, 7, 8] (by decide) rfl) hS (Nat.le_of_ble_eq_true rfl) (Nat.le_of_ble_eq_true rfl) dX2_haveSameActs_95
          · refine lv_aload_n hx hb dX2_haveSameActs_77 rfl (lv_at hl 3 rfl) ?_
            refine r_get F hK hP 0 6 rfl rfl in_X2 (by decide) k_162 rfl dX2_haveSameActs_78 ?_
            refine lv_iload hx hb dX2_haveSameActs_81 (lv_at hl 1 rfl) ?_
            refine rz_iald F hK hP 6 0 rfl rfl (by omega) (by omega) dX2_haveSameActs_83 ?_
            have hc12 := hN.2.2.2.2.2.2.1 (((x * 4) + v3)).toNat (by omega)
            refine lv_aload_n hx hb dX2_haveSameActs_84 rfl (lv_at hl 3 rfl) ?_
            refine r_get F hK hP 0 6 rfl rfl in_X2 (by decide) k_162 rfl dX2_haveSameActs_85 ?_
            refine lv_iload hx hb dX2_haveSameActs_88 (lv_at hl 0 rfl) ?_
            refine rz_iald F hK hP 6 0 rfl rfl (by omega) (by omega) dX2_haveSameActs_90 ?_
            have hc13 := hN.2.2.2.2.2.2.1 (((y * 4) + v3)).toNat (by omega)
            refine rz_icmp_eq (tgt := 96) F (by omega) (by omega) dX2_haveSameActs_91 (by decide) (fun h91_13 => ?_) (fun h91_13 => ?_)
            · refine lv_iinc (v := zI (v3 + 1)) (lv' := [(3, .int (zI (v3 + 1))), (5, .int (zI ((y * 4) + v3))), (4, .int (zI ((x * 4) + v3))), (0, .ref b), (1, .int (zI x)), (2, .int (zI y))]) hx hb dX2_haveSameActs_96 hl (k := 2) rfl (zI_add _ _) (by decide) rfl (fun ls hl => ?_)
              refine lv_goto (tgt := 19) hx hb dX2_haveSameActs_99 (by decide) ?_
              exact ih1 (v3 + 1) _ _ (by omega) (by omega) (sameA_step hsa ⟨by omega, by omega, by omega⟩) hP hD hS ls (lv_sub hl [0, 3, 4, 5] rfl)
            · refine lv_iconst (v := zI 0) hx hb dX2_haveSameActs_94 rfl ?_
              exact ret (zI 0) (fun _ => 0, fun _ _ => 0) _ _ _ _ _ _ rfl ⟨0, rfl, ⟨by omega, fun q9 => absurd q9 (by decide), fun q9 => by have q8 := q9.2 v3 (by omega) (by omega); omega⟩⟩ (bw_subP (isC := [0, 1, 2, 3, 4, 5, 6, 7, 8]) hP rfl) (hD.sub [0, 1, 2, 3, 4, 5, 6, 7, 8] (by decide) rfl) hS (Nat.le_of_ble_eq_true rfl) (Nat.le_of_ble_eq_true rfl) dX2_haveSameActs_95
  · refine lv_iconst (v := zI 0) hx hb dX2_haveSameActs_15 rfl ?_
    exact ret (zI 0) (fun _ => 0, fun _ _ => 0) _ _ _ _ _ _ rfl ⟨0, rfl, ⟨by omega, fun q9 => absurd q9 (by decide), fun q9 => absurd q9.1 (by omega)⟩⟩ (bw_subP (isC := [0, 1, 2, 3, 4, 5, 6, 7, 8]) hP rfl) (hD.sub [0, 1, 2, 3, 4, 5, 6, 7, 8] (by decide) rfl) hS (Nat.le_of_ble_eq_true rfl) (Nat.le_of_ble_eq_true rfl) dX2_haveSameActs_16
abbrev rm_X2z_areAlike : Room := { frames := 1, cells := 0, slots := 0, locals := 25 }
set_option maxRecDepth 100000 in
set_option maxHeartbeats 8000000 in
theorem c_X2z_areAlike {l : Launch} {E : (Nat → Prop) → State → Prop} (hO : bw_Ok E) {G : va_G} {cI cB cJ cN cW : ClassId} (b : Nat) (q : Nat → Nat) (n : Int) (g : Nat → Nat → Int) (hN : NetOk n g) (x : Int) (y : Int) (hx9 : 0 ≤ x ∧ x < 10) (hy9 : 0 ≤ y ∧ y < 10) : bw_Ci (S := zU) l yX2_areAlike (bw_ws (Cond.code yX2_areAlike cX2_areAlike 3 (some .boolean))) rm_X2z_areAlike E G (bw_kt cI cB cJ cN cW) [.ref b, .int (zI x), .int (zI y)] [(b, .inr (2, [.int (zI n), .ref (q 0), .ref (q 1), .ref (q 2), .ref (q 3), .ref (q 4), .ref (q 5), .ref (q 6), .ref (q 7)])), ((q 0), .inl (cI, 10, .inl (fun k => zI ((g 0) k)))), ((q 1), .inl (cI, 10, .inl (fun k => zI ((g 1) k)))), ((q 2), .inl (cI, 10, .inl (fun k => zI ((g 2) k)))), ((q 3), .inl (cI, 40, .inl (fun k => zI ((g 3) k)))), ((q 4), .inl (cI, 40, .inl (fun k => zI ((g 4) k)))), ((q 5), .inl (cI, 40, .inl (fun k => zI ((g 5) k)))), ((q 6), .inl (cI, 20, .inl (fun k => zI ((g 6) k)))), ((q 7), .inl (cI, 20, .inl (fun k => zI ((g 7) k))))] (fun r _ => ∃ z : Int, r = zI z ∧ ((0 ≤ z ∧ z ≤ 1) ∧ (z = 1 ↔ AlkC g x y))) (fun _ => [(b, .inr (2, [.int (zI n), .ref (q 0), .ref (q 1), .ref (q 2), .ref (q 3), .ref (q 4), .ref (q 5), .ref (q 6), .ref (q 7)])), ((q 0), .inl (cI, 10, .inl (fun k => zI ((g 0) k)))), ((q 1), .inl (cI, 10, .inl (fun k => zI ((g 1) k)))), ((q 2), .inl (cI, 10, .inl (fun k => zI ((g 2) k)))), ((q 3), .inl (cI, 40, .inl (fun k => zI ((g 3) k)))), ((q 4), .inl (cI, 40, .inl (fun k => zI ((g 4) k)))), ((q 5), .inl (cI, 40, .inl (fun k => zI ((g 5) k)))), ((q 6), .inl (cI, 20, .inl (fun k => zI ((g 6) k)))), ((q 7), .inl (cI, 20, .inl (fun k => zI ((g 7) k))))]) := by
  refine bw_Ci.of (cc := cX2_areAlike) (maxL := 3) (ty := .boolean) (by decide) rfl (Nat.le_of_ble_eq_true rfl) ?_
  intro p e s m below meth c A Q hx hb hml hts hown hin hK hA hS hP hD hE ret ls hl
  have F : CallFix p m c cX2_areAlike 3 s ([.ref b, .int (zI x), .int (zI y)] : List Value).toArray bw_T RX2 := ⟨hx, hb, hml, hown, fun w h => hts w (List.mem_cons_of_mem _ h)⟩
  replace hl : lv_has ls 3 [(0, .ref b), (1, .int (zI x)), (2, .int (zI y))] := hl
  have hN0 := hN.1
  refine lv_aload_n hx hb dX2_areAlike_0 rfl (lv_at hl 0 rfl) ?_
  refine lv_iload_n hx hb dX2_areAlike_1 rfl (lv_at hl 1 rfl) ?_
  refine r_callVi (As := [.int (zI x)]) (rest := []) (wr := []) F hK hP hD hS hA hO hE (c_X2z_tells hO b q n g hN x (by omega)) k_969 kv_X2_tells 1 rfl (by decide +kernel) ⟨Nat.le_of_ble_eq_true rfl, Nat.le_of_ble_eq_true rfl⟩ [0, 1, 2, 3, 4, 5, 6, 7, 8] [] rfl rfl (by decide) (by decide) (by decide) 0 2 rfl rfl rfl hl.1 rfl (Nat.le_of_ble_eq_true rfl) dX2_areAlike_2 ⟨Nat.le_of_ble_eq_true rfl, Nat.le_of_ble_eq_true rfl⟩ (w1 := fun u1 => [(b, .inr (2, [.int (zI n), .ref (q 0), .ref (q 1), .ref (q 2), .ref (q 3), .ref (q 4), .ref (q 5), .ref (q 6), .ref (q 7)])), ((q 0), .inl (cI, 10, .inl (fun k => zI ((g 0) k)))), ((q 1), .inl (cI, 10, .inl (fun k => zI ((g 1) k)))), ((q 2), .inl (cI, 10, .inl (fun k => zI ((g 2) k)))), ((q 3), .inl (cI, 40, .inl (fun k => zI ((g 3) k)))), ((q 4), .inl (cI, 40, .inl (fun k => zI ((g 4) k)))), ((q 5), .inl (cI, 40, .inl (fun k => zI ((g 5) k)))), ((q 6), .inl (cI, 20, .inl (fun k => zI ((g 6) k)))), ((q 7), .inl (cI, 20, .inl (fun k => zI ((g 7) k))))]) (fun _ => rfl) (fun r2 u1 H locs hp3 hP hD hS => ?_)
  obtain ⟨z4, rfl, h_z4⟩ := hp3
  have htl5 := h_z4.2
  refine rz_if_eq (tgt := 101) F (by omega) dX2_areAlike_5 (by decide) (fun h5_5 => ?_) (fun h5_5 => ?_)
  · refine lv_iconst (v := zI 0) hx hb dX2_areAlike_101 rfl ?_
    exact ret (zI 0) (fun _ => 0, fun _ _ => 0) _ _ _ _ _ _ rfl ⟨0, rfl, ⟨by omega, fun q9 => absurd q9 (by decide), fun q9 => by obtain ⟨⟨q1, q2⟩, ⟨q3, q4, q5, q6⟩, q7⟩ := q9; omega⟩⟩ (bw_subP (isC := [0, 1, 2, 3, 4, 5, 6, 7, 8]) hP rfl) (hD.sub [0, 1, 2, 3, 4, 5, 6, 7, 8] (by decide) rfl) hS (Nat.le_of_ble_eq_true rfl) (Nat.le_of_ble_eq_true rfl) dX2_areAlike_102
  · refine lv_aload_n hx hb dX2_areAlike_8 rfl (lv_at hl 0 rfl) ?_
    refine lv_iload_n hx hb dX2_areAlike_9 rfl (lv_at hl 2 rfl) ?_
    refine r_callVi (As := [.int (zI y)]) (rest := []) (wr := []) F hK hP hD hS hA hO hE (c_X2z_tells hO b q n g hN y (by omega)) k_969 kv_X2_tells 1 rfl (by decide +kernel) ⟨Nat.le_of_ble_eq_true rfl, Nat.le_of_ble_eq_true rfl⟩ [0, 1, 2, 3, 4, 5, 6, 7, 8] [] rfl rfl (by decide) (by decide) (by decide) 0 2 rfl rfl rfl hl.1 rfl (Nat.le_of_ble_eq_true rfl) dX2_areAlike_10 ⟨Nat.le_of_ble_eq_true rfl, Nat.le_of_ble_eq_true rfl⟩ (w1 := fun u7 => [(b, .inr (2, [.int (zI n), .ref (q 0), .ref (q 1), .ref (q 2), .ref (q 3), .ref (q 4), .ref (q 5), .ref (q 6), .ref (q 7)])), ((q 0), .inl (cI, 10, .inl (fun k => zI ((g 0) k)))), ((q 1), .inl (cI, 10, .inl (fun k => zI ((g 1) k)))), ((q 2), .inl (cI, 10, .inl (fun k => zI ((g 2) k)))), ((q 3), .inl (cI, 40, .inl (fun k => zI ((g 3) k)))), ((q 4), .inl (cI, 40, .inl (fun k => zI ((g 4) k)))), ((q 5), .inl (cI, 40, .inl (fun k => zI ((g 5) k)))), ((q 6), .inl (cI, 20, .inl (fun k => zI ((g 6) k)))), ((q 7), .inl (cI, 20, .inl (fun k => zI ((g 7) k))))]) (fun _ => rfl) (fun r8 u7 H locs hp9 hP hD hS => ?_)
    obtain ⟨z10, rfl, h_z10⟩ := hp9
    have htl11 := h_z10.2
    refine rz_if_eq (tgt := 101) F (by omega) dX2_areAlike_13 (by decide) (fun h13_11 => ?_) (fun h13_11 => ?_)
    · refine lv_iconst (v := zI 0) hx hb dX2_areAlike_101 rfl ?_
      exact ret (zI 0) (fun _ => 0, fun _ _ => 0) _ _ _ _ _ _ rfl ⟨0, rfl, ⟨by omega, fun q9 => absurd q9 (by decide), fun q9 => by obtain ⟨⟨q1, q2⟩, ⟨q3, q4, q5, q6⟩, q7⟩ := q9; omega⟩⟩ (bw_subP (isC := [0, 1, 2, 3, 4, 5, 6, 7, 8]) hP rfl) (hD.sub [0, 1, 2, 3, 4, 5, 6, 7, 8] (by decide) rfl) hS (Nat.le_of_ble_eq_true rfl) (Nat.le_of_ble_eq_true rfl) dX2_areAlike_102
    · refine lv_aload_n hx hb dX2_areAlike_16 rfl (lv_at hl 0 rfl) ?_
      refine r_get F hK hP 0 1 rfl rfl in_X2 (by decide) k_147 rfl dX2_areAlike_17 ?_
      refine lv_iload_n hx hb dX2_areAlike_20 rfl (lv_at hl 1 rfl) ?_
      refine rz_iald F hK hP 1 0 rfl rfl (by omega) (by omega) dX2_areAlike_21 ?_
      have hc13 := hN.2.1 (x).toNat (by omega)
      refine lv_aload_n hx hb dX2_areAlike_22 rfl (lv_at hl 0 rfl) ?_
      refine r_get F hK hP 0 1 rfl rfl in_X2 (by decide) k_147 rfl dX2_areAlike_23 ?_
      refine lv_iload_n hx hb dX2_areAlike_26 rfl (lv_at hl 2 rfl) ?_
      refine rz_iald F hK hP 1 0 rfl rfl (by omega) (by omega) dX2_areAlike_27 ?_
      have hc14 := hN.2.1 (y).toNat (by omega)
      refine rz_icmp_ne (tgt := 101) F (by omega) (by omega) dX2_areAlike_28 (by decide) (fun h28_14 => ?_) (fun h28_14 => ?_)
      · refine lv_iconst (v := zI 0) hx hb dX2_areAlike_101 rfl ?_
        exact ret (zI 0) (fun _ => 0, fun _ _ => 0) _ _ _ _ _ _ rfl ⟨0, rfl, ⟨by omega, fun q9 => absurd q9 (by decide), fun q9 => by obtain ⟨⟨q1, q2⟩, ⟨q3, q4, q5, q6⟩, q7⟩ := q9; omega⟩⟩ (bw_subP (isC := [0, 1, 2, 3, 4, 5, 6, 7, 8]) hP rfl) (hD.sub [0, 1, 2, 3, 4, 5, 6, 7, 8] (by decide) rfl) hS (Nat.le_of_ble_eq_true rfl) (Nat.le_of_ble_eq_true rfl) dX2_areAlike_102
      · refine lv_aload_n hx hb dX2_areAlike_31 rfl (lv_at hl 0 rfl) ?_
        refine r_get F hK hP 0 2 rfl rfl in_X2 (by decide) k_150 rfl dX2_areAlike_32 ?_
        refine lv_iload_n hx hb dX2_areAlike_35 rfl (lv_at hl 1 rfl) ?_
        refine rz_iald F hK hP 2 0 rfl rfl (by omega) (by omega) dX2_areAlike_36 ?_
        have hc16 := hN.2.2.1 (x).toNat (by omega)
        refine lv_aload_n hx hb dX2_areAlike_37 rfl (lv_at hl 0 rfl) ?_
        refine r_get F hK hP 0 2 rfl rfl in_X2 (by decide) k_150 rfl dX2_areAlike_38 ?_
        refine lv_iload_n hx hb dX2_areAlike_41 rfl (lv_at hl 2 rfl) ?_
        refine rz_iald F hK hP 2 0 rfl rfl (by omega) (by omega) dX2_areAlike_42 ?_
        have hc17 := hN.2.2.1 (y).toNat (by omega)
        refine rz_icmp_ne (tgt := 101) F (by omega) (by omega) dX2_areAlike_43 (by decide) (fun h43_17 => ?_) (fun h43_17 => ?_)
        · refine lv_iconst (v := zI 0) hx hb dX2_areAlike_101 rfl ?_
          exact ret (zI 0) (fun _ => 0, fun _ _ => 0) _ _ _ _ _ _ rfl ⟨0, rfl, ⟨by omega, fun q9 => absurd q9 (by decide), fun q9 => by obtain ⟨⟨q1, q2⟩, ⟨q3, q4, q5, q6⟩, q7⟩ := q9; omega⟩⟩ (bw_subP (isC := [0, 1, 2, 3, 4, 5, 6, 7, 8]) hP rfl) (hD.sub [0, 1, 2, 3, 4, 5, 6, 7, 8] (by decide) rfl) hS (Nat.le_of_ble_eq_true rfl) (Nat.le_of_ble_eq_true rfl) dX2_areAlike_102
        · refine lv_aload_n hx hb dX2_areAlike_46 rfl (lv_at hl 0 rfl) ?_
          refine r_get F hK hP 0 7 rfl rfl in_X2 (by decide) k_165 rfl dX2_areAlike_47 ?_
          refine lv_iconst (v := zI 2) hx hb dX2_areAlike_50 rfl ?_
          refine lv_iload_n hx hb dX2_areAlike_51 rfl (lv_at hl 1 rfl) ?_
          refine r_imul (v := zI (2 * x)) F dX2_areAlike_52 (zI_mul _ _) ?_
          refine rz_iald F hK hP 7 0 rfl rfl (by omega) (by omega) dX2_areAlike_53 ?_
          have hc19 := hN.2.2.2.2.2.2.2.1 ((2 * x)).toNat (by omega)
          refine lv_aload_n hx hb dX2_areAlike_54 rfl (lv_at hl 0 rfl) ?_
          refine r_get F hK hP 0 7 rfl rfl in_X2 (by decide) k_165 rfl dX2_areAlike_55 ?_
          refine lv_iconst (v := zI 2) hx hb dX2_areAlike_58 rfl ?_
          refine lv_iload_n hx hb dX2_areAlike_59 rfl (lv_at hl 2 rfl) ?_
          refine r_imul (v := zI (2 * y)) F dX2_areAlike_60 (zI_mul _ _) ?_
          refine rz_iald F hK hP 7 0 rfl rfl (by omega) (by omega) dX2_areAlike_61 ?_
          have hc20 := hN.2.2.2.2.2.2.2.1 ((2 * y)).toNat (by omega)
          refine rz_icmp_ne (tgt := 101) F (by omega) (by omega) dX2_areAlike_62 (by decide) (fun h62_20 => ?_) (fun h62_20 => ?_)
          · refine lv_iconst (v := zI 0) hx hb dX2_areAlike_101 rfl ?_
            exact ret (zI 0) (fun _ => 0, fun _ _ => 0) _ _ _ _ _ _ rfl ⟨0, rfl, ⟨by omega, fun q9 => absurd q9 (by decide), fun q9 => by obtain ⟨⟨q1, q2⟩, ⟨q3, q4, q5, q6⟩, q7⟩ := q9; omega⟩⟩ (bw_subP (isC := [0, 1, 2, 3, 4, 5, 6, 7, 8]) hP rfl) (hD.sub [0, 1, 2, 3, 4, 5, 6, 7, 8] (by decide) rfl) hS (Nat.le_of_ble_eq_true rfl) (Nat.le_of_ble_eq_true rfl) dX2_areAlike_102
          · refine lv_aload_n hx hb dX2_areAlike_65 rfl (lv_at hl 0 rfl) ?_
            refine r_get F hK hP 0 7 rfl rfl in_X2 (by decide) k_165 rfl dX2_areAlike_66 ?_
            refine lv_iconst (v := zI 2) hx hb dX2_areAlike_69 rfl ?_
            refine lv_iload_n hx hb dX2_areAlike_70 rfl (lv_at hl 1 rfl) ?_
            refine r_imul (v := zI (2 * x)) F dX2_areAlike_71 (zI_mul _ _) ?_
            refine lv_iconst (v := zI 1) hx hb dX2_areAlike_72 rfl ?_
            refine r_iadd (v := zI ((2 * x) + 1)) F dX2_areAlike_73 (zI_add _ _) ?_
            refine rz_iald F hK hP 7 0 rfl rfl (by omega) (by omega) dX2_areAlike_74 ?_
            have hc22 := hN.2.2.2.2.2.2.2.1 (((2 * x) + 1)).toNat (by omega)
            refine lv_aload_n hx hb dX2_areAlike_75 rfl (lv_at hl 0 rfl) ?_
            refine r_get F hK hP 0 7 rfl rfl in_X2 (by decide) k_165 rfl dX2_areAlike_76 ?_
            refine lv_iconst (v := zI 2) hx hb dX2_areAlike_79 rfl ?_
            refine lv_iload_n hx hb dX2_areAlike_80 rfl (lv_at hl 2 rfl) ?_
            refine r_imul (v := zI (2 * y)) F dX2_areAlike_81 (zI_mul _ _) ?_
            refine lv_iconst (v := zI 1) hx hb dX2_areAlike_82 rfl ?_
            refine r_iadd (v := zI ((2 * y) + 1)) F dX2_areAlike_83 (zI_add _ _) ?_
            refine rz_iald F hK hP 7 0 rfl rfl (by omega) (by omega) dX2_areAlike_84 ?_
            have hc23 := hN.2.2.2.2.2.2.2.1 (((2 * y) + 1)).toNat (by omega)
            refine rz_icmp_ne (tgt := 101) F (by omega) (by omega) dX2_areAlike_85 (by decide) (fun h85_23 => ?_) (fun h85_23 => ?_)
            · refine lv_iconst (v := zI 0) hx hb dX2_areAlike_101 rfl ?_
              exact ret (zI 0) (fun _ => 0, fun _ _ => 0) _ _ _ _ _ _ rfl ⟨0, rfl, ⟨by omega, fun q9 => absurd q9 (by decide), fun q9 => by obtain ⟨⟨q1, q2⟩, ⟨q3, q4, q5, q6⟩, q7⟩ := q9; omega⟩⟩ (bw_subP (isC := [0, 1, 2, 3, 4, 5, 6, 7, 8]) hP rfl) (hD.sub [0, 1, 2, 3, 4, 5, 6, 7, 8] (by decide) rfl) hS (Nat.le_of_ble_eq_true rfl) (Nat.le_of_ble_eq_true rfl) dX2_areAlike_102
            · refine lv_aload_n hx hb dX2_areAlike_88 rfl (lv_at hl 0 rfl) ?_
              refine lv_iload_n hx hb dX2_areAlike_89 rfl (lv_at hl 1 rfl) ?_
              refine lv_iload_n hx hb dX2_areAlike_90 rfl (lv_at hl 2 rfl) ?_
              refine r_callVi (As := [.int (zI x), .int (zI y)]) (rest := []) (wr := []) F hK hP hD hS hA hO hE (c_X2z_haveSameActs hO b q n g hN x y (by omega) (by omega)) k_970 kv_X2_haveSameActs 2 rfl (by decide +kernel) ⟨Nat.le_of_ble_eq_true rfl, Nat.le_of_ble_eq_true rfl⟩ [0, 1, 2, 3, 4, 5, 6, 7, 8] [] rfl rfl (by decide) (by decide) (by decide) 0 2 rfl rfl rfl hl.1 rfl (Nat.le_of_ble_eq_true rfl) dX2_areAlike_91 ⟨Nat.le_of_ble_eq_true rfl, Nat.le_of_ble_eq_true rfl⟩ (w1 := fun u25 => [(b, .inr (2, [.int (zI n), .ref (q 0), .ref (q 1), .ref (q 2), .ref (q 3), .ref (q 4), .ref (q 5), .ref (q 6), .ref (q 7)])), ((q 0), .inl (cI, 10, .inl (fun k => zI ((g 0) k)))), ((q 1), .inl (cI, 10, .inl (fun k => zI ((g 1) k)))), ((q 2), .inl (cI, 10, .inl (fun k => zI ((g 2) k)))), ((q 3), .inl (cI, 40, .inl (fun k => zI ((g 3) k)))), ((q 4), .inl (cI, 40, .inl (fun k => zI ((g 4) k)))), ((q 5), .inl (cI, 40, .inl (fun k => zI ((g 5) k)))), ((q 6), .inl (cI, 20, .inl (fun k => zI ((g 6) k)))), ((q 7), .inl (cI, 20, .inl (fun k => zI ((g 7) k))))]) (fun _ => rfl) (fun r26 u25 H locs hp27 hP hD hS => ?_)
              obtain ⟨z28, rfl, h_z28⟩ := hp27
              refine rz_if_eq (tgt := 101) F (by omega) dX2_areAlike_94 (by decide) (fun h94_28 => ?_) (fun h94_28 => ?_)
              · refine lv_iconst (v := zI 0) hx hb dX2_areAlike_101 rfl ?_
                exact ret (zI 0) (fun _ => 0, fun _ _ => 0) _ _ _ _ _ _ rfl ⟨0, rfl, ⟨by omega, fun q9 => absurd q9 (by decide), fun q9 => by obtain ⟨⟨q1, q2⟩, ⟨q3, q4, q5, q6⟩, q7⟩ := q9; exact absurd (h_z28.2.mpr q7) (by omega)⟩⟩ (bw_subP (isC := [0, 1, 2, 3, 4, 5, 6, 7, 8]) hP rfl) (hD.sub [0, 1, 2, 3, 4, 5, 6, 7, 8] (by decide) rfl) hS (Nat.le_of_ble_eq_true rfl) (Nat.le_of_ble_eq_true rfl) dX2_areAlike_102
              · refine lv_iconst (v := zI 1) hx hb dX2_areAlike_97 rfl ?_
                refine lv_goto (tgt := 102) hx hb dX2_areAlike_98 (by decide) ?_
                exact ret (zI 1) (fun _ => 0, fun _ _ => 0) _ _ _ _ _ _ rfl ⟨1, rfl, ⟨by omega, fun _ => ⟨⟨by omega, by omega⟩, ⟨by omega, by omega, by omega, by omega⟩, h_z28.2.mp (by omega)⟩, fun _ => rfl⟩⟩ (bw_subP (isC := [0, 1, 2, 3, 4, 5, 6, 7, 8]) hP rfl) (hD.sub [0, 1, 2, 3, 4, 5, 6, 7, 8] (by decide) rfl) hS (Nat.le_of_ble_eq_true rfl) (Nat.le_of_ble_eq_true rfl) dX2_areAlike_102
abbrev rm_X2z_untellN : Room := { frames := 0, cells := 0, slots := 0, locals := 0 }
set_option maxRecDepth 100000 in
set_option maxHeartbeats 8000000 in
theorem c_X2z_untellN {l : Launch} {E : (Nat → Prop) → State → Prop} (hO : bw_Ok E) {G : va_G} {cI cB cJ cN cW : ClassId} (b : Nat) (q : Nat → Nat) (n : Int) (g : Nat → Nat → Int) (hN : NetOk n g) (x : Int) (hx9 : 0 ≤ x ∧ x < 10) : bw_Cv (S := zU) l yX2_untell (bw_ws (Cond.code yX2_untell cX2_untell 3 none)) rm_X2z_untellN E G (bw_kt cI cB cJ cN cW) [.ref b, .int (zI x)] [(b, .inr (2, [.int (zI n), .ref (q 0), .ref (q 1), .ref (q 2), .ref (q 3), .ref (q 4), .ref (q 5), .ref (q 6), .ref (q 7)])), ((q 0), .inl (cI, 10, .inl (fun k => zI ((g 0) k)))), ((q 1), .inl (cI, 10, .inl (fun k => zI ((g 1) k)))), ((q 2), .inl (cI, 10, .inl (fun k => zI ((g 2) k)))), ((q 3), .inl (cI, 40, .inl (fun k => zI ((g 3) k)))), ((q 4), .inl (cI, 40, .inl (fun k => zI ((g 4) k)))), ((q 5), .inl (cI, 40, .inl (fun k => zI ((g 5) k)))), ((q 6), .inl (cI, 20, .inl (fun k => zI ((g 6) k)))), ((q 7), .inl (cI, 20, .inl (fun k => zI ((g 7) k))))] (fun u => NetOk n u.2 ∧ UntR g u.2 x) (fun u => [(b, .inr (2, [.int (zI n), .ref (q 0), .ref (q 1), .ref (q 2), .ref (q 3), .ref (q 4), .ref (q 5), .ref (q 6), .ref (q 7)])), ((q 0), .inl (cI, 10, .inl (fun k => zI ((u.2 0) k)))), ((q 1), .inl (cI, 10, .inl (fun k => zI ((u.2 1) k)))), ((q 2), .inl (cI, 10, .inl (fun k => zI ((u.2 2) k)))), ((q 3), .inl (cI, 40, .inl (fun k => zI ((u.2 3) k)))), ((q 4), .inl (cI, 40, .inl (fun k => zI ((u.2 4) k)))), ((q 5), .inl (cI, 40, .inl (fun k => zI ((u.2 5) k)))), ((q 6), .inl (cI, 20, .inl (fun k => zI ((u.2 6) k)))), ((q 7), .inl (cI, 20, .inl (fun k => zI ((u.2 7) k))))]) := by
  refine bw_Cv.of (cc := cX2_untell) (maxL := 3) (by decide) rfl (Nat.le_of_ble_eq_true rfl) ?_
  intro p e s m below meth c A Q hx hb hml hts hown hin hK hA hS hP hD hE ret ls hl
  have F : CallFix p m c cX2_untell 3 s ([.ref b, .int (zI x)] : List Value).toArray bw_T RX2 := ⟨hx, hb, hml, hown, fun w h => hts w (List.mem_cons_of_mem _ h)⟩
  replace hl : lv_has ls 3 [(0, .ref b), (1, .int (zI x))] := hl
  have hN0 := hN.1
  refine lv_aload_n hx hb dX2_untell_0 rfl (lv_at hl 0 rfl) ?_
  refine r_get F hK hP 0 1 rfl rfl in_X2 (by decide) k_147 rfl dX2_untell_1 ?_
  refine lv_iload_n hx hb dX2_untell_4 rfl (lv_at hl 1 rfl) ?_
  refine lv_iconst (v := zI (-1)) hx hb dX2_untell_5 rfl ?_
  refine rz_iastG F hK hP hD hS 1 0 rfl rfl (by omega) (by omega) dX2_untell_6 (w1 := fun g1 => [(b, .inr (2, [.int (zI n), .ref (q 0), .ref (q 1), .ref (q 2), .ref (q 3), .ref (q 4), .ref (q 5), .ref (q 6), .ref (q 7)])), ((q 0), .inl (cI, 10, .inl (fun k => zI (g1 k)))), ((q 1), .inl (cI, 10, .inl (fun k => zI ((g 1) k)))), ((q 2), .inl (cI, 10, .inl (fun k => zI ((g 2) k)))), ((q 3), .inl (cI, 40, .inl (fun k => zI ((g 3) k)))), ((q 4), .inl (cI, 40, .inl (fun k => zI ((g 4) k)))), ((q 5), .inl (cI, 40, .inl (fun k => zI ((g 5) k)))), ((q 6), .inl (cI, 20, .inl (fun k => zI ((g 6) k)))), ((q 7), .inl (cI, 20, .inl (fun k => zI ((g 7) k))))]) (fun _ => rfl) (fun g1 e_g1 H locs hP hD hS => ?_)
  refine lv_aload_n hx hb dX2_untell_7 rfl (lv_at hl 0 rfl) ?_
  refine r_get F hK hP 0 2 rfl rfl in_X2 (by decide) k_150 rfl dX2_untell_8 ?_
  refine lv_iload_n hx hb dX2_untell_11 rfl (lv_at hl 1 rfl) ?_
  refine lv_bipush (v := zI (-2)) hx hb dX2_untell_12 (by decide) ?_
  refine rz_iastG F hK hP hD hS 2 0 rfl rfl (by omega) (by omega) dX2_untell_14 (w1 := fun g2 => [(b, .inr (2, [.int (zI n), .ref (q 0), .ref (q 1), .ref (q 2), .ref (q 3), .ref (q 4), .ref (q 5), .ref (q 6), .ref (q 7)])), ((q 0), .inl (cI, 10, .inl (fun k => zI (g1 k)))), ((q 1), .inl (cI, 10, .inl (fun k => zI (g2 k)))), ((q 2), .inl (cI, 10, .inl (fun k => zI ((g 2) k)))), ((q 3), .inl (cI, 40, .inl (fun k => zI ((g 3) k)))), ((q 4), .inl (cI, 40, .inl (fun k => zI ((g 4) k)))), ((q 5), .inl (cI, 40, .inl (fun k => zI ((g 5) k)))), ((q 6), .inl (cI, 20, .inl (fun k => zI ((g 6) k)))), ((q 7), .inl (cI, 20, .inl (fun k => zI ((g 7) k))))]) (fun _ => rfl) (fun g2 e_g2 H locs hP hD hS => ?_)
  refine lv_aload_n hx hb dX2_untell_15 rfl (lv_at hl 0 rfl) ?_
  refine r_get F hK hP 0 3 rfl rfl in_X2 (by decide) k_153 rfl dX2_untell_16 ?_
  refine lv_iload_n hx hb dX2_untell_19 rfl (lv_at hl 1 rfl) ?_
  refine lv_iconst (v := zI 0) hx hb dX2_untell_20 rfl ?_
  refine rz_iastG F hK hP hD hS 3 0 rfl rfl (by omega) (by omega) dX2_untell_21 (w1 := fun g3 => [(b, .inr (2, [.int (zI n), .ref (q 0), .ref (q 1), .ref (q 2), .ref (q 3), .ref (q 4), .ref (q 5), .ref (q 6), .ref (q 7)])), ((q 0), .inl (cI, 10, .inl (fun k => zI (g1 k)))), ((q 1), .inl (cI, 10, .inl (fun k => zI (g2 k)))), ((q 2), .inl (cI, 10, .inl (fun k => zI (g3 k)))), ((q 3), .inl (cI, 40, .inl (fun k => zI ((g 3) k)))), ((q 4), .inl (cI, 40, .inl (fun k => zI ((g 4) k)))), ((q 5), .inl (cI, 40, .inl (fun k => zI ((g 5) k)))), ((q 6), .inl (cI, 20, .inl (fun k => zI ((g 6) k)))), ((q 7), .inl (cI, 20, .inl (fun k => zI ((g 7) k))))]) (fun _ => rfl) (fun g3 e_g3 H locs hP hD hS => ?_)
  refine lv_iconst (v := zI 2) hx hb dX2_untell_22 rfl ?_
  refine lv_iload_n hx hb dX2_untell_23 rfl (lv_at hl 1 rfl) ?_
  refine r_imul (v := zI (2 * x)) F dX2_untell_24 (zI_mul _ _) ?_
  refine lv_istore_n (lv' := [(2, .int (zI (2 * x))), (0, .ref b), (1, .int (zI x))]) hx hb dX2_untell_25 rfl hl (by decide) rfl (fun ls hl => ?_)
  refine lv_iload_n hx hb dX2_untell_26 rfl (lv_at hl 0 rfl) ?_
  refine lv_iconst (v := zI 2) hx hb dX2_untell_27 rfl ?_
  refine lv_iload_n hx hb dX2_untell_28 rfl (lv_at hl 2 rfl) ?_
  refine r_imul (v := zI (2 * x)) F dX2_untell_29 (zI_mul _ _) ?_
  refine lv_iconst (v := zI 1) hx hb dX2_untell_30 rfl ?_
  refine r_iadd (v := zI ((2 * x) + 1)) F dX2_untell_31 (zI_add _ _) ?_
  refine rz_icmp_gt (tgt := 56) F (by omega) (by omega) dX2_untell_32 (by decide) (fun h32_3 => by omega) (fun h32_3 => ?_)
  refine lv_aload_n hx hb dX2_untell_35 rfl (lv_at hl 1 rfl) ?_
  refine r_get F hK hP 0 7 rfl rfl in_X2 (by decide) k_165 rfl dX2_untell_36 ?_
  refine lv_iload_n hx hb dX2_untell_39 rfl (lv_at hl 0 rfl) ?_
  refine lv_bipush (v := zI (-2)) hx hb dX2_untell_40 (by decide) ?_
  refine rz_iastG F hK hP hD hS 7 0 rfl rfl (by omega) (by omega) dX2_untell_42 (w1 := fun g5 => [(b, .inr (2, [.int (zI n), .ref (q 0), .ref (q 1), .ref (q 2), .ref (q 3), .ref (q 4), .ref (q 5), .ref (q 6), .ref (q 7)])), ((q 0), .inl (cI, 10, .inl (fun k => zI (g1 k)))), ((q 1), .inl (cI, 10, .inl (fun k => zI (g2 k)))), ((q 2), .inl (cI, 10, .inl (fun k => zI (g3 k)))), ((q 3), .inl (cI, 40, .inl (fun k => zI ((g 3) k)))), ((q 4), .inl (cI, 40, .inl (fun k => zI ((g 4) k)))), ((q 5), .inl (cI, 40, .inl (fun k => zI ((g 5) k)))), ((q 6), .inl (cI, 20, .inl (fun k => zI (g5 k)))), ((q 7), .inl (cI, 20, .inl (fun k => zI ((g 7) k))))]) (fun _ => rfl) (fun g5 e_g5 H locs hP hD hS => ?_)
  refine lv_aload_n hx hb dX2_untell_43 rfl (lv_at hl 1 rfl) ?_
  refine r_get F hK hP 0 8 rfl rfl in_X2 (by decide) k_169 rfl dX2_untell_44 ?_
  refine lv_iload_n hx hb dX2_untell_47 rfl (lv_at hl 0 rfl) ?_
  refine lv_iconst (v := zI 0) hx hb dX2_untell_48 rfl ?_
  refine rz_iastG F hK hP hD hS 8 0 rfl rfl (by omega) (by omega) dX2_untell_49 (w1 := fun g6 => [(b, .inr (2, [.int (zI n), .ref (q 0), .ref (q 1), .ref (q 2), .ref (q 3), .ref (q 4), .ref (q 5), .ref (q 6), .ref (q 7)])), ((q 0), .inl (cI, 10, .inl (fun k => zI (g1 k)))), ((q 1), .inl (cI, 10, .inl (fun k => zI (g2 k)))), ((q 2), .inl (cI, 10, .inl (fun k => zI (g3 k)))), ((q 3), .inl (cI, 40, .inl (fun k => zI ((g 3) k)))), ((q 4), .inl (cI, 40, .inl (fun k => zI ((g 4) k)))), ((q 5), .inl (cI, 40, .inl (fun k => zI ((g 5) k)))), ((q 6), .inl (cI, 20, .inl (fun k => zI (g5 k)))), ((q 7), .inl (cI, 20, .inl (fun k => zI (g6 k))))]) (fun _ => rfl) (fun g6 e_g6 H locs hP hD hS => ?_)
  refine lv_iinc (v := zI ((2 * x) + 1)) (lv' := [(2, .int (zI ((2 * x) + 1))), (0, .ref b), (1, .int (zI x))]) hx hb dX2_untell_50 hl (k := 0) rfl (zI_add _ _) (by decide) rfl (fun ls hl => ?_)
  refine lv_goto (tgt := 26) hx hb dX2_untell_53 (by decide) ?_
  refine lv_iload_n hx hb dX2_untell_26 rfl (lv_at hl 0 rfl) ?_
  refine lv_iconst (v := zI 2) hx hb dX2_untell_27 rfl ?_
  refine lv_iload_n hx hb dX2_untell_28 rfl (lv_at hl 2 rfl) ?_
  refine r_imul (v := zI (2 * x)) F dX2_untell_29 (zI_mul _ _) ?_
  refine lv_iconst (v := zI 1) hx hb dX2_untell_30 rfl ?_
  refine r_iadd (v := zI ((2 * x) + 1)) F dX2_untell_31 (zI_add _ _) ?_
  refine rz_icmp_gt (tgt := 56) F (by omega) (by omega) dX2_untell_32 (by decide) (fun h32_6 => by omega) (fun h32_6 => ?_)
  refine lv_aload_n hx hb dX2_untell_35 rfl (lv_at hl 1 rfl) ?_
  refine r_get F hK hP 0 7 rfl rfl in_X2 (by decide) k_165 rfl dX2_untell_36 ?_
  refine lv_iload_n hx hb dX2_untell_39 rfl (lv_at hl 0 rfl) ?_
  refine lv_bipush (v := zI (-2)) hx hb dX2_untell_40 (by decide) ?_
  refine rz_iastG F hK hP hD hS 7 0 rfl rfl (by omega) (by omega) dX2_untell_42 (w1 := fun g8 => [(b, .inr (2, [.int (zI n), .ref (q 0), .ref (q 1), .ref (q 2), .ref (q 3), .ref (q 4), .ref (q 5), .ref (q 6), .ref (q 7)])), ((q 0), .inl (cI, 10, .inl (fun k => zI (g1 k)))), ((q 1), .inl (cI, 10, .inl (fun k => zI (g2 k)))), ((q 2), .inl (cI, 10, .inl (fun k => zI (g3 k)))), ((q 3), .inl (cI, 40, .inl (fun k => zI ((g 3) k)))), ((q 4), .inl (cI, 40, .inl (fun k => zI ((g 4) k)))), ((q 5), .inl (cI, 40, .inl (fun k => zI ((g 5) k)))), ((q 6), .inl (cI, 20, .inl (fun k => zI (g8 k)))), ((q 7), .inl (cI, 20, .inl (fun k => zI (g6 k))))]) (fun _ => rfl) (fun g8 e_g8 H locs hP hD hS => ?_)
  refine lv_aload_n hx hb dX2_untell_43 rfl (lv_at hl 1 rfl) ?_
  refine r_get F hK hP 0 8 rfl rfl in_X2 (by decide) k_169 rfl dX2_untell_44 ?_
  refine lv_iload_n hx hb dX2_untell_47 rfl (lv_at hl 0 rfl) ?_
  refine lv_iconst (v := zI 0) hx hb dX2_untell_48 rfl ?_
  refine rz_iastG F hK hP hD hS 8 0 rfl rfl (by omega) (by omega) dX2_untell_49 (w1 := fun g9 => [(b, .inr (2, [.int (zI n), .ref (q 0), .ref (q 1), .ref (q 2), .ref (q 3), .ref (q 4), .ref (q 5), .ref (q 6), .ref (q 7)])), ((q 0), .inl (cI, 10, .inl (fun k => zI (g1 k)))), ((q 1), .inl (cI, 10, .inl (fun k => zI (g2 k)))), ((q 2), .inl (cI, 10, .inl (fun k => zI (g3 k)))), ((q 3), .inl (cI, 40, .inl (fun k => zI ((g 3) k)))), ((q 4), .inl (cI, 40, .inl (fun k => zI ((g 4) k)))), ((q 5), .inl (cI, 40, .inl (fun k => zI ((g 5) k)))), ((q 6), .inl (cI, 20, .inl (fun k => zI (g8 k)))), ((q 7), .inl (cI, 20, .inl (fun k => zI (g9 k))))]) (fun _ => rfl) (fun g9 e_g9 H locs hP hD hS => ?_)
  refine lv_iinc (v := zI (((2 * x) + 1) + 1)) (lv' := [(2, .int (zI (((2 * x) + 1) + 1))), (0, .ref b), (1, .int (zI x))]) hx hb dX2_untell_50 hl (k := 0) rfl (zI_add _ _) (by decide) rfl (fun ls hl => ?_)
  refine lv_goto (tgt := 26) hx hb dX2_untell_53 (by decide) ?_
  refine lv_iload_n hx hb dX2_untell_26 rfl (lv_at hl 0 rfl) ?_
  refine lv_iconst (v := zI 2) hx hb dX2_untell_27 rfl ?_
  refine lv_iload_n hx hb dX2_untell_28 rfl (lv_at hl 2 rfl) ?_
  refine r_imul (v := zI (2 * x)) F dX2_untell_29 (zI_mul _ _) ?_
  refine lv_iconst (v := zI 1) hx hb dX2_untell_30 rfl ?_
  refine r_iadd (v := zI ((2 * x) + 1)) F dX2_untell_31 (zI_add _ _) ?_
  refine rz_icmp_gt (tgt := 56) F (by omega) (by omega) dX2_untell_32 (by decide) (fun h32_9 => ?_) (fun h32_9 => by omega)
  exact ret (fun _ => 0, fun k => [g1, g2, g3, (g 3), (g 4), (g 5), g8, g9].getD k (fun _ => 0)) _ _ _ _ _ _ ⟨(NetOk.untell hN hx9 e_g1 e_g2 e_g3 e_g5 e_g8 e_g6 e_g9), ⟨e_g1, e_g2, e_g3, ⟨rfl, rfl, rfl⟩, (by rw [← e_g5]; exact e_g8), (by rw [← e_g6]; exact e_g9)⟩⟩ (bw_subP (isC := [0, 1, 2, 3, 4, 5, 6, 7, 8]) hP rfl) (hD.sub [0, 1, 2, 3, 4, 5, 6, 7, 8] (by decide) rfl) hS (Nat.le_of_ble_eq_true rfl) (Nat.le_of_ble_eq_true rfl) dX2_untell_56
abbrev rm_X2z_copyMerged : Room := { frames := 2, cells := 0, slots := 0, locals := 61 }
set_option maxRecDepth 100000 in
set_option maxHeartbeats 8000000 in
theorem c_X2z_copyMerged {l : Launch} {E : (Nat → Prop) → State → Prop} (hO : bw_Ok E) {G : va_G} {cI cB cJ cN cW : ClassId} (b : Nat) (q : Nat → Nat) (n : Int) (g : Nat → Nat → Int) (hN : NetOk n g) (o : Nat) (qo : Nat → Nat) (no : Int) (go : Nat → Nat → Int) (hM : NetOk no go) (x y : Int) (hx9 : 0 ≤ x ∧ x < 10) (hy9 : 0 ≤ y ∧ y < 10) (hxy : x ≠ y) (hq : ∀ t : Int, (t = 0 ∨ t = 1) → go 6 ((2 * x) + t).toNat = go 6 ((2 * y) + t).toNat) : bw_Cv (S := zU) l yX2_copyMerged (bw_ws (Cond.code yX2_copyMerged cX2_copyMerged 6 none)) rm_X2z_copyMerged E G (bw_kt cI cB cJ cN cW) [.ref b, .ref o, .int (zI x), .int (zI y)] [(b, .inr (2, [.int (zI n), .ref (q 0), .ref (q 1), .ref (q 2), .ref (q 3), .ref (q 4), .ref (q 5), .ref (q 6), .ref (q 7)])), ((q 0), .inl (cI, 10, .inl (fun k => zI ((g 0) k)))), ((q 1), .inl (cI, 10, .inl (fun k => zI ((g 1) k)))), ((q 2), .inl (cI, 10, .inl (fun k => zI ((g 2) k)))), ((q 3), .inl (cI, 40, .inl (fun k => zI ((g 3) k)))), ((q 4), .inl (cI, 40, .inl (fun k => zI ((g 4) k)))), ((q 5), .inl (cI, 40, .inl (fun k => zI ((g 5) k)))), ((q 6), .inl (cI, 20, .inl (fun k => zI ((g 6) k)))), ((q 7), .inl (cI, 20, .inl (fun k => zI ((g 7) k)))), (o, .inr (2, [.int (zI no), .ref (qo 0), .ref (qo 1), .ref (qo 2), .ref (qo 3), .ref (qo 4), .ref (qo 5), .ref (qo 6), .ref (qo 7)])), ((qo 0), .inl (cI, 10, .inl (fun k => zI ((go 0) k)))), ((qo 1), .inl (cI, 10, .inl (fun k => zI ((go 1) k)))), ((qo 2), .inl (cI, 10, .inl (fun k => zI ((go 2) k)))), ((qo 3), .inl (cI, 40, .inl (fun k => zI ((go 3) k)))), ((qo 4), .inl (cI, 40, .inl (fun k => zI ((go 4) k)))), ((qo 5), .inl (cI, 40, .inl (fun k => zI ((go 5) k)))), ((qo 6), .inl (cI, 20, .inl (fun k => zI ((go 6) k)))), ((qo 7), .inl (cI, 20, .inl (fun k => zI ((go 7) k))))] (fun u => NetOk no u.2 ∧ MrgC go u.2 x y) (fun u => [(b, .inr (2, [.int (zI no), .ref (q 0), .ref (q 1), .ref (q 2), .ref (q 3), .ref (q 4), .ref (q 5), .ref (q 6), .ref (q 7)])), ((q 0), .inl (cI, 10, .inl (fun k => zI ((u.2 0) k)))), ((q 1), .inl (cI, 10, .inl (fun k => zI ((u.2 1) k)))), ((q 2), .inl (cI, 10, .inl (fun k => zI ((u.2 2) k)))), ((q 3), .inl (cI, 40, .inl (fun k => zI ((u.2 3) k)))), ((q 4), .inl (cI, 40, .inl (fun k => zI ((u.2 4) k)))), ((q 5), .inl (cI, 40, .inl (fun k => zI ((u.2 5) k)))), ((q 6), .inl (cI, 20, .inl (fun k => zI ((u.2 6) k)))), ((q 7), .inl (cI, 20, .inl (fun k => zI ((u.2 7) k)))), (o, .inr (2, [.int (zI no), .ref (qo 0), .ref (qo 1), .ref (qo 2), .ref (qo 3), .ref (qo 4), .ref (qo 5), .ref (qo 6), .ref (qo 7)])), ((qo 0), .inl (cI, 10, .inl (fun k => zI ((go 0) k)))), ((qo 1), .inl (cI, 10, .inl (fun k => zI ((go 1) k)))), ((qo 2), .inl (cI, 10, .inl (fun k => zI ((go 2) k)))), ((qo 3), .inl (cI, 40, .inl (fun k => zI ((go 3) k)))), ((qo 4), .inl (cI, 40, .inl (fun k => zI ((go 4) k)))), ((qo 5), .inl (cI, 40, .inl (fun k => zI ((go 5) k)))), ((qo 6), .inl (cI, 20, .inl (fun k => zI ((go 6) k)))), ((qo 7), .inl (cI, 20, .inl (fun k => zI ((go 7) k))))]) := by
  refine bw_Cv.of (cc := cX2_copyMerged) (maxL := 6) (by decide) rfl (Nat.le_of_ble_eq_true rfl) ?_
  intro p e s m below meth c A Q hx hb hml hts hown hin hK hA hS hP hD hE ret ls hl
  have F : CallFix p m c cX2_copyMerged 6 s ([.ref b, .ref o, .int (zI x), .int (zI y)] : List Value).toArray bw_T RX2 := ⟨hx, hb, hml, hown, fun w h => hts w (List.mem_cons_of_mem _ h)⟩
  replace hl : lv_has ls 6 [(0, .ref b), (1, .ref o), (2, .int (zI x)), (3, .int (zI y))] := hl
  have hN0 := hN.1
  have hM0 := hM.1
  refine lv_aload_n hx hb dX2_copyMerged_0 rfl (lv_at hl 0 rfl) ?_
  refine lv_aload_n hx hb dX2_copyMerged_1 rfl (lv_at hl 1 rfl) ?_
  refine r_callVv (As := [.ref o]) (rest := []) (wr := []) F hK hP hD hS hA hO hE (c_X2_copyFrom hO b q n g hN o qo no go hM) k_982 kv_X2_copyFrom 1 rfl (by decide +kernel) ⟨Nat.le_of_ble_eq_true rfl, Nat.le_of_ble_eq_true rfl⟩ [0, 1, 2, 3, 4, 5, 6, 7, 8, 9, 10, 11, 12, 13, 14, 15, 16, 17] [] rfl rfl (by decide) (by decide) (by decide) 0 2 rfl rfl rfl hl.1 rfl (Nat.le_of_ble_eq_true rfl) dX2_copyMerged_2 ⟨Nat.le_of_ble_eq_true rfl, Nat.le_of_ble_eq_true rfl⟩ (w1 := fun u1 => [(b, .inr (2, [.int (zI no), .ref (q 0), .ref (q 1), .ref (q 2), .ref (q 3), .ref (q 4), .ref (q 5), .ref (q 6), .ref (q 7)])), ((q 0), .inl (cI, 10, .inl (fun k => zI ((u1.2 0) k)))), ((q 1), .inl (cI, 10, .inl (fun k => zI ((u1.2 1) k)))), ((q 2), .inl (cI, 10, .inl (fun k => zI ((u1.2 2) k)))), ((q 3), .inl (cI, 40, .inl (fun k => zI ((u1.2 3) k)))), ((q 4), .inl (cI, 40, .inl (fun k => zI ((u1.2 4) k)))), ((q 5), .inl (cI, 40, .inl (fun k => zI ((u1.2 5) k)))), ((q 6), .inl (cI, 20, .inl (fun k => zI ((u1.2 6) k)))), ((q 7), .inl (cI, 20, .inl (fun k => zI ((u1.2 7) k)))), (o, .inr (2, [.int (zI no), .ref (qo 0), .ref (qo 1), .ref (qo 2), .ref (qo 3), .ref (qo 4), .ref (qo 5), .ref (qo 6), .ref (qo 7)])), ((qo 0), .inl (cI, 10, .inl (fun k => zI ((go 0) k)))), ((qo 1), .inl (cI, 10, .inl (fun k => zI ((go 1) k)))), ((qo 2), .inl (cI, 10, .inl (fun k => zI ((go 2) k)))), ((qo 3), .inl (cI, 40, .inl (fun k => zI ((go 3) k)))), ((qo 4), .inl (cI, 40, .inl (fun k => zI ((go 4) k)))), ((qo 5), .inl (cI, 40, .inl (fun k => zI ((go 5) k)))), ((qo 6), .inl (cI, 20, .inl (fun k => zI ((go 6) k)))), ((qo 7), .inl (cI, 20, .inl (fun k => zI ((go 7) k))))]) (fun _ => rfl) (fun  u1 H locs hp2 hP hD hS => ?_)
  have hN3 : NetOk no u1.2 := NetOk.congr hM hp2
  have hf4 := hN3.1
  have hq1 : ∀ t : Int, (t = 0 ∨ t = 1) → u1.2 6 ((2 * x) + t).toNat = u1.2 6 ((2 * y) + t).toNat := fun t ht => ((hp2 6 _ (show _ < 20 by omega)).trans (hq t ht)).trans (hp2 6 _ (show _ < 20 by omega)).symm
  refine lv_iconst (v := zI 0) hx hb dX2_copyMerged_5 rfl ?_
  refine lv_istore (lv' := [(4, .int (zI 0)), (0, .ref b), (1, .ref o), (2, .int (zI x)), (3, .int (zI y))]) hx hb dX2_copyMerged_6 hl (by decide) rfl (fun ls hl => ?_)
  refine W.widen (k := 0) (n := 0) (Nat.le_of_ble_eq_true rfl) (Nat.le_of_ble_eq_true rfl) ?_
  refine (?_ : ∀ (n9_1 : Nat) (v4 : Int) (gg : Nat → Nat → Int) (H : Heap) (locs : List Loc), (0 ≤ v4 ∧ v4 ≤ 2) → (2 - v4 : Int).toNat < n9_1 → (NetOk no gg) → (∀ t : Int, (t = 0 ∨ t = 1) → gg 6 ((2 * x) + t).toNat = gg 6 ((2 * y) + t).toNat) → ((∀ j k : Nat, j ≠ 7 → k < netLen j → gg j k = go j k) ∧ ∀ l s : Nat, l < 10 → s < 2 → gg 7 (2 * l + s) = if (l : Int) = x ∧ (s : Int) < v4 then lessZ 9 (go 7 (2 * l + s) + go 7 (2 * y.toNat + s)) else go 7 (2 * l + s)) → va_P G vwCl [(b, .inr (2, [.int (zI no), .ref (q 0), .ref (q 1), .ref (q 2), .ref (q 3), .ref (q 4), .ref (q 5), .ref (q 6), .ref (q 7)])), ((q 0), .inl (cI, 10, .inl (fun k => zI ((gg 0) k)))), ((q 1), .inl (cI, 10, .inl (fun k => zI ((gg 1) k)))), ((q 2), .inl (cI, 10, .inl (fun k => zI ((gg 2) k)))), ((q 3), .inl (cI, 40, .inl (fun k => zI ((gg 3) k)))), ((q 4), .inl (cI, 40, .inl (fun k => zI ((gg 4) k)))), ((q 5), .inl (cI, 40, .inl (fun k => zI ((gg 5) k)))), ((q 6), .inl (cI, 20, .inl (fun k => zI ((gg 6) k)))), ((q 7), .inl (cI, 20, .inl (fun k => zI ((gg 7) k)))), (o, .inr (2, [.int (zI no), .ref (qo 0), .ref (qo 1), .ref (qo 2), .ref (qo 3), .ref (qo 4), .ref (qo 5), .ref (qo 6), .ref (qo 7)])), ((qo 0), .inl (cI, 10, .inl (fun k => zI ((go 0) k)))), ((qo 1), .inl (cI, 10, .inl (fun k => zI ((go 1) k)))), ((qo 2), .inl (cI, 10, .inl (fun k => zI ((go 2) k)))), ((qo 3), .inl (cI, 40, .inl (fun k => zI ((go 3) k)))), ((qo 4), .inl (cI, 40, .inl (fun k => zI ((go 4) k)))), ((qo 5), .inl (cI, 40, .inl (fun k => zI ((go 5) k)))), ((qo 6), .inl (cI, 20, .inl (fun k => zI ((go 6) k)))), ((qo 7), .inl (cI, 20, .inl (fun k => zI ((go 7) k))))] H → va_D A [(b, .inr (2, [.int (zI no), .ref (q 0), .ref (q 1), .ref (q 2), .ref (q 3), .ref (q 4), .ref (q 5), .ref (q 6), .ref (q 7)])), ((q 0), .inl (cI, 10, .inl (fun k => zI ((gg 0) k)))), ((q 1), .inl (cI, 10, .inl (fun k => zI ((gg 1) k)))), ((q 2), .inl (cI, 10, .inl (fun k => zI ((gg 2) k)))), ((q 3), .inl (cI, 40, .inl (fun k => zI ((gg 3) k)))), ((q 4), .inl (cI, 40, .inl (fun k => zI ((gg 4) k)))), ((q 5), .inl (cI, 40, .inl (fun k => zI ((gg 5) k)))), ((q 6), .inl (cI, 20, .inl (fun k => zI ((gg 6) k)))), ((q 7), .inl (cI, 20, .inl (fun k => zI ((gg 7) k)))), (o, .inr (2, [.int (zI no), .ref (qo 0), .ref (qo 1), .ref (qo 2), .ref (qo 3), .ref (qo 4), .ref (qo 5), .ref (qo 6), .ref (qo 7)])), ((qo 0), .inl (cI, 10, .inl (fun k => zI ((go 0) k)))), ((qo 1), .inl (cI, 10, .inl (fun k => zI ((go 1) k)))), ((qo 2), .inl (cI, 10, .inl (fun k => zI ((go 2) k)))), ((qo 3), .inl (cI, 40, .inl (fun k => zI ((go 3) k)))), ((qo 4), .inl (cI, 40, .inl (fun k => zI ((go 4) k)))), ((qo 5), .inl (cI, 40, .inl (fun k => zI ((go 5) k)))), ((qo 6), .inl (cI, 20, .inl (fun k => zI ((go 6) k)))), ((qo 7), .inl (cI, 20, .inl (fun k => zI ((go 7) k))))] → va_S A s.heap H locs → ∀ ls : Array Slot, lv_has ls 6 [(4, .int (zI v4)), (0, .ref b), (1, .ref o), (2, .int (zI x)), (3, .int (zI y))] → W p l e rm_X2z_copyMerged s m ([.ref b, .ref o, .int (zI x), .int (zI y)] : List Value).toArray below meth c H locs 0 0 Q (F0 m 8 ls [])) ((2 - 0 : Int).toNat + 1) 0 u1.2 _ _ (by omega) (by omega) hN3 hq1 ⟨fun j k _ hk => hp2 j k hk, fun l s hl hs => by rw [if_neg (by omega)]; exact hp2 7 _ (show _ < 20 by omega)⟩ hP hD hS ls hl
  clear hP hD hS hl ls
  intro n9_1
  induction n9_1 with
  | zero =>
    intro v4 gg H locs hI hM
    exact absurd hM (by omega)
  | succ n9_1 ih1 =>
    intro v4 gg H locs hI1 hM1 hG hq2 hm7 hP hD hS ls hl
    have hf5 := hG.1
    refine lv_iload hx hb dX2_copyMerged_8 (lv_at hl 0 rfl) ?_
    refine lv_iconst (v := zI 1) hx hb dX2_copyMerged_10 rfl ?_
    refine rz_icmp_gt (tgt := 59) F (by omega) (by omega) dX2_copyMerged_11 (by decide) (fun h11_5 => ?_) (fun h11_5 => ?_)
    · refine lv_aload_n hx hb dX2_copyMerged_59 rfl (lv_at hl 1 rfl) ?_
      refine lv_iload_n hx hb dX2_copyMerged_60 rfl (lv_at hl 4 rfl) ?_
      refine r_callVv (As := [.int (zI y)]) (rest := []) (wr := [(o, .inr (2, [.int (zI no), .ref (qo 0), .ref (qo 1), .ref (qo 2), .ref (qo 3), .ref (qo 4), .ref (qo 5), .ref (qo 6), .ref (qo 7)])), ((qo 0), .inl (cI, 10, .inl (fun k => zI ((go 0) k)))), ((qo 1), .inl (cI, 10, .inl (fun k => zI ((go 1) k)))), ((qo 2), .inl (cI, 10, .inl (fun k => zI ((go 2) k)))), ((qo 3), .inl (cI, 40, .inl (fun k => zI ((go 3) k)))), ((qo 4), .inl (cI, 40, .inl (fun k => zI ((go 4) k)))), ((qo 5), .inl (cI, 40, .inl (fun k => zI ((go 5) k)))), ((qo 6), .inl (cI, 20, .inl (fun k => zI ((go 6) k)))), ((qo 7), .inl (cI, 20, .inl (fun k => zI ((go 7) k))))]) F hK hP hD hS hA hO hE (c_X2z_untellN hO b q no gg hG y (by omega)) k_140 kv_X2_untell 1 rfl (by decide +kernel) ⟨Nat.le_of_ble_eq_true rfl, Nat.le_of_ble_eq_true rfl⟩ [0, 1, 2, 3, 4, 5, 6, 7, 8] [9, 10, 11, 12, 13, 14, 15, 16, 17] rfl rfl (by decide) (by decide) (by decide) 0 2 rfl rfl rfl hl.1 rfl (Nat.le_of_ble_eq_true rfl) dX2_copyMerged_61 ⟨Nat.le_of_ble_eq_true rfl, Nat.le_of_ble_eq_true rfl⟩ (w1 := fun u7 => [(o, .inr (2, [.int (zI no), .ref (qo 0), .ref (qo 1), .ref (qo 2), .ref (qo 3), .ref (qo 4), .ref (qo 5), .ref (qo 6), .ref (qo 7)])), ((qo 0), .inl (cI, 10, .inl (fun k => zI ((go 0) k)))), ((qo 1), .inl (cI, 10, .inl (fun k => zI ((go 1) k)))), ((qo 2), .inl (cI, 10, .inl (fun k => zI ((go 2) k)))), ((qo 3), .inl (cI, 40, .inl (fun k => zI ((go 3) k)))), ((qo 4), .inl (cI, 40, .inl (fun k => zI ((go 4) k)))), ((qo 5), .inl (cI, 40, .inl (fun k => zI ((go 5) k)))), ((qo 6), .inl (cI, 20, .inl (fun k => zI ((go 6) k)))), ((qo 7), .inl (cI, 20, .inl (fun k => zI ((go 7) k)))), (b, .inr (2, [.int (zI no), .ref (q 0), .ref (q 1), .ref (q 2), .ref (q 3), .ref (q 4), .ref (q 5), .ref (q 6), .ref (q 7)])), ((q 0), .inl (cI, 10, .inl (fun k => zI ((u7.2 0) k)))), ((q 1), .inl (cI, 10, .inl (fun k => zI ((u7.2 1) k)))), ((q 2), .inl (cI, 10, .inl (fun k => zI ((u7.2 2) k)))), ((q 3), .inl (cI, 40, .inl (fun k => zI ((u7.2 3) k)))), ((q 4), .inl (cI, 40, .inl (fun k => zI ((u7.2 4) k)))), ((q 5), .inl (cI, 40, .inl (fun k => zI ((u7.2 5) k)))), ((q 6), .inl (cI, 20, .inl (fun k => zI ((u7.2 6) k)))), ((q 7), .inl (cI, 20, .inl (fun k => zI ((u7.2 7) k))))]) (fun _ => rfl) (fun  u7 H locs hp8 hP hD hS => ?_)
      have hf9 := hp8.1.1
      refine lv_iconst (v := zI 0) hx hb dX2_copyMerged_64 rfl ?_
      refine lv_istore (lv' := [(4, .int (zI 0)), (0, .ref b), (1, .ref o), (2, .int (zI x)), (3, .int (zI y))]) hx hb dX2_copyMerged_65 hl (by decide) rfl (fun ls hl => ?_)
      refine W.widen (k := 0) (n := 0) (Nat.le_of_ble_eq_true rfl) (Nat.le_of_ble_eq_true rfl) ?_
      refine (?_ : ∀ (n9_2 : Nat) (v4 : Int) (gg : Nat → Nat → Int) (H : Heap) (locs : List Loc), (0 ≤ v4 ∧ v4 ≤ 20) → (20 - v4 : Int).toNat < n9_2 → (NetOk no gg) → (MA go gg x y v4 0) → va_P G vwCl [(o, .inr (2, [.int (zI no), .ref (qo 0), .ref (qo 1), .ref (qo 2), .ref (qo 3), .ref (qo 4), .ref (qo 5), .ref (qo 6), .ref (qo 7)])), ((qo 0), .inl (cI, 10, .inl (fun k => zI ((go 0) k)))), ((qo 1), .inl (cI, 10, .inl (fun k => zI ((go 1) k)))), ((qo 2), .inl (cI, 10, .inl (fun k => zI ((go 2) k)))), ((qo 3), .inl (cI, 40, .inl (fun k => zI ((go 3) k)))), ((qo 4), .inl (cI, 40, .inl (fun k => zI ((go 4) k)))), ((qo 5), .inl (cI, 40, .inl (fun k => zI ((go 5) k)))), ((qo 6), .inl (cI, 20, .inl (fun k => zI ((go 6) k)))), ((qo 7), .inl (cI, 20, .inl (fun k => zI ((go 7) k)))), (b, .inr (2, [.int (zI no), .ref (q 0), .ref (q 1), .ref (q 2), .ref (q 3), .ref (q 4), .ref (q 5), .ref (q 6), .ref (q 7)])), ((q 0), .inl (cI, 10, .inl (fun k => zI ((gg 0) k)))), ((q 1), .inl (cI, 10, .inl (fun k => zI ((gg 1) k)))), ((q 2), .inl (cI, 10, .inl (fun k => zI ((gg 2) k)))), ((q 3), .inl (cI, 40, .inl (fun k => zI ((gg 3) k)))), ((q 4), .inl (cI, 40, .inl (fun k => zI ((gg 4) k)))), ((q 5), .inl (cI, 40, .inl (fun k => zI ((gg 5) k)))), ((q 6), .inl (cI, 20, .inl (fun k => zI ((gg 6) k)))), ((q 7), .inl (cI, 20, .inl (fun k => zI ((gg 7) k))))] H → va_D A [(o, .inr (2, [.int (zI no), .ref (qo 0), .ref (qo 1), .ref (qo 2), .ref (qo 3), .ref (qo 4), .ref (qo 5), .ref (qo 6), .ref (qo 7)])), ((qo 0), .inl (cI, 10, .inl (fun k => zI ((go 0) k)))), ((qo 1), .inl (cI, 10, .inl (fun k => zI ((go 1) k)))), ((qo 2), .inl (cI, 10, .inl (fun k => zI ((go 2) k)))), ((qo 3), .inl (cI, 40, .inl (fun k => zI ((go 3) k)))), ((qo 4), .inl (cI, 40, .inl (fun k => zI ((go 4) k)))), ((qo 5), .inl (cI, 40, .inl (fun k => zI ((go 5) k)))), ((qo 6), .inl (cI, 20, .inl (fun k => zI ((go 6) k)))), ((qo 7), .inl (cI, 20, .inl (fun k => zI ((go 7) k)))), (b, .inr (2, [.int (zI no), .ref (q 0), .ref (q 1), .ref (q 2), .ref (q 3), .ref (q 4), .ref (q 5), .ref (q 6), .ref (q 7)])), ((q 0), .inl (cI, 10, .inl (fun k => zI ((gg 0) k)))), ((q 1), .inl (cI, 10, .inl (fun k => zI ((gg 1) k)))), ((q 2), .inl (cI, 10, .inl (fun k => zI ((gg 2) k)))), ((q 3), .inl (cI, 40, .inl (fun k => zI ((gg 3) k)))), ((q 4), .inl (cI, 40, .inl (fun k => zI ((gg 4) k)))), ((q 5), .inl (cI, 40, .inl (fun k => zI ((gg 5) k)))), ((q 6), .inl (cI, 20, .inl (fun k => zI ((gg 6) k)))), ((q 7), .inl (cI, 20, .inl (fun k => zI ((gg 7) k))))] → va_S A s.heap H locs → ∀ ls : Array Slot, lv_has ls 6 [(4, .int (zI v4)), (0, .ref b), (1, .ref o), (2, .int (zI x)), (3, .int (zI y))] → W p l e rm_X2z_copyMerged s m ([.ref b, .ref o, .int (zI x), .int (zI y)] : List Value).toArray below meth c H locs 0 0 Q (F0 m 67 ls [])) ((20 - 0 : Int).toNat + 1) 0 u7.2 _ _ (by omega) (by omega) hp8.1 (MA.of hx9 hy9 (by omega) hm7 hp8.2) hP hD hS ls hl
      clear hP hD hS hl ls
      intro n9_2
      induction n9_2 with
      | zero =>
        intro v4 gg H locs hI hM
        exact absurd hM (by omega)
      | succ n9_2 ih2 =>
        intro v4 gg H locs hI2 hM2 hG hma hP hD hS ls hl
        have hf10 := hG.1
        refine lv_iload hx hb dX2_copyMerged_67 (lv_at hl 0 rfl) ?_
        refine lv_bipush (v := zI 20) hx hb dX2_copyMerged_69 (by decide) ?_
        refine rz_icmp_ge (tgt := 109) F (by omega) (by omega) dX2_copyMerged_71 (by decide) (fun h71_10 => ?_) (fun h71_10 => ?_)
        · refine lv_iconst (v := zI 0) hx hb dX2_copyMerged_109 rfl ?_
          refine lv_istore (lv' := [(4, .int (zI 0)), (0, .ref b), (1, .ref o), (2, .int (zI x)), (3, .int (zI y))]) hx hb dX2_copyMerged_110 hl (by decide) rfl (fun ls hl => ?_)
          refine W.widen (k := 0) (n := 0) (Nat.le_of_ble_eq_true rfl) (Nat.le_of_ble_eq_true rfl) ?_
          refine (?_ : ∀ (n9_3 : Nat) (v4 : Int) (gg : Nat → Nat → Int) (H : Heap) (locs : List Loc), (0 ≤ v4 ∧ v4 ≤ 40) → (40 - v4 : Int).toNat < n9_3 → (NetOk no gg) → (MA go gg x y 20 v4) → va_P G vwCl [(o, .inr (2, [.int (zI no), .ref (qo 0), .ref (qo 1), .ref (qo 2), .ref (qo 3), .ref (qo 4), .ref (qo 5), .ref (qo 6), .ref (qo 7)])), ((qo 0), .inl (cI, 10, .inl (fun k => zI ((go 0) k)))), ((qo 1), .inl (cI, 10, .inl (fun k => zI ((go 1) k)))), ((qo 2), .inl (cI, 10, .inl (fun k => zI ((go 2) k)))), ((qo 3), .inl (cI, 40, .inl (fun k => zI ((go 3) k)))), ((qo 4), .inl (cI, 40, .inl (fun k => zI ((go 4) k)))), ((qo 5), .inl (cI, 40, .inl (fun k => zI ((go 5) k)))), ((qo 6), .inl (cI, 20, .inl (fun k => zI ((go 6) k)))), ((qo 7), .inl (cI, 20, .inl (fun k => zI ((go 7) k)))), (b, .inr (2, [.int (zI no), .ref (q 0), .ref (q 1), .ref (q 2), .ref (q 3), .ref (q 4), .ref (q 5), .ref (q 6), .ref (q 7)])), ((q 0), .inl (cI, 10, .inl (fun k => zI ((gg 0) k)))), ((q 1), .inl (cI, 10, .inl (fun k => zI ((gg 1) k)))), ((q 2), .inl (cI, 10, .inl (fun k => zI ((gg 2) k)))), ((q 3), .inl (cI, 40, .inl (fun k => zI ((gg 3) k)))), ((q 4), .inl (cI, 40, .inl (fun k => zI ((gg 4) k)))), ((q 5), .inl (cI, 40, .inl (fun k => zI ((gg 5) k)))), ((q 6), .inl (cI, 20, .inl (fun k => zI ((gg 6) k)))), ((q 7), .inl (cI, 20, .inl (fun k => zI ((gg 7) k))))] H → va_D A [(o, .inr (2, [.int (zI no), .ref (qo 0), .ref (qo 1), .ref (qo 2), .ref (qo 3), .ref (qo 4), .ref (qo 5), .ref (qo 6), .ref (qo 7)])), ((qo 0), .inl (cI, 10, .inl (fun k => zI ((go 0) k)))), ((qo 1), .inl (cI, 10, .inl (fun k => zI ((go 1) k)))), ((qo 2), .inl (cI, 10, .inl (fun k => zI ((go 2) k)))), ((qo 3), .inl (cI, 40, .inl (fun k => zI ((go 3) k)))), ((qo 4), .inl (cI, 40, .inl (fun k => zI ((go 4) k)))), ((qo 5), .inl (cI, 40, .inl (fun k => zI ((go 5) k)))), ((qo 6), .inl (cI, 20, .inl (fun k => zI ((go 6) k)))), ((qo 7), .inl (cI, 20, .inl (fun k => zI ((go 7) k)))), (b, .inr (2, [.int (zI no), .ref (q 0), .ref (q 1), .ref (q 2), .ref (q 3), .ref (q 4), .ref (q 5), .ref (q 6), .ref (q 7)])), ((q 0), .inl (cI, 10, .inl (fun k => zI ((gg 0) k)))), ((q 1), .inl (cI, 10, .inl (fun k => zI ((gg 1) k)))), ((q 2), .inl (cI, 10, .inl (fun k => zI ((gg 2) k)))), ((q 3), .inl (cI, 40, .inl (fun k => zI ((gg 3) k)))), ((q 4), .inl (cI, 40, .inl (fun k => zI ((gg 4) k)))), ((q 5), .inl (cI, 40, .inl (fun k => zI ((gg 5) k)))), ((q 6), .inl (cI, 20, .inl (fun k => zI ((gg 6) k)))), ((q 7), .inl (cI, 20, .inl (fun k => zI ((gg 7) k))))] → va_S A s.heap H locs → ∀ ls : Array Slot, lv_has ls 6 [(4, .int (zI v4)), (0, .ref b), (1, .ref o), (2, .int (zI x)), (3, .int (zI y))] → W p l e rm_X2z_copyMerged s m ([.ref b, .ref o, .int (zI x), .int (zI y)] : List Value).toArray below meth c H locs 0 0 Q (F0 m 112 ls [])) ((40 - 0 : Int).toNat + 1) 0 gg _ _ (by omega) (by omega) hG (MA.v20 hma (by omega)) hP hD hS ls hl
          clear hP hD hS hl ls
          intro n9_3
          induction n9_3 with
          | zero =>
            intro v4 gg H locs hI hM
            exact absurd hM (by omega)
          | succ n9_3 ih3 =>
            intro v4 gg H locs hI3 hM3 hG hma hP hD hS ls hl
            have hf12 := hG.1
            refine lv_iload hx hb dX2_copyMerged_112 (lv_at hl 0 rfl) ?_
            refine lv_bipush (v := zI 40) hx hb dX2_copyMerged_114 (by decide) ?_
            refine rz_icmp_ge (tgt := 155) F (by omega) (by omega) dX2_copyMerged_116 (by decide) (fun h116_12 => ?_) (fun h116_12 => ?_)
            · exact ret (fun _ => 0, gg) _ _ _ _ _ _ ⟨hG, MA.end hma (by omega)⟩ (bw_subP (isC := [9, 10, 11, 12, 13, 14, 15, 16, 17, 0, 1, 2, 3, 4, 5, 6, 7, 8]) hP rfl) (hD.sub [9, 10, 11, 12, 13, 14, 15, 16, 17, 0, 1, 2, 3, 4, 5, 6, 7, 8] (by decide) rfl) hS (Nat.le_of_ble_eq_true rfl) (Nat.le_of_ble_eq_true rfl) dX2_copyMerged_155
            · refine lv_aload_n hx hb dX2_copyMerged_119 rfl (lv_at hl 1 rfl) ?_
              refine r_get F hK hP 9 4 rfl rfl in_X2 (by decide) k_156 rfl dX2_copyMerged_120 ?_
              refine lv_iload hx hb dX2_copyMerged_123 (lv_at hl 0 rfl) ?_
              refine rz_iald F hK hP 13 0 rfl rfl (by omega) (by omega) dX2_copyMerged_125 ?_
              have hc14 := hG.2.2.2.2.1 (v4).toNat (by omega)
              refine lv_iconst (v := zI 3) hx hb dX2_copyMerged_126 rfl ?_
              refine rz_icmp_ne (tgt := 149) F (by omega) (by omega) dX2_copyMerged_127 (by decide) (fun h127_14 => ?_) (fun h127_14 => ?_)
              · refine lv_iinc (v := zI (v4 + 1)) (lv' := [(4, .int (zI (v4 + 1))), (0, .ref b), (1, .ref o), (2, .int (zI x)), (3, .int (zI y))]) hx hb dX2_copyMerged_149 hl (k := 0) rfl (zI_add _ _) (by decide) rfl (fun ls hl => ?_)
                refine lv_goto (tgt := 112) hx hb dX2_copyMerged_152 (by decide) ?_
                exact ih3 (v4 + 1) gg _ _ (by omega) (by omega) hG (MA.no4 hma (by omega) (by omega)) hP hD hS ls (lv_sub hl [0, 1, 2, 3, 4] rfl)
              · refine lv_aload_n hx hb dX2_copyMerged_130 rfl (lv_at hl 1 rfl) ?_
                refine r_get F hK hP 9 5 rfl rfl in_X2 (by decide) k_159 rfl dX2_copyMerged_131 ?_
                refine lv_iload hx hb dX2_copyMerged_134 (lv_at hl 0 rfl) ?_
                refine rz_iald F hK hP 14 0 rfl rfl (by omega) (by omega) dX2_copyMerged_136 ?_
                have hc16 := hG.2.2.2.2.2.1 (v4).toNat (by omega)
                refine lv_iload_n hx hb dX2_copyMerged_137 rfl (lv_at hl 4 rfl) ?_
                refine rz_icmp_ne (tgt := 149) F (by omega) (by omega) dX2_copyMerged_138 (by decide) (fun h138_16 => ?_) (fun h138_16 => ?_)
                · refine lv_iinc (v := zI (v4 + 1)) (lv' := [(4, .int (zI (v4 + 1))), (0, .ref b), (1, .ref o), (2, .int (zI x)), (3, .int (zI y))]) hx hb dX2_copyMerged_149 hl (k := 0) rfl (zI_add _ _) (by decide) rfl (fun ls hl => ?_)
                  refine lv_goto (tgt := 112) hx hb dX2_copyMerged_152 (by decide) ?_
                  exact ih3 (v4 + 1) gg _ _ (by omega) (by omega) hG (MA.no4 hma (by omega) (by omega)) hP hD hS ls (lv_sub hl [0, 1, 2, 3, 4] rfl)
                · refine lv_aload_n hx hb dX2_copyMerged_141 rfl (lv_at hl 1 rfl) ?_
                  refine r_get F hK hP 9 5 rfl rfl in_X2 (by decide) k_159 rfl dX2_copyMerged_142 ?_
                  refine lv_iload hx hb dX2_copyMerged_145 (lv_at hl 0 rfl) ?_
                  refine lv_iload_n hx hb dX2_copyMerged_147 rfl (lv_at hl 3 rfl) ?_
                  refine rz_iastG F hK hP hD hS 14 0 rfl rfl (by omega) (by omega) dX2_copyMerged_148 (w1 := fun g18 => [(o, .inr (2, [.int (zI no), .ref (qo 0), .ref (qo 1), .ref (qo 2), .ref (qo 3), .ref (qo 4), .ref (qo 5), .ref (qo 6), .ref (qo 7)])), ((qo 0), .inl (cI, 10, .inl (fun k => zI ((go 0) k)))), ((qo 1), .inl (cI, 10, .inl (fun k => zI ((go 1) k)))), ((qo 2), .inl (cI, 10, .inl (fun k => zI ((go 2) k)))), ((qo 3), .inl (cI, 40, .inl (fun k => zI ((go 3) k)))), ((qo 4), .inl (cI, 40, .inl (fun k => zI ((go 4) k)))), ((qo 5), .inl (cI, 40, .inl (fun k => zI ((go 5) k)))), ((qo 6), .inl (cI, 20, .inl (fun k => zI ((go 6) k)))), ((qo 7), .inl (cI, 20, .inl (fun k => zI ((go 7) k)))), (b, .inr (2, [.int (zI no), .ref (q 0), .ref (q 1), .ref (q 2), .ref (q 3), .ref (q 4), .ref (q 5), .ref (q 6), .ref (q 7)])), ((q 0), .inl (cI, 10, .inl (fun k => zI ((gg 0) k)))), ((q 1), .inl (cI, 10, .inl (fun k => zI ((gg 1) k)))), ((q 2), .inl (cI, 10, .inl (fun k => zI ((gg 2) k)))), ((q 3), .inl (cI, 40, .inl (fun k => zI ((gg 3) k)))), ((q 4), .inl (cI, 40, .inl (fun k => zI (g18 k)))), ((q 5), .inl (cI, 40, .inl (fun k => zI ((gg 5) k)))), ((q 6), .inl (cI, 20, .inl (fun k => zI ((gg 6) k)))), ((q 7), .inl (cI, 20, .inl (fun k => zI ((gg 7) k))))]) (fun _ => rfl) (fun g18 e_g18 H locs hP hD hS => ?_)
                  have hN19 : NetOk no (nSet gg 4 g18) := NetOk.set4 hG e_g18 (by omega)
                  have hf20 := hN19.1
                  refine lv_iinc (v := zI (v4 + 1)) (lv' := [(4, .int (zI (v4 + 1))), (0, .ref b), (1, .ref o), (2, .int (zI x)), (3, .int (zI y))]) hx hb dX2_copyMerged_149 hl (k := 0) rfl (zI_add _ _) (by decide) rfl (fun ls hl => ?_)
                  refine lv_goto (tgt := 112) hx hb dX2_copyMerged_152 (by decide) ?_
                  exact ih3 (v4 + 1) (nSet gg 4 g18) _ _ (by omega) (by omega) hN19 (MA.st4 hma (by omega) ⟨by omega, by omega⟩ e_g18) hP hD hS ls (lv_sub hl [0, 1, 2, 3, 4] rfl)
        · refine lv_aload_n hx hb dX2_copyMerged_74 rfl (lv_at hl 1 rfl) ?_
          refine r_get F hK hP 9 7 rfl rfl in_X2 (by decide) k_165 rfl dX2_copyMerged_75 ?_
          refine lv_iload hx hb dX2_copyMerged_78 (lv_at hl 0 rfl) ?_
          refine lv_aload_n hx hb dX2_copyMerged_80 rfl (lv_at hl 1 rfl) ?_
          refine r_get F hK hP 9 7 rfl rfl in_X2 (by decide) k_165 rfl dX2_copyMerged_81 ?_
          refine lv_iload hx hb dX2_copyMerged_84 (lv_at hl 0 rfl) ?_
          refine rz_iald F hK hP 16 0 rfl rfl (by omega) (by omega) dX2_copyMerged_86 ?_
          have hc21 := hG.2.2.2.2.2.2.2.1 (v4).toNat (by omega)
          refine lv_iload_n hx hb dX2_copyMerged_87 rfl (lv_at hl 4 rfl) ?_
          refine rz_icmp_ne (tgt := 95) F (by omega) (by omega) dX2_copyMerged_88 (by decide) (fun h88_21 => ?_) (fun h88_21 => ?_)
          · refine lv_aload_n hx hb dX2_copyMerged_95 rfl (lv_at hl 1 rfl) ?_
            refine r_get F hK hP 9 7 rfl rfl in_X2 (by decide) k_165 rfl dX2_copyMerged_96 ?_
            refine lv_iload hx hb dX2_copyMerged_99 (lv_at hl 0 rfl) ?_
            refine rz_iald F hK hP 16 0 rfl rfl (by omega) (by omega) dX2_copyMerged_101 ?_
            have hc23 := hG.2.2.2.2.2.2.2.1 (v4).toNat (by omega)
            refine rz_iastG F hK hP hD hS 16 0 rfl rfl (by omega) (by omega) dX2_copyMerged_102 (w1 := fun g24 => [(o, .inr (2, [.int (zI no), .ref (qo 0), .ref (qo 1), .ref (qo 2), .ref (qo 3), .ref (qo 4), .ref (qo 5), .ref (qo 6), .ref (qo 7)])), ((qo 0), .inl (cI, 10, .inl (fun k => zI ((go 0) k)))), ((qo 1), .inl (cI, 10, .inl (fun k => zI ((go 1) k)))), ((qo 2), .inl (cI, 10, .inl (fun k => zI ((go 2) k)))), ((qo 3), .inl (cI, 40, .inl (fun k => zI ((go 3) k)))), ((qo 4), .inl (cI, 40, .inl (fun k => zI ((go 4) k)))), ((qo 5), .inl (cI, 40, .inl (fun k => zI ((go 5) k)))), ((qo 6), .inl (cI, 20, .inl (fun k => zI ((go 6) k)))), ((qo 7), .inl (cI, 20, .inl (fun k => zI ((go 7) k)))), (b, .inr (2, [.int (zI no), .ref (q 0), .ref (q 1), .ref (q 2), .ref (q 3), .ref (q 4), .ref (q 5), .ref (q 6), .ref (q 7)])), ((q 0), .inl (cI, 10, .inl (fun k => zI ((gg 0) k)))), ((q 1), .inl (cI, 10, .inl (fun k => zI ((gg 1) k)))), ((q 2), .inl (cI, 10, .inl (fun k => zI ((gg 2) k)))), ((q 3), .inl (cI, 40, .inl (fun k => zI ((gg 3) k)))), ((q 4), .inl (cI, 40, .inl (fun k => zI ((gg 4) k)))), ((q 5), .inl (cI, 40, .inl (fun k => zI ((gg 5) k)))), ((q 6), .inl (cI, 20, .inl (fun k => zI (g24 k)))), ((q 7), .inl (cI, 20, .inl (fun k => zI ((gg 7) k))))]) (fun _ => rfl) (fun g24 e_g24 H locs hP hD hS => ?_)
            have hN25 : NetOk no (nSet gg 6 g24) := NetOk.set6 hG e_g24 (by omega)
            have hf26 := hN25.1
            refine lv_iinc (v := zI (v4 + 1)) (lv' := [(4, .int (zI (v4 + 1))), (0, .ref b), (1, .ref o), (2, .int (zI x)), (3, .int (zI y))]) hx hb dX2_copyMerged_103 hl (k := 0) rfl (zI_add _ _) (by decide) rfl (fun ls hl => ?_)
            refine lv_goto (tgt := 67) hx hb dX2_copyMerged_106 (by decide) ?_
            exact ih2 (v4 + 1) (nSet gg 6 g24) _ _ (by omega) (by omega) hN25 (MA.st6 hma (by omega) (by omega) e_g24 (Or.inr ⟨by omega, by omega⟩)) hP hD hS ls (lv_sub hl [0, 1, 2, 3, 4] rfl)
          · refine lv_iload_n hx hb dX2_copyMerged_91 rfl (lv_at hl 3 rfl) ?_
            refine lv_goto (tgt := 102) hx hb dX2_copyMerged_92 (by decide) ?_
            refine rz_iastG F hK hP hD hS 16 0 rfl rfl (by omega) (by omega) dX2_copyMerged_102 (w1 := fun g27 => [(o, .inr (2, [.int (zI no), .ref (qo 0), .ref (qo 1), .ref (qo 2), .ref (qo 3), .ref (qo 4), .ref (qo 5), .ref (qo 6), .ref (qo 7)])), ((qo 0), .inl (cI, 10, .inl (fun k => zI ((go 0) k)))), ((qo 1), .inl (cI, 10, .inl (fun k => zI ((go 1) k)))), ((qo 2), .inl (cI, 10, .inl (fun k => zI ((go 2) k)))), ((qo 3), .inl (cI, 40, .inl (fun k => zI ((go 3) k)))), ((qo 4), .inl (cI, 40, .inl (fun k => zI ((go 4) k)))), ((qo 5), .inl (cI, 40, .inl (fun k => zI ((go 5) k)))), ((qo 6), .inl (cI, 20, .inl (fun k => zI ((go 6) k)))), ((qo 7), .inl (cI, 20, .inl (fun k => zI ((go 7) k)))), (b, .inr (2, [.int (zI no), .ref (q 0), .ref (q 1), .ref (q 2), .ref (q 3), .ref (q 4), .ref (q 5), .ref (q 6), .ref (q 7)])), ((q 0), .inl (cI, 10, .inl (fun k => zI ((gg 0) k)))), ((q 1), .inl (cI, 10, .inl (fun k => zI ((gg 1) k)))), ((q 2), .inl (cI, 10, .inl (fun k => zI ((gg 2) k)))), ((q 3), .inl (cI, 40, .inl (fun k => zI ((gg 3) k)))), ((q 4), .inl (cI, 40, .inl (fun k => zI ((gg 4) k)))), ((q 5), .inl (cI, 40, .inl (fun k => zI ((gg 5) k)))), ((q 6), .inl (cI, 20, .inl (fun k => zI (g27 k)))), ((q 7), .inl (cI, 20, .inl (fun k => zI ((gg 7) k))))]) (fun _ => rfl) (fun g27 e_g27 H locs hP hD hS => ?_)
            have hN28 : NetOk no (nSet gg 6 g27) := NetOk.set6 hG e_g27 (by omega)
            have hf29 := hN28.1
            refine lv_iinc (v := zI (v4 + 1)) (lv' := [(4, .int (zI (v4 + 1))), (0, .ref b), (1, .ref o), (2, .int (zI x)), (3, .int (zI y))]) hx hb dX2_copyMerged_103 hl (k := 0) rfl (zI_add _ _) (by decide) rfl (fun ls hl => ?_)
            refine lv_goto (tgt := 67) hx hb dX2_copyMerged_106 (by decide) ?_
            exact ih2 (v4 + 1) (nSet gg 6 g27) _ _ (by omega) (by omega) hN28 (MA.st6 hma (by omega) (by omega) e_g27 (Or.inl ⟨by omega, rfl⟩)) hP hD hS ls (lv_sub hl [0, 1, 2, 3, 4] rfl)
    · refine lv_iconst (v := zI 2) hx hb dX2_copyMerged_14 rfl ?_
      refine lv_iload_n hx hb dX2_copyMerged_15 rfl (lv_at hl 3 rfl) ?_
      refine r_imul (v := zI (2 * x)) F dX2_copyMerged_16 (zI_mul _ _) ?_
      refine lv_iload hx hb dX2_copyMerged_17 (lv_at hl 0 rfl) ?_
      refine r_iadd (v := zI ((2 * x) + v4)) F dX2_copyMerged_19 (zI_add _ _) ?_
      refine lv_istore (lv' := [(5, .int (zI ((2 * x) + v4))), (4, .int (zI v4)), (0, .ref b), (1, .ref o), (2, .int (zI x)), (3, .int (zI y))]) hx hb dX2_copyMerged_20 hl (by decide) rfl (fun ls hl => ?_)
      refine lv_aload_n hx hb dX2_copyMerged_22 rfl (lv_at hl 2 rfl) ?_
      refine r_get F hK hP 0 8 rfl rfl in_X2 (by decide) k_169 rfl dX2_copyMerged_23 ?_
      refine lv_iload hx hb dX2_copyMerged_26 (lv_at hl 0 rfl) ?_
      refine lv_bipush (v := zI 9) hx hb dX2_copyMerged_28 (by decide) ?_
      refine lv_aload_n hx hb dX2_copyMerged_30 rfl (lv_at hl 2 rfl) ?_
      refine r_get F hK hP 0 8 rfl rfl in_X2 (by decide) k_169 rfl dX2_copyMerged_31 ?_
      refine lv_iload hx hb dX2_copyMerged_34 (lv_at hl 0 rfl) ?_
      refine rz_iald F hK hP 8 0 rfl rfl (by omega) (by omega) dX2_copyMerged_36 ?_
      have hc30 := hG.2.2.2.2.2.2.2.2 (((2 * x) + v4)).toNat (by omega)
      refine lv_aload_n hx hb dX2_copyMerged_37 rfl (lv_at hl 2 rfl) ?_
      refine r_get F hK hP 0 8 rfl rfl in_X2 (by decide) k_169 rfl dX2_copyMerged_38 ?_
      refine lv_iconst (v := zI 2) hx hb dX2_copyMerged_41 rfl ?_
      refine lv_iload_n hx hb dX2_copyMerged_42 rfl (lv_at hl 5 rfl) ?_
      refine r_imul (v := zI (2 * y)) F dX2_copyMerged_43 (zI_mul _ _) ?_
      refine lv_iload hx hb dX2_copyMerged_44 (lv_at hl 1 rfl) ?_
      refine r_iadd (v := zI ((2 * y) + v4)) F dX2_copyMerged_46 (zI_add _ _) ?_
      refine rz_iald F hK hP 8 0 rfl rfl (by omega) (by omega) dX2_copyMerged_47 ?_
      have hc31 := hG.2.2.2.2.2.2.2.2 (((2 * y) + v4)).toNat (by omega)
      refine r_iadd (v := zI (((gg 7) (((2 * x) + v4)).toNat) + ((gg 7) (((2 * y) + v4)).toNat))) F dX2_copyMerged_48 (zI_add _ _) ?_
      refine rz_min F k_983 k_984 k_110 k_985 hl.1 (Nat.le_of_ble_eq_true rfl) (Nat.le_of_ble_eq_true rfl) (Nat.le_of_ble_eq_true rfl) (Nat.le_of_ble_eq_true rfl) (by omega) (by omega) dX2_copyMerged_49 (fun z32 h_z32 => ?_)
      refine rz_iastG F hK hP hD hS 8 0 rfl rfl (by omega) (by omega) dX2_copyMerged_52 (w1 := fun g33 => [(b, .inr (2, [.int (zI no), .ref (q 0), .ref (q 1), .ref (q 2), .ref (q 3), .ref (q 4), .ref (q 5), .ref (q 6), .ref (q 7)])), ((q 0), .inl (cI, 10, .inl (fun k => zI ((gg 0) k)))), ((q 1), .inl (cI, 10, .inl (fun k => zI ((gg 1) k)))), ((q 2), .inl (cI, 10, .inl (fun k => zI ((gg 2) k)))), ((q 3), .inl (cI, 40, .inl (fun k => zI ((gg 3) k)))), ((q 4), .inl (cI, 40, .inl (fun k => zI ((gg 4) k)))), ((q 5), .inl (cI, 40, .inl (fun k => zI ((gg 5) k)))), ((q 6), .inl (cI, 20, .inl (fun k => zI ((gg 6) k)))), ((q 7), .inl (cI, 20, .inl (fun k => zI (g33 k)))), (o, .inr (2, [.int (zI no), .ref (qo 0), .ref (qo 1), .ref (qo 2), .ref (qo 3), .ref (qo 4), .ref (qo 5), .ref (qo 6), .ref (qo 7)])), ((qo 0), .inl (cI, 10, .inl (fun k => zI ((go 0) k)))), ((qo 1), .inl (cI, 10, .inl (fun k => zI ((go 1) k)))), ((qo 2), .inl (cI, 10, .inl (fun k => zI ((go 2) k)))), ((qo 3), .inl (cI, 40, .inl (fun k => zI ((go 3) k)))), ((qo 4), .inl (cI, 40, .inl (fun k => zI ((go 4) k)))), ((qo 5), .inl (cI, 40, .inl (fun k => zI ((go 5) k)))), ((qo 6), .inl (cI, 20, .inl (fun k => zI ((go 6) k)))), ((qo 7), .inl (cI, 20, .inl (fun k => zI ((go 7) k))))]) (fun _ => rfl) (fun g33 e_g33 H locs hP hD hS => ?_)
      have hs1 := hG.2.2.2.2.2.2.2.1 (((2 * x) + v4)).toNat (show _ < 20 by omega)
      have hs2 := hG.2.2.2.2.2.2.2.1 ((2 * y) + v4).toNat (show _ < 20 by omega)
      have hs3 := hq2 v4 (by omega)
      have hN34 : NetOk no (nSet gg 7 g33) := NetOk.set7 hG e_g33 (by omega)
      have hf35 := hN34.1
      refine lv_iinc (v := zI (v4 + 1)) (lv' := [(4, .int (zI (v4 + 1))), (5, .int (zI ((2 * x) + v4))), (0, .ref b), (1, .ref o), (2, .int (zI x)), (3, .int (zI y))]) hx hb dX2_copyMerged_53 hl (k := 1) rfl (zI_add _ _) (by decide) rfl (fun ls hl => ?_)
      refine lv_goto (tgt := 8) hx hb dX2_copyMerged_56 (by decide) ?_
      exact ih1 (v4 + 1) (nSet gg 7 g33) _ _ (by omega) (by omega) hN34 hq2 ⟨fun j k h1 h2 => (show nSet gg 7 g33 j k = go j k from (congrFun (if_neg h1) k).trans (hm7.1 j k h1 h2)), mrg7_step (by omega) hx9 hy9 hxy hm7.2 e_g33 (lessZ_eq (by omega))⟩ hP hD hS ls (lv_sub hl [0, 2, 3, 4, 5] rfl)
