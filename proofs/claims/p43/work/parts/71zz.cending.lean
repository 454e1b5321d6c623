theorem begI_5 {p : Nat → Int} {k x : Int} : begI p k x 5 = 0 := begF_z (by omega) (by omega)
theorem RT_begI {p : Nat → Int} {k x : Int} : RT p (begI p k x) := RT_begF
theorem WR.copied {gw g : Nat → Nat → Int} {a0 a1 a2 a3 : Nat → Int} (e0 : a0 = va_cpy (gw 0) (g 0) 0 0 4) (e1 : a1 = va_cpy (gw 1) (g 1) 0 0 20) (e2 : a2 = va_cpy (gw 2) (g 2) 0 0 20) (e3 : a3 = va_cpy (gw 3) (g 3) 0 0 100) {n : Int} {s iw : Nat → Int} (h : WR n s iw gw) : WR n s iw (fun k => [a0, a1, a2, a3].getD k (fun _ => 0)) := by
  have c : ∀ (F G : Nat → Int) (n k : Nat), k < n → va_cpy F G 0 0 n k = F k := fun F G n k hk => by simp [va_cpy, hk]
  subst e0 e1 e2 e3
  obtain ⟨a, b0, b1, b2, b3⟩ := h
  exact ⟨a, fun k hk => (c _ _ _ _ hk).trans (b0 k hk), fun k hk => (c _ _ _ _ hk).trans (b1 k hk), fun k hk => (c _ _ _ _ hk).trans (b2 k hk), fun k hk hn => (c _ _ _ _ hk).trans (b3 k hk hn)⟩
/-- the survey's endings are those of a program's runs -/
def SvE (p : Nat → Int) (k : Int) (i : Nat → Int) (g : Nat → Nat → Int) : Prop := i 1 = inZ k ∧ ∀ n : Int, 0 ≤ n → n < inZ k → g 3 n.toNat = endZ (runI p k n)
def SV (p : Nat → Int) (i : Nat → Int) (g : Nat → Nat → Int) : Prop := i 0 = -1 ∨ ((0 ≤ i 0 ∧ i 0 ≤ 3) ∧ SvE p (i 0) i g)
theorem sv_step {g g' : Nat → Int} {F : Int → Int} {v : Int} (h0 : 0 ≤ v) (h : ∀ n : Int, 0 ≤ n → n < v → g n.toNat = F n) (e : g' = uZ g v.toNat (F v)) : ∀ n : Int, 0 ≤ n → n < v + 1 → g' n.toNat = F n := fun n n0 hn => by
  rw [e]
  by_cases c : n = v
  · rw [c, uZ_eq]
  · rw [uZ_nk _ _ (by omega)]
    exact h n n0 (by omega)
theorem SvE.eq {p q : Nat → Int} {k : Int} {i : Nat → Int} {g : Nat → Nat → Int} (h : SvE p k i g) (he : ∀ n : Int, 0 ≤ n → n < inZ k → eqI p q k n) : SvE q k i g := ⟨h.1, fun n n0 hn => (h.2 n n0 hn).trans (he n n0 hn)⟩
theorem SvE.rg {p : Nat → Int} {k : Int} {i : Nat → Int} {g : Nat → Nat → Int} (h : SvE p k i g) (hp : ProgOk p) (hk : 0 ≤ k ∧ k ≤ 3) {n : Int} (hn : 0 ≤ n ∧ n < inZ k) : 0 ≤ g 3 n.toNat ∧ g 3 n.toNat ≤ 399999999 := by
  rw [h.2 n hn.1 hn.2]
  exact endZ_rg (StOk_runI hp hk hn).1
theorem WR.ran {p : Nat → Int} {k x : Int} {i : Nat → Int} {g : Nat → Nat → Int} {m : Nat} (hp : ProgOk p) (hk : 0 ≤ k ∧ k ≤ 3) (hx : 0 ≤ x ∧ x < inZ k) (hm : 941 ≤ m) (h : WR ((stepsF p m (begI p k x)) 5) (stepsF p m (begI p k x)) i g) : WR (runI p k x 5) (runI p k x) i g := by
  rw [runF_eq hp (StOk_begI hp hk hx) hm] at h
  exact h
abbrev rm_X6z_ending : Room := { frames := 0, cells := 0, slots := 0, locals := 0 }
set_option maxRecDepth 100000 in
set_option maxHeartbeats 8000000 in
theorem c_X6z_ending {l : Launch} {E : (Nat → Prop) → State → Prop} (hO : bw_Ok E) {G : va_G} {cI cB cJ cN cW : ClassId} (b : Nat) (q : Nat → Nat) (i : Nat → Int) (g : Nat → Nat → Int) (hW : WalkOk i g) (nR : Int) (sR : Nat → Int) (hWR : WR nR sR i g) : bw_Ci (S := zU) l yX6_ending (bw_ws (Cond.code yX6_ending cX6_ending 3 (some .int))) rm_X6z_ending E G (bw_kt cI cB cJ cN cW) [.ref b] [(b, .inr (6, [.int (zI (i 0)), .int (zI (i 1)), .int (zI (i 2)), .int (zI (i 3)), .int (zI (i 4)), .ref (q 0), .ref (q 1), .ref (q 2), .long (zL (i 5)), .ref (q 3)])), ((q 0), .inl (cI, 4, .inl (fun k => zI ((g 0) k)))), ((q 1), .inl (cI, 20, .inl (fun k => zI ((g 1) k)))), ((q 2), .inl (cI, 20, .inl (fun k => zI ((g 2) k)))), ((q 3), .inl (cI, 100, .inl (fun k => zI ((g 3) k))))] (fun r _ => ∃ z : Int, r = zI z ∧ z = endZ sR) (fun _ => [(b, .inr (6, [.int (zI (i 0)), .int (zI (i 1)), .int (zI (i 2)), .int (zI (i 3)), .int (zI (i 4)), .ref (q 0), .ref (q 1), .ref (q 2), .long (zL (i 5)), .ref (q 3)])), ((q 0), .inl (cI, 4, .inl (fun k => zI ((g 0) k)))), ((q 1), .inl (cI, 20, .inl (fun k => zI ((g 1) k)))), ((q 2), .inl (cI, 20, .inl (fun k => zI ((g 2) k)))), ((q 3), .inl (cI, 100, .inl (fun k => zI ((g 3) k))))]) := by
  refine bw_Ci.of (cc := cX6_ending) (maxL := 3) (ty := .int) (by decide) rfl (Nat.le_of_ble_eq_true rfl) ?_
  intro p e s m below meth c A Q hx hb hml hts hown hin hK hA hS hP hD hE ret ls hl
  have F : CallFix p m c cX6_ending 3 s ([.ref b] : List Value).toArray bw_T RX6 := ⟨hx, hb, hml, hown, fun w h => hts w (List.mem_cons_of_mem _ h)⟩
  replace hl : lv_has ls 3 [(0, .ref b)] := hl
  have hW1 := hW.1
  refine lv_aload_n hx hb dX6_ending_0 rfl (lv_at hl 0 rfl) ?_
  refine r_get F hK hP 0 2 rfl rfl in_X6 (by decide) k_325 rfl dX6_ending_1 ?_
  refine lv_istore_n (lv' := [(1, .int (zI (i 2))), (0, .ref b)]) hx hb dX6_ending_4 rfl hl (by decide) rfl (fun ls hl => ?_)
  refine lv_iconst (v := zI 0) hx hb dX6_ending_5 rfl ?_
  refine lv_istore_n (lv' := [(2, .int (zI 0)), (1, .int (zI (i 2))), (0, .ref b)]) hx hb dX6_ending_6 rfl hl (by decide) rfl (fun ls hl => ?_)
  refine W.widen (k := 0) (n := 0) (Nat.le_of_ble_eq_true rfl) (Nat.le_of_ble_eq_true rfl) ?_
  refine (?_ : ∀ (n9_1 : Nat) (v1 : Int) (v2 : Int) (H : Heap) (locs : List Loc), (0 ≤ v2 ∧ v2 ≤ 4) → (4 - v2 : Int).toNat < n9_1 → (v1 = enP sR (v2).toNat) → va_P G vwCl [(b, .inr (6, [.int (zI (i 0)), .int (zI (i 1)), .int (zI (i 2)), .int (zI (i 3)), .int (zI (i 4)), .ref (q 0), .ref (q 1), .ref (q 2), .long (zL (i 5)), .ref (q 3)])), ((q 0), .inl (cI, 4, .inl (fun k => zI ((g 0) k)))), ((q 1), .inl (cI, 20, .inl (fun k => zI ((g 1) k)))), ((q 2), .inl (cI, 20, .inl (fun k => zI ((g 2) k)))), ((q 3), .inl (cI, 100, .inl (fun k => zI ((g 3) k))))] H → va_D A [(b, .inr (6, [.int (zI (i 0)), .int (zI (i 1)), .int (zI (i 2)), .int (zI (i 3)), .int (zI (i 4)), .ref (q 0), .ref (q 1), .ref (q 2), .long (zL (i 5)), .ref (q 3)])), ((q 0), .inl (cI, 4, .inl (fun k => zI ((g 0) k)))), ((q 1), .inl (cI, 20, .inl (fun k => zI ((g 1) k)))), ((q 2), .inl (cI, 20, .inl (fun k => zI ((g 2) k)))), ((q 3), .inl (cI, 100, .inl (fun k => zI ((g 3) k))))] → va_S A s.heap H locs → ∀ ls : Array Slot, lv_has ls 3 [(2, .int (zI v2)), (1, .int (zI v1)), (0, .ref b)] → W p l e rm_X6z_ending s m ([.ref b] : List Value).toArray below meth c H locs 0 0 Q (F0 m 7 ls [])) ((4 - 0 : Int).toNat + 1) (i 2) 0 _ _ (by omega) (by omega) hWR.1.2.2.1 hP hD hS ls hl
  clear hP hD hS hl ls
  intro n9_1
  induction n9_1 with
  | zero =>
    intro v1 v2 H locs hI hM
    exact absurd hM (by omega)
  | succ n9_1 ih1 =>
    intro v1 v2 H locs hI1 hM1 hen hP hD hS ls hl
    refine lv_iload_n hx hb dX6_ending_7 rfl (lv_at hl 0 rfl) ?_
    refine lv_iconst (v := zI 4) hx hb dX6_ending_8 rfl ?_
    refine rz_icmp_ge (tgt := 30) F (by omega) (by omega) dX6_ending_9 (by decide) (fun h9_0 => ?_) (fun h9_0 => ?_)
    · refine lv_iload_n hx hb dX6_ending_30 rfl (lv_at hl 1 rfl) ?_
      exact ret (zI v1) (fun _ => 0, fun _ _ => 0) _ _ _ _ _ _ rfl ⟨v1, rfl, (by have q8 := hen; rw [show v2 = 4 by omega] at q8; exact q8)⟩ (bw_subP (isC := [0, 1, 2, 3, 4]) hP rfl) (hD.sub [0, 1, 2, 3, 4] (by decide) rfl) hS (Nat.le_of_ble_eq_true rfl) (Nat.le_of_ble_eq_true rfl) dX6_ending_31
    · refine lv_iload_n hx hb dX6_ending_12 rfl (lv_at hl 1 rfl) ?_
      refine lv_bipush (v := zI 100) hx hb dX6_ending_13 (by decide) ?_
      refine r_imul (v := zI (v1 * 100)) F dX6_ending_15 (zI_mul _ _) ?_
      refine lv_aload_n hx hb dX6_ending_16 rfl (lv_at hl 2 rfl) ?_
      refine r_get F hK hP 0 5 rfl rfl in_X6 (by decide) k_332 rfl dX6_ending_17 ?_
      refine lv_iload_n hx hb dX6_ending_20 rfl (lv_at hl 0 rfl) ?_
      refine rz_iald F hK hP 1 0 rfl rfl (by omega) (by omega) dX6_ending_21 ?_
      refine r_iadd (v := zI ((v1 * 100) + ((g 0) (v2).toNat))) F dX6_ending_22 (zI_add _ _) ?_
      refine lv_istore_n (lv' := [(1, .int (zI ((v1 * 100) + ((g 0) (v2).toNat)))), (2, .int (zI v2)), (0, .ref b)]) hx hb dX6_ending_23 rfl hl (by decide) rfl (fun ls hl => ?_)
      refine lv_iinc (v := zI (v2 + 1)) (lv' := [(2, .int (zI (v2 + 1))), (1, .int (zI ((v1 * 100) + ((g 0) (v2).toNat)))), (0, .ref b)]) hx hb dX6_ending_24 hl (k := 1) rfl (zI_add _ _) (by decide) rfl (fun ls hl => ?_)
      refine lv_goto (tgt := 7) hx hb dX6_ending_27 (by decide) ?_
      exact ih1 ((v1 * 100) + ((g 0) (v2).toNat)) (v2 + 1) _ _ (by omega) (by omega) (enP_step (by omega) hen (by rw [hWR.2.1 _ (by omega)])) hP hD hS ls (lv_sub hl [0, 1, 2] rfl)
abbrev rm_X6z_copyFrom : Room := { frames := 1, cells := 0, slots := 0, locals := 40 }
set_option maxRecDepth 100000 in
set_option maxHeartbeats 8000000 in
theorem c_X6z_copyFrom {l : Launch} {E : (Nat → Prop) → State → Prop} (hO : bw_Ok E) {G : va_G} {cI cB cJ cN cW : ClassId} (b : Nat) (q : Nat → Nat) (i : Nat → Int) (g : Nat → Nat → Int) (hW : WalkOk i g) (w : Nat) (qw : Nat → Nat) (iw : Nat → Int) (gw : Nat → Nat → Int) (hV : WalkOk iw gw) : bw_Cv (S := zU) l yX6_copyFrom (bw_ws (Cond.code yX6_copyFrom cX6_copyFrom 2 none)) rm_X6z_copyFrom E G (bw_kt cI cB cJ cN cW) [.ref b, .ref w] [(b, .inr (6, [.int (zI (i 0)), .int (zI (i 1)), .int (zI (i 2)), .int (zI (i 3)), .int (zI (i 4)), .ref (q 0), .ref (q 1), .ref (q 2), .long (zL (i 5)), .ref (q 3)])), ((q 0), .inl (cI, 4, .inl (fun k => zI ((g 0) k)))), ((q 1), .inl (cI, 20, .inl (fun k => zI ((g 1) k)))), ((q 2), .inl (cI, 20, .inl (fun k => zI ((g 2) k)))), ((q 3), .inl (cI, 100, .inl (fun k => zI ((g 3) k)))), (w, .inr (6, [.int (zI (iw 0)), .int (zI (iw 1)), .int (zI (iw 2)), .int (zI (iw 3)), .int (zI (iw 4)), .ref (qw 0), .ref (qw 1), .ref (qw 2), .long (zL (iw 5)), .ref (qw 3)])), ((qw 0), .inl (cI, 4, .inl (fun k => zI ((gw 0) k)))), ((qw 1), .inl (cI, 20, .inl (fun k => zI ((gw 1) k)))), ((qw 2), .inl (cI, 20, .inl (fun k => zI ((gw 2) k)))), ((qw 3), .inl (cI, 100, .inl (fun k => zI ((gw 3) k))))] (fun u => WalkOk iw u.2 ∧ ∀ (n : Int) (s : Nat → Int), WR n s iw gw → WR n s iw u.2) (fun u => [(b, .inr (6, [.int (zI (iw 0)), .int (zI (iw 1)), .int (zI (iw 2)), .int (zI (iw 3)), .int (zI (iw 4)), .ref (q 0), .ref (q 1), .ref (q 2), .long (zL (iw 5)), .ref (q 3)])), ((q 0), .inl (cI, 4, .inl (fun k => zI ((u.2 0) k)))), ((q 1), .inl (cI, 20, .inl (fun k => zI ((u.2 1) k)))), ((q 2), .inl (cI, 20, .inl (fun k => zI ((u.2 2) k)))), ((q 3), .inl (cI, 100, .inl (fun k => zI ((u.2 3) k)))), (w, .inr (6, [.int (zI (iw 0)), .int (zI (iw 1)), .int (zI (iw 2)), .int (zI (iw 3)), .int (zI (iw 4)), .ref (qw 0), .ref (qw 1), .ref (qw 2), .long (zL (iw 5)), .ref (qw 3)])), ((qw 0), .inl (cI, 4, .inl (fun k => zI ((gw 0) k)))), ((qw 1), .inl (cI, 20, .inl (fun k => zI ((gw 1) k)))), ((qw 2), .inl (cI, 20, .inl (fun k => zI ((gw 2) k)))), ((qw 3), .inl (cI, 100, .inl (fun k => zI ((gw 3) k))))]) := by
  refine bw_Cv.of (cc := cX6_copyFrom) (maxL := 2) (by decide) rfl (Nat.le_of_ble_eq_true rfl) ?_
  intro p e s m below meth c A Q hx hb hml hts hown hin hK hA hS hP hD hE ret ls hl
  have F : CallFix p m c cX6_copyFrom 2 s ([.ref b, .ref w] : List Value).toArray bw_T RX6 := ⟨hx, hb, hml, hown, fun w h => hts w (List.mem_cons_of_mem _ h)⟩
  replace hl : lv_has ls 2 [(0, .ref b), (1, .ref w)] := hl
  have hW1 := hW.1
  have hV1 := hV.1
  refine lv_aload_n hx hb dX6_copyFrom_0 rfl (lv_at hl 0 rfl) ?_
  refine lv_aload_n hx hb dX6_copyFrom_1 rfl (lv_at hl 1 rfl) ?_
  refine r_get F hK hP 5 0 rfl rfl in_X6 (by decide) k_320 rfl dX6_copyFrom_2 ?_
  refine r_put F hK hP hD hS 0 0 rfl rfl in_X6 tyX6 tyX6_ok nmX6 (by decide) k_320 rfl rfl rfl (Nat.le_of_ble_eq_true rfl) dX6_copyFrom_5 (w1 := [(b, .inr (6, [.int (zI (iw 0)), .int (zI (i 1)), .int (zI (i 2)), .int (zI (i 3)), .int (zI (i 4)), .ref (q 0), .ref (q 1), .ref (q 2), .long (zL (i 5)), .ref (q 3)])), ((q 0), .inl (cI, 4, .inl (fun k => zI ((g 0) k)))), ((q 1), .inl (cI, 20, .inl (fun k => zI ((g 1) k)))), ((q 2), .inl (cI, 20, .inl (fun k => zI ((g 2) k)))), ((q 3), .inl (cI, 100, .inl (fun k => zI ((g 3) k)))), (w, .inr (6, [.int (zI (iw 0)), .int (zI (iw 1)), .int (zI (iw 2)), .int (zI (iw 3)), .int (zI (iw 4)), .ref (qw 0), .ref (qw 1), .ref (qw 2), .long (zL (iw 5)), .ref (qw 3)])), ((qw 0), .inl (cI, 4, .inl (fun k => zI ((gw 0) k)))), ((qw 1), .inl (cI, 20, .inl (fun k => zI ((gw 1) k)))), ((qw 2), .inl (cI, 20, .inl (fun k => zI ((gw 2) k)))), ((qw 3), .inl (cI, 100, .inl (fun k => zI ((gw 3) k))))]) rfl (fun H locs hP hD hS => ?_)
  refine lv_aload_n hx hb dX6_copyFrom_8 rfl (lv_at hl 0 rfl) ?_
  refine lv_aload_n hx hb dX6_copyFrom_9 rfl (lv_at hl 1 rfl) ?_
  refine r_get F hK hP 5 1 rfl rfl in_X6 (by decide) k_322 rfl dX6_copyFrom_10 ?_
  refine r_put F hK hP hD hS 0 1 rfl rfl in_X6 tyX6 tyX6_ok nmX6 (by decide) k_322 rfl rfl rfl (Nat.le_of_ble_eq_true rfl) dX6_copyFrom_13 (w1 := [(b, .inr (6, [.int (zI (iw 0)), .int (zI (iw 1)), .int (zI (i 2)), .int (zI (i 3)), .int (zI (i 4)), .ref (q 0), .ref (q 1), .ref (q 2), .long (zL (i 5)), .ref (q 3)])), ((q 0), .inl (cI, 4, .inl (fun k => zI ((g 0) k)))), ((q 1), .inl (cI, 20, .inl (fun k => zI ((g 1) k)))), ((q 2), .inl (cI, 20, .inl (fun k => zI ((g 2) k)))), ((q 3), .inl (cI, 100, .inl (fun k => zI ((g 3) k)))), (w, .inr (6, [.int (zI (iw 0)), .int (zI (iw 1)), .int (zI (iw 2)), .int (zI (iw 3)), .int (zI (iw 4)), .ref (qw 0), .ref (qw 1), .ref (qw 2), .long (zL (iw 5)), .ref (qw 3)])), ((qw 0), .inl (cI, 4, .inl (fun k => zI ((gw 0) k)))), ((qw 1), .inl (cI, 20, .inl (fun k => zI ((gw 1) k)))), ((qw 2), .inl (cI, 20, .inl (fun k => zI ((gw 2) k)))), ((qw 3), .inl (cI, 100, .inl (fun k => zI ((gw 3) k))))]) rfl (fun H locs hP hD hS => ?_)
  refine lv_aload_n hx hb dX6_copyFrom_16 rfl (lv_at hl 0 rfl) ?_
  refine lv_aload_n hx hb dX6_copyFrom_17 rfl (lv_at hl 1 rfl) ?_
  refine r_get F hK hP 5 2 rfl rfl in_X6 (by decide) k_325 rfl dX6_copyFrom_18 ?_
  refine r_put F hK hP hD hS 0 2 rfl rfl in_X6 tyX6 tyX6_ok nmX6 (by decide) k_325 rfl rfl rfl (Nat.le_of_ble_eq_true rfl) dX6_copyFrom_21 (w1 := [(b, .inr (6, [.int (zI (iw 0)), .int (zI (iw 1)), .int (zI (iw 2)), .int (zI (i 3)), .int (zI (i 4)), .ref (q 0), .ref (q 1), .ref (q 2), .long (zL (i 5)), .ref (q 3)])), ((q 0), .inl (cI, 4, .inl (fun k => zI ((g 0) k)))), ((q 1), .inl (cI, 20, .inl (fun k => zI ((g 1) k)))), ((q 2), .inl (cI, 20, .inl (fun k => zI ((g 2) k)))), ((q 3), .inl (cI, 100, .inl (fun k => zI ((g 3) k)))), (w, .inr (6, [.int (zI (iw 0)), .int (zI (iw 1)), .int (zI (iw 2)), .int (zI (iw 3)), .int (zI (iw 4)), .ref (qw 0), .ref (qw 1), .ref (qw 2), .long (zL (iw 5)), .ref (qw 3)])), ((qw 0), .inl (cI, 4, .inl (fun k => zI ((gw 0) k)))), ((qw 1), .inl (cI, 20, .inl (fun k => zI ((gw 1) k)))), ((qw 2), .inl (cI, 20, .inl (fun k => zI ((gw 2) k)))), ((qw 3), .inl (cI, 100, .inl (fun k => zI ((gw 3) k))))]) rfl (fun H locs hP hD hS => ?_)
  refine lv_aload_n hx hb dX6_copyFrom_24 rfl (lv_at hl 0 rfl) ?_
  refine lv_aload_n hx hb dX6_copyFrom_25 rfl (lv_at hl 1 rfl) ?_
  refine r_get F hK hP 5 3 rfl rfl in_X6 (by decide) k_328 rfl dX6_copyFrom_26 ?_
  refine r_put F hK hP hD hS 0 3 rfl rfl in_X6 tyX6 tyX6_ok nmX6 (by decide) k_328 rfl rfl rfl (Nat.le_of_ble_eq_true rfl) dX6_copyFrom_29 (w1 := [(b, .inr (6, [.int (zI (iw 0)), .int (zI (iw 1)), .int (zI (iw 2)), .int (zI (iw 3)), .int (zI (i 4)), .ref (q 0), .ref (q 1), .ref (q 2), .long (zL (i 5)), .ref (q 3)])), ((q 0), .inl (cI, 4, .inl (fun k => zI ((g 0) k)))), ((q 1), .inl (cI, 20, .inl (fun k => zI ((g 1) k)))), ((q 2), .inl (cI, 20, .inl (fun k => zI ((g 2) k)))), ((q 3), .inl (cI, 100, .inl (fun k => zI ((g 3) k)))), (w, .inr (6, [.int (zI (iw 0)), .int (zI (iw 1)), .int (zI (iw 2)), .int (zI (iw 3)), .int (zI (iw 4)), .ref (qw 0), .ref (qw 1), .ref (qw 2), .long (zL (iw 5)), .ref (qw 3)])), ((qw 0), .inl (cI, 4, .inl (fun k => zI ((gw 0) k)))), ((qw 1), .inl (cI, 20, .inl (fun k => zI ((gw 1) k)))), ((qw 2), .inl (cI, 20, .inl (fun k => zI ((gw 2) k)))), ((qw 3), .inl (cI, 100, .inl (fun k => zI ((gw 3) k))))]) rfl (fun H locs hP hD hS => ?_)
  refine lv_aload_n hx hb dX6_copyFrom_32 rfl (lv_at hl 0 rfl) ?_
  refine lv_aload_n hx hb dX6_copyFrom_33 rfl (lv_at hl 1 rfl) ?_
  refine r_get F hK hP 5 4 rfl rfl in_X6 (by decide) k_330 rfl dX6_copyFrom_34 ?_
  refine r_put F hK hP hD hS 0 4 rfl rfl in_X6 tyX6 tyX6_ok nmX6 (by decide) k_330 rfl rfl rfl (Nat.le_of_ble_eq_true rfl) dX6_copyFrom_37 (w1 := [(b, .inr (6, [.int (zI (iw 0)), .int (zI (iw 1)), .int (zI (iw 2)), .int (zI (iw 3)), .int (zI (iw 4)), .ref (q 0), .ref (q 1), .ref (q 2), .long (zL (i 5)), .ref (q 3)])), ((q 0), .inl (cI, 4, .inl (fun k => zI ((g 0) k)))), ((q 1), .inl (cI, 20, .inl (fun k => zI ((g 1) k)))), ((q 2), .inl (cI, 20, .inl (fun k => zI ((g 2) k)))), ((q 3), .inl (cI, 100, .inl (fun k => zI ((g 3) k)))), (w, .inr (6, [.int (zI (iw 0)), .int (zI (iw 1)), .int (zI (iw 2)), .int (zI (iw 3)), .int (zI (iw 4)), .ref (qw 0), .ref (qw 1), .ref (qw 2), .long (zL (iw 5)), .ref (qw 3)])), ((qw 0), .inl (cI, 4, .inl (fun k => zI ((gw 0) k)))), ((qw 1), .inl (cI, 20, .inl (fun k => zI ((gw 1) k)))), ((qw 2), .inl (cI, 20, .inl (fun k => zI ((gw 2) k)))), ((qw 3), .inl (cI, 100, .inl (fun k => zI ((gw 3) k))))]) rfl (fun H locs hP hD hS => ?_)
  refine lv_aload_n hx hb dX6_copyFrom_40 rfl (lv_at hl 0 rfl) ?_
  refine lv_aload_n hx hb dX6_copyFrom_41 rfl (lv_at hl 1 rfl) ?_
  refine r_get F hK hP 5 8 rfl rfl in_X6 (by decide) k_338 rfl dX6_copyFrom_42 ?_
  refine r_put F hK hP hD hS 0 8 rfl rfl in_X6 tyX6 tyX6_ok nmX6 (by decide) k_338 rfl rfl rfl (Nat.le_of_ble_eq_true rfl) dX6_copyFrom_45 (w1 := [(b, .inr (6, [.int (zI (iw 0)), .int (zI (iw 1)), .int (zI (iw 2)), .int (zI (iw 3)), .int (zI (iw 4)), .ref (q 0), .ref (q 1), .ref (q 2), .long (zL (iw 5)), .ref (q 3)])), ((q 0), .inl (cI, 4, .inl (fun k => zI ((g 0) k)))), ((q 1), .inl (cI, 20, .inl (fun k => zI ((g 1) k)))), ((q 2), .inl (cI, 20, .inl (fun k => zI ((g 2) k)))), ((q 3), .inl (cI, 100, .inl (fun k => zI ((g 3) k)))), (w, .inr (6, [.int (zI (iw 0)), .int (zI (iw 1)), .int (zI (iw 2)), .int (zI (iw 3)), .int (zI (iw 4)), .ref (qw 0), .ref (qw 1), .ref (qw 2), .long (zL (iw 5)), .ref (qw 3)])), ((qw 0), .inl (cI, 4, .inl (fun k => zI ((gw 0) k)))), ((qw 1), .inl (cI, 20, .inl (fun k => zI ((gw 1) k)))), ((qw 2), .inl (cI, 20, .inl (fun k => zI ((gw 2) k)))), ((qw 3), .inl (cI, 100, .inl (fun k => zI ((gw 3) k))))]) rfl (fun H locs hP hD hS => ?_)
  refine lv_aload_n hx hb dX6_copyFrom_48 rfl (lv_at hl 1 rfl) ?_
  refine r_get F hK hP 5 5 rfl rfl in_X6 (by decide) k_332 rfl dX6_copyFrom_49 ?_
  refine lv_iconst (v := zI 0) hx hb dX6_copyFrom_52 rfl ?_
  refine lv_aload_n hx hb dX6_copyFrom_53 rfl (lv_at hl 0 rfl) ?_
  refine r_get F hK hP 0 5 rfl rfl in_X6 (by decide) k_332 rfl dX6_copyFrom_54 ?_
  refine lv_iconst (v := zI 0) hx hb dX6_copyFrom_57 rfl ?_
  refine lv_iconst (v := zI 4) hx hb dX6_copyFrom_58 rfl ?_
  refine rz_copy F k_779 k_641 k_640 k_108 hK hP hD hS 6 1 0 rfl rfl rfl (by omega) hl.1 (Nat.le_of_ble_eq_true rfl) (Nat.le_of_ble_eq_true rfl) dX6_copyFrom_59 (w1 := fun g1 => [(b, .inr (6, [.int (zI (iw 0)), .int (zI (iw 1)), .int (zI (iw 2)), .int (zI (iw 3)), .int (zI (iw 4)), .ref (q 0), .ref (q 1), .ref (q 2), .long (zL (iw 5)), .ref (q 3)])), ((q 0), .inl (cI, 4, .inl (fun k => zI (g1 k)))), ((q 1), .inl (cI, 20, .inl (fun k => zI ((g 1) k)))), ((q 2), .inl (cI, 20, .inl (fun k => zI ((g 2) k)))), ((q 3), .inl (cI, 100, .inl (fun k => zI ((g 3) k)))), (w, .inr (6, [.int (zI (iw 0)), .int (zI (iw 1)), .int (zI (iw 2)), .int (zI (iw 3)), .int (zI (iw 4)), .ref (qw 0), .ref (qw 1), .ref (qw 2), .long (zL (iw 5)), .ref (qw 3)])), ((qw 0), .inl (cI, 4, .inl (fun k => zI ((gw 0) k)))), ((qw 1), .inl (cI, 20, .inl (fun k => zI ((gw 1) k)))), ((qw 2), .inl (cI, 20, .inl (fun k => zI ((gw 2) k)))), ((qw 3), .inl (cI, 100, .inl (fun k => zI ((gw 3) k))))]) (fun _ => rfl) (fun g1 e_g1 H locs hP hD hS => ?_)
  refine lv_aload_n hx hb dX6_copyFrom_62 rfl (lv_at hl 1 rfl) ?_
  refine r_get F hK hP 5 6 rfl rfl in_X6 (by decide) k_334 rfl dX6_copyFrom_63 ?_
  refine lv_iconst (v := zI 0) hx hb dX6_copyFrom_66 rfl ?_
  refine lv_aload_n hx hb dX6_copyFrom_67 rfl (lv_at hl 0 rfl) ?_
  refine r_get F hK hP 0 6 rfl rfl in_X6 (by decide) k_334 rfl dX6_copyFrom_68 ?_
  refine lv_iconst (v := zI 0) hx hb dX6_copyFrom_71 rfl ?_
  refine lv_bipush (v := zI 20) hx hb dX6_copyFrom_72 (by decide) ?_
  refine rz_copy F k_779 k_641 k_640 k_108 hK hP hD hS 7 2 0 rfl rfl rfl (by omega) hl.1 (Nat.le_of_ble_eq_true rfl) (Nat.le_of_ble_eq_true rfl) dX6_copyFrom_74 (w1 := fun g2 => [(b, .inr (6, [.int (zI (iw 0)), .int (zI (iw 1)), .int (zI (iw 2)), .int (zI (iw 3)), .int (zI (iw 4)), .ref (q 0), .ref (q 1), .ref (q 2), .long (zL (iw 5)), .ref (q 3)])), ((q 0), .inl (cI, 4, .inl (fun k => zI (g1 k)))), ((q 1), .inl (cI, 20, .inl (fun k => zI (g2 k)))), ((q 2), .inl (cI, 20, .inl (fun k => zI ((g 2) k)))), ((q 3), .inl (cI, 100, .inl (fun k => zI ((g 3) k)))), (w, .inr (6, [.int (zI (iw 0)), .int (zI (iw 1)), .int (zI (iw 2)), .int (zI (iw 3)), .int (zI (iw 4)), .ref (qw 0), .ref (qw 1), .ref (qw 2), .long (zL (iw 5)), .ref (qw 3)])), ((qw 0), .inl (cI, 4, .inl (fun k => zI ((gw 0) k)))), ((qw 1), .inl (cI, 20, .inl (fun k => zI ((gw 1) k)))), ((qw 2), .inl (cI, 20, .inl (fun k => zI ((gw 2) k)))), ((qw 3), .inl (cI, 100, .inl (fun k => zI ((gw 3) k))))]) (fun _ => rfl) (fun g2 e_g2 H locs hP hD hS => ?_)
  have h_g2 : ∀ k, k < 20 → 0 ≤ g2 k ∧ g2 k ≤ 9 := by rw [e_g2]; exact cpy_all (P := fun y9 => 0 ≤ y9 ∧ y9 ≤ 9) hV.2
  refine lv_aload_n hx hb dX6_copyFrom_77 rfl (lv_at hl 1 rfl) ?_
  refine r_get F hK hP 5 7 rfl rfl in_X6 (by decide) k_336 rfl dX6_copyFrom_78 ?_
  refine lv_iconst (v := zI 0) hx hb dX6_copyFrom_81 rfl ?_
  refine lv_aload_n hx hb dX6_copyFrom_82 rfl (lv_at hl 0 rfl) ?_
  refine r_get F hK hP 0 7 rfl rfl in_X6 (by decide) k_336 rfl dX6_copyFrom_83 ?_
  refine lv_iconst (v := zI 0) hx hb dX6_copyFrom_86 rfl ?_
  refine lv_bipush (v := zI 20) hx hb dX6_copyFrom_87 (by decide) ?_
  refine rz_copy F k_779 k_641 k_640 k_108 hK hP hD hS 8 3 0 rfl rfl rfl (by omega) hl.1 (Nat.le_of_ble_eq_true rfl) (Nat.le_of_ble_eq_true rfl) dX6_copyFrom_89 (w1 := fun g3 => [(b, .inr (6, [.int (zI (iw 0)), .int (zI (iw 1)), .int (zI (iw 2)), .int (zI (iw 3)), .int (zI (iw 4)), .ref (q 0), .ref (q 1), .ref (q 2), .long (zL (iw 5)), .ref (q 3)])), ((q 0), .inl (cI, 4, .inl (fun k => zI (g1 k)))), ((q 1), .inl (cI, 20, .inl (fun k => zI (g2 k)))), ((q 2), .inl (cI, 20, .inl (fun k => zI (g3 k)))), ((q 3), .inl (cI, 100, .inl (fun k => zI ((g 3) k)))), (w, .inr (6, [.int (zI (iw 0)), .int (zI (iw 1)), .int (zI (iw 2)), .int (zI (iw 3)), .int (zI (iw 4)), .ref (qw 0), .ref (qw 1), .ref (qw 2), .long (zL (iw 5)), .ref (qw 3)])), ((qw 0), .inl (cI, 4, .inl (fun k => zI ((gw 0) k)))), ((qw 1), .inl (cI, 20, .inl (fun k => zI ((gw 1) k)))), ((qw 2), .inl (cI, 20, .inl (fun k => zI ((gw 2) k)))), ((qw 3), .inl (cI, 100, .inl (fun k => zI ((gw 3) k))))]) (fun _ => rfl) (fun g3 e_g3 H locs hP hD hS => ?_)
  refine lv_aload_n hx hb dX6_copyFrom_92 rfl (lv_at hl 1 rfl) ?_
  refine r_get F hK hP 5 9 rfl rfl in_X6 (by decide) k_339 rfl dX6_copyFrom_93 ?_
  refine lv_iconst (v := zI 0) hx hb dX6_copyFrom_96 rfl ?_
  refine lv_aload_n hx hb dX6_copyFrom_97 rfl (lv_at hl 0 rfl) ?_
  refine r_get F hK hP 0 9 rfl rfl in_X6 (by decide) k_339 rfl dX6_copyFrom_98 ?_
  refine lv_iconst (v := zI 0) hx hb dX6_copyFrom_101 rfl ?_
  refine lv_bipush (v := zI 100) hx hb dX6_copyFrom_102 (by decide) ?_
  refine rz_copy F k_779 k_641 k_640 k_108 hK hP hD hS 9 4 0 rfl rfl rfl (by omega) hl.1 (Nat.le_of_ble_eq_true rfl) (Nat.le_of_ble_eq_true rfl) dX6_copyFrom_104 (w1 := fun g4 => [(b, .inr (6, [.int (zI (iw 0)), .int (zI (iw 1)), .int (zI (iw 2)), .int (zI (iw 3)), .int (zI (iw 4)), .ref (q 0), .ref (q 1), .ref (q 2), .long (zL (iw 5)), .ref (q 3)])), ((q 0), .inl (cI, 4, .inl (fun k => zI (g1 k)))), ((q 1), .inl (cI, 20, .inl (fun k => zI (g2 k)))), ((q 2), .inl (cI, 20, .inl (fun k => zI (g3 k)))), ((q 3), .inl (cI, 100, .inl (fun k => zI (g4 k)))), (w, .inr (6, [.int (zI (iw 0)), .int (zI (iw 1)), .int (zI (iw 2)), .int (zI (iw 3)), .int (zI (iw 4)), .ref (qw 0), .ref (qw 1), .ref (qw 2), .long (zL (iw 5)), .ref (qw 3)])), ((qw 0), .inl (cI, 4, .inl (fun k => zI ((gw 0) k)))), ((qw 1), .inl (cI, 20, .inl (fun k => zI ((gw 1) k)))), ((qw 2), .inl (cI, 20, .inl (fun k => zI ((gw 2) k)))), ((qw 3), .inl (cI, 100, .inl (fun k => zI ((gw 3) k))))]) (fun _ => rfl) (fun g4 e_g4 H locs hP hD hS => ?_)
  exact ret (fun _ => 0, fun k => [g1, g2, g3, g4].getD k (fun _ => 0)) _ _ _ _ _ _ ⟨⟨hV.1, h_g2⟩, fun n s h9 => WR.copied (g := g) e_g1 e_g2 e_g3 e_g4 h9⟩ (bw_subP (isC := [0, 1, 2, 3, 4, 5, 6, 7, 8, 9]) hP rfl) (hD.sub [0, 1, 2, 3, 4, 5, 6, 7, 8, 9] (by decide) rfl) hS (Nat.le_of_ble_eq_true rfl) (Nat.le_of_ble_eq_true rfl) dX6_copyFrom_107
