abbrev rm_X2z_degreeOf : Room := { frames := 0, cells := 0, slots := 0, locals := 0 }
set_option maxRecDepth 100000 in
set_option maxHeartbeats 8000000 in
theorem c_X2z_degreeOf {l : Launch} {E : (Nat → Prop) → State → Prop} (hO : bw_Ok E) {G : va_G} {cI cB cJ cN cW : ClassId} (b : Nat) (q : Nat → Nat) (n : Int) (g : Nat → Nat → Int) (hN : NetOk n g) (x : Int) (hx9 : 0 ≤ x ∧ x < 10) (pR : Nat → Int) (hPr : ProgOk pR) (hNR : NRel g pR) (hLN : LN pR n) (hDN : DN pR n) : bw_Ci (S := zU) l yX2_degreeOf (bw_ws (Cond.code yX2_degreeOf cX2_degreeOf 4 (some .int))) rm_X2z_degreeOf E G (bw_kt cI cB cJ cN cW) [.ref b, .int (zI x)] [(b, .inr (2, [.int (zI n), .ref (q 0), .ref (q 1), .ref (q 2), .ref (q 3), .ref (q 4), .ref (q 5), .ref (q 6), .ref (q 7)])), ((q 0), .inl (cI, 10, .inl (fun k => zI ((g 0) k)))), ((q 1), .inl (cI, 10, .inl (fun k => zI ((g 1) k)))), ((q 2), .inl (cI, 10, .inl (fun k => zI ((g 2) k)))), ((q 3), .inl (cI, 40, .inl (fun k => zI ((g 3) k)))), ((q 4), .inl (cI, 40, .inl (fun k => zI ((g 4) k)))), ((q 5), .inl (cI, 40, .inl (fun k => zI ((g 5) k)))), ((q 6), .inl (cI, 20, .inl (fun k => zI ((g 6) k)))), ((q 7), .inl (cI, 20, .inl (fun k => zI ((g 7) k))))] (fun r _ => ∃ z : Int, r = zI z ∧ (z = dgS (dW pR) (lF pR) 20 (x).toNat)) (fun _ => [(b, .inr (2, [.int (zI n), .ref (q 0), .ref (q 1), .ref (q 2), .ref (q 3), .ref (q 4), .ref (q 5), .ref (q 6), .ref (q 7)])), ((q 0), .inl (cI, 10, .inl (fun k => zI ((g 0) k)))), ((q 1), .inl (cI, 10, .inl (fun k => zI ((g 1) k)))), ((q 2), .inl (cI, 10, .inl (fun k => zI ((g 2) k)))), ((q 3), .inl (cI, 40, .inl (fun k => zI ((g 3) k)))), ((q 4), .inl (cI, 40, .inl (fun k => zI ((g 4) k)))), ((q 5), .inl (cI, 40, .inl (fun k => zI ((g 5) k)))), ((q 6), .inl (cI, 20, .inl (fun k => zI ((g 6) k)))), ((q 7), .inl (cI, 20, .inl (fun k => zI ((g 7) k))))]) := by
  refine bw_Ci.of (cc := cX2_degreeOf) (maxL := 4) (ty := .int) (by decide) rfl (Nat.le_of_ble_eq_true rfl) ?_
  intro p e s m below meth c A Q hx hb hml hts hown hin hK hA hS hP hD hE ret ls hl
  have F : CallFix p m c cX2_degreeOf 4 s ([.ref b, .int (zI x)] : List Value).toArray bw_T RX2 := ⟨hx, hb, hml, hown, fun w h => hts w (List.mem_cons_of_mem _ h)⟩
  replace hl : lv_has ls 4 [(0, .ref b), (1, .int (zI x))] := hl
  have hN0 := hN.1
  refine lv_aload_n hx hb dX2_degreeOf_0 rfl (lv_at hl 0 rfl) ?_
  refine r_get F hK hP 0 8 rfl rfl in_X2 (by decide) k_169 rfl dX2_degreeOf_1 ?_
  refine lv_iconst (v := zI 2) hx hb dX2_degreeOf_4 rfl ?_
  refine lv_iload_n hx hb dX2_degreeOf_5 rfl (lv_at hl 1 rfl) ?_
  refine r_imul (v := zI (2 * x)) F dX2_degreeOf_6 (zI_mul _ _) ?_
  refine rz_iald F hK hP 8 0 rfl rfl (by omega) (by omega) dX2_degreeOf_7 ?_
  refine lv_aload_n hx hb dX2_degreeOf_8 rfl (lv_at hl 0 rfl) ?_
  refine r_get F hK hP 0 8 rfl rfl in_X2 (by decide) k_169 rfl dX2_degreeOf_9 ?_
  refine lv_iconst (v := zI 2) hx hb dX2_degreeOf_12 rfl ?_
  refine lv_iload_n hx hb dX2_degreeOf_13 rfl (lv_at hl 1 rfl) ?_
  refine r_imul (v := zI (2 * x)) F dX2_degreeOf_14 (zI_mul _ _) ?_
  refine lv_iconst (v := zI 1) hx hb dX2_degreeOf_15 rfl ?_
  refine r_iadd (v := zI ((2 * x) + 1)) F dX2_degreeOf_16 (zI_add _ _) ?_
  refine rz_iald F hK hP 8 0 rfl rfl (by omega) (by omega) dX2_degreeOf_17 ?_
  refine r_iadd (v := zI (((g 7) ((2 * x)).toNat) + ((g 7) (((2 * x) + 1)).toNat))) F dX2_degreeOf_18 (zI_add _ _) ?_
  refine lv_istore_n (lv' := [(2, .int (zI (((g 7) ((2 * x)).toNat) + ((g 7) (((2 * x) + 1)).toNat)))), (0, .ref b), (1, .int (zI x))]) hx hb dX2_degreeOf_19 rfl hl (by decide) rfl (fun ls hl => ?_)
  refine lv_iconst (v := zI 0) hx hb dX2_degreeOf_20 rfl ?_
  refine lv_istore_n (lv' := [(3, .int (zI 0)), (2, .int (zI (((g 7) ((2 * x)).toNat) + ((g 7) (((2 * x) + 1)).toNat)))), (0, .ref b), (1, .int (zI x))]) hx hb dX2_degreeOf_21 rfl hl (by decide) rfl (fun ls hl => ?_)
  refine W.widen (k := 0) (n := 0) (Nat.le_of_ble_eq_true rfl) (Nat.le_of_ble_eq_true rfl) ?_
  refine (?_ : ∀ (n9_1 : Nat) (v2 : Int) (v3 : Int) (H : Heap) (locs : List Loc), (0 ≤ v3 ∧ v3 ≤ 20) → (20 - v3 : Int).toNat < n9_1 → (v2 = g 7 (2 * x).toNat + g 7 ((2 * x) + 1).toNat - sumN (fun w => if g 6 w = x then g 7 w else 0) (v3).toNat) → va_P G vwCl [(b, .inr (2, [.int (zI n), .ref (q 0), .ref (q 1), .ref (q 2), .ref (q 3), .ref (q 4), .ref (q 5), .ref (q 6), .ref (q 7)])), ((q 0), .inl (cI, 10, .inl (fun k => zI ((g 0) k)))), ((q 1), .inl (cI, 10, .inl (fun k => zI ((g 1) k)))), ((q 2), .inl (cI, 10, .inl (fun k => zI ((g 2) k)))), ((q 3), .inl (cI, 40, .inl (fun k => zI ((g 3) k)))), ((q 4), .inl (cI, 40, .inl (fun k => zI ((g 4) k)))), ((q 5), .inl (cI, 40, .inl (fun k => zI ((g 5) k)))), ((q 6), .inl (cI, 20, .inl (fun k => zI ((g 6) k)))), ((q 7), .inl (cI, 20, .inl (fun k => zI ((g 7) k))))] H → va_D A [(b, .inr (2, [.int (zI n), .ref (q 0), .ref (q 1), .ref (q 2), .ref (q 3), .ref (q 4), .ref (q 5), .ref (q 6), .ref (q 7)])), ((q 0), .inl (cI, 10, .inl (fun k => zI ((g 0) k)))), ((q 1), .inl (cI, 10, .inl (fun k => zI ((g 1) k)))), ((q 2), .inl (cI, 10, .inl (fun k => zI ((g 2) k)))), ((q 3), .inl (cI, 40, .inl (fun k => zI ((g 3) k)))), ((q 4), .inl (cI, 40, .inl (fun k => zI ((g 4) k)))), ((q 5), .inl (cI, 40, .inl (fun k => zI ((g 5) k)))), ((q 6), .inl (cI, 20, .inl (fun k => zI ((g 6) k)))), ((q 7), .inl (cI, 20, .inl (fun k => zI ((g 7) k))))] → va_S A s.heap H locs → ∀ ls : Array Slot, lv_has ls 4 [(3, .int (zI v3)), (2, .int (zI v2)), (0, .ref b), (1, .int (zI x))] → W p l e rm_X2z_degreeOf s m ([.ref b, .int (zI x)] : List Value).toArray below meth c H locs 0 0 Q (F0 m 22 ls [])) ((20 - 0 : Int).toNat + 1) (((g 7) ((2 * x)).toNat) + ((g 7) (((2 * x) + 1)).toNat)) 0 _ _ (by omega) (by omega) (Int.sub_zero _).symm hP hD hS ls hl
  clear hP hD hS hl ls
  intro n9_1
  induction n9_1 with
  | zero =>
    intro v2 v3 H locs hI hM
    exact absurd hM (by omega)
  | succ n9_1 ih1 =>
    intro v2 v3 H locs hI1 hM1 hdg hP hD hS ls hl
    refine lv_iload_n hx hb dX2_degreeOf_22 rfl (lv_at hl 0 rfl) ?_
    refine lv_bipush (v := zI 20) hx hb dX2_degreeOf_23 (by decide) ?_
    refine rz_icmp_ge (tgt := 57) F (by omega) (by omega) dX2_degreeOf_25 (by decide) (fun h25_0 => ?_) (fun h25_0 => ?_)
    · refine lv_iload_n hx hb dX2_degreeOf_57 rfl (lv_at hl 1 rfl) ?_
      exact ret (zI v2) (fun _ => 0, fun _ _ => 0) _ _ _ _ _ _ rfl ⟨v2, rfl, (by have q8 := hdg; rw [show (v3).toNat = 20 by omega] at q8; exact q8.trans (hNR.dgs_e hPr hx9))⟩ (bw_subP (isC := [0, 1, 2, 3, 4, 5, 6, 7, 8]) hP rfl) (hD.sub [0, 1, 2, 3, 4, 5, 6, 7, 8] (by decide) rfl) hS (Nat.le_of_ble_eq_true rfl) (Nat.le_of_ble_eq_true rfl) dX2_degreeOf_58
    · refine lv_iload_n hx hb dX2_degreeOf_28 rfl (lv_at hl 1 rfl) ?_
      refine lv_aload_n hx hb dX2_degreeOf_29 rfl (lv_at hl 2 rfl) ?_
      refine r_get F hK hP 0 7 rfl rfl in_X2 (by decide) k_165 rfl dX2_degreeOf_30 ?_
      refine lv_iload_n hx hb dX2_degreeOf_33 rfl (lv_at hl 0 rfl) ?_
      refine rz_iald F hK hP 7 0 rfl rfl (by omega) (by omega) dX2_degreeOf_34 ?_
      have hc2 := hN.2.2.2.2.2.2.2.1 (v3).toNat (by omega)
      refine lv_iload_n hx hb dX2_degreeOf_35 rfl (lv_at hl 3 rfl) ?_
      refine rz_icmp_ne (tgt := 48) F (by omega) (by omega) dX2_degreeOf_36 (by decide) (fun h36_2 => ?_) (fun h36_2 => ?_)
      · refine lv_iconst (v := zI 0) hx hb dX2_degreeOf_48 rfl ?_
        refine r_isub (v := zI (v2 - 0)) F dX2_degreeOf_49 (zI_sub _ _) ?_
        refine lv_istore_n (lv' := [(2, .int (zI (v2 - 0))), (3, .int (zI v3)), (0, .ref b), (1, .int (zI x))]) hx hb dX2_degreeOf_50 rfl hl (by decide) rfl (fun ls hl => ?_)
        refine lv_iinc (v := zI (v3 + 1)) (lv' := [(3, .int (zI (v3 + 1))), (2, .int (zI (v2 - 0))), (0, .ref b), (1, .int (zI x))]) hx hb dX2_degreeOf_51 hl (k := 1) rfl (zI_add _ _) (by decide) rfl (fun ls hl => ?_)
        refine lv_goto (tgt := 22) hx hb dX2_degreeOf_54 (by decide) ?_
        exact ih1 (v2 - 0) (v3 + 1) _ _ (by omega) (by omega) (dg_sub (f := fun w => if g 6 w = x then g 7 w else 0) (by omega) hdg (if_neg (by omega)).symm) hP hD hS ls (lv_sub hl [0, 1, 2, 3] rfl)
      · refine lv_aload_n hx hb dX2_degreeOf_39 rfl (lv_at hl 2 rfl) ?_
        refine r_get F hK hP 0 8 rfl rfl in_X2 (by decide) k_169 rfl dX2_degreeOf_40 ?_
        refine lv_iload_n hx hb dX2_degreeOf_43 rfl (lv_at hl 0 rfl) ?_
        refine rz_iald F hK hP 8 0 rfl rfl (by omega) (by omega) dX2_degreeOf_44 ?_
        refine lv_goto (tgt := 49) hx hb dX2_degreeOf_45 (by decide) ?_
        refine r_isub (v := zI (v2 - ((g 7) (v3).toNat))) F dX2_degreeOf_49 (zI_sub _ _) ?_
        refine lv_istore_n (lv' := [(2, .int (zI (v2 - ((g 7) (v3).toNat)))), (3, .int (zI v3)), (0, .ref b), (1, .int (zI x))]) hx hb dX2_degreeOf_50 rfl hl (by decide) rfl (fun ls hl => ?_)
        refine lv_iinc (v := zI (v3 + 1)) (lv' := [(3, .int (zI (v3 + 1))), (2, .int (zI (v2 - ((g 7) (v3).toNat)))), (0, .ref b), (1, .int (zI x))]) hx hb dX2_degreeOf_51 hl (k := 1) rfl (zI_add _ _) (by decide) rfl (fun ls hl => ?_)
        refine lv_goto (tgt := 22) hx hb dX2_degreeOf_54 (by decide) ?_
        exact ih1 (v2 - ((g 7) (v3).toNat)) (v3 + 1) _ _ (by omega) (by omega) (dg_sub (f := fun w => if g 6 w = x then g 7 w else 0) (by omega) hdg (if_pos (by omega)).symm) hP hD hS ls (lv_sub hl [0, 1, 2, 3] rfl)
abbrev rm_X2z_isBalanced : Room := { frames := 1, cells := 0, slots := 0, locals := 23 }
set_option maxRecDepth 100000 in
set_option maxHeartbeats 8000000 in
theorem c_X2z_isBalanced {l : Launch} {E : (Nat → Prop) → State → Prop} (hO : bw_Ok E) {G : va_G} {cI cB cJ cN cW : ClassId} (b : Nat) (q : Nat → Nat) (n : Int) (g : Nat → Nat → Int) (hN : NetOk n g) (pR : Nat → Int) (hPr : ProgOk pR) (hNR : NRel g pR) (hLN : LN pR n) (hDN : DN pR n) : bw_Ci (S := zU) l yX2_isBalanced (bw_ws (Cond.code yX2_isBalanced cX2_isBalanced 5 (some .boolean))) rm_X2z_isBalanced E G (bw_kt cI cB cJ cN cW) [.ref b] [(b, .inr (2, [.int (zI n), .ref (q 0), .ref (q 1), .ref (q 2), .ref (q 3), .ref (q 4), .ref (q 5), .ref (q 6), .ref (q 7)])), ((q 0), .inl (cI, 10, .inl (fun k => zI ((g 0) k)))), ((q 1), .inl (cI, 10, .inl (fun k => zI ((g 1) k)))), ((q 2), .inl (cI, 10, .inl (fun k => zI ((g 2) k)))), ((q 3), .inl (cI, 40, .inl (fun k => zI ((g 3) k)))), ((q 4), .inl (cI, 40, .inl (fun k => zI ((g 4) k)))), ((q 5), .inl (cI, 40, .inl (fun k => zI ((g 5) k)))), ((q 6), .inl (cI, 20, .inl (fun k => zI ((g 6) k)))), ((q 7), .inl (cI, 20, .inl (fun k => zI ((g 7) k))))] (fun r _ => ∃ z : Int, r = zI z ∧ ((0 ≤ z ∧ z ≤ 1) ∧ (z = 1 ↔ DgF (dgS (dW pR) (lF pR) 20) n.toNat 0))) (fun _ => [(b, .inr (2, [.int (zI n), .ref (q 0), .ref (q 1), .ref (q 2), .ref (q 3), .ref (q 4), .ref (q 5), .ref (q 6), .ref (q 7)])), ((q 0), .inl (cI, 10, .inl (fun k => zI ((g 0) k)))), ((q 1), .inl (cI, 10, .inl (fun k => zI ((g 1) k)))), ((q 2), .inl (cI, 10, .inl (fun k => zI ((g 2) k)))), ((q 3), .inl (cI, 40, .inl (fun k => zI ((g 3) k)))), ((q 4), .inl (cI, 40, .inl (fun k => zI ((g 4) k)))), ((q 5), .inl (cI, 40, .inl (fun k => zI ((g 5) k)))), ((q 6), .inl (cI, 20, .inl (fun k => zI ((g 6) k)))), ((q 7), .inl (cI, 20, .inl (fun k => zI ((g 7) k))))]) := by
  refine bw_Ci.of (cc := cX2_isBalanced) (maxL := 5) (ty := .boolean) (by decide) rfl (Nat.le_of_ble_eq_true rfl) ?_
  intro p e s m below meth c A Q hx hb hml hts hown hin hK hA hS hP hD hE ret ls hl
  have F : CallFix p m c cX2_isBalanced 5 s ([.ref b] : List Value).toArray bw_T RX2 := ⟨hx, hb, hml, hown, fun w h => hts w (List.mem_cons_of_mem _ h)⟩
  replace hl : lv_has ls 5 [(0, .ref b)] := hl
  have hN0 := hN.1
  refine lv_aload_n hx hb dX2_isBalanced_0 rfl (lv_at hl 0 rfl) ?_
  refine lv_iconst (v := zI 0) hx hb dX2_isBalanced_1 rfl ?_
  refine r_callVi (As := [.int (zI 0)]) (rest := []) (wr := []) F hK hP hD hS hA hO hE (c_X2z_degreeOf hO b q n g hN 0 (by omega) pR hPr hNR hLN hDN) k_871 kv_X2_degreeOf 1 rfl (by decide +kernel) ⟨Nat.le_of_ble_eq_true rfl, Nat.le_of_ble_eq_true rfl⟩ [0, 1, 2, 3, 4, 5, 6, 7, 8] [] rfl rfl (by decide) (by decide) (by decide) 0 2 rfl rfl rfl hl.1 rfl (Nat.le_of_ble_eq_true rfl) dX2_isBalanced_2 ⟨Nat.le_of_ble_eq_true rfl, Nat.le_of_ble_eq_true rfl⟩ (w1 := fun u1 => [(b, .inr (2, [.int (zI n), .ref (q 0), .ref (q 1), .ref (q 2), .ref (q 3), .ref (q 4), .ref (q 5), .ref (q 6), .ref (q 7)])), ((q 0), .inl (cI, 10, .inl (fun k => zI ((g 0) k)))), ((q 1), .inl (cI, 10, .inl (fun k => zI ((g 1) k)))), ((q 2), .inl (cI, 10, .inl (fun k => zI ((g 2) k)))), ((q 3), .inl (cI, 40, .inl (fun k => zI ((g 3) k)))), ((q 4), .inl (cI, 40, .inl (fun k => zI ((g 4) k)))), ((q 5), .inl (cI, 40, .inl (fun k => zI ((g 5) k)))), ((q 6), .inl (cI, 20, .inl (fun k => zI ((g 6) k)))), ((q 7), .inl (cI, 20, .inl (fun k => zI ((g 7) k))))]) (fun _ => rfl) (fun r2 u1 H locs hp3 hP hD hS => ?_)
  obtain ⟨z4, rfl, h_z4⟩ := hp3
  have hdq5 := h_z4
  have hc6 := @dgs_rg pR hPr (0 : Int).toNat
  refine lv_istore_n (lv' := [(1, .int (zI z4)), (0, .ref b)]) hx hb dX2_isBalanced_5 rfl hl (by decide) rfl (fun ls hl => ?_)
  refine lv_iconst (v := zI 0) hx hb dX2_isBalanced_6 rfl ?_
  refine lv_istore_n (lv' := [(2, .int (zI 0)), (1, .int (zI z4)), (0, .ref b)]) hx hb dX2_isBalanced_7 rfl hl (by decide) rfl (fun ls hl => ?_)
  refine lv_iconst (v := zI 1) hx hb dX2_isBalanced_8 rfl ?_
  refine lv_istore_n (lv' := [(3, .int (zI 1)), (2, .int (zI 0)), (1, .int (zI z4)), (0, .ref b)]) hx hb dX2_isBalanced_9 rfl hl (by decide) rfl (fun ls hl => ?_)
  refine W.widen (k := 0) (n := 0) (Nat.le_of_ble_eq_true rfl) (Nat.le_of_ble_eq_true rfl) ?_
  refine (?_ : ∀ (n9_1 : Nat) (v2 : Int) (v3 : Int) (H : Heap) (locs : List Loc), (1 ≤ v3 ∧ (v3 ≤ n ∨ v3 = 1) ∧ 0 ≤ v2 ∧ v2 ≤ v3) → (n - v3 : Int).toNat < n9_1 → (BlI (dgS (dW pR) (lF pR) 20) v2 v3) → va_P G vwCl [(b, .inr (2, [.int (zI n), .ref (q 0), .ref (q 1), .ref (q 2), .ref (q 3), .ref (q 4), .ref (q 5), .ref (q 6), .ref (q 7)])), ((q 0), .inl (cI, 10, .inl (fun k => zI ((g 0) k)))), ((q 1), .inl (cI, 10, .inl (fun k => zI ((g 1) k)))), ((q 2), .inl (cI, 10, .inl (fun k => zI ((g 2) k)))), ((q 3), .inl (cI, 40, .inl (fun k => zI ((g 3) k)))), ((q 4), .inl (cI, 40, .inl (fun k => zI ((g 4) k)))), ((q 5), .inl (cI, 40, .inl (fun k => zI ((g 5) k)))), ((q 6), .inl (cI, 20, .inl (fun k => zI ((g 6) k)))), ((q 7), .inl (cI, 20, .inl (fun k => zI ((g 7) k))))] H → va_D A [(b, .inr (2, [.int (zI n), .ref (q 0), .ref (q 1), .ref (q 2), .ref (q 3), .ref (q 4), .ref (q 5), .ref (q 6), .ref (q 7)])), ((q 0), .inl (cI, 10, .inl (fun k => zI ((g 0) k)))), ((q 1), .inl (cI, 10, .inl (fun k => zI ((g 1) k)))), ((q 2), .inl (cI, 10, .inl (fun k => zI ((g 2) k)))), ((q 3), .inl (cI, 40, .inl (fun k => zI ((g 3) k)))), ((q 4), .inl (cI, 40, .inl (fun k => zI ((g 4) k)))), ((q 5), .inl (cI, 40, .inl (fun k => zI ((g 5) k)))), ((q 6), .inl (cI, 20, .inl (fun k => zI ((g 6) k)))), ((q 7), .inl (cI, 20, .inl (fun k => zI ((g 7) k))))] → va_S A s.heap H locs → ∀ ls : Array Slot, lv_has ls 5 [(3, .int (zI v3)), (2, .int (zI v2)), (1, .int (zI z4)), (0, .ref b)] → W p l e rm_X2z_isBalanced s m ([.ref b] : List Value).toArray below meth c H locs 0 0 Q (F0 m 10 ls [])) ((n - 1 : Int).toNat + 1) 0 1 _ _ (by omega) (by omega) BlI.init hP hD hS ls hl
  clear hP hD hS hl ls
  intro n9_1
  induction n9_1 with
  | zero =>
    intro v2 v3 H locs hI hM
    exact absurd hM (by omega)
  | succ n9_1 ih1 =>
    intro v2 v3 H locs hI1 hM1 hbl hP hD hS ls hl
    refine lv_iload_n hx hb dX2_isBalanced_10 rfl (lv_at hl 0 rfl) ?_
    refine lv_aload_n hx hb dX2_isBalanced_11 rfl (lv_at hl 3 rfl) ?_
    refine r_get F hK hP 0 0 rfl rfl in_X2 (by decide) k_144 rfl dX2_isBalanced_12 ?_
    refine rz_icmp_ge (tgt := 49) F (by omega) (by omega) dX2_isBalanced_15 (by decide) (fun h15_6 => ?_) (fun h15_6 => ?_)
    · refine lv_iload_n hx hb dX2_isBalanced_49 rfl (lv_at hl 2 rfl) ?_
      have hRl : Rst pR (lF pR) := fun w hw => by have q9 := laidF_rg hPr (x := (w : Int)) (by omega); unfold lF; omega
      have hbf := BlI.fin (n := n) (G := (dgS (dW pR) (lF pR) 20)) hbl (by omega) (by omega) (by omega) hdq5 (fun q9 => dgS_far hPr hRl hLN hDN (by omega))
      refine lv_iload_n hx hb dX2_isBalanced_50 rfl (lv_at hl 1 rfl) ?_
      refine rz_icmp_ne (tgt := 63) F (by omega) (by omega) dX2_isBalanced_51 (by decide) (fun h51_7 => ?_) (fun h51_7 => ?_)
      · refine lv_iconst (v := zI 0) hx hb dX2_isBalanced_63 rfl ?_
        exact ret (zI 0) (fun _ => 0, fun _ _ => 0) _ _ _ _ _ _ rfl ⟨0, rfl, ⟨by omega, fun q9 => hbf.mp (by omega), fun q9 => by have q8 := hbf.mpr q9; omega⟩⟩ (bw_subP (isC := [0, 1, 2, 3, 4, 5, 6, 7, 8]) hP rfl) (hD.sub [0, 1, 2, 3, 4, 5, 6, 7, 8] (by decide) rfl) hS (Nat.le_of_ble_eq_true rfl) (Nat.le_of_ble_eq_true rfl) dX2_isBalanced_64
      · refine lv_iload_n hx hb dX2_isBalanced_54 rfl (lv_at hl 2 rfl) ?_
        refine lv_iconst (v := zI 1) hx hb dX2_isBalanced_55 rfl ?_
        refine rz_icmp_gt (tgt := 63) F (by omega) (by omega) dX2_isBalanced_56 (by decide) (fun h56_8 => ?_) (fun h56_8 => ?_)
        · refine lv_iconst (v := zI 0) hx hb dX2_isBalanced_63 rfl ?_
          exact ret (zI 0) (fun _ => 0, fun _ _ => 0) _ _ _ _ _ _ rfl ⟨0, rfl, ⟨by omega, fun q9 => hbf.mp (by omega), fun q9 => by have q8 := hbf.mpr q9; omega⟩⟩ (bw_subP (isC := [0, 1, 2, 3, 4, 5, 6, 7, 8]) hP rfl) (hD.sub [0, 1, 2, 3, 4, 5, 6, 7, 8] (by decide) rfl) hS (Nat.le_of_ble_eq_true rfl) (Nat.le_of_ble_eq_true rfl) dX2_isBalanced_64
        · refine lv_iconst (v := zI 1) hx hb dX2_isBalanced_59 rfl ?_
          refine lv_goto (tgt := 64) hx hb dX2_isBalanced_60 (by decide) ?_
          exact ret (zI 1) (fun _ => 0, fun _ _ => 0) _ _ _ _ _ _ rfl ⟨1, rfl, ⟨by omega, fun q9 => hbf.mp (by omega), fun q9 => by have q8 := hbf.mpr q9; omega⟩⟩ (bw_subP (isC := [0, 1, 2, 3, 4, 5, 6, 7, 8]) hP rfl) (hD.sub [0, 1, 2, 3, 4, 5, 6, 7, 8] (by decide) rfl) hS (Nat.le_of_ble_eq_true rfl) (Nat.le_of_ble_eq_true rfl) dX2_isBalanced_64
    · refine lv_aload_n hx hb dX2_isBalanced_18 rfl (lv_at hl 3 rfl) ?_
      refine lv_iload_n hx hb dX2_isBalanced_19 rfl (lv_at hl 0 rfl) ?_
      refine r_callVi (As := [.int (zI v3)]) (rest := []) (wr := []) F hK hP hD hS hA hO hE (c_X2z_degreeOf hO b q n g hN v3 (by omega) pR hPr hNR hLN hDN) k_871 kv_X2_degreeOf 1 rfl (by decide +kernel) ⟨Nat.le_of_ble_eq_true rfl, Nat.le_of_ble_eq_true rfl⟩ [0, 1, 2, 3, 4, 5, 6, 7, 8] [] rfl rfl (by decide) (by decide) (by decide) 0 2 rfl rfl rfl hl.1 rfl (Nat.le_of_ble_eq_true rfl) dX2_isBalanced_20 ⟨Nat.le_of_ble_eq_true rfl, Nat.le_of_ble_eq_true rfl⟩ (w1 := fun u10 => [(b, .inr (2, [.int (zI n), .ref (q 0), .ref (q 1), .ref (q 2), .ref (q 3), .ref (q 4), .ref (q 5), .ref (q 6), .ref (q 7)])), ((q 0), .inl (cI, 10, .inl (fun k => zI ((g 0) k)))), ((q 1), .inl (cI, 10, .inl (fun k => zI ((g 1) k)))), ((q 2), .inl (cI, 10, .inl (fun k => zI ((g 2) k)))), ((q 3), .inl (cI, 40, .inl (fun k => zI ((g 3) k)))), ((q 4), .inl (cI, 40, .inl (fun k => zI ((g 4) k)))), ((q 5), .inl (cI, 40, .inl (fun k => zI ((g 5) k)))), ((q 6), .inl (cI, 20, .inl (fun k => zI ((g 6) k)))), ((q 7), .inl (cI, 20, .inl (fun k => zI ((g 7) k))))]) (fun _ => rfl) (fun r11 u10 H locs hp12 hP hD hS => ?_)
      obtain ⟨z13, rfl, h_z13⟩ := hp12
      have hdq14 := h_z13
      have hc15 := @dgs_rg pR hPr (v3).toNat
      refine lv_istore (lv' := [(4, .int (zI z13)), (3, .int (zI v3)), (2, .int (zI v2)), (1, .int (zI z4)), (0, .ref b)]) hx hb dX2_isBalanced_23 hl (by decide) rfl (fun ls hl => ?_)
      refine lv_iload hx hb dX2_isBalanced_25 (lv_at hl 0 rfl) ?_
      refine rz_if_eq (tgt := 38) F (by omega) dX2_isBalanced_27 (by decide) (fun h27_15 => ?_) (fun h27_15 => ?_)
      · refine lv_iload_n hx hb dX2_isBalanced_38 rfl (lv_at hl 2 rfl) ?_
        refine lv_iload hx hb dX2_isBalanced_39 (lv_at hl 0 rfl) ?_
        refine r_isub (v := zI (v2 - z13)) F dX2_isBalanced_41 (zI_sub _ _) ?_
        refine lv_istore_n (lv' := [(2, .int (zI (v2 - z13))), (4, .int (zI z13)), (3, .int (zI v3)), (1, .int (zI z4)), (0, .ref b)]) hx hb dX2_isBalanced_42 rfl hl (by decide) rfl (fun ls hl => ?_)
        refine lv_iinc (v := zI (v3 + 1)) (lv' := [(3, .int (zI (v3 + 1))), (2, .int (zI (v2 - z13))), (4, .int (zI z13)), (1, .int (zI z4)), (0, .ref b)]) hx hb dX2_isBalanced_43 hl (k := 2) rfl (zI_add _ _) (by decide) rfl (fun ls hl => ?_)
        refine lv_goto (tgt := 10) hx hb dX2_isBalanced_46 (by decide) ?_
        exact ih1 (v2 - z13) (v3 + 1) _ _ (by omega) (by omega) (BlI.step hbl (by omega) hdq14 (by omega)) hP hD hS ls (lv_sub hl [0, 1, 3, 4] rfl)
      · refine lv_iload hx hb dX2_isBalanced_30 (lv_at hl 0 rfl) ?_
        refine lv_iconst (v := zI (-1)) hx hb dX2_isBalanced_32 rfl ?_
        refine rz_icmp_eq (tgt := 38) F (by omega) (by omega) dX2_isBalanced_33 (by decide) (fun h33_16 => ?_) (fun h33_16 => ?_)
        · refine lv_iload_n hx hb dX2_isBalanced_38 rfl (lv_at hl 2 rfl) ?_
          refine lv_iload hx hb dX2_isBalanced_39 (lv_at hl 0 rfl) ?_
          refine r_isub (v := zI (v2 - z13)) F dX2_isBalanced_41 (zI_sub _ _) ?_
          refine lv_istore_n (lv' := [(2, .int (zI (v2 - z13))), (4, .int (zI z13)), (3, .int (zI v3)), (1, .int (zI z4)), (0, .ref b)]) hx hb dX2_isBalanced_42 rfl hl (by decide) rfl (fun ls hl => ?_)
          refine lv_iinc (v := zI (v3 + 1)) (lv' := [(3, .int (zI (v3 + 1))), (2, .int (zI (v2 - z13))), (4, .int (zI z13)), (1, .int (zI z4)), (0, .ref b)]) hx hb dX2_isBalanced_43 hl (k := 2) rfl (zI_add _ _) (by decide) rfl (fun ls hl => ?_)
          refine lv_goto (tgt := 10) hx hb dX2_isBalanced_46 (by decide) ?_
          exact ih1 (v2 - z13) (v3 + 1) _ _ (by omega) (by omega) (BlI.step hbl (by omega) hdq14 (by omega)) hP hD hS ls (lv_sub hl [0, 1, 3, 4] rfl)
        · refine lv_iconst (v := zI 0) hx hb dX2_isBalanced_36 rfl ?_
          exact ret (zI 0) (fun _ => 0, fun _ _ => 0) _ _ _ _ _ _ rfl ⟨0, rfl, ⟨by omega, fun q9 => absurd q9 (by decide), fun q9 => absurd q9 (DgF.no (k := (v3).toNat) (by omega) (fun q8 => by have q7 := hdq14; rcases q8 with q8 | q8 | q8 <;> omega))⟩⟩ (bw_subP (isC := [0, 1, 2, 3, 4, 5, 6, 7, 8]) hP rfl) (hD.sub [0, 1, 2, 3, 4, 5, 6, 7, 8] (by decide) rfl) hS (Nat.le_of_ble_eq_true rfl) (Nat.le_of_ble_eq_true rfl) dX2_isBalanced_37
abbrev rm_X2z_hangSelf : Room := { frames := 0, cells := 0, slots := 0, locals := 0 }
set_option maxRecDepth 100000 in
set_option maxHeartbeats 8000000 in
theorem c_X2z_hangSelf {l : Launch} {E : (Nat → Prop) → State → Prop} (hO : bw_Ok E) {G : va_G} {cI cB cJ cN cW : ClassId} (b : Nat) (q : Nat → Nat) (n : Int) (g : Nat → Nat → Int) (hN : NetOk n g) (x : Int) (hx9 : 0 ≤ x ∧ x < 10) (pR : Nat → Int) (hPr : ProgOk pR) (hNR : NRel g pR) (hLN : LN pR n) (hDN : DN pR n) (hxn : x < n ∨ ∀ w, ¬ (EL (g 7)) w) : bw_Ci (S := zU) l yX2_hangTogether (bw_ws (Cond.code yX2_hangTogether cX2_hangTogether 7 (some .boolean))) rm_X2z_hangSelf E G (bw_kt cI cB cJ cN cW) [.ref b, .ref (q 7), .int (zI x)] [(b, .inr (2, [.int (zI n), .ref (q 0), .ref (q 1), .ref (q 2), .ref (q 3), .ref (q 4), .ref (q 5), .ref (q 6), .ref (q 7)])), ((q 0), .inl (cI, 10, .inl (fun k => zI ((g 0) k)))), ((q 1), .inl (cI, 10, .inl (fun k => zI ((g 1) k)))), ((q 2), .inl (cI, 10, .inl (fun k => zI ((g 2) k)))), ((q 3), .inl (cI, 40, .inl (fun k => zI ((g 3) k)))), ((q 4), .inl (cI, 40, .inl (fun k => zI ((g 4) k)))), ((q 5), .inl (cI, 40, .inl (fun k => zI ((g 5) k)))), ((q 6), .inl (cI, 20, .inl (fun k => zI ((g 6) k)))), ((q 7), .inl (cI, 20, .inl (fun k => zI ((g 7) k))))] (fun r _ => ∃ z : Int, r = zI z ∧ ((0 ≤ z ∧ z ≤ 1) ∧ (z = 1 ↔ ∀ w : Nat, (EL (g 7)) w → Uch (EL (g 7)) (dW pR) (x).toNat (w / 2)))) (fun _ => [(b, .inr (2, [.int (zI n), .ref (q 0), .ref (q 1), .ref (q 2), .ref (q 3), .ref (q 4), .ref (q 5), .ref (q 6), .ref (q 7)])), ((q 0), .inl (cI, 10, .inl (fun k => zI ((g 0) k)))), ((q 1), .inl (cI, 10, .inl (fun k => zI ((g 1) k)))), ((q 2), .inl (cI, 10, .inl (fun k => zI ((g 2) k)))), ((q 3), .inl (cI, 40, .inl (fun k => zI ((g 3) k)))), ((q 4), .inl (cI, 40, .inl (fun k => zI ((g 4) k)))), ((q 5), .inl (cI, 40, .inl (fun k => zI ((g 5) k)))), ((q 6), .inl (cI, 20, .inl (fun k => zI ((g 6) k)))), ((q 7), .inl (cI, 20, .inl (fun k => zI ((g 7) k))))]) := by
  refine bw_Ci.of (cc := cX2_hangTogether) (maxL := 7) (ty := .boolean) (by decide) rfl (Nat.le_of_ble_eq_true rfl) ?_
  intro p e s m below meth c A Q hx hb hml hts hown hin hK hA hS hP hD hE ret ls hl
  have F : CallFix p m c cX2_hangTogether 7 s ([.ref b, .ref (q 7), .int (zI x)] : List Value).toArray bw_T RX2 := ⟨hx, hb, hml, hown, fun w h => hts w (List.mem_cons_of_mem _ h)⟩
  replace hl : lv_has ls 7 [(0, .ref b), (1, .ref (q 7)), (2, .int (zI x))] := hl
  have hN0 := hN.1
  obtain ⟨hW7, hW⟩ := hNR.rst hPr
  refine lv_iconst (v := zI 1) hx hb dX2_hangTogether_0 rfl ?_
  refine lv_iload_n hx hb dX2_hangTogether_1 rfl (lv_at hl 2 rfl) ?_
  refine lv_ishl hx hb dX2_hangTogether_2 ?_
  obtain ⟨zc2, ec3, hc4, hbt5⟩ := sh_n (x := x) (by omega)
  refine rz_eq (z := zc2) ec3 ?_
  refine lv_istore_n (lv' := [(3, .int (zI zc2)), (0, .ref b), (1, .ref (q 7)), (2, .int (zI x))]) hx hb dX2_hangTogether_3 rfl hl (by decide) rfl (fun ls hl => ?_)
  refine lv_iconst (v := zI 0) hx hb dX2_hangTogether_4 rfl ?_
  refine lv_istore (lv' := [(4, .int (zI 0)), (3, .int (zI zc2)), (0, .ref b), (1, .ref (q 7)), (2, .int (zI x))]) hx hb dX2_hangTogether_5 hl (by decide) rfl (fun ls hl => ?_)
  refine W.widen (k := 0) (n := 0) (Nat.le_of_ble_eq_true rfl) (Nat.le_of_ble_eq_true rfl) ?_
  refine (?_ : ∀ (n9_1 : Nat) (v3 : Int) (v4 : Int) (H : Heap) (locs : List Loc), (0 ≤ v4 ∧ v4 ≤ n ∧ 0 ≤ v3 ∧ v3 < 1024) → (n - v4 : Int).toNat < n9_1 → (OuC2 (EL (g 7)) (dW pR) (x).toNat v3 n v4) → va_P G vwCl [(b, .inr (2, [.int (zI n), .ref (q 0), .ref (q 1), .ref (q 2), .ref (q 3), .ref (q 4), .ref (q 5), .ref (q 6), .ref (q 7)])), ((q 0), .inl (cI, 10, .inl (fun k => zI ((g 0) k)))), ((q 1), .inl (cI, 10, .inl (fun k => zI ((g 1) k)))), ((q 2), .inl (cI, 10, .inl (fun k => zI ((g 2) k)))), ((q 3), .inl (cI, 40, .inl (fun k => zI ((g 3) k)))), ((q 4), .inl (cI, 40, .inl (fun k => zI ((g 4) k)))), ((q 5), .inl (cI, 40, .inl (fun k => zI ((g 5) k)))), ((q 6), .inl (cI, 20, .inl (fun k => zI ((g 6) k)))), ((q 7), .inl (cI, 20, .inl (fun k => zI ((g 7) k))))] H → va_D A [(b, .inr (2, [.int (zI n), .ref (q 0), .ref (q 1), .ref (q 2), .ref (q 3), .ref (q 4), .ref (q 5), .ref (q 6), .ref (q 7)])), ((q 0), .inl (cI, 10, .inl (fun k => zI ((g 0) k)))), ((q 1), .inl (cI, 10, .inl (fun k => zI ((g 1) k)))), ((q 2), .inl (cI, 10, .inl (fun k => zI ((g 2) k)))), ((q 3), .inl (cI, 40, .inl (fun k => zI ((g 3) k)))), ((q 4), .inl (cI, 40, .inl (fun k => zI ((g 4) k)))), ((q 5), .inl (cI, 40, .inl (fun k => zI ((g 5) k)))), ((q 6), .inl (cI, 20, .inl (fun k => zI ((g 6) k)))), ((q 7), .inl (cI, 20, .inl (fun k => zI ((g 7) k))))] → va_S A s.heap H locs → ∀ ls : Array Slot, lv_has ls 7 [(4, .int (zI v4)), (3, .int (zI v3)), (0, .ref b), (1, .ref (q 7)), (2, .int (zI x))] → W p l e rm_X2z_hangSelf s m ([.ref b, .ref (q 7), .int (zI x)] : List Value).toArray below meth c H locs 0 0 Q (F0 m 7 ls [])) ((n - 0 : Int).toNat + 1) zc2 0 _ _ (by omega) (by omega) (OuC2.init hbt5 (hxn.imp (fun q => by omega) (fun q => q))) hP hD hS ls hl
  clear hP hD hS hl ls
  intro n9_1
  induction n9_1 with
  | zero =>
    intro v3 v4 H locs hI hM
    exact absurd hM (by omega)
  | succ n9_1 ih1 =>
    intro v3 v4 H locs hI1 hM1 hou hP hD hS ls hl
    refine lv_iload hx hb dX2_hangTogether_7 (lv_at hl 0 rfl) ?_
    refine lv_aload_n hx hb dX2_hangTogether_9 rfl (lv_at hl 2 rfl) ?_
    refine r_get F hK hP 0 0 rfl rfl in_X2 (by decide) k_144 rfl dX2_hangTogether_10 ?_
    refine rz_icmp_ge (tgt := 83) F (by omega) (by omega) dX2_hangTogether_13 (by decide) (fun h13_5 => ?_) (fun h13_5 => ?_)
    · refine lv_iconst (v := zI 0) hx hb dX2_hangTogether_83 rfl ?_
      have hua := hou.all (by omega) (by omega)
      refine lv_istore (lv' := [(4, .int (zI 0)), (3, .int (zI v3)), (0, .ref b), (1, .ref (q 7)), (2, .int (zI x))]) hx hb dX2_hangTogether_84 hl (by decide) rfl (fun ls hl => ?_)
      refine W.widen (k := 0) (n := 0) (Nat.le_of_ble_eq_true rfl) (Nat.le_of_ble_eq_true rfl) ?_
      refine (?_ : ∀ (n9_2 : Nat) (u4 : Int) (H : Heap) (locs : List Loc), (0 ≤ u4 ∧ u4 ≤ 20) → (20 - u4 : Int).toNat < n9_2 → (∀ w : Nat, (w : Int) < u4 → (EL (g 7)) w → bN v3 (w / 2)) → va_P G vwCl [(b, .inr (2, [.int (zI n), .ref (q 0), .ref (q 1), .ref (q 2), .ref (q 3), .ref (q 4), .ref (q 5), .ref (q 6), .ref (q 7)])), ((q 0), .inl (cI, 10, .inl (fun k => zI ((g 0) k)))), ((q 1), .inl (cI, 10, .inl (fun k => zI ((g 1) k)))), ((q 2), .inl (cI, 10, .inl (fun k => zI ((g 2) k)))), ((q 3), .inl (cI, 40, .inl (fun k => zI ((g 3) k)))), ((q 4), .inl (cI, 40, .inl (fun k => zI ((g 4) k)))), ((q 5), .inl (cI, 40, .inl (fun k => zI ((g 5) k)))), ((q 6), .inl (cI, 20, .inl (fun k => zI ((g 6) k)))), ((q 7), .inl (cI, 20, .inl (fun k => zI ((g 7) k))))] H → va_D A [(b, .inr (2, [.int (zI n), .ref (q 0), .ref (q 1), .ref (q 2), .ref (q 3), .ref (q 4), .ref (q 5), .ref (q 6), .ref (q 7)])), ((q 0), .inl (cI, 10, .inl (fun k => zI ((g 0) k)))), ((q 1), .inl (cI, 10, .inl (fun k => zI ((g 1) k)))), ((q 2), .inl (cI, 10, .inl (fun k => zI ((g 2) k)))), ((q 3), .inl (cI, 40, .inl (fun k => zI ((g 3) k)))), ((q 4), .inl (cI, 40, .inl (fun k => zI ((g 4) k)))), ((q 5), .inl (cI, 40, .inl (fun k => zI ((g 5) k)))), ((q 6), .inl (cI, 20, .inl (fun k => zI ((g 6) k)))), ((q 7), .inl (cI, 20, .inl (fun k => zI ((g 7) k))))] → va_S A s.heap H locs → ∀ ls : Array Slot, lv_has ls 7 [(4, .int (zI u4)), (3, .int (zI v3)), (0, .ref b), (1, .ref (q 7)), (2, .int (zI x))] → W p l e rm_X2z_hangSelf s m ([.ref b, .ref (q 7), .int (zI x)] : List Value).toArray below meth c H locs 0 0 Q (F0 m 86 ls [])) ((20 - 0 : Int).toNat + 1) 0 _ _ (by omega) (by omega) (fun w hw => absurd hw (by omega)) hP hD hS ls hl
      clear hP hD hS hl ls
      intro n9_2
      induction n9_2 with
      | zero =>
        intro u4 H locs hI hM
        exact absurd hM (by omega)
      | succ n9_2 ih2 =>
        intro u4 H locs hI2 hM2 hck hP hD hS ls hl
        refine lv_iload hx hb dX2_hangTogether_86 (lv_at hl 0 rfl) ?_
        refine lv_bipush (v := zI 20) hx hb dX2_hangTogether_88 (by decide) ?_
        refine rz_icmp_ge (tgt := 119) F (by omega) (by omega) dX2_hangTogether_90 (by decide) (fun h90_6 => ?_) (fun h90_6 => ?_)
        · refine lv_iconst (v := zI 1) hx hb dX2_hangTogether_119 rfl ?_
          exact ret (zI 1) (fun _ => 0, fun _ _ => 0) _ _ _ _ _ _ rfl ⟨1, rfl, ⟨by omega, fun _ w he => (hua _).mp (hck w (by have q := he.1; omega) he), fun _ => rfl⟩⟩ (bw_subP (isC := [0, 1, 2, 3, 4, 5, 6, 7, 8]) hP rfl) (hD.sub [0, 1, 2, 3, 4, 5, 6, 7, 8] (by decide) rfl) hS (Nat.le_of_ble_eq_true rfl) (Nat.le_of_ble_eq_true rfl) dX2_hangTogether_120
        · refine lv_aload_n hx hb dX2_hangTogether_93 rfl (lv_at hl 3 rfl) ?_
          refine lv_iload hx hb dX2_hangTogether_94 (lv_at hl 0 rfl) ?_
          refine rz_iald F hK hP 8 0 rfl rfl (by omega) (by omega) dX2_hangTogether_96 ?_
          have hc8 := hW (u4).toNat (by omega)
          have hc9 := laidF_rg hPr (x := (((u4).toNat : Nat) : Int)) (by omega)
          refine rz_if_le (tgt := 113) F (by omega) dX2_hangTogether_97 (by decide) (fun h97_9 => ?_) (fun h97_9 => ?_)
          · refine lv_iinc (v := zI (u4 + 1)) (lv' := [(4, .int (zI (u4 + 1))), (3, .int (zI v3)), (0, .ref b), (1, .ref (q 7)), (2, .int (zI x))]) hx hb dX2_hangTogether_113 hl (k := 0) rfl (zI_add _ _) (by decide) rfl (fun ls hl => ?_)
            refine lv_goto (tgt := 86) hx hb dX2_hangTogether_116 (by decide) ?_
            exact ih2 (u4 + 1) _ _ (by omega) (by omega) (ck_step (E := (EL (g 7))) (S := bN v3) hck (by omega) (fun he => by have q := he.2; omega)) hP hD hS ls (lv_sub hl [0, 1, 2, 3, 4] rfl)
          · refine lv_iload_n hx hb dX2_hangTogether_100 rfl (lv_at hl 1 rfl) ?_
            refine lv_iload hx hb dX2_hangTogether_101 (lv_at hl 0 rfl) ?_
            refine lv_iconst (v := zI 2) hx hb dX2_hangTogether_103 rfl ?_
            refine rz_idiv F (by omega) (by omega) dX2_hangTogether_104 (fun z12 h_z12 => ?_)
            obtain ⟨rfl, hd13⟩ := h_z12
            refine lv_ishr hx hb dX2_hangTogether_105 ?_
            refine lv_iconst (v := zI 1) hx hb dX2_hangTogether_106 rfl ?_
            refine lv_iand hx hb dX2_hangTogether_107 ?_
            obtain ⟨zc16, ec17, hc18, hb119⟩ := bt_01 (bN_I (z := v3) (by omega)) (x := u4 / 2) (by omega)
            refine rz_eq (z := zc16) ec17 ?_
            refine rz_if_ne (tgt := 113) F (by omega) dX2_hangTogether_108 (by decide) (fun h108_19 => ?_) (fun h108_19 => ?_)
            · refine lv_iinc (v := zI (u4 + 1)) (lv' := [(4, .int (zI (u4 + 1))), (3, .int (zI v3)), (0, .ref b), (1, .ref (q 7)), (2, .int (zI x))]) hx hb dX2_hangTogether_113 hl (k := 0) rfl (zI_add _ _) (by decide) rfl (fun ls hl => ?_)
              refine lv_goto (tgt := 86) hx hb dX2_hangTogether_116 (by decide) ?_
              exact ih2 (u4 + 1) _ _ (by omega) (by omega) (ck_step (E := (EL (g 7))) (S := bN v3) hck (by omega) (fun _ => by rw [show (u4).toNat / 2 = (u4 / 2).toNat by omega]; exact hb119.mp (by omega))) hP hD hS ls (lv_sub hl [0, 1, 2, 3, 4] rfl)
            · refine lv_iconst (v := zI 0) hx hb dX2_hangTogether_111 rfl ?_
              exact ret (zI 0) (fun _ => 0, fun _ _ => 0) _ _ _ _ _ _ rfl ⟨0, rfl, ⟨by omega, fun q9 => absurd q9 (by decide), fun q9 => absurd (hb119.mpr (by rw [show (u4 / 2).toNat = (u4).toNat / 2 by omega]; exact (hua _).mpr (q9 (u4).toNat ⟨by omega, by omega⟩))) (by omega)⟩⟩ (bw_subP (isC := [0, 1, 2, 3, 4, 5, 6, 7, 8]) hP rfl) (hD.sub [0, 1, 2, 3, 4, 5, 6, 7, 8] (by decide) rfl) hS (Nat.le_of_ble_eq_true rfl) (Nat.le_of_ble_eq_true rfl) dX2_hangTogether_112
    · refine lv_iconst (v := zI 0) hx hb dX2_hangTogether_16 rfl ?_
      refine lv_istore (lv' := [(5, .int (zI 0)), (4, .int (zI v4)), (3, .int (zI v3)), (0, .ref b), (1, .ref (q 7)), (2, .int (zI x))]) hx hb dX2_hangTogether_17 hl (by decide) rfl (fun ls hl => ?_)
      refine W.widen (k := 0) (n := 0) (Nat.le_of_ble_eq_true rfl) (Nat.le_of_ble_eq_true rfl) ?_
      refine (?_ : ∀ (n9_2 : Nat) (w3 : Int) (w5 : Int) (H : Heap) (locs : List Loc), (0 ≤ w3 ∧ w3 < 1024 ∧ 0 ≤ w5 ∧ w5 ≤ 20) → (20 - w5 : Int).toNat < n9_2 → (Sw2 (EL (g 7)) (dW pR) (x).toNat (bN v3) (bN w3) w5) → va_P G vwCl [(b, .inr (2, [.int (zI n), .ref (q 0), .ref (q 1), .ref (q 2), .ref (q 3), .ref (q 4), .ref (q 5), .ref (q 6), .ref (q 7)])), ((q 0), .inl (cI, 10, .inl (fun k => zI ((g 0) k)))), ((q 1), .inl (cI, 10, .inl (fun k => zI ((g 1) k)))), ((q 2), .inl (cI, 10, .inl (fun k => zI ((g 2) k)))), ((q 3), .inl (cI, 40, .inl (fun k => zI ((g 3) k)))), ((q 4), .inl (cI, 40, .inl (fun k => zI ((g 4) k)))), ((q 5), .inl (cI, 40, .inl (fun k => zI ((g 5) k)))), ((q 6), .inl (cI, 20, .inl (fun k => zI ((g 6) k)))), ((q 7), .inl (cI, 20, .inl (fun k => zI ((g 7) k))))] H → va_D A [(b, .inr (2, [.int (zI n), .ref (q 0), .ref (q 1), .ref (q 2), .ref (q 3), .ref (q 4), .ref (q 5), .ref (q 6), .ref (q 7)])), ((q 0), .inl (cI, 10, .inl (fun k => zI ((g 0) k)))), ((q 1), .inl (cI, 10, .inl (fun k => zI ((g 1) k)))), ((q 2), .inl (cI, 10, .inl (fun k => zI ((g 2) k)))), ((q 3), .inl (cI, 40, .inl (fun k => zI ((g 3) k)))), ((q 4), .inl (cI, 40, .inl (fun k => zI ((g 4) k)))), ((q 5), .inl (cI, 40, .inl (fun k => zI ((g 5) k)))), ((q 6), .inl (cI, 20, .inl (fun k => zI ((g 6) k)))), ((q 7), .inl (cI, 20, .inl (fun k => zI ((g 7) k))))] → va_S A s.heap H locs → ∀ ls : Array Slot, lv_has ls 7 [(5, .int (zI w5)), (4, .int (zI v4)), (3, .int (zI w3)), (0, .ref b), (1, .ref (q 7)), (2, .int (zI x))] → W p l e rm_X2z_hangSelf s m ([.ref b, .ref (q 7), .int (zI x)] : List Value).toArray below meth c H locs 0 0 Q (F0 m 19 ls [])) ((20 - 0 : Int).toNat + 1) v3 0 _ _ (by omega) (by omega) (Sw2.init hou.1 hou.2.1) hP hD hS ls hl
      clear hP hD hS hl ls
      intro n9_2
      induction n9_2 with
      | zero =>
        intro w3 w5 H locs hI hM
        exact absurd hM (by omega)
      | succ n9_2 ih2 =>
        intro w3 w5 H locs hI2 hM2 hsw hP hD hS ls hl
        refine lv_iload hx hb dX2_hangTogether_19 (lv_at hl 0 rfl) ?_
        refine lv_bipush (v := zI 20) hx hb dX2_hangTogether_21 (by decide) ?_
        refine rz_icmp_ge (tgt := 77) F (by omega) (by omega) dX2_hangTogether_23 (by decide) (fun h23_20 => ?_) (fun h23_20 => ?_)
        · refine lv_iinc (v := zI (v4 + 1)) (lv' := [(4, .int (zI (v4 + 1))), (5, .int (zI w5)), (3, .int (zI w3)), (0, .ref b), (1, .ref (q 7)), (2, .int (zI x))]) hx hb dX2_hangTogether_77 hl (k := 1) rfl (zI_add _ _) (by decide) rfl (fun ls hl => ?_)
          refine lv_goto (tgt := 7) hx hb dX2_hangTogether_80 (by decide) ?_
          exact ih1 w3 (v4 + 1) _ _ (by omega) (by omega) (OuC2.step hou hsw (fun w he => by have q := he.1; omega) (fun w he => hW.lows hPr hLN hDN he)) hP hD hS ls (lv_sub hl [0, 2, 3, 4, 5] rfl)
        · refine lv_aload_n hx hb dX2_hangTogether_26 rfl (lv_at hl 4 rfl) ?_
          refine lv_iload hx hb dX2_hangTogether_27 (lv_at hl 0 rfl) ?_
          refine rz_iald F hK hP 8 0 rfl rfl (by omega) (by omega) dX2_hangTogether_29 ?_
          have hc22 := hW (w5).toNat (by omega)
          have hc23 := laidF_rg hPr (x := (((w5).toNat : Nat) : Int)) (by omega)
          refine rz_if_le (tgt := 52) F (by omega) dX2_hangTogether_30 (by decide) (fun h30_23 => ?_) (fun h30_23 => ?_)
          · refine lv_iconst (v := zI 0) hx hb dX2_hangTogether_52 rfl ?_
            refine lv_istore (lv' := [(6, .int (zI 0)), (5, .int (zI w5)), (4, .int (zI v4)), (3, .int (zI w3)), (0, .ref b), (1, .ref (q 7)), (2, .int (zI x))]) hx hb dX2_hangTogether_53 hl (by decide) rfl (fun ls hl => ?_)
            refine lv_iload_n hx hb dX2_hangTogether_55 rfl (lv_at hl 3 rfl) ?_
            refine lv_iload_n hx hb dX2_hangTogether_56 rfl (lv_at hl 3 rfl) ?_
            refine lv_iload hx hb dX2_hangTogether_57 (lv_at hl 0 rfl) ?_
            refine lv_iand hx hb dX2_hangTogether_59 ?_
            refine rz_eq (z := 0) (by rw [show zI 0 = (0 : Int32) from rfl]; exact Int32.and_zero) ?_
            refine rz_if_eq (tgt := 68) F (by omega) dX2_hangTogether_60 (by decide) (fun h60_25 => ?_) (fun h60_25 => by omega)
            refine lv_iconst (v := zI 0) hx hb dX2_hangTogether_68 rfl ?_
            refine lv_ior hx hb dX2_hangTogether_69 ?_
            refine rz_eq (z := w3) (by rw [show zI 0 = (0 : Int32) from rfl]; exact Int32.or_zero) ?_
            refine lv_istore_n (lv' := [(3, .int (zI w3)), (6, .int (zI 0)), (5, .int (zI w5)), (4, .int (zI v4)), (0, .ref b), (1, .ref (q 7)), (2, .int (zI x))]) hx hb dX2_hangTogether_70 rfl hl (by decide) rfl (fun ls hl => ?_)
            refine lv_iinc (v := zI (w5 + 1)) (lv' := [(5, .int (zI (w5 + 1))), (3, .int (zI w3)), (6, .int (zI 0)), (4, .int (zI v4)), (0, .ref b), (1, .ref (q 7)), (2, .int (zI x))]) hx hb dX2_hangTogether_71 hl (k := 2) rfl (zI_add _ _) (by decide) rfl (fun ls hl => ?_)
            refine lv_goto (tgt := 19) hx hb dX2_hangTogether_74 (by decide) ?_
            exact ih2 w3 (w5 + 1) _ _ (by omega) (by omega) (hsw.no (by omega) (fun he => by have q := he.2; omega)) hP hD hS ls (lv_sub hl [0, 3, 1, 4, 5, 6] rfl)
          · refine lv_iconst (v := zI 1) hx hb dX2_hangTogether_33 rfl ?_
            refine lv_iload hx hb dX2_hangTogether_34 (lv_at hl 0 rfl) ?_
            refine lv_iconst (v := zI 2) hx hb dX2_hangTogether_36 rfl ?_
            refine rz_idiv F (by omega) (by omega) dX2_hangTogether_37 (fun z29 h_z29 => ?_)
            obtain ⟨rfl, hd30⟩ := h_z29
            refine lv_ishl hx hb dX2_hangTogether_38 ?_
            obtain ⟨zc32, ec33, hc34, hbt35⟩ := sh_n (x := w5 / 2) (by omega)
            refine rz_eq (z := zc32) ec33 ?_
            refine lv_iconst (v := zI 1) hx hb dX2_hangTogether_39 rfl ?_
            refine lv_aload_n hx hb dX2_hangTogether_40 rfl (lv_at hl 3 rfl) ?_
            refine r_get F hK hP 0 7 rfl rfl in_X2 (by decide) k_165 rfl dX2_hangTogether_41 ?_
            refine lv_iload hx hb dX2_hangTogether_44 (lv_at hl 0 rfl) ?_
            refine rz_iald F hK hP 7 0 rfl rfl (by omega) (by omega) dX2_hangTogether_46 ?_
            have hcw : (((w5).toNat : Nat) : Int) = w5 := by omega
            have hw0 := hW (w5).toNat (by omega)
            rw [hcw] at hw0
            have hgt := hNR.gt (x := w5) (by omega) (by omega)
            have hc36 := gtF_rg hPr (x := w5) (by omega)
            refine lv_ishl hx hb dX2_hangTogether_47 ?_
            obtain ⟨zc38, ec39, hc40, hbt41⟩ := sh_n (x := (g 6 (w5).toNat)) (by omega)
            refine rz_eq (z := zc38) ec39 ?_
            refine lv_ior hx hb dX2_hangTogether_48 ?_
            obtain ⟨zc43, ec44, hc45, hbt46⟩ := or_n (x := zc32) (y := zc38) (by omega) (by omega)
            refine rz_eq (z := zc43) ec44 ?_
            have hbo47 := both_n hbt35 hbt41 hbt46 (show (w5 / 2).toNat = (w5).toNat / 2 by omega) (show (g 6 (w5).toNat).toNat = dW pR (w5).toNat by unfold dW; rw [hcw, hgt])
            refine lv_goto (tgt := 53) hx hb dX2_hangTogether_49 (by decide) ?_
            refine lv_istore (lv' := [(6, .int (zI zc43)), (5, .int (zI w5)), (4, .int (zI v4)), (3, .int (zI w3)), (0, .ref b), (1, .ref (q 7)), (2, .int (zI x))]) hx hb dX2_hangTogether_53 hl (by decide) rfl (fun ls hl => ?_)
            refine lv_iload_n hx hb dX2_hangTogether_55 rfl (lv_at hl 3 rfl) ?_
            refine lv_iload_n hx hb dX2_hangTogether_56 rfl (lv_at hl 3 rfl) ?_
            refine lv_iload hx hb dX2_hangTogether_57 (lv_at hl 0 rfl) ?_
            refine lv_iand hx hb dX2_hangTogether_59 ?_
            obtain ⟨zc49, ec50, hc51, hc52⟩ := an_n (x := w3) (y := zc43) (by omega) (by omega)
            refine rz_eq (z := zc49) ec50 ?_
            have hhit53 := an_hit hc52 hbo47
            refine rz_if_eq (tgt := 68) F (by omega) dX2_hangTogether_60 (by decide) (fun h60_53 => ?_) (fun h60_53 => ?_)
            · refine lv_iconst (v := zI 0) hx hb dX2_hangTogether_68 rfl ?_
              refine lv_ior hx hb dX2_hangTogether_69 ?_
              refine rz_eq (z := w3) (by rw [show zI 0 = (0 : Int32) from rfl]; exact Int32.or_zero) ?_
              refine lv_istore_n (lv' := [(3, .int (zI w3)), (6, .int (zI zc43)), (5, .int (zI w5)), (4, .int (zI v4)), (0, .ref b), (1, .ref (q 7)), (2, .int (zI x))]) hx hb dX2_hangTogether_70 rfl hl (by decide) rfl (fun ls hl => ?_)
              refine lv_iinc (v := zI (w5 + 1)) (lv' := [(5, .int (zI (w5 + 1))), (3, .int (zI w3)), (6, .int (zI zc43)), (4, .int (zI v4)), (0, .ref b), (1, .ref (q 7)), (2, .int (zI x))]) hx hb dX2_hangTogether_71 hl (k := 2) rfl (zI_add _ _) (by decide) rfl (fun ls hl => ?_)
              refine lv_goto (tgt := 19) hx hb dX2_hangTogether_74 (by decide) ?_
              exact ih2 w3 (w5 + 1) _ _ (by omega) (by omega) (hsw.no (by omega) (fun _ hs => absurd (hhit53.mpr hs) (fun q => q (by omega)))) hP hD hS ls (lv_sub hl [0, 3, 1, 4, 5, 6] rfl)
            · refine lv_iload hx hb dX2_hangTogether_63 (lv_at hl 0 rfl) ?_
              refine lv_goto (tgt := 69) hx hb dX2_hangTogether_65 (by decide) ?_
              refine lv_ior hx hb dX2_hangTogether_69 ?_
              obtain ⟨zc57, ec58, hc59, hbt60⟩ := or_n (x := w3) (y := zc43) (by omega) (by omega)
              refine rz_eq (z := zc57) ec58 ?_
              refine lv_istore_n (lv' := [(3, .int (zI zc57)), (6, .int (zI zc43)), (5, .int (zI w5)), (4, .int (zI v4)), (0, .ref b), (1, .ref (q 7)), (2, .int (zI x))]) hx hb dX2_hangTogether_70 rfl hl (by decide) rfl (fun ls hl => ?_)
              refine lv_iinc (v := zI (w5 + 1)) (lv' := [(5, .int (zI (w5 + 1))), (3, .int (zI zc57)), (6, .int (zI zc43)), (4, .int (zI v4)), (0, .ref b), (1, .ref (q 7)), (2, .int (zI x))]) hx hb dX2_hangTogether_71 hl (k := 2) rfl (zI_add _ _) (by decide) rfl (fun ls hl => ?_)
              refine lv_goto (tgt := 19) hx hb dX2_hangTogether_74 (by decide) ?_
              exact ih2 zc57 (w5 + 1) _ _ (by omega) (by omega) (hsw.yes (by omega) ⟨by omega, by omega⟩ (hhit53.mp (by omega)) (fun j => (hbt60 j).trans (or_congr Iff.rfl (hbo47 j)))) hP hD hS ls (lv_sub hl [0, 3, 1, 4, 5, 6] rfl)
abbrev rm_X2z_isEven : Room := { frames := 2, cells := 0, slots := 0, locals := 47 }
set_option maxRecDepth 100000 in
set_option maxHeartbeats 8000000 in
theorem c_X2z_isEven {l : Launch} {E : (Nat → Prop) → State → Prop} (hO : bw_Ok E) {G : va_G} {cI cB cJ cN cW : ClassId} (b : Nat) (q : Nat → Nat) (n : Int) (g : Nat → Nat → Int) (hN : NetOk n g) (pR : Nat → Int) (hPr : ProgOk pR) (hNR : NRel g pR) (hLN : LN pR n) (hDN : DN pR n) : bw_Ci (S := zU) l yX2_isEven (bw_ws (Cond.code yX2_isEven cX2_isEven 1 (some .boolean))) rm_X2z_isEven E G (bw_kt cI cB cJ cN cW) [.ref b] [(b, .inr (2, [.int (zI n), .ref (q 0), .ref (q 1), .ref (q 2), .ref (q 3), .ref (q 4), .ref (q 5), .ref (q 6), .ref (q 7)])), ((q 0), .inl (cI, 10, .inl (fun k => zI ((g 0) k)))), ((q 1), .inl (cI, 10, .inl (fun k => zI ((g 1) k)))), ((q 2), .inl (cI, 10, .inl (fun k => zI ((g 2) k)))), ((q 3), .inl (cI, 40, .inl (fun k => zI ((g 3) k)))), ((q 4), .inl (cI, 40, .inl (fun k => zI ((g 4) k)))), ((q 5), .inl (cI, 40, .inl (fun k => zI ((g 5) k)))), ((q 6), .inl (cI, 20, .inl (fun k => zI ((g 6) k)))), ((q 7), .inl (cI, 20, .inl (fun k => zI ((g 7) k))))] (fun r _ => ∃ z : Int, r = zI z ∧ ((0 ≤ z ∧ z ≤ 1) ∧ (z = 1 ↔ EvF pR (lF pR) n.toNat 0))) (fun _ => [(b, .inr (2, [.int (zI n), .ref (q 0), .ref (q 1), .ref (q 2), .ref (q 3), .ref (q 4), .ref (q 5), .ref (q 6), .ref (q 7)])), ((q 0), .inl (cI, 10, .inl (fun k => zI ((g 0) k)))), ((q 1), .inl (cI, 10, .inl (fun k => zI ((g 1) k)))), ((q 2), .inl (cI, 10, .inl (fun k => zI ((g 2) k)))), ((q 3), .inl (cI, 40, .inl (fun k => zI ((g 3) k)))), ((q 4), .inl (cI, 40, .inl (fun k => zI ((g 4) k)))), ((q 5), .inl (cI, 40, .inl (fun k => zI ((g 5) k)))), ((q 6), .inl (cI, 20, .inl (fun k => zI ((g 6) k)))), ((q 7), .inl (cI, 20, .inl (fun k => zI ((g 7) k))))]) := by
  refine bw_Ci.of (cc := cX2_isEven) (maxL := 1) (ty := .boolean) (by decide) rfl (Nat.le_of_ble_eq_true rfl) ?_
  intro p e s m below meth c A Q hx hb hml hts hown hin hK hA hS hP hD hE ret ls hl
  have F : CallFix p m c cX2_isEven 1 s ([.ref b] : List Value).toArray bw_T RX2 := ⟨hx, hb, hml, hown, fun w h => hts w (List.mem_cons_of_mem _ h)⟩
  replace hl : lv_has ls 1 [(0, .ref b)] := hl
  have hN0 := hN.1
  obtain ⟨hW7, hW⟩ := hNR.rst hPr
  refine lv_aload_n hx hb dX2_isEven_0 rfl (lv_at hl 0 rfl) ?_
  refine r_callVi (As := []) (rest := []) (wr := []) F hK hP hD hS hA hO hE (c_X2z_isBalanced hO b q n g hN pR hPr hNR hLN hDN) k_867 kv_X2_isBalanced 0 rfl (by decide +kernel) ⟨Nat.le_of_ble_eq_true rfl, Nat.le_of_ble_eq_true rfl⟩ [0, 1, 2, 3, 4, 5, 6, 7, 8] [] rfl rfl (by decide) (by decide) (by decide) 0 2 rfl rfl rfl hl.1 rfl (Nat.le_of_ble_eq_true rfl) dX2_isEven_1 ⟨Nat.le_of_ble_eq_true rfl, Nat.le_of_ble_eq_true rfl⟩ (w1 := fun u1 => [(b, .inr (2, [.int (zI n), .ref (q 0), .ref (q 1), .ref (q 2), .ref (q 3), .ref (q 4), .ref (q 5), .ref (q 6), .ref (q 7)])), ((q 0), .inl (cI, 10, .inl (fun k => zI ((g 0) k)))), ((q 1), .inl (cI, 10, .inl (fun k => zI ((g 1) k)))), ((q 2), .inl (cI, 10, .inl (fun k => zI ((g 2) k)))), ((q 3), .inl (cI, 40, .inl (fun k => zI ((g 3) k)))), ((q 4), .inl (cI, 40, .inl (fun k => zI ((g 4) k)))), ((q 5), .inl (cI, 40, .inl (fun k => zI ((g 5) k)))), ((q 6), .inl (cI, 20, .inl (fun k => zI ((g 6) k)))), ((q 7), .inl (cI, 20, .inl (fun k => zI ((g 7) k))))]) (fun _ => rfl) (fun r2 u1 H locs hp3 hP hD hS => ?_)
  obtain ⟨z4, rfl, h_z4⟩ := hp3
  have hba := h_z4
  have hc5 := hba.1
  refine rz_if_eq (tgt := 23) F (by omega) dX2_isEven_4 (by decide) (fun h4_5 => ?_) (fun h4_5 => ?_)
  · refine lv_iconst (v := zI 0) hx hb dX2_isEven_23 rfl ?_
    exact ret (zI 0) (fun _ => 0, fun _ _ => 0) _ _ _ _ _ _ rfl ⟨0, rfl, ⟨by omega, fun q9 => absurd q9 (by decide), fun q9 => absurd (hba.2.mpr q9.2) (by omega)⟩⟩ (bw_subP (isC := [0, 1, 2, 3, 4, 5, 6, 7, 8]) hP rfl) (hD.sub [0, 1, 2, 3, 4, 5, 6, 7, 8] (by decide) rfl) hS (Nat.le_of_ble_eq_true rfl) (Nat.le_of_ble_eq_true rfl) dX2_isEven_24
  · refine lv_aload_n hx hb dX2_isEven_7 rfl (lv_at hl 0 rfl) ?_
    refine lv_aload_n hx hb dX2_isEven_8 rfl (lv_at hl 0 rfl) ?_
    refine r_get F hK hP 0 8 rfl rfl in_X2 (by decide) k_169 rfl dX2_isEven_9 ?_
    refine lv_iconst (v := zI 0) hx hb dX2_isEven_12 rfl ?_
    refine r_callVi (As := [.ref (q 7), .int (zI 0)]) (rest := []) (wr := []) F hK hP hD hS hA hO hE (c_X2z_hangSelf hO b q n g hN 0 (by omega) pR hPr hNR hLN hDN (if e : 0 < n then Or.inl e else Or.inr (fun w h => by have q9 := (hW.lows hPr hLN hDN h).1; omega))) k_875 kv_X2_hangTogether 2 rfl (by decide +kernel) ⟨Nat.le_of_ble_eq_true rfl, Nat.le_of_ble_eq_true rfl⟩ [0, 1, 2, 3, 4, 5, 6, 7, 8] [] rfl rfl (by decide) (by decide) (by decide) 0 2 rfl rfl rfl hl.1 rfl (Nat.le_of_ble_eq_true rfl) dX2_isEven_13 ⟨Nat.le_of_ble_eq_true rfl, Nat.le_of_ble_eq_true rfl⟩ (w1 := fun u7 => [(b, .inr (2, [.int (zI n), .ref (q 0), .ref (q 1), .ref (q 2), .ref (q 3), .ref (q 4), .ref (q 5), .ref (q 6), .ref (q 7)])), ((q 0), .inl (cI, 10, .inl (fun k => zI ((g 0) k)))), ((q 1), .inl (cI, 10, .inl (fun k => zI ((g 1) k)))), ((q 2), .inl (cI, 10, .inl (fun k => zI ((g 2) k)))), ((q 3), .inl (cI, 40, .inl (fun k => zI ((g 3) k)))), ((q 4), .inl (cI, 40, .inl (fun k => zI ((g 4) k)))), ((q 5), .inl (cI, 40, .inl (fun k => zI ((g 5) k)))), ((q 6), .inl (cI, 20, .inl (fun k => zI ((g 6) k)))), ((q 7), .inl (cI, 20, .inl (fun k => zI ((g 7) k))))]) (fun _ => rfl) (fun r8 u7 H locs hp9 hP hD hS => ?_)
    obtain ⟨z10, rfl, h_z10⟩ := hp9
    have hhg := h_z10
    have hEL := EL_congr (r := g 7) (r' := lF pR) hW7
    rw [hEL] at hhg
    have hc11 := hhg.1
    refine rz_if_eq (tgt := 23) F (by omega) dX2_isEven_16 (by decide) (fun h16_11 => ?_) (fun h16_11 => ?_)
    · refine lv_iconst (v := zI 0) hx hb dX2_isEven_23 rfl ?_
      exact ret (zI 0) (fun _ => 0, fun _ _ => 0) _ _ _ _ _ _ rfl ⟨0, rfl, ⟨by omega, fun q9 => absurd q9 (by decide), fun q9 => absurd (hhg.2.mpr q9.1) (by omega)⟩⟩ (bw_subP (isC := [0, 1, 2, 3, 4, 5, 6, 7, 8]) hP rfl) (hD.sub [0, 1, 2, 3, 4, 5, 6, 7, 8] (by decide) rfl) hS (Nat.le_of_ble_eq_true rfl) (Nat.le_of_ble_eq_true rfl) dX2_isEven_24
    · refine lv_iconst (v := zI 1) hx hb dX2_isEven_19 rfl ?_
      refine lv_goto (tgt := 24) hx hb dX2_isEven_20 (by decide) ?_
      exact ret (zI 1) (fun _ => 0, fun _ _ => 0) _ _ _ _ _ _ rfl ⟨1, rfl, ⟨by omega, fun _ => ⟨hhg.2.mp (by omega), hba.2.mp (by omega)⟩, fun _ => rfl⟩⟩ (bw_subP (isC := [0, 1, 2, 3, 4, 5, 6, 7, 8]) hP rfl) (hD.sub [0, 1, 2, 3, 4, 5, 6, 7, 8] (by decide) rfl) hS (Nat.le_of_ble_eq_true rfl) (Nat.le_of_ble_eq_true rfl) dX2_isEven_24
abbrev rm_X8z_even : Room := { frames := 3, cells := 0, slots := 0, locals := 67 }
set_option maxRecDepth 100000 in
set_option maxHeartbeats 8000000 in
theorem c_X8z_even {l : Launch} {E : (Nat → Prop) → State → Prop} (hO : bw_Ok E) {G : va_G} {cI cB cJ cN cW : ClassId} (b : Nat) (q : Nat → Nat) (t ld : Int) (hL : ld = 0 ∨ ld = 1) (ht : 0 ≤ t ∧ t ≤ 6) (qN : Nat → Nat) (nN : Int) (gN : Nat → Nat → Int) (hc_N : NetOk nN gN) (pR : Nat → Int) (hPr : ProgOk pR) (hNR : NRel gN pR) (hLN : LN pR nN) (hDN : DN pR nN) : bw_Ci (S := zV) l yX8_even (bw_ws (Cond.code yX8_even cX8_even 1 (some .int))) rm_X8z_even E G (bw_kt cI cB cJ cN cW) [.ref b] [(b, .inr (8, [.int (zI t), .int (zI ld), .ref (q 0), .ref (q 1), .ref (q 2), .ref (q 3), .ref (q 4), .ref (q 5), .ref (q 6), .ref (q 7), .ref (q 8), .ref (q 9), .ref (q 10), .ref (q 11)])), ((q 2), .inr (2, [.int (zI nN), .ref (qN 0), .ref (qN 1), .ref (qN 2), .ref (qN 3), .ref (qN 4), .ref (qN 5), .ref (qN 6), .ref (qN 7)])), ((qN 0), .inl (cI, 10, .inl (fun k => zI ((gN 0) k)))), ((qN 1), .inl (cI, 10, .inl (fun k => zI ((gN 1) k)))), ((qN 2), .inl (cI, 10, .inl (fun k => zI ((gN 2) k)))), ((qN 3), .inl (cI, 40, .inl (fun k => zI ((gN 3) k)))), ((qN 4), .inl (cI, 40, .inl (fun k => zI ((gN 4) k)))), ((qN 5), .inl (cI, 40, .inl (fun k => zI ((gN 5) k)))), ((qN 6), .inl (cI, 20, .inl (fun k => zI ((gN 6) k)))), ((qN 7), .inl (cI, 20, .inl (fun k => zI ((gN 7) k))))] (fun r u => ∃ z : Int, r = zI z ∧ ((0 ≤ (u 0).1 0 ∧ (u 0).1 0 ≤ 6) ∧ (((u 0).1 1 = 0 ∨ (u 0).1 1 = 1) ∧ (u 0).1 1 = ld ∧ (u 0).1 0 ≠ 4)) ∧ ((True) ∧ (((ld = 1) ∧ (z = 1 ∨ z = 0) ∧ (z = 1 ↔ EvF pR (lF pR) nN.toNat 0)) ∨ (¬ (ld = 1) ∧ z = -1)))) (fun u => [(b, .inr (8, [.int (zI ((u 0).1 0)), .int (zI ((u 0).1 1)), .ref (q 0), .ref (q 1), .ref (q 2), .ref (q 3), .ref (q 4), .ref (q 5), .ref (q 6), .ref (q 7), .ref (q 8), .ref (q 9), .ref (q 10), .ref (q 11)])), ((q 2), .inr (2, [.int (zI nN), .ref (qN 0), .ref (qN 1), .ref (qN 2), .ref (qN 3), .ref (qN 4), .ref (qN 5), .ref (qN 6), .ref (qN 7)])), ((qN 0), .inl (cI, 10, .inl (fun k => zI ((gN 0) k)))), ((qN 1), .inl (cI, 10, .inl (fun k => zI ((gN 1) k)))), ((qN 2), .inl (cI, 10, .inl (fun k => zI ((gN 2) k)))), ((qN 3), .inl (cI, 40, .inl (fun k => zI ((gN 3) k)))), ((qN 4), .inl (cI, 40, .inl (fun k => zI ((gN 4) k)))), ((qN 5), .inl (cI, 40, .inl (fun k => zI ((gN 5) k)))), ((qN 6), .inl (cI, 20, .inl (fun k => zI ((gN 6) k)))), ((qN 7), .inl (cI, 20, .inl (fun k => zI ((gN 7) k))))]) := by
  refine bw_Ci.of (cc := cX8_even) (maxL := 1) (ty := .int) (by decide) rfl (Nat.le_of_ble_eq_true rfl) ?_
  intro p e s m below meth c A Q hx hb hml hts hown hin hK hA hS hP hD hE ret ls hl
  have F : CallFix p m c cX8_even 1 s ([.ref b] : List Value).toArray bw_T RX8 := ⟨hx, hb, hml, hown, fun w h => hts w (List.mem_cons_of_mem _ h)⟩
  replace hl : lv_has ls 1 [(0, .ref b)] := hl
  have hf1 := hc_N.1
  refine lv_aload_n hx hb dX8_even_0 rfl (lv_at hl 0 rfl) ?_
  refine r_callVi (As := []) (rest := []) (wr := [((q 2), .inr (2, [.int (zI nN), .ref (qN 0), .ref (qN 1), .ref (qN 2), .ref (qN 3), .ref (qN 4), .ref (qN 5), .ref (qN 6), .ref (qN 7)])), ((qN 0), .inl (cI, 10, .inl (fun k => zI ((gN 0) k)))), ((qN 1), .inl (cI, 10, .inl (fun k => zI ((gN 1) k)))), ((qN 2), .inl (cI, 10, .inl (fun k => zI ((gN 2) k)))), ((qN 3), .inl (cI, 40, .inl (fun k => zI ((gN 3) k)))), ((qN 4), .inl (cI, 40, .inl (fun k => zI ((gN 4) k)))), ((qN 5), .inl (cI, 40, .inl (fun k => zI ((gN 5) k)))), ((qN 6), .inl (cI, 20, .inl (fun k => zI ((gN 6) k)))), ((qN 7), .inl (cI, 20, .inl (fun k => zI ((gN 7) k))))]) F hK hP hD hS hA hO hE (c_X8_isLoaded hO b q t ld (by omega)) k_683 kv_X8_isLoaded 0 rfl (by decide +kernel) ⟨Nat.le_of_ble_eq_true rfl, Nat.le_of_ble_eq_true rfl⟩ [0] [1, 2, 3, 4, 5, 6, 7, 8, 9] rfl rfl (by decide) (by decide) (by decide) 0 8 rfl rfl rfl hl.1 rfl (Nat.le_of_ble_eq_true rfl) dX8_even_1 ⟨Nat.le_of_ble_eq_true rfl, Nat.le_of_ble_eq_true rfl⟩ (w1 := fun u2 => [((q 2), .inr (2, [.int (zI nN), .ref (qN 0), .ref (qN 1), .ref (qN 2), .ref (qN 3), .ref (qN 4), .ref (qN 5), .ref (qN 6), .ref (qN 7)])), ((qN 0), .inl (cI, 10, .inl (fun k => zI ((gN 0) k)))), ((qN 1), .inl (cI, 10, .inl (fun k => zI ((gN 1) k)))), ((qN 2), .inl (cI, 10, .inl (fun k => zI ((gN 2) k)))), ((qN 3), .inl (cI, 40, .inl (fun k => zI ((gN 3) k)))), ((qN 4), .inl (cI, 40, .inl (fun k => zI ((gN 4) k)))), ((qN 5), .inl (cI, 40, .inl (fun k => zI ((gN 5) k)))), ((qN 6), .inl (cI, 20, .inl (fun k => zI ((gN 6) k)))), ((qN 7), .inl (cI, 20, .inl (fun k => zI ((gN 7) k)))), (b, .inr (8, [.int (zI (u2.1 0)), .int (zI ld), .ref (q 0), .ref (q 1), .ref (q 2), .ref (q 3), .ref (q 4), .ref (q 5), .ref (q 6), .ref (q 7), .ref (q 8), .ref (q 9), .ref (q 10), .ref (q 11)]))]) (fun _ => rfl) (fun r3 u2 H locs hp4 hP hD hS => ?_)
  obtain ⟨z5, rfl, h_z5⟩ := hp4
  refine rz_if_ne (tgt := 9) F (by omega) dX8_even_4 (by decide) (fun h4_5 => ?_) (fun h4_5 => ?_)
  · refine lv_aload_n hx hb dX8_even_9 rfl (lv_at hl 0 rfl) ?_
    refine r_get F hK hP 9 4 rfl rfl in_X8 (by decide) k_499 rfl dX8_even_10 ?_
    refine r_callVi (As := []) (rest := []) (wr := [(b, .inr (8, [.int (zI (u2.1 0)), .int (zI ld), .ref (q 0), .ref (q 1), .ref (q 2), .ref (q 3), .ref (q 4), .ref (q 5), .ref (q 6), .ref (q 7), .ref (q 8), .ref (q 9), .ref (q 10), .ref (q 11)]))]) F hK hP hD hS hA hO hE (c_X2z_isEven hO (q 2) qN nN gN hc_N pR hPr hNR hLN hDN) k_863 kv_X2_isEven 0 rfl (by decide +kernel) ⟨Nat.le_of_ble_eq_true rfl, Nat.le_of_ble_eq_true rfl⟩ [0, 1, 2, 3, 4, 5, 6, 7, 8] [9] rfl rfl (by decide) (by decide) (by decide) 0 2 rfl rfl rfl hl.1 rfl (Nat.le_of_ble_eq_true rfl) dX8_even_13 ⟨Nat.le_of_ble_eq_true rfl, Nat.le_of_ble_eq_true rfl⟩ (w1 := fun u7 => [(b, .inr (8, [.int (zI (u2.1 0)), .int (zI ld), .ref (q 0), .ref (q 1), .ref (q 2), .ref (q 3), .ref (q 4), .ref (q 5), .ref (q 6), .ref (q 7), .ref (q 8), .ref (q 9), .ref (q 10), .ref (q 11)])), ((q 2), .inr (2, [.int (zI nN), .ref (qN 0), .ref (qN 1), .ref (qN 2), .ref (qN 3), .ref (qN 4), .ref (qN 5), .ref (qN 6), .ref (qN 7)])), ((qN 0), .inl (cI, 10, .inl (fun k => zI ((gN 0) k)))), ((qN 1), .inl (cI, 10, .inl (fun k => zI ((gN 1) k)))), ((qN 2), .inl (cI, 10, .inl (fun k => zI ((gN 2) k)))), ((qN 3), .inl (cI, 40, .inl (fun k => zI ((gN 3) k)))), ((qN 4), .inl (cI, 40, .inl (fun k => zI ((gN 4) k)))), ((qN 5), .inl (cI, 40, .inl (fun k => zI ((gN 5) k)))), ((qN 6), .inl (cI, 20, .inl (fun k => zI ((gN 6) k)))), ((qN 7), .inl (cI, 20, .inl (fun k => zI ((gN 7) k))))]) (fun _ => rfl) (fun r8 u7 H locs hp9 hP hD hS => ?_)
    obtain ⟨z10, rfl, h_z10⟩ := hp9
    have hevn11 := h_z10
    have hc12 := hevn11.1
    refine rz_if_eq (tgt := 23) F (by omega) dX8_even_16 (by decide) (fun h16_12 => ?_) (fun h16_12 => ?_)
    · refine lv_iconst (v := zI 0) hx hb dX8_even_23 rfl ?_
      exact ret (zI 0) (fun k => [(fun k => [(u2.1 0), ld].getD k 0, fun _ _ => 0)].getD k (fun _ => 0, fun _ _ => 0)) _ _ _ _ _ _ rfl ⟨0, rfl, (show ((0 : Int) ≤ (u2.1 0) ∧ (u2.1 0) ≤ 6) ∧ (((ld : Int) = 0 ∨ (ld : Int) = 1) ∧ (ld : Int) = ld ∧ ((u2.1 0) : Int) ≠ 4) from by omega), ⟨trivial, (show ((ld = 1) ∧ ((0 : Int) = 1 ∨ (0 : Int) = 0) ∧ ((0 : Int) = 1 ↔ EvF pR (lF pR) nN.toNat 0)) ∨ (¬ (ld = 1) ∧ (0 : Int) = -1) from Or.inl ⟨by omega, by omega, fun q9 => absurd q9 (by decide), fun q9 => absurd (hevn11.2.mpr q9) (by omega)⟩)⟩⟩ (bw_subP (isC := [0, 1, 2, 3, 4, 5, 6, 7, 8, 9]) hP rfl) (hD.sub [0, 1, 2, 3, 4, 5, 6, 7, 8, 9] (by decide) rfl) hS (Nat.le_of_ble_eq_true rfl) (Nat.le_of_ble_eq_true rfl) dX8_even_24
    · refine lv_iconst (v := zI 1) hx hb dX8_even_19 rfl ?_
      refine lv_goto (tgt := 24) hx hb dX8_even_20 (by decide) ?_
      exact ret (zI 1) (fun k => [(fun k => [(u2.1 0), ld].getD k 0, fun _ _ => 0)].getD k (fun _ => 0, fun _ _ => 0)) _ _ _ _ _ _ rfl ⟨1, rfl, (show ((0 : Int) ≤ (u2.1 0) ∧ (u2.1 0) ≤ 6) ∧ (((ld : Int) = 0 ∨ (ld : Int) = 1) ∧ (ld : Int) = ld ∧ ((u2.1 0) : Int) ≠ 4) from by omega), ⟨trivial, (show ((ld = 1) ∧ ((1 : Int) = 1 ∨ (1 : Int) = 0) ∧ ((1 : Int) = 1 ↔ EvF pR (lF pR) nN.toNat 0)) ∨ (¬ (ld = 1) ∧ (1 : Int) = -1) from Or.inl ⟨by omega, by omega, fun _ => hevn11.2.mp (by omega), fun _ => rfl⟩)⟩⟩ (bw_subP (isC := [0, 1, 2, 3, 4, 5, 6, 7, 8, 9]) hP rfl) (hD.sub [0, 1, 2, 3, 4, 5, 6, 7, 8, 9] (by decide) rfl) hS (Nat.le_of_ble_eq_true rfl) (Nat.le_of_ble_eq_true rfl) dX8_even_24
  · refine lv_iconst (v := zI (-1)) hx hb dX8_even_7 rfl ?_
    exact ret (zI (-1)) (fun k => [(fun k => [(u2.1 0), ld].getD k 0, fun _ _ => 0)].getD k (fun _ => 0, fun _ _ => 0)) _ _ _ _ _ _ rfl ⟨(-1), rfl, (show ((0 : Int) ≤ (u2.1 0) ∧ (u2.1 0) ≤ 6) ∧ (((ld : Int) = 0 ∨ (ld : Int) = 1) ∧ (ld : Int) = ld ∧ ((u2.1 0) : Int) ≠ 4) from by omega), ⟨trivial, (show ((ld = 1) ∧ (((-1) : Int) = 1 ∨ ((-1) : Int) = 0) ∧ (((-1) : Int) = 1 ↔ EvF pR (lF pR) nN.toNat 0)) ∨ (¬ (ld = 1) ∧ ((-1) : Int) = -1) from Or.inr ⟨by omega, by omega⟩)⟩⟩ (bw_subP (isC := [9, 0, 1, 2, 3, 4, 5, 6, 7, 8]) hP rfl) (hD.sub [9, 0, 1, 2, 3, 4, 5, 6, 7, 8] (by decide) rfl) hS (Nat.le_of_ble_eq_true rfl) (Nat.le_of_ble_eq_true rfl) dX8_even_8
abbrev rm_X9_laidX : Room := { frames := 0, cells := 0, slots := 0, locals := 0 }
set_option maxRecDepth 100000 in
set_option maxHeartbeats 8000000 in
theorem c_X9_laidX {l : Launch} {E : (Nat → Prop) → State → Prop} (hO : bw_Ok E) {G : va_G} {cI cB cJ cN cW : ClassId} (a : Nat) (g_p : Nat → Int) (x : Int) (hx9 : zR x) (hp : ProgOk g_p) (hx8 : 0 ≤ x ∧ x < 20) : bw_Ci (S := zV) l yX9_laid (bw_ws (Cond.code yX9_laid cX9_laid 4 (some .int))) rm_X9_laidX E G (bw_kt cI cB cJ cN cW) [.ref a, .int (zI x)] [(a, .inl (cI, 200, .inl (fun k => zI (g_p k))))] (fun r u => ∃ z : Int, r = zI z ∧ (z = laidF g_p x)) (fun u => [(a, .inl (cI, 200, .inl (fun k => zI (g_p k))))]) := by
  refine bw_Ci.of (cc := cX9_laid) (maxL := 4) (ty := .int) (by decide) rfl (Nat.le_of_ble_eq_true rfl) ?_
  intro p e s m below meth c A Q hx hb hml hts hown hin hK hA hS hP hD hE ret ls hl
  have F : CallFix p m c cX9_laid 4 s ([.ref a, .int (zI x)] : List Value).toArray bw_T RX9 := ⟨hx, hb, hml, hown, fun w h => hts w (List.mem_cons_of_mem _ h)⟩
  replace hl : lv_has ls 4 [(0, .ref a), (1, .int (zI x))] := hl
  refine lv_bipush (v := zI 20) hx hb dX9_laid_0 (by decide) ?_
  refine lv_iload_n hx hb dX9_laid_2 rfl (lv_at hl 1 rfl) ?_
  refine lv_iconst (v := zI 2) hx hb dX9_laid_3 rfl ?_
  refine rz_idiv F (by omega) (by omega) dX9_laid_4 (fun z2 h_z2 => ?_)
  obtain ⟨rfl, hd3⟩ := h_z2
  refine r_imul (v := zI (20 * (x / 2))) F dX9_laid_5 (zI_mul _ _) ?_
  refine lv_istore_n (lv' := [(2, .int (zI (20 * (x / 2)))), (0, .ref a), (1, .int (zI x))]) hx hb dX9_laid_6 rfl hl (by decide) rfl (fun ls hl => ?_)
  refine lv_aload_n hx hb dX9_laid_7 rfl (lv_at hl 1 rfl) ?_
  refine lv_iload_n hx hb dX9_laid_8 rfl (lv_at hl 0 rfl) ?_
  refine lv_iconst (v := zI 0) hx hb dX9_laid_9 rfl ?_
  refine r_iadd (v := zI ((20 * (x / 2)) + 0)) F dX9_laid_10 (zI_add _ _) ?_
  refine rz_iald F hK hP 0 0 rfl rfl (by omega) (by omega) dX9_laid_11 ?_
  have hpl4 : 0 ≤ (g_p (((20 * (x / 2)) + 0)).toNat) ∧ (g_p (((20 * (x / 2)) + 0)).toNat) ≤ 1 := ProgR.at hp.1 (e := ((20 * (x / 2)) + 0)) (x / 2) 0 (by omega) (by omega) (by decide) rfl
  refine lv_iconst (v := zI 1) hx hb dX9_laid_12 rfl ?_
  refine rz_icmp_ne (tgt := 25) F (by omega) (by omega) dX9_laid_13 (by decide) (fun h13_4 => ?_) (fun h13_4 => ?_)
  · refine lv_iconst (v := zI 0) hx hb dX9_laid_25 rfl ?_
    refine lv_istore_n (lv' := [(3, .int (zI 0)), (2, .int (zI (20 * (x / 2)))), (0, .ref a), (1, .int (zI x))]) hx hb dX9_laid_26 rfl hl (by decide) rfl (fun ls hl => ?_)
    refine lv_iload_n hx hb dX9_laid_27 rfl (lv_at hl 3 rfl) ?_
    refine lv_iconst (v := zI 2) hx hb dX9_laid_28 rfl ?_
    refine rz_irem F (by omega) (by omega) dX9_laid_29 (fun z7 h_z7 => ?_)
    obtain ⟨rfl, hd8⟩ := h_z7
    refine rz_if_ne (tgt := 50) F (by omega) dX9_laid_30 (by decide) (fun h30_8 => ?_) (fun h30_8 => ?_)
    · refine lv_iload_n hx hb dX9_laid_50 rfl (lv_at hl 0 rfl) ?_
      refine lv_iconst (v := zI 2) hx hb dX9_laid_51 rfl ?_
      refine rz_icmp_ne (tgt := 64) F (by omega) (by omega) dX9_laid_52 (by decide) (fun h52_9 => ?_) (fun h52_9 => by omega)
      refine lv_iconst (v := zI 0) hx hb dX9_laid_64 rfl ?_
      exact ret (zI 0) (fun k => [((fun _ => 0), fun _ _ => 0)].getD k (fun _ => 0, fun _ _ => 0)) _ _ _ _ _ _ rfl ⟨0, rfl, (show (0 : Int) = laidF g_p x from by unfold laidF; repeat' split <;> omega)⟩ (bw_subP (isC := [0]) hP rfl) (hD.sub [0] (by decide) rfl) hS (Nat.le_of_ble_eq_true rfl) (Nat.le_of_ble_eq_true rfl) dX9_laid_65
    · refine lv_iload_n hx hb dX9_laid_33 rfl (lv_at hl 0 rfl) ?_
      refine rz_if_le (tgt := 46) F (by omega) dX9_laid_34 (by decide) (fun h34_10 => ?_) (fun h34_10 => by omega)
      refine lv_iconst (v := zI 0) hx hb dX9_laid_46 rfl ?_
      refine lv_goto (tgt := 65) hx hb dX9_laid_47 (by decide) ?_
      exact ret (zI 0) (fun k => [((fun _ => 0), fun _ _ => 0)].getD k (fun _ => 0, fun _ _ => 0)) _ _ _ _ _ _ rfl ⟨0, rfl, (show (0 : Int) = laidF g_p x from by unfold laidF; repeat' split <;> omega)⟩ (bw_subP (isC := [0]) hP rfl) (hD.sub [0] (by decide) rfl) hS (Nat.le_of_ble_eq_true rfl) (Nat.le_of_ble_eq_true rfl) dX9_laid_65
  · refine lv_aload_n hx hb dX9_laid_16 rfl (lv_at hl 1 rfl) ?_
    refine lv_iload_n hx hb dX9_laid_17 rfl (lv_at hl 0 rfl) ?_
    refine lv_bipush (v := zI 14) hx hb dX9_laid_18 (by decide) ?_
    refine r_iadd (v := zI ((20 * (x / 2)) + 14)) F dX9_laid_20 (zI_add _ _) ?_
    refine rz_iald F hK hP 0 0 rfl rfl (by omega) (by omega) dX9_laid_21 ?_
    have hpl12 : 0 ≤ (g_p (((20 * (x / 2)) + 14)).toNat) ∧ (g_p (((20 * (x / 2)) + 14)).toNat) ≤ 2 := ProgR.at hp.1 (e := ((20 * (x / 2)) + 14)) (x / 2) 14 (by omega) (by omega) (by decide) rfl
    refine lv_goto (tgt := 26) hx hb dX9_laid_22 (by decide) ?_
    refine lv_istore_n (lv' := [(3, .int (zI (g_p (((20 * (x / 2)) + 14)).toNat))), (2, .int (zI (20 * (x / 2)))), (0, .ref a), (1, .int (zI x))]) hx hb dX9_laid_26 rfl hl (by decide) rfl (fun ls hl => ?_)
    refine lv_iload_n hx hb dX9_laid_27 rfl (lv_at hl 3 rfl) ?_
    refine lv_iconst (v := zI 2) hx hb dX9_laid_28 rfl ?_
    refine rz_irem F (by omega) (by omega) dX9_laid_29 (fun z14 h_z14 => ?_)
    obtain ⟨rfl, hd15⟩ := h_z14
    refine rz_if_ne (tgt := 50) F (by omega) dX9_laid_30 (by decide) (fun h30_15 => ?_) (fun h30_15 => ?_)
    · refine lv_iload_n hx hb dX9_laid_50 rfl (lv_at hl 0 rfl) ?_
      refine lv_iconst (v := zI 2) hx hb dX9_laid_51 rfl ?_
      refine rz_icmp_ne (tgt := 64) F (by omega) (by omega) dX9_laid_52 (by decide) (fun h52_16 => ?_) (fun h52_16 => ?_)
      · refine lv_iconst (v := zI 0) hx hb dX9_laid_64 rfl ?_
        exact ret (zI 0) (fun k => [((fun _ => 0), fun _ _ => 0)].getD k (fun _ => 0, fun _ _ => 0)) _ _ _ _ _ _ rfl ⟨0, rfl, (show (0 : Int) = laidF g_p x from by unfold laidF; repeat' split <;> omega)⟩ (bw_subP (isC := [0]) hP rfl) (hD.sub [0] (by decide) rfl) hS (Nat.le_of_ble_eq_true rfl) (Nat.le_of_ble_eq_true rfl) dX9_laid_65
      · refine lv_aload_n hx hb dX9_laid_55 rfl (lv_at hl 2 rfl) ?_
        refine lv_iload_n hx hb dX9_laid_56 rfl (lv_at hl 1 rfl) ?_
        refine lv_bipush (v := zI 19) hx hb dX9_laid_57 (by decide) ?_
        refine r_iadd (v := zI ((20 * (x / 2)) + 19)) F dX9_laid_59 (zI_add _ _) ?_
        refine rz_iald F hK hP 0 0 rfl rfl (by omega) (by omega) dX9_laid_60 ?_
        have hpl18 : 0 ≤ (g_p (((20 * (x / 2)) + 19)).toNat) ∧ (g_p (((20 * (x / 2)) + 19)).toNat) ≤ 9 := ProgR.at hp.1 (e := ((20 * (x / 2)) + 19)) (x / 2) 19 (by omega) (by omega) (by decide) rfl
        refine lv_goto (tgt := 65) hx hb dX9_laid_61 (by decide) ?_
        exact ret (zI (g_p (((20 * (x / 2)) + 19)).toNat)) (fun k => [((fun _ => 0), fun _ _ => 0)].getD k (fun _ => 0, fun _ _ => 0)) _ _ _ _ _ _ rfl ⟨(g_p (((20 * (x / 2)) + 19)).toNat), rfl, (show ((g_p (((20 * (x / 2)) + 19)).toNat) : Int) = laidF g_p x from by unfold laidF; repeat' split <;> omega)⟩ (bw_subP (isC := [0]) hP rfl) (hD.sub [0] (by decide) rfl) hS (Nat.le_of_ble_eq_true rfl) (Nat.le_of_ble_eq_true rfl) dX9_laid_65
    · refine lv_iload_n hx hb dX9_laid_33 rfl (lv_at hl 0 rfl) ?_
      refine rz_if_le (tgt := 46) F (by omega) dX9_laid_34 (by decide) (fun h34_18 => ?_) (fun h34_18 => ?_)
      · refine lv_iconst (v := zI 0) hx hb dX9_laid_46 rfl ?_
        refine lv_goto (tgt := 65) hx hb dX9_laid_47 (by decide) ?_
        exact ret (zI 0) (fun k => [((fun _ => 0), fun _ _ => 0)].getD k (fun _ => 0, fun _ _ => 0)) _ _ _ _ _ _ rfl ⟨0, rfl, (show (0 : Int) = laidF g_p x from by unfold laidF; repeat' split <;> omega)⟩ (bw_subP (isC := [0]) hP rfl) (hD.sub [0] (by decide) rfl) hS (Nat.le_of_ble_eq_true rfl) (Nat.le_of_ble_eq_true rfl) dX9_laid_65
      · refine lv_aload_n hx hb dX9_laid_37 rfl (lv_at hl 2 rfl) ?_
        refine lv_iload_n hx hb dX9_laid_38 rfl (lv_at hl 1 rfl) ?_
        refine lv_bipush (v := zI 17) hx hb dX9_laid_39 (by decide) ?_
        refine r_iadd (v := zI ((20 * (x / 2)) + 17)) F dX9_laid_41 (zI_add _ _) ?_
        refine rz_iald F hK hP 0 0 rfl rfl (by omega) (by omega) dX9_laid_42 ?_
        have hpl20 : 0 ≤ (g_p (((20 * (x / 2)) + 17)).toNat) ∧ (g_p (((20 * (x / 2)) + 17)).toNat) ≤ 9 := ProgR.at hp.1 (e := ((20 * (x / 2)) + 17)) (x / 2) 17 (by omega) (by omega) (by decide) rfl
        refine lv_goto (tgt := 65) hx hb dX9_laid_43 (by decide) ?_
        exact ret (zI (g_p (((20 * (x / 2)) + 17)).toNat)) (fun k => [((fun _ => 0), fun _ _ => 0)].getD k (fun _ => 0, fun _ _ => 0)) _ _ _ _ _ _ rfl ⟨(g_p (((20 * (x / 2)) + 17)).toNat), rfl, (show ((g_p (((20 * (x / 2)) + 17)).toNat) : Int) = laidF g_p x from by unfold laidF; repeat' split <;> omega)⟩ (bw_subP (isC := [0]) hP rfl) (hD.sub [0] (by decide) rfl) hS (Nat.le_of_ble_eq_true rfl) (Nat.le_of_ble_eq_true rfl) dX9_laid_65
abbrev rm_X9_gtX : Room := { frames := 0, cells := 0, slots := 0, locals := 0 }
set_option maxRecDepth 100000 in
set_option maxHeartbeats 8000000 in
theorem c_X9_gtX {l : Launch} {E : (Nat → Prop) → State → Prop} (hO : bw_Ok E) {G : va_G} {cI cB cJ cN cW : ClassId} (a : Nat) (g_p : Nat → Int) (x : Int) (hx9 : zR x) (hp : ProgOk g_p) (hx8 : 0 ≤ x ∧ x < 20) : bw_Ci (S := zV) l yX9_goesTo (bw_ws (Cond.code yX9_goesTo cX9_goesTo 2 (some .int))) rm_X9_gtX E G (bw_kt cI cB cJ cN cW) [.ref a, .int (zI x)] [(a, .inl (cI, 200, .inl (fun k => zI (g_p k))))] (fun r u => ∃ z : Int, r = zI z ∧ (z = gtF g_p x ∧ 0 ≤ z ∧ z ≤ 9)) (fun u => [(a, .inl (cI, 200, .inl (fun k => zI (g_p k))))]) := by
  refine bw_Ci.of (cc := cX9_goesTo) (maxL := 2) (ty := .int) (by decide) rfl (Nat.le_of_ble_eq_true rfl) ?_
  intro p e s m below meth c A Q hx hb hml hts hown hin hK hA hS hP hD hE ret ls hl
  have F : CallFix p m c cX9_goesTo 2 s ([.ref a, .int (zI x)] : List Value).toArray bw_T RX9 := ⟨hx, hb, hml, hown, fun w h => hts w (List.mem_cons_of_mem _ h)⟩
  replace hl : lv_has ls 2 [(0, .ref a), (1, .int (zI x))] := hl
  refine lv_aload_n hx hb dX9_goesTo_0 rfl (lv_at hl 0 rfl) ?_
  refine lv_bipush (v := zI 20) hx hb dX9_goesTo_1 (by decide) ?_
  refine lv_iload_n hx hb dX9_goesTo_3 rfl (lv_at hl 1 rfl) ?_
  refine lv_iconst (v := zI 2) hx hb dX9_goesTo_4 rfl ?_
  refine rz_idiv F (by omega) (by omega) dX9_goesTo_5 (fun z2 h_z2 => ?_)
  obtain ⟨rfl, hd3⟩ := h_z2
  refine r_imul (v := zI (20 * (x / 2))) F dX9_goesTo_6 (zI_mul _ _) ?_
  refine lv_iload_n hx hb dX9_goesTo_7 rfl (lv_at hl 1 rfl) ?_
  refine lv_iconst (v := zI 2) hx hb dX9_goesTo_8 rfl ?_
  refine rz_irem F (by omega) (by omega) dX9_goesTo_9 (fun z5 h_z5 => ?_)
  obtain ⟨rfl, hd6⟩ := h_z5
  refine rz_if_ne (tgt := 18) F (by omega) dX9_goesTo_10 (by decide) (fun h10_6 => ?_) (fun h10_6 => ?_)
  · refine lv_bipush (v := zI 18) hx hb dX9_goesTo_18 (by decide) ?_
    refine r_iadd (v := zI ((20 * (x / 2)) + 18)) F dX9_goesTo_20 (zI_add _ _) ?_
    refine rz_iald F hK hP 0 0 rfl rfl (by omega) (by omega) dX9_goesTo_21 ?_
    have hpl8 : 0 ≤ (g_p (((20 * (x / 2)) + 18)).toNat) ∧ (g_p (((20 * (x / 2)) + 18)).toNat) ≤ 9 := ProgR.at hp.1 (e := ((20 * (x / 2)) + 18)) (x / 2) 18 (by omega) (by omega) (by decide) rfl
    exact ret (zI (g_p (((20 * (x / 2)) + 18)).toNat)) (fun k => [((fun _ => 0), fun _ _ => 0)].getD k (fun _ => 0, fun _ _ => 0)) _ _ _ _ _ _ rfl ⟨(g_p (((20 * (x / 2)) + 18)).toNat), rfl, ⟨(show ((g_p (((20 * (x / 2)) + 18)).toNat) : Int) = gtF g_p x from by unfold gtF; split <;> omega), by omega⟩⟩ (bw_subP (isC := [0]) hP rfl) (hD.sub [0] (by decide) rfl) hS (Nat.le_of_ble_eq_true rfl) (Nat.le_of_ble_eq_true rfl) dX9_goesTo_22
  · refine lv_bipush (v := zI 16) hx hb dX9_goesTo_13 (by decide) ?_
    refine lv_goto (tgt := 20) hx hb dX9_goesTo_15 (by decide) ?_
    refine r_iadd (v := zI ((20 * (x / 2)) + 16)) F dX9_goesTo_20 (zI_add _ _) ?_
    refine rz_iald F hK hP 0 0 rfl rfl (by omega) (by omega) dX9_goesTo_21 ?_
    have hpl9 : 0 ≤ (g_p (((20 * (x / 2)) + 16)).toNat) ∧ (g_p (((20 * (x / 2)) + 16)).toNat) ≤ 9 := ProgR.at hp.1 (e := ((20 * (x / 2)) + 16)) (x / 2) 16 (by omega) (by omega) (by decide) rfl
    exact ret (zI (g_p (((20 * (x / 2)) + 16)).toNat)) (fun k => [((fun _ => 0), fun _ _ => 0)].getD k (fun _ => 0, fun _ _ => 0)) _ _ _ _ _ _ rfl ⟨(g_p (((20 * (x / 2)) + 16)).toNat), rfl, ⟨(show ((g_p (((20 * (x / 2)) + 16)).toNat) : Int) = gtF g_p x from by unfold gtF; split <;> omega), by omega⟩⟩ (bw_subP (isC := [0]) hP rfl) (hD.sub [0] (by decide) rfl) hS (Nat.le_of_ble_eq_true rfl) (Nat.le_of_ble_eq_true rfl) dX9_goesTo_22
abbrev rm_X9_layRestX : Room := { frames := 1, cells := 0, slots := 0, locals := 23 }
set_option maxRecDepth 100000 in
set_option maxHeartbeats 8000000 in
theorem c_X9_layRestX {l : Launch} {E : (Nat → Prop) → State → Prop} (hO : bw_Ok E) {G : va_G} {cI cB cJ cN cW : ClassId} (y : Nat) (q : Nat → Nat) (i : Nat → Int) (hM : ModOk i) (g_now : Nat → Int) (g_rest : Nat → Int) (hr_rest : ∀ k, k < 20 → 0 ≤ g_rest k ∧ g_rest k ≤ 9) (hpn : ProgOk g_now) (hLr : LN g_now (i 13)) : bw_Cv (S := zV) l yX9_layRest (bw_ws (Cond.code yX9_layRest cX9_layRest 2 none)) rm_X9_layRestX E G (bw_kt cI cB cJ cN cW) [.ref y] [(y, .inr (9, [.int (zI (i 0)), .ref (q 0), .int (zI (i 1)), .int (zI (i 2)), .int (zI (i 3)), .int (zI (i 4)), .int (zI (i 5)), .int (zI (i 6)), .int (zI (i 7)), .int (zI (i 8)), .int (zI (i 9)), .int (zI (i 10)), .ref (q 1), .int (zI (i 11)), .int (zI (i 12)), .ref (q 2), .ref (q 3), .ref (q 4), .ref (q 5), .ref (q 6), .ref (q 7), .ref (q 8), .ref (q 9), .ref (q 10), .ref (q 11), .ref (q 12), .ref (q 13), .ref (q 14), .ref (q 15), .ref (q 16), .int (zI (i 13)), .int (zI (i 14)), .int (zI (i 15)), .int (zI (i 16)), .int (zI (i 17)), .int (zI (i 18)), .ref (q 17), .ref (q 18), .ref (q 19), .ref (q 20)])), ((q 3), .inl (cI, 200, .inl (fun k => zI (g_now k)))), ((q 17), .inl (cI, 20, .inl (fun k => zI (g_rest k))))] (fun u => (∀ k, k < 20 → 0 ≤ ((u 1).2 0) k ∧ ((u 1).2 0) k ≤ 9) ∧ (∀ w : Nat, w < 20 → ((u 1).2 0) w = lF g_now w)) (fun u => [(y, .inr (9, [.int (zI (i 0)), .ref (q 0), .int (zI (i 1)), .int (zI (i 2)), .int (zI (i 3)), .int (zI (i 4)), .int (zI (i 5)), .int (zI (i 6)), .int (zI (i 7)), .int (zI (i 8)), .int (zI (i 9)), .int (zI (i 10)), .ref (q 1), .int (zI (i 11)), .int (zI (i 12)), .ref (q 2), .ref (q 3), .ref (q 4), .ref (q 5), .ref (q 6), .ref (q 7), .ref (q 8), .ref (q 9), .ref (q 10), .ref (q 11), .ref (q 12), .ref (q 13), .ref (q 14), .ref (q 15), .ref (q 16), .int (zI (i 13)), .int (zI (i 14)), .int (zI (i 15)), .int (zI (i 16)), .int (zI (i 17)), .int (zI (i 18)), .ref (q 17), .ref (q 18), .ref (q 19), .ref (q 20)])), ((q 3), .inl (cI, 200, .inl (fun k => zI (g_now k)))), ((q 17), .inl (cI, 20, .inl (fun k => zI (((u 1).2 0) k))))]) := by
  refine bw_Cv.of (cc := cX9_layRest) (maxL := 2) (by decide) rfl (Nat.le_of_ble_eq_true rfl) ?_
  intro p e s m below meth c A Q hx hb hml hts hown hin hK hA hS hP hD hE ret ls hl
  have F : CallFix p m c cX9_layRest 2 s ([.ref y] : List Value).toArray bw_T RX9 := ⟨hx, hb, hml, hown, fun w h => hts w (List.mem_cons_of_mem _ h)⟩
  replace hl : lv_has ls 2 [(0, .ref y)] := hl
  have hf1 := hM.1
  refine lv_iconst (v := zI 0) hx hb dX9_layRest_0 rfl ?_
  refine lv_istore_n (lv' := [(1, .int (zI 0)), (0, .ref y)]) hx hb dX9_layRest_1 rfl hl (by decide) rfl (fun ls hl => ?_)
  refine W.widen (k := 0) (n := 0) (Nat.le_of_ble_eq_true rfl) (Nat.le_of_ble_eq_true rfl) ?_
  refine (?_ : ∀ (n9_1 : Nat) (v1 : Int) (gr9 : Nat → Int) (H : Heap) (locs : List Loc), (0 ≤ v1 ∧ v1 ≤ 20) → (20 - v1 : Int).toNat < n9_1 → (∀ k, k < 20 → 0 ≤ gr9 k ∧ gr9 k ≤ 9) → (∀ w : Nat, (w : Int) < v1 → gr9 w = lF g_now w) → va_P G vwCl [(y, .inr (9, [.int (zI (i 0)), .ref (q 0), .int (zI (i 1)), .int (zI (i 2)), .int (zI (i 3)), .int (zI (i 4)), .int (zI (i 5)), .int (zI (i 6)), .int (zI (i 7)), .int (zI (i 8)), .int (zI (i 9)), .int (zI (i 10)), .ref (q 1), .int (zI (i 11)), .int (zI (i 12)), .ref (q 2), .ref (q 3), .ref (q 4), .ref (q 5), .ref (q 6), .ref (q 7), .ref (q 8), .ref (q 9), .ref (q 10), .ref (q 11), .ref (q 12), .ref (q 13), .ref (q 14), .ref (q 15), .ref (q 16), .int (zI (i 13)), .int (zI (i 14)), .int (zI (i 15)), .int (zI (i 16)), .int (zI (i 17)), .int (zI (i 18)), .ref (q 17), .ref (q 18), .ref (q 19), .ref (q 20)])), ((q 3), .inl (cI, 200, .inl (fun k => zI (g_now k)))), ((q 17), .inl (cI, 20, .inl (fun k => zI (gr9 k))))] H → va_D A [(y, .inr (9, [.int (zI (i 0)), .ref (q 0), .int (zI (i 1)), .int (zI (i 2)), .int (zI (i 3)), .int (zI (i 4)), .int (zI (i 5)), .int (zI (i 6)), .int (zI (i 7)), .int (zI (i 8)), .int (zI (i 9)), .int (zI (i 10)), .ref (q 1), .int (zI (i 11)), .int (zI (i 12)), .ref (q 2), .ref (q 3), .ref (q 4), .ref (q 5), .ref (q 6), .ref (q 7), .ref (q 8), .ref (q 9), .ref (q 10), .ref (q 11), .ref (q 12), .ref (q 13), .ref (q 14), .ref (q 15), .ref (q 16), .int (zI (i 13)), .int (zI (i 14)), .int (zI (i 15)), .int (zI (i 16)), .int (zI (i 17)), .int (zI (i 18)), .ref (q 17), .ref (q 18), .ref (q 19), .ref (q 20)])), ((q 3), .inl (cI, 200, .inl (fun k => zI (g_now k)))), ((q 17), .inl (cI, 20, .inl (fun k => zI (gr9 k))))] → va_S A s.heap H locs → ∀ ls : Array Slot, lv_has ls 2 [(1, .int (zI v1)), (0, .ref y)] → W p l e rm_X9_layRestX s m ([.ref y] : List Value).toArray below meth c H locs 0 0 Q (F0 m 2 ls [])) ((20 - 0 : Int).toNat + 1) 0 g_rest _ _ (by omega) (by omega) hr_rest (fun w hw => absurd hw (by omega)) hP hD hS ls hl
  clear hP hD hS hl ls
  intro n9_1
  induction n9_1 with
  | zero =>
    intro v1 gr9 H locs hI hM
    exact absurd hM (by omega)
  | succ n9_1 ih1 =>
    intro v1 gr9 H locs hI1 hM1 h_gr9 hlr hP hD hS ls hl
    refine lv_iload_n hx hb dX9_layRest_2 rfl (lv_at hl 0 rfl) ?_
    refine lv_bipush (v := zI 20) hx hb dX9_layRest_3 (by decide) ?_
    refine rz_icmp_ge (tgt := 42) F (by omega) (by omega) dX9_layRest_5 (by decide) (fun h5_1 => ?_) (fun h5_1 => ?_)
    · exact ret (fun k => [((fun _ => 0), fun _ _ => 0), (fun _ => 0, fun _ => gr9)].getD k (fun _ => 0, fun _ _ => 0)) _ _ _ _ _ _ ⟨h_gr9, (fun w hw => hlr w (by omega))⟩ (bw_subP (isC := [0, 1, 2]) hP rfl) (hD.sub [0, 1, 2] (by decide) rfl) hS (Nat.le_of_ble_eq_true rfl) (Nat.le_of_ble_eq_true rfl) dX9_layRest_42
    · refine lv_aload_n hx hb dX9_layRest_8 rfl (lv_at hl 1 rfl) ?_
      refine r_get F hK hP 0 36 rfl rfl in_X9 (by decide) k_1199 rfl dX9_layRest_9 ?_
      refine lv_iload_n hx hb dX9_layRest_12 rfl (lv_at hl 0 rfl) ?_
      refine lv_iload_n hx hb dX9_layRest_13 rfl (lv_at hl 0 rfl) ?_
      refine lv_iconst (v := zI 2) hx hb dX9_layRest_14 rfl ?_
      refine lv_aload_n hx hb dX9_layRest_15 rfl (lv_at hl 1 rfl) ?_
      refine r_get F hK hP 0 30 rfl rfl in_X9 (by decide) k_1193 rfl dX9_layRest_16 ?_
      refine r_imul (v := zI (2 * (i 13))) F dX9_layRest_19 (zI_mul _ _) ?_
      refine rz_icmp_ge (tgt := 34) F (by omega) (by omega) dX9_layRest_20 (by decide) (fun h20_2 => ?_) (fun h20_2 => ?_)
      · refine lv_iconst (v := zI 0) hx hb dX9_layRest_34 rfl ?_
        refine rz_iastG F hK hP hD hS 2 0 rfl rfl (by omega) (by omega) dX9_layRest_35 (w1 := fun g4 => [(y, .inr (9, [.int (zI (i 0)), .ref (q 0), .int (zI (i 1)), .int (zI (i 2)), .int (zI (i 3)), .int (zI (i 4)), .int (zI (i 5)), .int (zI (i 6)), .int (zI (i 7)), .int (zI (i 8)), .int (zI (i 9)), .int (zI (i 10)), .ref (q 1), .int (zI (i 11)), .int (zI (i 12)), .ref (q 2), .ref (q 3), .ref (q 4), .ref (q 5), .ref (q 6), .ref (q 7), .ref (q 8), .ref (q 9), .ref (q 10), .ref (q 11), .ref (q 12), .ref (q 13), .ref (q 14), .ref (q 15), .ref (q 16), .int (zI (i 13)), .int (zI (i 14)), .int (zI (i 15)), .int (zI (i 16)), .int (zI (i 17)), .int (zI (i 18)), .ref (q 17), .ref (q 18), .ref (q 19), .ref (q 20)])), ((q 3), .inl (cI, 200, .inl (fun k => zI (g_now k)))), ((q 17), .inl (cI, 20, .inl (fun k => zI (g4 k))))]) (fun _ => rfl) (fun g4 e_g4 H locs hP hD hS => ?_)
        have h_g4 : ∀ k, k < 20 → 0 ≤ g4 k ∧ g4 k ≤ 9 := by rw [e_g4]; exact uZ_all (P := fun _ y9 => 0 ≤ y9 ∧ y9 ≤ 9) h_gr9 (fun _ => by omega)
        refine lv_iinc (v := zI (v1 + 1)) (lv' := [(1, .int (zI (v1 + 1))), (0, .ref y)]) hx hb dX9_layRest_36 hl (k := 0) rfl (zI_add _ _) (by decide) rfl (fun ls hl => ?_)
        refine lv_goto (tgt := 2) hx hb dX9_layRest_39 (by decide) ?_
        exact ih1 (v1 + 1) g4 _ _ (by omega) (by omega) h_g4 (lr_step (F := lF g_now) hlr (by omega) e_g4 (by have q9 : ¬ 0 < laidF g_now v1 := (fun q8 => by have q7 := laidF_low hLr (x := v1) (by omega) q8; omega); have q6 := laidF_rg hpn (x := v1) (by omega); show (0 : Int) = laidF g_now (((v1).toNat : Nat) : Int); rw [show (((v1).toNat : Nat) : Int) = v1 by omega]; omega)) hP hD hS ls (lv_sub hl [0, 1] rfl)
      · refine lv_aload_n hx hb dX9_layRest_23 rfl (lv_at hl 1 rfl) ?_
        refine r_get F hK hP 0 16 rfl rfl in_X9 (by decide) k_1179 rfl dX9_layRest_24 ?_
        refine lv_iload_n hx hb dX9_layRest_27 rfl (lv_at hl 0 rfl) ?_
        refine r_callSi (As := [.ref (q 3), .int (zI v1)]) (rest := [.int (zI v1), .ref (q 17)]) (wr := [(y, .inr (9, [.int (zI (i 0)), .ref (q 0), .int (zI (i 1)), .int (zI (i 2)), .int (zI (i 3)), .int (zI (i 4)), .int (zI (i 5)), .int (zI (i 6)), .int (zI (i 7)), .int (zI (i 8)), .int (zI (i 9)), .int (zI (i 10)), .ref (q 1), .int (zI (i 11)), .int (zI (i 12)), .ref (q 2), .ref (q 3), .ref (q 4), .ref (q 5), .ref (q 6), .ref (q 7), .ref (q 8), .ref (q 9), .ref (q 10), .ref (q 11), .ref (q 12), .ref (q 13), .ref (q 14), .ref (q 15), .ref (q 16), .int (zI (i 13)), .int (zI (i 14)), .int (zI (i 15)), .int (zI (i 16)), .int (zI (i 17)), .int (zI (i 18)), .ref (q 17), .ref (q 18), .ref (q 19), .ref (q 20)])), ((q 17), .inl (cI, 20, .inl (fun k => zI (gr9 k))))]) F hK hP hD hS hA hO hE (c_X9_laidX hO (q 3) g_now v1 (by omega) hpn (by omega)) k_1485 ks_X9_laid 2 rfl (by decide +kernel) ⟨Nat.le_of_ble_eq_true rfl, Nat.le_of_ble_eq_true rfl⟩ [1] [0, 2] rfl rfl (by decide) (by decide) (by decide) hl.1 rfl (Nat.le_of_ble_eq_true rfl) dX9_layRest_28 ⟨Nat.le_of_ble_eq_true rfl, Nat.le_of_ble_eq_true rfl⟩ (w1 := fun u5 => [(y, .inr (9, [.int (zI (i 0)), .ref (q 0), .int (zI (i 1)), .int (zI (i 2)), .int (zI (i 3)), .int (zI (i 4)), .int (zI (i 5)), .int (zI (i 6)), .int (zI (i 7)), .int (zI (i 8)), .int (zI (i 9)), .int (zI (i 10)), .ref (q 1), .int (zI (i 11)), .int (zI (i 12)), .ref (q 2), .ref (q 3), .ref (q 4), .ref (q 5), .ref (q 6), .ref (q 7), .ref (q 8), .ref (q 9), .ref (q 10), .ref (q 11), .ref (q 12), .ref (q 13), .ref (q 14), .ref (q 15), .ref (q 16), .int (zI (i 13)), .int (zI (i 14)), .int (zI (i 15)), .int (zI (i 16)), .int (zI (i 17)), .int (zI (i 18)), .ref (q 17), .ref (q 18), .ref (q 19), .ref (q 20)])), ((q 17), .inl (cI, 20, .inl (fun k => zI (gr9 k)))), ((q 3), .inl (cI, 200, .inl (fun k => zI (g_now k))))]) (fun _ => rfl) (fun r6 u5 H locs hp7 hP hD hS => ?_)
        obtain ⟨z8, rfl, h_z8⟩ := hp7
        have hc9 := laidF_rg hpn (x := v1) (by omega)
        have hlz := h_z8
        refine lv_goto (tgt := 35) hx hb dX9_layRest_31 (by decide) ?_
        refine rz_iastG F hK hP hD hS 1 0 rfl rfl (by omega) (by omega) dX9_layRest_35 (w1 := fun g10 => [(y, .inr (9, [.int (zI (i 0)), .ref (q 0), .int (zI (i 1)), .int (zI (i 2)), .int (zI (i 3)), .int (zI (i 4)), .int (zI (i 5)), .int (zI (i 6)), .int (zI (i 7)), .int (zI (i 8)), .int (zI (i 9)), .int (zI (i 10)), .ref (q 1), .int (zI (i 11)), .int (zI (i 12)), .ref (q 2), .ref (q 3), .ref (q 4), .ref (q 5), .ref (q 6), .ref (q 7), .ref (q 8), .ref (q 9), .ref (q 10), .ref (q 11), .ref (q 12), .ref (q 13), .ref (q 14), .ref (q 15), .ref (q 16), .int (zI (i 13)), .int (zI (i 14)), .int (zI (i 15)), .int (zI (i 16)), .int (zI (i 17)), .int (zI (i 18)), .ref (q 17), .ref (q 18), .ref (q 19), .ref (q 20)])), ((q 17), .inl (cI, 20, .inl (fun k => zI (g10 k)))), ((q 3), .inl (cI, 200, .inl (fun k => zI (g_now k))))]) (fun _ => rfl) (fun g10 e_g10 H locs hP hD hS => ?_)
        have h_g10 : ∀ k, k < 20 → 0 ≤ g10 k ∧ g10 k ≤ 9 := by rw [e_g10]; exact uZ_all (P := fun _ y9 => 0 ≤ y9 ∧ y9 ≤ 9) h_gr9 (fun _ => by omega)
        refine lv_iinc (v := zI (v1 + 1)) (lv' := [(1, .int (zI (v1 + 1))), (0, .ref y)]) hx hb dX9_layRest_36 hl (k := 0) rfl (zI_add _ _) (by decide) rfl (fun ls hl => ?_)
        refine lv_goto (tgt := 2) hx hb dX9_layRest_39 (by decide) ?_
        have hP := bw_subP (isC := [0, 2, 1]) (wc := [(y, .inr (9, [.int (zI (i 0)), .ref (q 0), .int (zI (i 1)), .int (zI (i 2)), .int (zI (i 3)), .int (zI (i 4)), .int (zI (i 5)), .int (zI (i 6)), .int (zI (i 7)), .int (zI (i 8)), .int (zI (i 9)), .int (zI (i 10)), .ref (q 1), .int (zI (i 11)), .int (zI (i 12)), .ref (q 2), .ref (q 3), .ref (q 4), .ref (q 5), .ref (q 6), .ref (q 7), .ref (q 8), .ref (q 9), .ref (q 10), .ref (q 11), .ref (q 12), .ref (q 13), .ref (q 14), .ref (q 15), .ref (q 16), .int (zI (i 13)), .int (zI (i 14)), .int (zI (i 15)), .int (zI (i 16)), .int (zI (i 17)), .int (zI (i 18)), .ref (q 17), .ref (q 18), .ref (q 19), .ref (q 20)])), ((q 3), .inl (cI, 200, .inl (fun k => zI (g_now k)))), ((q 17), .inl (cI, 20, .inl (fun k => zI (g10 k))))]) hP rfl
        have hD := hD.sub (ws' := [(y, .inr (9, [.int (zI (i 0)), .ref (q 0), .int (zI (i 1)), .int (zI (i 2)), .int (zI (i 3)), .int (zI (i 4)), .int (zI (i 5)), .int (zI (i 6)), .int (zI (i 7)), .int (zI (i 8)), .int (zI (i 9)), .int (zI (i 10)), .ref (q 1), .int (zI (i 11)), .int (zI (i 12)), .ref (q 2), .ref (q 3), .ref (q 4), .ref (q 5), .ref (q 6), .ref (q 7), .ref (q 8), .ref (q 9), .ref (q 10), .ref (q 11), .ref (q 12), .ref (q 13), .ref (q 14), .ref (q 15), .ref (q 16), .int (zI (i 13)), .int (zI (i 14)), .int (zI (i 15)), .int (zI (i 16)), .int (zI (i 17)), .int (zI (i 18)), .ref (q 17), .ref (q 18), .ref (q 19), .ref (q 20)])), ((q 3), .inl (cI, 200, .inl (fun k => zI (g_now k)))), ((q 17), .inl (cI, 20, .inl (fun k => zI (g10 k))))]) [0, 2, 1] (by decide) rfl
        exact ih1 (v1 + 1) g10 _ _ (by omega) (by omega) h_g10 (lr_step (F := lF g_now) hlr (by omega) e_g10 (show _ = laidF g_now (((v1).toNat : Nat) : Int) by rw [show (((v1).toNat : Nat) : Int) = v1 by omega]; exact hlz)) hP hD hS ls (lv_sub hl [0, 1] rfl)
abbrev rm_X9_isEvenX : Room := { frames := 1, cells := 0, slots := 0, locals := 21 }
set_option maxRecDepth 100000 in
set_option maxHeartbeats 8000000 in
theorem c_X9_isEvenX {l : Launch} {E : (Nat → Prop) → State → Prop} (hO : bw_Ok E) {G : va_G} {cI cB cJ cN cW : ClassId} (y : Nat) (q : Nat → Nat) (i : Nat → Int) (hM : ModOk i) (g_now : Nat → Int) (g_rest : Nat → Int) (hr_rest : ∀ k, k < 20 → 0 ≤ g_rest k ∧ g_rest k ≤ 9) (x : Int) (hx9 : zR x) (hpn : ProgOk g_now) (hx8 : 0 ≤ x ∧ x < 10) (hLr : LN g_now (i 13)) (hRs : Rst g_now g_rest) : bw_Ci (S := zV) l yX9_isEven (bw_ws (Cond.code yX9_isEven cX9_isEven 10 (some .boolean))) rm_X9_isEvenX E G (bw_kt cI cB cJ cN cW) [.ref y, .int (zI x)] [(y, .inr (9, [.int (zI (i 0)), .ref (q 0), .int (zI (i 1)), .int (zI (i 2)), .int (zI (i 3)), .int (zI (i 4)), .int (zI (i 5)), .int (zI (i 6)), .int (zI (i 7)), .int (zI (i 8)), .int (zI (i 9)), .int (zI (i 10)), .ref (q 1), .int (zI (i 11)), .int (zI (i 12)), .ref (q 2), .ref (q 3), .ref (q 4), .ref (q 5), .ref (q 6), .ref (q 7), .ref (q 8), .ref (q 9), .ref (q 10), .ref (q 11), .ref (q 12), .ref (q 13), .ref (q 14), .ref (q 15), .ref (q 16), .int (zI (i 13)), .int (zI (i 14)), .int (zI (i 15)), .int (zI (i 16)), .int (zI (i 17)), .int (zI (i 18)), .ref (q 17), .ref (q 18), .ref (q 19), .ref (q 20)])), ((q 3), .inl (cI, 200, .inl (fun k => zI (g_now k)))), ((q 17), .inl (cI, 20, .inl (fun k => zI (g_rest k))))] (fun r u => ∃ z : Int, r = zI z ∧ ((0 ≤ z ∧ z ≤ 1) ∧ (z = 1 ↔ EvF g_now g_rest (i 13).toNat (x).toNat))) (fun u => [(y, .inr (9, [.int (zI (i 0)), .ref (q 0), .int (zI (i 1)), .int (zI (i 2)), .int (zI (i 3)), .int (zI (i 4)), .int (zI (i 5)), .int (zI (i 6)), .int (zI (i 7)), .int (zI (i 8)), .int (zI (i 9)), .int (zI (i 10)), .ref (q 1), .int (zI (i 11)), .int (zI (i 12)), .ref (q 2), .ref (q 3), .ref (q 4), .ref (q 5), .ref (q 6), .ref (q 7), .ref (q 8), .ref (q 9), .ref (q 10), .ref (q 11), .ref (q 12), .ref (q 13), .ref (q 14), .ref (q 15), .ref (q 16), .int (zI (i 13)), .int (zI (i 14)), .int (zI (i 15)), .int (zI (i 16)), .int (zI (i 17)), .int (zI (i 18)), .ref (q 17), .ref (q 18), .ref (q 19), .ref (q 20)])), ((q 3), .inl (cI, 200, .inl (fun k => zI (g_now k)))), ((q 17), .inl (cI, 20, .inl (fun k => zI (g_rest k))))]) := by
  refine bw_Ci.of (cc := cX9_isEven) (maxL := 10) (ty := .boolean) (by decide) rfl (Nat.le_of_ble_eq_true rfl) ?_
  intro p e s m below meth c A Q hx hb hml hts hown hin hK hA hS hP hD hE ret ls hl
  have F : CallFix p m c cX9_isEven 10 s ([.ref y, .int (zI x)] : List Value).toArray bw_T RX9 := ⟨hx, hb, hml, hown, fun w h => hts w (List.mem_cons_of_mem _ h)⟩
  replace hl : lv_has ls 10 [(0, .ref y), (1, .int (zI x))] := hl
  have hf1 := hM.1
  refine lv_iconst (v := zI 0) hx hb dX9_isEven_0 rfl ?_
  refine lv_istore_n (lv' := [(2, .int (zI 0)), (0, .ref y), (1, .int (zI x))]) hx hb dX9_isEven_1 rfl hl (by decide) rfl (fun ls hl => ?_)
  refine lv_iconst (v := zI 1) hx hb dX9_isEven_2 rfl ?_
  refine lv_iload_n hx hb dX9_isEven_3 rfl (lv_at hl 2 rfl) ?_
  refine lv_ishl hx hb dX9_isEven_4 ?_
  obtain ⟨zc3, ec4, hc5, hbt6⟩ := sh_n (x := x) (by omega)
  refine rz_eq (z := zc3) ec4 ?_
  refine lv_istore_n (lv' := [(3, .int (zI zc3)), (2, .int (zI 0)), (0, .ref y), (1, .int (zI x))]) hx hb dX9_isEven_5 rfl hl (by decide) rfl (fun ls hl => ?_)
  refine lv_iconst (v := zI 0) hx hb dX9_isEven_6 rfl ?_
  refine lv_istore (lv' := [(4, .int (zI 0)), (3, .int (zI zc3)), (2, .int (zI 0)), (0, .ref y), (1, .int (zI x))]) hx hb dX9_isEven_7 hl (by decide) rfl (fun ls hl => ?_)
  refine W.widen (k := 0) (n := 0) (Nat.le_of_ble_eq_true rfl) (Nat.le_of_ble_eq_true rfl) ?_
  refine (?_ : ∀ (n9_1 : Nat) (v2 : Int) (v4 : Int) (H : Heap) (locs : List Loc), (0 ≤ v4 ∧ v4 ≤ 2 * i 13 ∧ 0 ≤ v2 ∧ v2 < 1024) → (20 - v4 : Int).toNat < n9_1 → (AlB (EL g_rest) (dW g_now) v2 v4) → va_P G vwCl [(y, .inr (9, [.int (zI (i 0)), .ref (q 0), .int (zI (i 1)), .int (zI (i 2)), .int (zI (i 3)), .int (zI (i 4)), .int (zI (i 5)), .int (zI (i 6)), .int (zI (i 7)), .int (zI (i 8)), .int (zI (i 9)), .int (zI (i 10)), .ref (q 1), .int (zI (i 11)), .int (zI (i 12)), .ref (q 2), .ref (q 3), .ref (q 4), .ref (q 5), .ref (q 6), .ref (q 7), .ref (q 8), .ref (q 9), .ref (q 10), .ref (q 11), .ref (q 12), .ref (q 13), .ref (q 14), .ref (q 15), .ref (q 16), .int (zI (i 13)), .int (zI (i 14)), .int (zI (i 15)), .int (zI (i 16)), .int (zI (i 17)), .int (zI (i 18)), .ref (q 17), .ref (q 18), .ref (q 19), .ref (q 20)])), ((q 3), .inl (cI, 200, .inl (fun k => zI (g_now k)))), ((q 17), .inl (cI, 20, .inl (fun k => zI (g_rest k))))] H → va_D A [(y, .inr (9, [.int (zI (i 0)), .ref (q 0), .int (zI (i 1)), .int (zI (i 2)), .int (zI (i 3)), .int (zI (i 4)), .int (zI (i 5)), .int (zI (i 6)), .int (zI (i 7)), .int (zI (i 8)), .int (zI (i 9)), .int (zI (i 10)), .ref (q 1), .int (zI (i 11)), .int (zI (i 12)), .ref (q 2), .ref (q 3), .ref (q 4), .ref (q 5), .ref (q 6), .ref (q 7), .ref (q 8), .ref (q 9), .ref (q 10), .ref (q 11), .ref (q 12), .ref (q 13), .ref (q 14), .ref (q 15), .ref (q 16), .int (zI (i 13)), .int (zI (i 14)), .int (zI (i 15)), .int (zI (i 16)), .int (zI (i 17)), .int (zI (i 18)), .ref (q 17), .ref (q 18), .ref (q 19), .ref (q 20)])), ((q 3), .inl (cI, 200, .inl (fun k => zI (g_now k)))), ((q 17), .inl (cI, 20, .inl (fun k => zI (g_rest k))))] → va_S A s.heap H locs → ∀ ls : Array Slot, lv_has ls 10 [(4, .int (zI v4)), (3, .int (zI zc3)), (2, .int (zI v2)), (0, .ref y), (1, .int (zI x))] → W p l e rm_X9_isEvenX s m ([.ref y, .int (zI x)] : List Value).toArray below meth c H locs 0 0 Q (F0 m 9 ls [])) ((20 - 0 : Int).toNat + 1) 0 0 _ _ (by omega) (by omega) AlB.init hP hD hS ls hl
  clear hP hD hS hl ls
  intro n9_1
  induction n9_1 with
  | zero =>
    intro v2 v4 H locs hI hM
    exact absurd hM (by omega)
  | succ n9_1 ih1 =>
    intro v2 v4 H locs hI1 hM1 hal hP hD hS ls hl
    refine lv_iload hx hb dX9_isEven_9 (lv_at hl 0 rfl) ?_
    refine lv_iconst (v := zI 2) hx hb dX9_isEven_11 rfl ?_
    refine lv_aload_n hx hb dX9_isEven_12 rfl (lv_at hl 3 rfl) ?_
    refine r_get F hK hP 0 30 rfl rfl in_X9 (by decide) k_1193 rfl dX9_isEven_13 ?_
    refine r_imul (v := zI (2 * (i 13))) F dX9_isEven_16 (zI_mul _ _) ?_
    refine rz_icmp_ge (tgt := 61) F (by omega) (by omega) dX9_isEven_17 (by decide) (fun h17_6 => ?_) (fun h17_6 => ?_)
    · refine lv_iload_n hx hb dX9_isEven_61 rfl (lv_at hl 2 rfl) ?_
      have haf := hal.fin (fun w he => by have q := hRs.low hLr he; omega)
      refine rz_if_ne (tgt := 67) F (by omega) dX9_isEven_62 (by decide) (fun h62_7 => ?_) (fun h62_7 => ?_)
      · refine lv_iconst (v := zI 0) hx hb dX9_isEven_67 rfl ?_
        refine lv_istore (lv' := [(4, .int (zI 0)), (3, .int (zI zc3)), (2, .int (zI v2)), (0, .ref y), (1, .int (zI x))]) hx hb dX9_isEven_68 hl (by decide) rfl (fun ls hl => ?_)
        refine W.widen (k := 0) (n := 0) (Nat.le_of_ble_eq_true rfl) (Nat.le_of_ble_eq_true rfl) ?_
        refine (?_ : ∀ (n9_2 : Nat) (b3 : Int) (b4 : Int) (H : Heap) (locs : List Loc), (0 ≤ b4 ∧ b4 ≤ b3 ∧ b3 < 1024) → (1024 - b4 : Int).toNat < n9_2 → (OuR2 (EL g_rest) (dW g_now) (x).toNat b3 b4) → va_P G vwCl [(y, .inr (9, [.int (zI (i 0)), .ref (q 0), .int (zI (i 1)), .int (zI (i 2)), .int (zI (i 3)), .int (zI (i 4)), .int (zI (i 5)), .int (zI (i 6)), .int (zI (i 7)), .int (zI (i 8)), .int (zI (i 9)), .int (zI (i 10)), .ref (q 1), .int (zI (i 11)), .int (zI (i 12)), .ref (q 2), .ref (q 3), .ref (q 4), .ref (q 5), .ref (q 6), .ref (q 7), .ref (q 8), .ref (q 9), .ref (q 10), .ref (q 11), .ref (q 12), .ref (q 13), .ref (q 14), .ref (q 15), .ref (q 16), .int (zI (i 13)), .int (zI (i 14)), .int (zI (i 15)), .int (zI (i 16)), .int (zI (i 17)), .int (zI (i 18)), .ref (q 17), .ref (q 18), .ref (q 19), .ref (q 20)])), ((q 3), .inl (cI, 200, .inl (fun k => zI (g_now k)))), ((q 17), .inl (cI, 20, .inl (fun k => zI (g_rest k))))] H → va_D A [(y, .inr (9, [.int (zI (i 0)), .ref (q 0), .int (zI (i 1)), .int (zI (i 2)), .int (zI (i 3)), .int (zI (i 4)), .int (zI (i 5)), .int (zI (i 6)), .int (zI (i 7)), .int (zI (i 8)), .int (zI (i 9)), .int (zI (i 10)), .ref (q 1), .int (zI (i 11)), .int (zI (i 12)), .ref (q 2), .ref (q 3), .ref (q 4), .ref (q 5), .ref (q 6), .ref (q 7), .ref (q 8), .ref (q 9), .ref (q 10), .ref (q 11), .ref (q 12), .ref (q 13), .ref (q 14), .ref (q 15), .ref (q 16), .int (zI (i 13)), .int (zI (i 14)), .int (zI (i 15)), .int (zI (i 16)), .int (zI (i 17)), .int (zI (i 18)), .ref (q 17), .ref (q 18), .ref (q 19), .ref (q 20)])), ((q 3), .inl (cI, 200, .inl (fun k => zI (g_now k)))), ((q 17), .inl (cI, 20, .inl (fun k => zI (g_rest k))))] → va_S A s.heap H locs → ∀ ls : Array Slot, lv_has ls 10 [(4, .int (zI b4)), (3, .int (zI b3)), (2, .int (zI v2)), (0, .ref y), (1, .int (zI x))] → W p l e rm_X9_isEvenX s m ([.ref y, .int (zI x)] : List Value).toArray below meth c H locs 0 0 Q (F0 m 70 ls [])) ((1024 - 0 : Int).toNat + 1) zc3 0 _ _ (by omega) (by omega) (OuR2.init hbt6 (by omega)) hP hD hS ls hl
        clear hP hD hS hl ls
        intro n9_2
        induction n9_2 with
        | zero =>
          intro b3 b4 H locs hI hM
          exact absurd hM (by omega)
        | succ n9_2 ih2 =>
          intro b3 b4 H locs hI2 hM2 hou hP hD hS ls hl
          refine lv_iload_n hx hb dX9_isEven_70 rfl (lv_at hl 1 rfl) ?_
          refine lv_iload hx hb dX9_isEven_71 (lv_at hl 0 rfl) ?_
          refine rz_icmp_eq (tgt := 144) F (by omega) (by omega) dX9_isEven_73 (by decide) (fun h73_8 => ?_) (fun h73_8 => ?_)
          · refine lv_iload_n hx hb dX9_isEven_144 rfl (lv_at hl 1 rfl) ?_
            have hha := hou.all (by omega)
            have hqe := hang_eq (by omega) (by omega) hha haf (by omega)
            refine lv_iload_n hx hb dX9_isEven_145 rfl (lv_at hl 2 rfl) ?_
            refine rz_icmp_eq (tgt := 151) F (by omega) (by omega) dX9_isEven_146 (by decide) (fun h146_9 => ?_) (fun h146_9 => ?_)
            · refine lv_iconst (v := zI 0) hx hb dX9_isEven_151 rfl ?_
              refine lv_istore (lv' := [(5, .int (zI 0)), (4, .int (zI b4)), (3, .int (zI b3)), (2, .int (zI v2)), (0, .ref y), (1, .int (zI x))]) hx hb dX9_isEven_152 hl (by decide) rfl (fun ls hl => ?_)
              refine lv_iconst (v := zI 0) hx hb dX9_isEven_154 rfl ?_
              refine lv_istore (lv' := [(6, .int (zI 0)), (5, .int (zI 0)), (4, .int (zI b4)), (3, .int (zI b3)), (2, .int (zI v2)), (0, .ref y), (1, .int (zI x))]) hx hb dX9_isEven_155 hl (by decide) rfl (fun ls hl => ?_)
              refine lv_iconst (v := zI 0) hx hb dX9_isEven_157 rfl ?_
              refine lv_istore (lv' := [(7, .int (zI 0)), (6, .int (zI 0)), (5, .int (zI 0)), (4, .int (zI b4)), (3, .int (zI b3)), (2, .int (zI v2)), (0, .ref y), (1, .int (zI x))]) hx hb dX9_isEven_158 hl (by decide) rfl (fun ls hl => ?_)
              refine W.widen (k := 0) (n := 0) (Nat.le_of_ble_eq_true rfl) (Nat.le_of_ble_eq_true rfl) ?_
              refine (?_ : ∀ (n9_3 : Nat) (c5 : Int) (c6 : Int) (c7 : Int) (H : Heap) (locs : List Loc), (0 ≤ c7 ∧ c7 ≤ i 13 ∧ 0 ≤ c5 ∧ c5 ≤ c7 ∧ 0 ≤ c6 ∧ c6 ≤ c7) → (10 - c7 : Int).toNat < n9_3 → (DgI (dgS (dW g_now) g_rest 20) (x).toNat c5 c6 c7) → va_P G vwCl [(y, .inr (9, [.int (zI (i 0)), .ref (q 0), .int (zI (i 1)), .int (zI (i 2)), .int (zI (i 3)), .int (zI (i 4)), .int (zI (i 5)), .int (zI (i 6)), .int (zI (i 7)), .int (zI (i 8)), .int (zI (i 9)), .int (zI (i 10)), .ref (q 1), .int (zI (i 11)), .int (zI (i 12)), .ref (q 2), .ref (q 3), .ref (q 4), .ref (q 5), .ref (q 6), .ref (q 7), .ref (q 8), .ref (q 9), .ref (q 10), .ref (q 11), .ref (q 12), .ref (q 13), .ref (q 14), .ref (q 15), .ref (q 16), .int (zI (i 13)), .int (zI (i 14)), .int (zI (i 15)), .int (zI (i 16)), .int (zI (i 17)), .int (zI (i 18)), .ref (q 17), .ref (q 18), .ref (q 19), .ref (q 20)])), ((q 3), .inl (cI, 200, .inl (fun k => zI (g_now k)))), ((q 17), .inl (cI, 20, .inl (fun k => zI (g_rest k))))] H → va_D A [(y, .inr (9, [.int (zI (i 0)), .ref (q 0), .int (zI (i 1)), .int (zI (i 2)), .int (zI (i 3)), .int (zI (i 4)), .int (zI (i 5)), .int (zI (i 6)), .int (zI (i 7)), .int (zI (i 8)), .int (zI (i 9)), .int (zI (i 10)), .ref (q 1), .int (zI (i 11)), .int (zI (i 12)), .ref (q 2), .ref (q 3), .ref (q 4), .ref (q 5), .ref (q 6), .ref (q 7), .ref (q 8), .ref (q 9), .ref (q 10), .ref (q 11), .ref (q 12), .ref (q 13), .ref (q 14), .ref (q 15), .ref (q 16), .int (zI (i 13)), .int (zI (i 14)), .int (zI (i 15)), .int (zI (i 16)), .int (zI (i 17)), .int (zI (i 18)), .ref (q 17), .ref (q 18), .ref (q 19), .ref (q 20)])), ((q 3), .inl (cI, 200, .inl (fun k => zI (g_now k)))), ((q 17), .inl (cI, 20, .inl (fun k => zI (g_rest k))))] → va_S A s.heap H locs → ∀ ls : Array Slot, lv_has ls 10 [(7, .int (zI c7)), (6, .int (zI c6)), (5, .int (zI c5)), (4, .int (zI b4)), (3, .int (zI b3)), (2, .int (zI v2)), (0, .ref y), (1, .int (zI x))] → W p l e rm_X9_isEvenX s m ([.ref y, .int (zI x)] : List Value).toArray below meth c H locs 0 0 Q (F0 m 160 ls [])) ((10 - 0 : Int).toNat + 1) 0 0 0 _ _ (by omega) (by omega) DgI.init hP hD hS ls hl
              clear hP hD hS hl ls
              intro n9_3
              induction n9_3 with
              | zero =>
                intro c5 c6 c7 H locs hI hM
                exact absurd hM (by omega)
              | succ n9_3 ih3 =>
                intro c5 c6 c7 H locs hI3 hM3 hdi hP hD hS ls hl
                refine lv_iload hx hb dX9_isEven_160 (lv_at hl 0 rfl) ?_
                refine lv_aload_n hx hb dX9_isEven_162 rfl (lv_at hl 6 rfl) ?_
                refine r_get F hK hP 0 30 rfl rfl in_X9 (by decide) k_1193 rfl dX9_isEven_163 ?_
                refine rz_icmp_ge (tgt := 299) F (by omega) (by omega) dX9_isEven_166 (by decide) (fun h166_10 => ?_) (fun h166_10 => ?_)
                · refine lv_iload hx hb dX9_isEven_299 (lv_at hl 2 rfl) ?_
                  refine lv_iload hx hb dX9_isEven_301 (lv_at hl 1 rfl) ?_
                  refine rz_icmp_ne (tgt := 316) F (by omega) (by omega) dX9_isEven_303 (by decide) (fun h303_11 => ?_) (fun h303_11 => ?_)
                  · refine lv_iconst (v := zI 0) hx hb dX9_isEven_316 rfl ?_
                    exact ret (zI 0) (fun k => [((fun _ => 0), fun _ _ => 0)].getD k (fun _ => 0, fun _ _ => 0)) _ _ _ _ _ _ rfl ⟨0, rfl, ⟨by omega, fun q9 => absurd q9 (by decide), fun q9 => absurd ((hdi.fin (by omega)).mpr q9.2) (by omega)⟩⟩ (bw_subP (isC := [0, 1, 2]) hP rfl) (hD.sub [0, 1, 2] (by decide) rfl) hS (Nat.le_of_ble_eq_true rfl) (Nat.le_of_ble_eq_true rfl) dX9_isEven_317
                  · refine lv_iload hx hb dX9_isEven_306 (lv_at hl 2 rfl) ?_
                    refine lv_iconst (v := zI 1) hx hb dX9_isEven_308 rfl ?_
                    refine rz_icmp_gt (tgt := 316) F (by omega) (by omega) dX9_isEven_309 (by decide) (fun h309_12 => ?_) (fun h309_12 => ?_)
                    · refine lv_iconst (v := zI 0) hx hb dX9_isEven_316 rfl ?_
                      exact ret (zI 0) (fun k => [((fun _ => 0), fun _ _ => 0)].getD k (fun _ => 0, fun _ _ => 0)) _ _ _ _ _ _ rfl ⟨0, rfl, ⟨by omega, fun q9 => absurd q9 (by decide), fun q9 => absurd ((hdi.fin (by omega)).mpr q9.2) (by omega)⟩⟩ (bw_subP (isC := [0, 1, 2]) hP rfl) (hD.sub [0, 1, 2] (by decide) rfl) hS (Nat.le_of_ble_eq_true rfl) (Nat.le_of_ble_eq_true rfl) dX9_isEven_317
                    · refine lv_iconst (v := zI 1) hx hb dX9_isEven_312 rfl ?_
                      refine lv_goto (tgt := 317) hx hb dX9_isEven_313 (by decide) ?_
                      exact ret (zI 1) (fun k => [((fun _ => 0), fun _ _ => 0)].getD k (fun _ => 0, fun _ _ => 0)) _ _ _ _ _ _ rfl ⟨1, rfl, ⟨by omega, fun _ => ⟨hqe.mp (by omega), (hdi.fin (by omega)).mp (by omega)⟩, fun _ => rfl⟩⟩ (bw_subP (isC := [0, 1, 2]) hP rfl) (hD.sub [0, 1, 2] (by decide) rfl) hS (Nat.le_of_ble_eq_true rfl) (Nat.le_of_ble_eq_true rfl) dX9_isEven_317
                · refine lv_iconst (v := zI 0) hx hb dX9_isEven_169 rfl ?_
                  refine lv_istore (lv' := [(8, .int (zI 0)), (7, .int (zI c7)), (6, .int (zI c6)), (5, .int (zI c5)), (4, .int (zI b4)), (3, .int (zI b3)), (2, .int (zI v2)), (0, .ref y), (1, .int (zI x))]) hx hb dX9_isEven_170 hl (by decide) rfl (fun ls hl => ?_)
                  refine lv_iconst (v := zI 0) hx hb dX9_isEven_172 rfl ?_
                  refine lv_istore (lv' := [(9, .int (zI 0)), (8, .int (zI 0)), (7, .int (zI c7)), (6, .int (zI c6)), (5, .int (zI c5)), (4, .int (zI b4)), (3, .int (zI b3)), (2, .int (zI v2)), (0, .ref y), (1, .int (zI x))]) hx hb dX9_isEven_173 hl (by decide) rfl (fun ls hl => ?_)
                  refine W.widen (k := 0) (n := 0) (Nat.le_of_ble_eq_true rfl) (Nat.le_of_ble_eq_true rfl) ?_
                  refine (?_ : ∀ (n9_4 : Nat) (d8 : Int) (d9 : Int) (H : Heap) (locs : List Loc), (0 ≤ d9 ∧ d9 ≤ 2 * i 13 ∧ d8 ≤ 9 * d9 ∧ 0 ≤ d8 + 9 * d9) → (20 - d9 : Int).toNat < n9_4 → (d8 = sumN (dgT (dW g_now) g_rest (c7).toNat) (d9).toNat) → va_P G vwCl [(y, .inr (9, [.int (zI (i 0)), .ref (q 0), .int (zI (i 1)), .int (zI (i 2)), .int (zI (i 3)), .int (zI (i 4)), .int (zI (i 5)), .int (zI (i 6)), .int (zI (i 7)), .int (zI (i 8)), .int (zI (i 9)), .int (zI (i 10)), .ref (q 1), .int (zI (i 11)), .int (zI (i 12)), .ref (q 2), .ref (q 3), .ref (q 4), .ref (q 5), .ref (q 6), .ref (q 7), .ref (q 8), .ref (q 9), .ref (q 10), .ref (q 11), .ref (q 12), .ref (q 13), .ref (q 14), .ref (q 15), .ref (q 16), .int (zI (i 13)), .int (zI (i 14)), .int (zI (i 15)), .int (zI (i 16)), .int (zI (i 17)), .int (zI (i 18)), .ref (q 17), .ref (q 18), .ref (q 19), .ref (q 20)])), ((q 3), .inl (cI, 200, .inl (fun k => zI (g_now k)))), ((q 17), .inl (cI, 20, .inl (fun k => zI (g_rest k))))] H → va_D A [(y, .inr (9, [.int (zI (i 0)), .ref (q 0), .int (zI (i 1)), .int (zI (i 2)), .int (zI (i 3)), .int (zI (i 4)), .int (zI (i 5)), .int (zI (i 6)), .int (zI (i 7)), .int (zI (i 8)), .int (zI (i 9)), .int (zI (i 10)), .ref (q 1), .int (zI (i 11)), .int (zI (i 12)), .ref (q 2), .ref (q 3), .ref (q 4), .ref (q 5), .ref (q 6), .ref (q 7), .ref (q 8), .ref (q 9), .ref (q 10), .ref (q 11), .ref (q 12), .ref (q 13), .ref (q 14), .ref (q 15), .ref (q 16), .int (zI (i 13)), .int (zI (i 14)), .int (zI (i 15)), .int (zI (i 16)), .int (zI (i 17)), .int (zI (i 18)), .ref (q 17), .ref (q 18), .ref (q 19), .ref (q 20)])), ((q 3), .inl (cI, 200, .inl (fun k => zI (g_now k)))), ((q 17), .inl (cI, 20, .inl (fun k => zI (g_rest k))))] → va_S A s.heap H locs → ∀ ls : Array Slot, lv_has ls 10 [(9, .int (zI d9)), (8, .int (zI d8)), (7, .int (zI c7)), (6, .int (zI c6)), (5, .int (zI c5)), (4, .int (zI b4)), (3, .int (zI b3)), (2, .int (zI v2)), (0, .ref y), (1, .int (zI x))] → W p l e rm_X9_isEvenX s m ([.ref y, .int (zI x)] : List Value).toArray below meth c H locs 0 0 Q (F0 m 175 ls [])) ((20 - 0 : Int).toNat + 1) 0 0 _ _ (by omega) (by omega) rfl hP hD hS ls hl
                  clear hP hD hS hl ls
                  intro n9_4
                  induction n9_4 with
                  | zero =>
                    intro d8 d9 H locs hI hM
                    exact absurd hM (by omega)
                  | succ n9_4 ih4 =>
                    intro d8 d9 H locs hI4 hM4 hd8 hP hD hS ls hl
                    refine lv_iload hx hb dX9_isEven_175 (lv_at hl 0 rfl) ?_
                    refine lv_iconst (v := zI 2) hx hb dX9_isEven_177 rfl ?_
                    refine lv_aload_n hx hb dX9_isEven_178 rfl (lv_at hl 8 rfl) ?_
                    refine r_get F hK hP 0 30 rfl rfl in_X9 (by decide) k_1193 rfl dX9_isEven_179 ?_
                    refine r_imul (v := zI (2 * (i 13))) F dX9_isEven_182 (zI_mul _ _) ?_
                    refine rz_icmp_ge (tgt := 253) F (by omega) (by omega) dX9_isEven_183 (by decide) (fun h183_13 => ?_) (fun h183_13 => ?_)
                    · refine lv_iload hx hb dX9_isEven_253 (lv_at hl 1 rfl) ?_
                      have hdv : d8 = (dgS (dW g_now) g_rest 20) (c7).toNat := by have q9 := hd8; rw [show d9 = 2 * i 13 by omega] at q9; exact q9.trans (dgS_2n (by omega) hRs hLr)
                      refine rz_if_ne (tgt := 261) F (by omega) dX9_isEven_255 (by decide) (fun h255_14 => ?_) (fun h255_14 => ?_)
                      · refine lv_iload hx hb dX9_isEven_261 (lv_at hl 1 rfl) ?_
                        refine lv_iconst (v := zI 1) hx hb dX9_isEven_263 rfl ?_
                        refine rz_icmp_ne (tgt := 279) F (by omega) (by omega) dX9_isEven_264 (by decide) (fun h264_15 => ?_) (fun h264_15 => ?_)
                        · refine lv_iload hx hb dX9_isEven_279 (lv_at hl 1 rfl) ?_
                          refine lv_iconst (v := zI (-1)) hx hb dX9_isEven_281 rfl ?_
                          refine rz_icmp_ne (tgt := 291) F (by omega) (by omega) dX9_isEven_282 (by decide) (fun h282_16 => ?_) (fun h282_16 => ?_)
                          · refine lv_iconst (v := zI 0) hx hb dX9_isEven_291 rfl ?_
                            exact ret (zI 0) (fun k => [((fun _ => 0), fun _ _ => 0)].getD k (fun _ => 0, fun _ _ => 0)) _ _ _ _ _ _ rfl ⟨0, rfl, ⟨by omega, fun q9 => absurd q9 (by decide), fun q9 => absurd q9.2 (DgF.no (k := (c7).toNat) (by omega) (fun q8 => by rw [← hdv] at q8; omega))⟩⟩ (bw_subP (isC := [0, 1, 2]) hP rfl) (hD.sub [0, 1, 2] (by decide) rfl) hS (Nat.le_of_ble_eq_true rfl) (Nat.le_of_ble_eq_true rfl) dX9_isEven_292
                          · refine lv_iinc (v := zI (c6 + 1)) (lv' := [(6, .int (zI (c6 + 1))), (9, .int (zI d9)), (8, .int (zI d8)), (7, .int (zI c7)), (5, .int (zI c5)), (4, .int (zI b4)), (3, .int (zI b3)), (2, .int (zI v2)), (0, .ref y), (1, .int (zI x))]) hx hb dX9_isEven_285 hl (k := 3) rfl (zI_add _ _) (by decide) rfl (fun ls hl => ?_)
                            refine lv_goto (tgt := 293) hx hb dX9_isEven_288 (by decide) ?_
                            refine lv_iinc (v := zI (c7 + 1)) (lv' := [(7, .int (zI (c7 + 1))), (6, .int (zI (c6 + 1))), (9, .int (zI d9)), (8, .int (zI d8)), (5, .int (zI c5)), (4, .int (zI b4)), (3, .int (zI b3)), (2, .int (zI v2)), (0, .ref y), (1, .int (zI x))]) hx hb dX9_isEven_293 hl (k := 3) rfl (zI_add _ _) (by decide) rfl (fun ls hl => ?_)
                            refine lv_goto (tgt := 160) hx hb dX9_isEven_296 (by decide) ?_
                            exact ih3 c5 (c6 + 1) (c7 + 1) _ _ (by omega) (by omega) (DgI.step hdi (by omega) (by rw [← hdv]; omega)) hP hD hS ls (lv_sub hl [0, 1, 4, 5, 6, 7, 8, 9] rfl)
                        · refine lv_iload hx hb dX9_isEven_267 (lv_at hl 2 rfl) ?_
                          refine lv_iload_n hx hb dX9_isEven_269 rfl (lv_at hl 9 rfl) ?_
                          refine rz_icmp_ne (tgt := 279) F (by omega) (by omega) dX9_isEven_270 (by decide) (fun h270_17 => ?_) (fun h270_17 => ?_)
                          · refine lv_iload hx hb dX9_isEven_279 (lv_at hl 1 rfl) ?_
                            refine lv_iconst (v := zI (-1)) hx hb dX9_isEven_281 rfl ?_
                            refine rz_icmp_ne (tgt := 291) F (by omega) (by omega) dX9_isEven_282 (by decide) (fun h282_18 => ?_) (fun h282_18 => ?_)
                            · refine lv_iconst (v := zI 0) hx hb dX9_isEven_291 rfl ?_
                              exact ret (zI 0) (fun k => [((fun _ => 0), fun _ _ => 0)].getD k (fun _ => 0, fun _ _ => 0)) _ _ _ _ _ _ rfl ⟨0, rfl, ⟨by omega, fun q9 => absurd q9 (by decide), fun q9 => absurd q9.2 (DgF.no (k := (c7).toNat) (by omega) (fun q8 => by rw [← hdv] at q8; omega))⟩⟩ (bw_subP (isC := [0, 1, 2]) hP rfl) (hD.sub [0, 1, 2] (by decide) rfl) hS (Nat.le_of_ble_eq_true rfl) (Nat.le_of_ble_eq_true rfl) dX9_isEven_292
                            · refine lv_iinc (v := zI (c6 + 1)) (lv' := [(6, .int (zI (c6 + 1))), (9, .int (zI d9)), (8, .int (zI d8)), (7, .int (zI c7)), (5, .int (zI c5)), (4, .int (zI b4)), (3, .int (zI b3)), (2, .int (zI v2)), (0, .ref y), (1, .int (zI x))]) hx hb dX9_isEven_285 hl (k := 3) rfl (zI_add _ _) (by decide) rfl (fun ls hl => ?_)
                              refine lv_goto (tgt := 293) hx hb dX9_isEven_288 (by decide) ?_
                              refine lv_iinc (v := zI (c7 + 1)) (lv' := [(7, .int (zI (c7 + 1))), (6, .int (zI (c6 + 1))), (9, .int (zI d9)), (8, .int (zI d8)), (5, .int (zI c5)), (4, .int (zI b4)), (3, .int (zI b3)), (2, .int (zI v2)), (0, .ref y), (1, .int (zI x))]) hx hb dX9_isEven_293 hl (k := 3) rfl (zI_add _ _) (by decide) rfl (fun ls hl => ?_)
                              refine lv_goto (tgt := 160) hx hb dX9_isEven_296 (by decide) ?_
                              exact ih3 c5 (c6 + 1) (c7 + 1) _ _ (by omega) (by omega) (DgI.step hdi (by omega) (by rw [← hdv]; omega)) hP hD hS ls (lv_sub hl [0, 1, 4, 5, 6, 7, 8, 9] rfl)
                          · refine lv_iinc (v := zI (c5 + 1)) (lv' := [(5, .int (zI (c5 + 1))), (9, .int (zI d9)), (8, .int (zI d8)), (7, .int (zI c7)), (6, .int (zI c6)), (4, .int (zI b4)), (3, .int (zI b3)), (2, .int (zI v2)), (0, .ref y), (1, .int (zI x))]) hx hb dX9_isEven_273 hl (k := 4) rfl (zI_add _ _) (by decide) rfl (fun ls hl => ?_)
                            refine lv_goto (tgt := 293) hx hb dX9_isEven_276 (by decide) ?_
                            refine lv_iinc (v := zI (c7 + 1)) (lv' := [(7, .int (zI (c7 + 1))), (5, .int (zI (c5 + 1))), (9, .int (zI d9)), (8, .int (zI d8)), (6, .int (zI c6)), (4, .int (zI b4)), (3, .int (zI b3)), (2, .int (zI v2)), (0, .ref y), (1, .int (zI x))]) hx hb dX9_isEven_293 hl (k := 3) rfl (zI_add _ _) (by decide) rfl (fun ls hl => ?_)
                            refine lv_goto (tgt := 160) hx hb dX9_isEven_296 (by decide) ?_
                            exact ih3 (c5 + 1) c6 (c7 + 1) _ _ (by omega) (by omega) (DgI.step hdi (by omega) (by rw [← hdv]; omega)) hP hD hS ls (lv_sub hl [0, 4, 1, 5, 6, 7, 8, 9] rfl)
                      · refine lv_goto (tgt := 293) hx hb dX9_isEven_258 (by decide) ?_
                        refine lv_iinc (v := zI (c7 + 1)) (lv' := [(7, .int (zI (c7 + 1))), (9, .int (zI d9)), (8, .int (zI d8)), (6, .int (zI c6)), (5, .int (zI c5)), (4, .int (zI b4)), (3, .int (zI b3)), (2, .int (zI v2)), (0, .ref y), (1, .int (zI x))]) hx hb dX9_isEven_293 hl (k := 2) rfl (zI_add _ _) (by decide) rfl (fun ls hl => ?_)
                        refine lv_goto (tgt := 160) hx hb dX9_isEven_296 (by decide) ?_
                        exact ih3 c5 c6 (c7 + 1) _ _ (by omega) (by omega) (DgI.step hdi (by omega) (by rw [← hdv]; omega)) hP hD hS ls (lv_sub hl [0, 3, 4, 5, 6, 7, 8, 9] rfl)
                    · refine lv_iload hx hb dX9_isEven_186 (lv_at hl 1 rfl) ?_
                      refine lv_iload hx hb dX9_isEven_188 (lv_at hl 0 rfl) ?_
                      refine lv_iconst (v := zI 2) hx hb dX9_isEven_190 rfl ?_
                      refine rz_idiv F (by omega) (by omega) dX9_isEven_191 (fun z21 h_z21 => ?_)
                      obtain ⟨rfl, hd22⟩ := h_z21
                      refine lv_iload hx hb dX9_isEven_192 (lv_at hl 2 rfl) ?_
                      refine rz_icmp_ne (tgt := 207) F (by omega) (by omega) dX9_isEven_194 (by decide) (fun h194_22 => ?_) (fun h194_22 => ?_)
                      · refine lv_iconst (v := zI 0) hx hb dX9_isEven_207 rfl ?_
                        refine lv_aload_n hx hb dX9_isEven_208 rfl (lv_at hl 8 rfl) ?_
                        refine r_get F hK hP 0 36 rfl rfl in_X9 (by decide) k_1199 rfl dX9_isEven_209 ?_
                        refine lv_iload hx hb dX9_isEven_212 (lv_at hl 0 rfl) ?_
                        refine rz_iald F hK hP 2 0 rfl rfl (by omega) (by omega) dX9_isEven_214 ?_
                        have h_l214_23 := hr_rest (d9).toNat (by omega)
                        refine rz_if_le (tgt := 242) F (by omega) dX9_isEven_215 (by decide) (fun h215_24 => ?_) (fun h215_24 => ?_)
                        · refine lv_iconst (v := zI 0) hx hb dX9_isEven_242 rfl ?_
                          refine r_isub (v := zI (0 - 0)) F dX9_isEven_243 (zI_sub _ _) ?_
                          refine r_iadd (v := zI (d8 + (0 - 0))) F dX9_isEven_244 (zI_add _ _) ?_
                          refine lv_istore (lv' := [(8, .int (zI (d8 + (0 - 0)))), (9, .int (zI d9)), (7, .int (zI c7)), (6, .int (zI c6)), (5, .int (zI c5)), (4, .int (zI b4)), (3, .int (zI b3)), (2, .int (zI v2)), (0, .ref y), (1, .int (zI x))]) hx hb dX9_isEven_245 hl (by decide) rfl (fun ls hl => ?_)
                          refine lv_iinc (v := zI (d9 + 1)) (lv' := [(9, .int (zI (d9 + 1))), (8, .int (zI (d8 + (0 - 0)))), (7, .int (zI c7)), (6, .int (zI c6)), (5, .int (zI c5)), (4, .int (zI b4)), (3, .int (zI b3)), (2, .int (zI v2)), (0, .ref y), (1, .int (zI x))]) hx hb dX9_isEven_247 hl (k := 1) rfl (zI_add _ _) (by decide) rfl (fun ls hl => ?_)
                          refine lv_goto (tgt := 175) hx hb dX9_isEven_250 (by decide) ?_
                          exact ih4 (d8 + (0 - 0)) (d9 + 1) _ _ (by omega) (by omega) (sumN_step (f := dgT (dW g_now) g_rest (c7).toNat) (by omega) hd8 (by have q9 := hr_rest (d9).toNat (by omega); unfold dgT; (repeat' split) <;> omega)) hP hD hS ls (lv_sub hl [0, 1, 2, 3, 4, 5, 6, 7, 8, 9] rfl)
                        · refine lv_aload_n hx hb dX9_isEven_218 rfl (lv_at hl 8 rfl) ?_
                          refine r_get F hK hP 0 16 rfl rfl in_X9 (by decide) k_1179 rfl dX9_isEven_219 ?_
                          refine lv_iload hx hb dX9_isEven_222 (lv_at hl 0 rfl) ?_
                          refine r_callSi (As := [.ref (q 3), .int (zI d9)]) (rest := [.int (zI 0), .int (zI d8)]) (wr := [(y, .inr (9, [.int (zI (i 0)), .ref (q 0), .int (zI (i 1)), .int (zI (i 2)), .int (zI (i 3)), .int (zI (i 4)), .int (zI (i 5)), .int (zI (i 6)), .int (zI (i 7)), .int (zI (i 8)), .int (zI (i 9)), .int (zI (i 10)), .ref (q 1), .int (zI (i 11)), .int (zI (i 12)), .ref (q 2), .ref (q 3), .ref (q 4), .ref (q 5), .ref (q 6), .ref (q 7), .ref (q 8), .ref (q 9), .ref (q 10), .ref (q 11), .ref (q 12), .ref (q 13), .ref (q 14), .ref (q 15), .ref (q 16), .int (zI (i 13)), .int (zI (i 14)), .int (zI (i 15)), .int (zI (i 16)), .int (zI (i 17)), .int (zI (i 18)), .ref (q 17), .ref (q 18), .ref (q 19), .ref (q 20)])), ((q 17), .inl (cI, 20, .inl (fun k => zI (g_rest k))))]) F hK hP hD hS hA hO hE (c_X9_gtX hO (q 3) g_now d9 (by omega) hpn (by omega)) k_1578 ks_X9_goesTo 2 rfl (by decide +kernel) ⟨Nat.le_of_ble_eq_true rfl, Nat.le_of_ble_eq_true rfl⟩ [1] [0, 2] rfl rfl (by decide) (by decide) (by decide) hl.1 rfl (Nat.le_of_ble_eq_true rfl) dX9_isEven_224 ⟨Nat.le_of_ble_eq_true rfl, Nat.le_of_ble_eq_true rfl⟩ (w1 := fun u26 => [(y, .inr (9, [.int (zI (i 0)), .ref (q 0), .int (zI (i 1)), .int (zI (i 2)), .int (zI (i 3)), .int (zI (i 4)), .int (zI (i 5)), .int (zI (i 6)), .int (zI (i 7)), .int (zI (i 8)), .int (zI (i 9)), .int (zI (i 10)), .ref (q 1), .int (zI (i 11)), .int (zI (i 12)), .ref (q 2), .ref (q 3), .ref (q 4), .ref (q 5), .ref (q 6), .ref (q 7), .ref (q 8), .ref (q 9), .ref (q 10), .ref (q 11), .ref (q 12), .ref (q 13), .ref (q 14), .ref (q 15), .ref (q 16), .int (zI (i 13)), .int (zI (i 14)), .int (zI (i 15)), .int (zI (i 16)), .int (zI (i 17)), .int (zI (i 18)), .ref (q 17), .ref (q 18), .ref (q 19), .ref (q 20)])), ((q 17), .inl (cI, 20, .inl (fun k => zI (g_rest k)))), ((q 3), .inl (cI, 200, .inl (fun k => zI (g_now k))))]) (fun _ => rfl) (fun r27 u26 H locs hp28 hP hD hS => ?_)
                          obtain ⟨z29, rfl, h_z29⟩ := hp28
                          have hgt30 := h_z29
                          refine lv_iload hx hb dX9_isEven_227 (lv_at hl 2 rfl) ?_
                          refine rz_icmp_ne (tgt := 242) F (by omega) (by omega) dX9_isEven_229 (by decide) (fun h229_30 => ?_) (fun h229_30 => ?_)
                          · refine lv_iconst (v := zI 0) hx hb dX9_isEven_242 rfl ?_
                            refine r_isub (v := zI (0 - 0)) F dX9_isEven_243 (zI_sub _ _) ?_
                            refine r_iadd (v := zI (d8 + (0 - 0))) F dX9_isEven_244 (zI_add _ _) ?_
                            refine lv_istore (lv' := [(8, .int (zI (d8 + (0 - 0)))), (9, .int (zI d9)), (7, .int (zI c7)), (6, .int (zI c6)), (5, .int (zI c5)), (4, .int (zI b4)), (3, .int (zI b3)), (2, .int (zI v2)), (0, .ref y), (1, .int (zI x))]) hx hb dX9_isEven_245 hl (by decide) rfl (fun ls hl => ?_)
                            refine lv_iinc (v := zI (d9 + 1)) (lv' := [(9, .int (zI (d9 + 1))), (8, .int (zI (d8 + (0 - 0)))), (7, .int (zI c7)), (6, .int (zI c6)), (5, .int (zI c5)), (4, .int (zI b4)), (3, .int (zI b3)), (2, .int (zI v2)), (0, .ref y), (1, .int (zI x))]) hx hb dX9_isEven_247 hl (k := 1) rfl (zI_add _ _) (by decide) rfl (fun ls hl => ?_)
                            refine lv_goto (tgt := 175) hx hb dX9_isEven_250 (by decide) ?_
                            have hP := bw_subP (isC := [0, 2, 1]) (wc := [(y, .inr (9, [.int (zI (i 0)), .ref (q 0), .int (zI (i 1)), .int (zI (i 2)), .int (zI (i 3)), .int (zI (i 4)), .int (zI (i 5)), .int (zI (i 6)), .int (zI (i 7)), .int (zI (i 8)), .int (zI (i 9)), .int (zI (i 10)), .ref (q 1), .int (zI (i 11)), .int (zI (i 12)), .ref (q 2), .ref (q 3), .ref (q 4), .ref (q 5), .ref (q 6), .ref (q 7), .ref (q 8), .ref (q 9), .ref (q 10), .ref (q 11), .ref (q 12), .ref (q 13), .ref (q 14), .ref (q 15), .ref (q 16), .int (zI (i 13)), .int (zI (i 14)), .int (zI (i 15)), .int (zI (i 16)), .int (zI (i 17)), .int (zI (i 18)), .ref (q 17), .ref (q 18), .ref (q 19), .ref (q 20)])), ((q 3), .inl (cI, 200, .inl (fun k => zI (g_now k)))), ((q 17), .inl (cI, 20, .inl (fun k => zI (g_rest k))))]) hP rfl
                            have hD := hD.sub (ws' := [(y, .inr (9, [.int (zI (i 0)), .ref (q 0), .int (zI (i 1)), .int (zI (i 2)), .int (zI (i 3)), .int (zI (i 4)), .int (zI (i 5)), .int (zI (i 6)), .int (zI (i 7)), .int (zI (i 8)), .int (zI (i 9)), .int (zI (i 10)), .ref (q 1), .int (zI (i 11)), .int (zI (i 12)), .ref (q 2), .ref (q 3), .ref (q 4), .ref (q 5), .ref (q 6), .ref (q 7), .ref (q 8), .ref (q 9), .ref (q 10), .ref (q 11), .ref (q 12), .ref (q 13), .ref (q 14), .ref (q 15), .ref (q 16), .int (zI (i 13)), .int (zI (i 14)), .int (zI (i 15)), .int (zI (i 16)), .int (zI (i 17)), .int (zI (i 18)), .ref (q 17), .ref (q 18), .ref (q 19), .ref (q 20)])), ((q 3), .inl (cI, 200, .inl (fun k => zI (g_now k)))), ((q 17), .inl (cI, 20, .inl (fun k => zI (g_rest k))))]) [0, 2, 1] (by decide) rfl
                            exact ih4 (d8 + (0 - 0)) (d9 + 1) _ _ (by omega) (by omega) (sumN_step (f := dgT (dW g_now) g_rest (c7).toNat) (by omega) hd8 (by have q9 := hr_rest (d9).toNat (by omega); have q8 : dW g_now (d9).toNat = (z29).toNat := (by unfold dW; rw [show (((d9).toNat : Nat) : Int) = d9 by omega, hgt30.1]); unfold dgT; (repeat' split) <;> omega)) hP hD hS ls (lv_sub hl [0, 1, 2, 3, 4, 5, 6, 7, 8, 9] rfl)
                          · refine lv_aload_n hx hb dX9_isEven_232 rfl (lv_at hl 8 rfl) ?_
                            refine r_get F hK hP 0 36 rfl rfl in_X9 (by decide) k_1199 rfl dX9_isEven_233 ?_
                            refine lv_iload hx hb dX9_isEven_236 (lv_at hl 0 rfl) ?_
                            refine rz_iald F hK hP 1 0 rfl rfl (by omega) (by omega) dX9_isEven_238 ?_
                            have h_l238_31 := hr_rest (d9).toNat (by omega)
                            refine lv_goto (tgt := 243) hx hb dX9_isEven_239 (by decide) ?_
                            refine r_isub (v := zI (0 - (g_rest (d9).toNat))) F dX9_isEven_243 (zI_sub _ _) ?_
                            refine r_iadd (v := zI (d8 + (0 - (g_rest (d9).toNat)))) F dX9_isEven_244 (zI_add _ _) ?_
                            refine lv_istore (lv' := [(8, .int (zI (d8 + (0 - (g_rest (d9).toNat))))), (9, .int (zI d9)), (7, .int (zI c7)), (6, .int (zI c6)), (5, .int (zI c5)), (4, .int (zI b4)), (3, .int (zI b3)), (2, .int (zI v2)), (0, .ref y), (1, .int (zI x))]) hx hb dX9_isEven_245 hl (by decide) rfl (fun ls hl => ?_)
                            refine lv_iinc (v := zI (d9 + 1)) (lv' := [(9, .int (zI (d9 + 1))), (8, .int (zI (d8 + (0 - (g_rest (d9).toNat))))), (7, .int (zI c7)), (6, .int (zI c6)), (5, .int (zI c5)), (4, .int (zI b4)), (3, .int (zI b3)), (2, .int (zI v2)), (0, .ref y), (1, .int (zI x))]) hx hb dX9_isEven_247 hl (k := 1) rfl (zI_add _ _) (by decide) rfl (fun ls hl => ?_)
                            refine lv_goto (tgt := 175) hx hb dX9_isEven_250 (by decide) ?_
                            have hP := bw_subP (isC := [0, 2, 1]) (wc := [(y, .inr (9, [.int (zI (i 0)), .ref (q 0), .int (zI (i 1)), .int (zI (i 2)), .int (zI (i 3)), .int (zI (i 4)), .int (zI (i 5)), .int (zI (i 6)), .int (zI (i 7)), .int (zI (i 8)), .int (zI (i 9)), .int (zI (i 10)), .ref (q 1), .int (zI (i 11)), .int (zI (i 12)), .ref (q 2), .ref (q 3), .ref (q 4), .ref (q 5), .ref (q 6), .ref (q 7), .ref (q 8), .ref (q 9), .ref (q 10), .ref (q 11), .ref (q 12), .ref (q 13), .ref (q 14), .ref (q 15), .ref (q 16), .int (zI (i 13)), .int (zI (i 14)), .int (zI (i 15)), .int (zI (i 16)), .int (zI (i 17)), .int (zI (i 18)), .ref (q 17), .ref (q 18), .ref (q 19), .ref (q 20)])), ((q 3), .inl (cI, 200, .inl (fun k => zI (g_now k)))), ((q 17), .inl (cI, 20, .inl (fun k => zI (g_rest k))))]) hP rfl
                            have hD := hD.sub (ws' := [(y, .inr (9, [.int (zI (i 0)), .ref (q 0), .int (zI (i 1)), .int (zI (i 2)), .int (zI (i 3)), .int (zI (i 4)), .int (zI (i 5)), .int (zI (i 6)), .int (zI (i 7)), .int (zI (i 8)), .int (zI (i 9)), .int (zI (i 10)), .ref (q 1), .int (zI (i 11)), .int (zI (i 12)), .ref (q 2), .ref (q 3), .ref (q 4), .ref (q 5), .ref (q 6), .ref (q 7), .ref (q 8), .ref (q 9), .ref (q 10), .ref (q 11), .ref (q 12), .ref (q 13), .ref (q 14), .ref (q 15), .ref (q 16), .int (zI (i 13)), .int (zI (i 14)), .int (zI (i 15)), .int (zI (i 16)), .int (zI (i 17)), .int (zI (i 18)), .ref (q 17), .ref (q 18), .ref (q 19), .ref (q 20)])), ((q 3), .inl (cI, 200, .inl (fun k => zI (g_now k)))), ((q 17), .inl (cI, 20, .inl (fun k => zI (g_rest k))))]) [0, 2, 1] (by decide) rfl
                            exact ih4 (d8 + (0 - (g_rest (d9).toNat))) (d9 + 1) _ _ (by omega) (by omega) (sumN_step (f := dgT (dW g_now) g_rest (c7).toNat) (by omega) hd8 (by have q9 := hr_rest (d9).toNat (by omega); have q8 : dW g_now (d9).toNat = (z29).toNat := (by unfold dW; rw [show (((d9).toNat : Nat) : Int) = d9 by omega, hgt30.1]); unfold dgT; (repeat' split) <;> omega)) hP hD hS ls (lv_sub hl [0, 1, 2, 3, 4, 5, 6, 7, 8, 9] rfl)
                      · refine lv_aload_n hx hb dX9_isEven_197 rfl (lv_at hl 8 rfl) ?_
                        refine r_get F hK hP 0 36 rfl rfl in_X9 (by decide) k_1199 rfl dX9_isEven_198 ?_
                        refine lv_iload hx hb dX9_isEven_201 (lv_at hl 0 rfl) ?_
                        refine rz_iald F hK hP 2 0 rfl rfl (by omega) (by omega) dX9_isEven_203 ?_
                        have h_l203_32 := hr_rest (d9).toNat (by omega)
                        refine lv_goto (tgt := 208) hx hb dX9_isEven_204 (by decide) ?_
                        refine lv_aload_n hx hb dX9_isEven_208 rfl (lv_at hl 8 rfl) ?_
                        refine r_get F hK hP 0 36 rfl rfl in_X9 (by decide) k_1199 rfl dX9_isEven_209 ?_
                        refine lv_iload hx hb dX9_isEven_212 (lv_at hl 0 rfl) ?_
                        refine rz_iald F hK hP 2 0 rfl rfl (by omega) (by omega) dX9_isEven_214 ?_
                        have h_l214_33 := hr_rest (d9).toNat (by omega)
                        refine rz_if_le (tgt := 242) F (by omega) dX9_isEven_215 (by decide) (fun h215_34 => ?_) (fun h215_34 => ?_)
                        · refine lv_iconst (v := zI 0) hx hb dX9_isEven_242 rfl ?_
                          refine r_isub (v := zI ((g_rest (d9).toNat) - 0)) F dX9_isEven_243 (zI_sub _ _) ?_
                          refine r_iadd (v := zI (d8 + ((g_rest (d9).toNat) - 0))) F dX9_isEven_244 (zI_add _ _) ?_
                          refine lv_istore (lv' := [(8, .int (zI (d8 + ((g_rest (d9).toNat) - 0)))), (9, .int (zI d9)), (7, .int (zI c7)), (6, .int (zI c6)), (5, .int (zI c5)), (4, .int (zI b4)), (3, .int (zI b3)), (2, .int (zI v2)), (0, .ref y), (1, .int (zI x))]) hx hb dX9_isEven_245 hl (by decide) rfl (fun ls hl => ?_)
                          refine lv_iinc (v := zI (d9 + 1)) (lv' := [(9, .int (zI (d9 + 1))), (8, .int (zI (d8 + ((g_rest (d9).toNat) - 0)))), (7, .int (zI c7)), (6, .int (zI c6)), (5, .int (zI c5)), (4, .int (zI b4)), (3, .int (zI b3)), (2, .int (zI v2)), (0, .ref y), (1, .int (zI x))]) hx hb dX9_isEven_247 hl (k := 1) rfl (zI_add _ _) (by decide) rfl (fun ls hl => ?_)
                          refine lv_goto (tgt := 175) hx hb dX9_isEven_250 (by decide) ?_
                          exact ih4 (d8 + ((g_rest (d9).toNat) - 0)) (d9 + 1) _ _ (by omega) (by omega) (sumN_step (f := dgT (dW g_now) g_rest (c7).toNat) (by omega) hd8 (by have q9 := hr_rest (d9).toNat (by omega); unfold dgT; (repeat' split) <;> omega)) hP hD hS ls (lv_sub hl [0, 1, 2, 3, 4, 5, 6, 7, 8, 9] rfl)
                        · refine lv_aload_n hx hb dX9_isEven_218 rfl (lv_at hl 8 rfl) ?_
                          refine r_get F hK hP 0 16 rfl rfl in_X9 (by decide) k_1179 rfl dX9_isEven_219 ?_
                          refine lv_iload hx hb dX9_isEven_222 (lv_at hl 0 rfl) ?_
                          refine r_callSi (As := [.ref (q 3), .int (zI d9)]) (rest := [.int (zI (g_rest (d9).toNat)), .int (zI d8)]) (wr := [(y, .inr (9, [.int (zI (i 0)), .ref (q 0), .int (zI (i 1)), .int (zI (i 2)), .int (zI (i 3)), .int (zI (i 4)), .int (zI (i 5)), .int (zI (i 6)), .int (zI (i 7)), .int (zI (i 8)), .int (zI (i 9)), .int (zI (i 10)), .ref (q 1), .int (zI (i 11)), .int (zI (i 12)), .ref (q 2), .ref (q 3), .ref (q 4), .ref (q 5), .ref (q 6), .ref (q 7), .ref (q 8), .ref (q 9), .ref (q 10), .ref (q 11), .ref (q 12), .ref (q 13), .ref (q 14), .ref (q 15), .ref (q 16), .int (zI (i 13)), .int (zI (i 14)), .int (zI (i 15)), .int (zI (i 16)), .int (zI (i 17)), .int (zI (i 18)), .ref (q 17), .ref (q 18), .ref (q 19), .ref (q 20)])), ((q 17), .inl (cI, 20, .inl (fun k => zI (g_rest k))))]) F hK hP hD hS hA hO hE (c_X9_gtX hO (q 3) g_now d9 (by omega) hpn (by omega)) k_1578 ks_X9_goesTo 2 rfl (by decide +kernel) ⟨Nat.le_of_ble_eq_true rfl, Nat.le_of_ble_eq_true rfl⟩ [1] [0, 2] rfl rfl (by decide) (by decide) (by decide) hl.1 rfl (Nat.le_of_ble_eq_true rfl) dX9_isEven_224 ⟨Nat.le_of_ble_eq_true rfl, Nat.le_of_ble_eq_true rfl⟩ (w1 := fun u36 => [(y, .inr (9, [.int (zI (i 0)), .ref (q 0), .int (zI (i 1)), .int (zI (i 2)), .int (zI (i 3)), .int (zI (i 4)), .int (zI (i 5)), .int (zI (i 6)), .int (zI (i 7)), .int (zI (i 8)), .int (zI (i 9)), .int (zI (i 10)), .ref (q 1), .int (zI (i 11)), .int (zI (i 12)), .ref (q 2), .ref (q 3), .ref (q 4), .ref (q 5), .ref (q 6), .ref (q 7), .ref (q 8), .ref (q 9), .ref (q 10), .ref (q 11), .ref (q 12), .ref (q 13), .ref (q 14), .ref (q 15), .ref (q 16), .int (zI (i 13)), .int (zI (i 14)), .int (zI (i 15)), .int (zI (i 16)), .int (zI (i 17)), .int (zI (i 18)), .ref (q 17), .ref (q 18), .ref (q 19), .ref (q 20)])), ((q 17), .inl (cI, 20, .inl (fun k => zI (g_rest k)))), ((q 3), .inl (cI, 200, .inl (fun k => zI (g_now k))))]) (fun _ => rfl) (fun r37 u36 H locs hp38 hP hD hS => ?_)
                          obtain ⟨z39, rfl, h_z39⟩ := hp38
                          have hgt40 := h_z39
                          refine lv_iload hx hb dX9_isEven_227 (lv_at hl 2 rfl) ?_
                          refine rz_icmp_ne (tgt := 242) F (by omega) (by omega) dX9_isEven_229 (by decide) (fun h229_40 => ?_) (fun h229_40 => ?_)
                          · refine lv_iconst (v := zI 0) hx hb dX9_isEven_242 rfl ?_
                            refine r_isub (v := zI ((g_rest (d9).toNat) - 0)) F dX9_isEven_243 (zI_sub _ _) ?_
                            refine r_iadd (v := zI (d8 + ((g_rest (d9).toNat) - 0))) F dX9_isEven_244 (zI_add _ _) ?_
                            refine lv_istore (lv' := [(8, .int (zI (d8 + ((g_rest (d9).toNat) - 0)))), (9, .int (zI d9)), (7, .int (zI c7)), (6, .int (zI c6)), (5, .int (zI c5)), (4, .int (zI b4)), (3, .int (zI b3)), (2, .int (zI v2)), (0, .ref y), (1, .int (zI x))]) hx hb dX9_isEven_245 hl (by decide) rfl (fun ls hl => ?_)
                            refine lv_iinc (v := zI (d9 + 1)) (lv' := [(9, .int (zI (d9 + 1))), (8, .int (zI (d8 + ((g_rest (d9).toNat) - 0)))), (7, .int (zI c7)), (6, .int (zI c6)), (5, .int (zI c5)), (4, .int (zI b4)), (3, .int (zI b3)), (2, .int (zI v2)), (0, .ref y), (1, .int (zI x))]) hx hb dX9_isEven_247 hl (k := 1) rfl (zI_add _ _) (by decide) rfl (fun ls hl => ?_)
                            refine lv_goto (tgt := 175) hx hb dX9_isEven_250 (by decide) ?_
                            have hP := bw_subP (isC := [0, 2, 1]) (wc := [(y, .inr (9, [.int (zI (i 0)), .ref (q 0), .int (zI (i 1)), .int (zI (i 2)), .int (zI (i 3)), .int (zI (i 4)), .int (zI (i 5)), .int (zI (i 6)), .int (zI (i 7)), .int (zI (i 8)), .int (zI (i 9)), .int (zI (i 10)), .ref (q 1), .int (zI (i 11)), .int (zI (i 12)), .ref (q 2), .ref (q 3), .ref (q 4), .ref (q 5), .ref (q 6), .ref (q 7), .ref (q 8), .ref (q 9), .ref (q 10), .ref (q 11), .ref (q 12), .ref (q 13), .ref (q 14), .ref (q 15), .ref (q 16), .int (zI (i 13)), .int (zI (i 14)), .int (zI (i 15)), .int (zI (i 16)), .int (zI (i 17)), .int (zI (i 18)), .ref (q 17), .ref (q 18), .ref (q 19), .ref (q 20)])), ((q 3), .inl (cI, 200, .inl (fun k => zI (g_now k)))), ((q 17), .inl (cI, 20, .inl (fun k => zI (g_rest k))))]) hP rfl
                            have hD := hD.sub (ws' := [(y, .inr (9, [.int (zI (i 0)), .ref (q 0), .int (zI (i 1)), .int (zI (i 2)), .int (zI (i 3)), .int (zI (i 4)), .int (zI (i 5)), .int (zI (i 6)), .int (zI (i 7)), .int (zI (i 8)), .int (zI (i 9)), .int (zI (i 10)), .ref (q 1), .int (zI (i 11)), .int (zI (i 12)), .ref (q 2), .ref (q 3), .ref (q 4), .ref (q 5), .ref (q 6), .ref (q 7), .ref (q 8), .ref (q 9), .ref (q 10), .ref (q 11), .ref (q 12), .ref (q 13), .ref (q 14), .ref (q 15), .ref (q 16), .int (zI (i 13)), .int (zI (i 14)), .int (zI (i 15)), .int (zI (i 16)), .int (zI (i 17)), .int (zI (i 18)), .ref (q 17), .ref (q 18), .ref (q 19), .ref (q 20)])), ((q 3), .inl (cI, 200, .inl (fun k => zI (g_now k)))), ((q 17), .inl (cI, 20, .inl (fun k => zI (g_rest k))))]) [0, 2, 1] (by decide) rfl
                            exact ih4 (d8 + ((g_rest (d9).toNat) - 0)) (d9 + 1) _ _ (by omega) (by omega) (sumN_step (f := dgT (dW g_now) g_rest (c7).toNat) (by omega) hd8 (by have q9 := hr_rest (d9).toNat (by omega); have q8 : dW g_now (d9).toNat = (z39).toNat := (by unfold dW; rw [show (((d9).toNat : Nat) : Int) = d9 by omega, hgt40.1]); unfold dgT; (repeat' split) <;> omega)) hP hD hS ls (lv_sub hl [0, 1, 2, 3, 4, 5, 6, 7, 8, 9] rfl)
                          · refine lv_aload_n hx hb dX9_isEven_232 rfl (lv_at hl 8 rfl) ?_
                            refine r_get F hK hP 0 36 rfl rfl in_X9 (by decide) k_1199 rfl dX9_isEven_233 ?_
                            refine lv_iload hx hb dX9_isEven_236 (lv_at hl 0 rfl) ?_
                            refine rz_iald F hK hP 1 0 rfl rfl (by omega) (by omega) dX9_isEven_238 ?_
                            have h_l238_41 := hr_rest (d9).toNat (by omega)
                            refine lv_goto (tgt := 243) hx hb dX9_isEven_239 (by decide) ?_
                            refine r_isub (v := zI ((g_rest (d9).toNat) - (g_rest (d9).toNat))) F dX9_isEven_243 (zI_sub _ _) ?_
                            refine r_iadd (v := zI (d8 + ((g_rest (d9).toNat) - (g_rest (d9).toNat)))) F dX9_isEven_244 (zI_add _ _) ?_
                            refine lv_istore (lv' := [(8, .int (zI (d8 + ((g_rest (d9).toNat) - (g_rest (d9).toNat))))), (9, .int (zI d9)), (7, .int (zI c7)), (6, .int (zI c6)), (5, .int (zI c5)), (4, .int (zI b4)), (3, .int (zI b3)), (2, .int (zI v2)), (0, .ref y), (1, .int (zI x))]) hx hb dX9_isEven_245 hl (by decide) rfl (fun ls hl => ?_)
                            refine lv_iinc (v := zI (d9 + 1)) (lv' := [(9, .int (zI (d9 + 1))), (8, .int (zI (d8 + ((g_rest (d9).toNat) - (g_rest (d9).toNat))))), (7, .int (zI c7)), (6, .int (zI c6)), (5, .int (zI c5)), (4, .int (zI b4)), (3, .int (zI b3)), (2, .int (zI v2)), (0, .ref y), (1, .int (zI x))]) hx hb dX9_isEven_247 hl (k := 1) rfl (zI_add _ _) (by decide) rfl (fun ls hl => ?_)
                            refine lv_goto (tgt := 175) hx hb dX9_isEven_250 (by decide) ?_
                            have hP := bw_subP (isC := [0, 2, 1]) (wc := [(y, .inr (9, [.int (zI (i 0)), .ref (q 0), .int (zI (i 1)), .int (zI (i 2)), .int (zI (i 3)), .int (zI (i 4)), .int (zI (i 5)), .int (zI (i 6)), .int (zI (i 7)), .int (zI (i 8)), .int (zI (i 9)), .int (zI (i 10)), .ref (q 1), .int (zI (i 11)), .int (zI (i 12)), .ref (q 2), .ref (q 3), .ref (q 4), .ref (q 5), .ref (q 6), .ref (q 7), .ref (q 8), .ref (q 9), .ref (q 10), .ref (q 11), .ref (q 12), .ref (q 13), .ref (q 14), .ref (q 15), .ref (q 16), .int (zI (i 13)), .int (zI (i 14)), .int (zI (i 15)), .int (zI (i 16)), .int (zI (i 17)), .int (zI (i 18)), .ref (q 17), .ref (q 18), .ref (q 19), .ref (q 20)])), ((q 3), .inl (cI, 200, .inl (fun k => zI (g_now k)))), ((q 17), .inl (cI, 20, .inl (fun k => zI (g_rest k))))]) hP rfl
                            have hD := hD.sub (ws' := [(y, .inr (9, [.int (zI (i 0)), .ref (q 0), .int (zI (i 1)), .int (zI (i 2)), .int (zI (i 3)), .int (zI (i 4)), .int (zI (i 5)), .int (zI (i 6)), .int (zI (i 7)), .int (zI (i 8)), .int (zI (i 9)), .int (zI (i 10)), .ref (q 1), .int (zI (i 11)), .int (zI (i 12)), .ref (q 2), .ref (q 3), .ref (q 4), .ref (q 5), .ref (q 6), .ref (q 7), .ref (q 8), .ref (q 9), .ref (q 10), .ref (q 11), .ref (q 12), .ref (q 13), .ref (q 14), .ref (q 15), .ref (q 16), .int (zI (i 13)), .int (zI (i 14)), .int (zI (i 15)), .int (zI (i 16)), .int (zI (i 17)), .int (zI (i 18)), .ref (q 17), .ref (q 18), .ref (q 19), .ref (q 20)])), ((q 3), .inl (cI, 200, .inl (fun k => zI (g_now k)))), ((q 17), .inl (cI, 20, .inl (fun k => zI (g_rest k))))]) [0, 2, 1] (by decide) rfl
                            exact ih4 (d8 + ((g_rest (d9).toNat) - (g_rest (d9).toNat))) (d9 + 1) _ _ (by omega) (by omega) (sumN_step (f := dgT (dW g_now) g_rest (c7).toNat) (by omega) hd8 (by have q9 := hr_rest (d9).toNat (by omega); have q8 : dW g_now (d9).toNat = (z39).toNat := (by unfold dW; rw [show (((d9).toNat : Nat) : Int) = d9 by omega, hgt40.1]); unfold dgT; (repeat' split) <;> omega)) hP hD hS ls (lv_sub hl [0, 1, 2, 3, 4, 5, 6, 7, 8, 9] rfl)
            · refine lv_iconst (v := zI 0) hx hb dX9_isEven_149 rfl ?_
              exact ret (zI 0) (fun k => [((fun _ => 0), fun _ _ => 0)].getD k (fun _ => 0, fun _ _ => 0)) _ _ _ _ _ _ rfl ⟨0, rfl, ⟨by omega, fun q9 => absurd q9 (by decide), fun q9 => absurd (hqe.mpr q9.1) (by omega)⟩⟩ (bw_subP (isC := [0, 1, 2]) hP rfl) (hD.sub [0, 1, 2] (by decide) rfl) hS (Nat.le_of_ble_eq_true rfl) (Nat.le_of_ble_eq_true rfl) dX9_isEven_150
          · refine lv_iload_n hx hb dX9_isEven_76 rfl (lv_at hl 1 rfl) ?_
            refine lv_istore (lv' := [(4, .int (zI b3)), (3, .int (zI b3)), (2, .int (zI v2)), (0, .ref y), (1, .int (zI x))]) hx hb dX9_isEven_77 hl (by decide) rfl (fun ls hl => ?_)
            refine lv_iconst (v := zI 0) hx hb dX9_isEven_79 rfl ?_
            refine lv_istore (lv' := [(5, .int (zI 0)), (4, .int (zI b3)), (3, .int (zI b3)), (2, .int (zI v2)), (0, .ref y), (1, .int (zI x))]) hx hb dX9_isEven_80 hl (by decide) rfl (fun ls hl => ?_)
            refine W.widen (k := 0) (n := 0) (Nat.le_of_ble_eq_true rfl) (Nat.le_of_ble_eq_true rfl) ?_
            refine (?_ : ∀ (n9_3 : Nat) (w3 : Int) (w5 : Int) (H : Heap) (locs : List Loc), (b3 ≤ w3 ∧ w3 < 1024 ∧ 0 ≤ w5 ∧ w5 ≤ 2 * i 13) → (20 - w5 : Int).toNat < n9_3 → (Sw2 (EL g_rest) (dW g_now) (x).toNat (bN b3) (bN w3) w5) → va_P G vwCl [(y, .inr (9, [.int (zI (i 0)), .ref (q 0), .int (zI (i 1)), .int (zI (i 2)), .int (zI (i 3)), .int (zI (i 4)), .int (zI (i 5)), .int (zI (i 6)), .int (zI (i 7)), .int (zI (i 8)), .int (zI (i 9)), .int (zI (i 10)), .ref (q 1), .int (zI (i 11)), .int (zI (i 12)), .ref (q 2), .ref (q 3), .ref (q 4), .ref (q 5), .ref (q 6), .ref (q 7), .ref (q 8), .ref (q 9), .ref (q 10), .ref (q 11), .ref (q 12), .ref (q 13), .ref (q 14), .ref (q 15), .ref (q 16), .int (zI (i 13)), .int (zI (i 14)), .int (zI (i 15)), .int (zI (i 16)), .int (zI (i 17)), .int (zI (i 18)), .ref (q 17), .ref (q 18), .ref (q 19), .ref (q 20)])), ((q 3), .inl (cI, 200, .inl (fun k => zI (g_now k)))), ((q 17), .inl (cI, 20, .inl (fun k => zI (g_rest k))))] H → va_D A [(y, .inr (9, [.int (zI (i 0)), .ref (q 0), .int (zI (i 1)), .int (zI (i 2)), .int (zI (i 3)), .int (zI (i 4)), .int (zI (i 5)), .int (zI (i 6)), .int (zI (i 7)), .int (zI (i 8)), .int (zI (i 9)), .int (zI (i 10)), .ref (q 1), .int (zI (i 11)), .int (zI (i 12)), .ref (q 2), .ref (q 3), .ref (q 4), .ref (q 5), .ref (q 6), .ref (q 7), .ref (q 8), .ref (q 9), .ref (q 10), .ref (q 11), .ref (q 12), .ref (q 13), .ref (q 14), .ref (q 15), .ref (q 16), .int (zI (i 13)), .int (zI (i 14)), .int (zI (i 15)), .int (zI (i 16)), .int (zI (i 17)), .int (zI (i 18)), .ref (q 17), .ref (q 18), .ref (q 19), .ref (q 20)])), ((q 3), .inl (cI, 200, .inl (fun k => zI (g_now k)))), ((q 17), .inl (cI, 20, .inl (fun k => zI (g_rest k))))] → va_S A s.heap H locs → ∀ ls : Array Slot, lv_has ls 10 [(5, .int (zI w5)), (4, .int (zI b3)), (3, .int (zI w3)), (2, .int (zI v2)), (0, .ref y), (1, .int (zI x))] → W p l e rm_X9_isEvenX s m ([.ref y, .int (zI x)] : List Value).toArray below meth c H locs 0 0 Q (F0 m 82 ls [])) ((20 - 0 : Int).toNat + 1) b3 0 _ _ (by omega) (by omega) (Sw2.init hou.1 hou.2.1) hP hD hS ls hl
            clear hP hD hS hl ls
            intro n9_3
            induction n9_3 with
            | zero =>
              intro w3 w5 H locs hI hM
              exact absurd hM (by omega)
            | succ n9_3 ih3 =>
              intro w3 w5 H locs hI3 hM3 hsw hP hD hS ls hl
              refine lv_iload hx hb dX9_isEven_82 (lv_at hl 0 rfl) ?_
              refine lv_iconst (v := zI 2) hx hb dX9_isEven_84 rfl ?_
              refine lv_aload_n hx hb dX9_isEven_85 rfl (lv_at hl 4 rfl) ?_
              refine r_get F hK hP 0 30 rfl rfl in_X9 (by decide) k_1193 rfl dX9_isEven_86 ?_
              refine r_imul (v := zI (2 * (i 13))) F dX9_isEven_89 (zI_mul _ _) ?_
              refine rz_icmp_ge (tgt := 141) F (by omega) (by omega) dX9_isEven_90 (by decide) (fun h90_42 => ?_) (fun h90_42 => ?_)
              · refine lv_goto (tgt := 70) hx hb dX9_isEven_141 (by decide) ?_
                exact ih2 w3 b3 _ _ (by omega) (by omega) (OuR2.step hsw (fun w he => by have q := hRs.low hLr he; omega)) hP hD hS ls (lv_sub hl [1, 2, 3, 4, 5] rfl)
              · refine lv_iconst (v := zI 1) hx hb dX9_isEven_93 rfl ?_
                refine lv_iload hx hb dX9_isEven_94 (lv_at hl 0 rfl) ?_
                refine lv_iconst (v := zI 2) hx hb dX9_isEven_96 rfl ?_
                refine rz_idiv F (by omega) (by omega) dX9_isEven_97 (fun z45 h_z45 => ?_)
                obtain ⟨rfl, hd46⟩ := h_z45
                refine lv_ishl hx hb dX9_isEven_98 ?_
                obtain ⟨zc48, ec49, hc50, hbt51⟩ := sh_n (x := w5 / 2) (by omega)
                refine rz_eq (z := zc48) ec49 ?_
                refine lv_iconst (v := zI 1) hx hb dX9_isEven_99 rfl ?_
                refine lv_aload_n hx hb dX9_isEven_100 rfl (lv_at hl 4 rfl) ?_
                refine r_get F hK hP 0 16 rfl rfl in_X9 (by decide) k_1179 rfl dX9_isEven_101 ?_
                refine lv_iload hx hb dX9_isEven_104 (lv_at hl 0 rfl) ?_
                refine r_callSi (As := [.ref (q 3), .int (zI w5)]) (rest := [.int (zI 1), .int (zI zc48)]) (wr := [(y, .inr (9, [.int (zI (i 0)), .ref (q 0), .int (zI (i 1)), .int (zI (i 2)), .int (zI (i 3)), .int (zI (i 4)), .int (zI (i 5)), .int (zI (i 6)), .int (zI (i 7)), .int (zI (i 8)), .int (zI (i 9)), .int (zI (i 10)), .ref (q 1), .int (zI (i 11)), .int (zI (i 12)), .ref (q 2), .ref (q 3), .ref (q 4), .ref (q 5), .ref (q 6), .ref (q 7), .ref (q 8), .ref (q 9), .ref (q 10), .ref (q 11), .ref (q 12), .ref (q 13), .ref (q 14), .ref (q 15), .ref (q 16), .int (zI (i 13)), .int (zI (i 14)), .int (zI (i 15)), .int (zI (i 16)), .int (zI (i 17)), .int (zI (i 18)), .ref (q 17), .ref (q 18), .ref (q 19), .ref (q 20)])), ((q 17), .inl (cI, 20, .inl (fun k => zI (g_rest k))))]) F hK hP hD hS hA hO hE (c_X9_gtX hO (q 3) g_now w5 (by omega) hpn (by omega)) k_1578 ks_X9_goesTo 2 rfl (by decide +kernel) ⟨Nat.le_of_ble_eq_true rfl, Nat.le_of_ble_eq_true rfl⟩ [1] [0, 2] rfl rfl (by decide) (by decide) (by decide) hl.1 rfl (Nat.le_of_ble_eq_true rfl) dX9_isEven_106 ⟨Nat.le_of_ble_eq_true rfl, Nat.le_of_ble_eq_true rfl⟩ (w1 := fun u52 => [(y, .inr (9, [.int (zI (i 0)), .ref (q 0), .int (zI (i 1)), .int (zI (i 2)), .int (zI (i 3)), .int (zI (i 4)), .int (zI (i 5)), .int (zI (i 6)), .int (zI (i 7)), .int (zI (i 8)), .int (zI (i 9)), .int (zI (i 10)), .ref (q 1), .int (zI (i 11)), .int (zI (i 12)), .ref (q 2), .ref (q 3), .ref (q 4), .ref (q 5), .ref (q 6), .ref (q 7), .ref (q 8), .ref (q 9), .ref (q 10), .ref (q 11), .ref (q 12), .ref (q 13), .ref (q 14), .ref (q 15), .ref (q 16), .int (zI (i 13)), .int (zI (i 14)), .int (zI (i 15)), .int (zI (i 16)), .int (zI (i 17)), .int (zI (i 18)), .ref (q 17), .ref (q 18), .ref (q 19), .ref (q 20)])), ((q 17), .inl (cI, 20, .inl (fun k => zI (g_rest k)))), ((q 3), .inl (cI, 200, .inl (fun k => zI (g_now k))))]) (fun _ => rfl) (fun r53 u52 H locs hp54 hP hD hS => ?_)
                obtain ⟨z55, rfl, h_z55⟩ := hp54
                have hgt56 := h_z55
                refine lv_ishl hx hb dX9_isEven_109 ?_
                obtain ⟨zc58, ec59, hc60, hbt61⟩ := sh_n (x := z55) (by omega)
                refine rz_eq (z := zc58) ec59 ?_
                refine lv_ior hx hb dX9_isEven_110 ?_
                obtain ⟨zc63, ec64, hc65, hbt66⟩ := or_n (x := zc48) (y := zc58) (by omega) (by omega)
                refine rz_eq (z := zc63) ec64 ?_
                have hbo67 := both_n hbt51 hbt61 hbt66 (show (w5 / 2).toNat = (w5).toNat / 2 by omega) (show (z55).toNat = dW g_now (w5).toNat by unfold dW; rw [show (((w5).toNat : Nat) : Int) = w5 by omega, hgt56.1])
                refine lv_istore (lv' := [(6, .int (zI zc63)), (5, .int (zI w5)), (4, .int (zI b3)), (3, .int (zI w3)), (2, .int (zI v2)), (0, .ref y), (1, .int (zI x))]) hx hb dX9_isEven_111 hl (by decide) rfl (fun ls hl => ?_)
                refine lv_aload_n hx hb dX9_isEven_113 rfl (lv_at hl 5 rfl) ?_
                refine r_get F hK hP 0 36 rfl rfl in_X9 (by decide) k_1199 rfl dX9_isEven_114 ?_
                refine lv_iload hx hb dX9_isEven_117 (lv_at hl 1 rfl) ?_
                refine rz_iald F hK hP 1 0 rfl rfl (by omega) (by omega) dX9_isEven_119 ?_
                have h_l119_67 := hr_rest (w5).toNat (by omega)
                refine rz_if_le (tgt := 135) F (by omega) dX9_isEven_120 (by decide) (fun h120_68 => ?_) (fun h120_68 => ?_)
                · refine lv_iinc (v := zI (w5 + 1)) (lv' := [(5, .int (zI (w5 + 1))), (6, .int (zI zc63)), (4, .int (zI b3)), (3, .int (zI w3)), (2, .int (zI v2)), (0, .ref y), (1, .int (zI x))]) hx hb dX9_isEven_135 hl (k := 1) rfl (zI_add _ _) (by decide) rfl (fun ls hl => ?_)
                  refine lv_goto (tgt := 82) hx hb dX9_isEven_138 (by decide) ?_
                  have hP := bw_subP (isC := [0, 2, 1]) (wc := [(y, .inr (9, [.int (zI (i 0)), .ref (q 0), .int (zI (i 1)), .int (zI (i 2)), .int (zI (i 3)), .int (zI (i 4)), .int (zI (i 5)), .int (zI (i 6)), .int (zI (i 7)), .int (zI (i 8)), .int (zI (i 9)), .int (zI (i 10)), .ref (q 1), .int (zI (i 11)), .int (zI (i 12)), .ref (q 2), .ref (q 3), .ref (q 4), .ref (q 5), .ref (q 6), .ref (q 7), .ref (q 8), .ref (q 9), .ref (q 10), .ref (q 11), .ref (q 12), .ref (q 13), .ref (q 14), .ref (q 15), .ref (q 16), .int (zI (i 13)), .int (zI (i 14)), .int (zI (i 15)), .int (zI (i 16)), .int (zI (i 17)), .int (zI (i 18)), .ref (q 17), .ref (q 18), .ref (q 19), .ref (q 20)])), ((q 3), .inl (cI, 200, .inl (fun k => zI (g_now k)))), ((q 17), .inl (cI, 20, .inl (fun k => zI (g_rest k))))]) hP rfl
                  have hD := hD.sub (ws' := [(y, .inr (9, [.int (zI (i 0)), .ref (q 0), .int (zI (i 1)), .int (zI (i 2)), .int (zI (i 3)), .int (zI (i 4)), .int (zI (i 5)), .int (zI (i 6)), .int (zI (i 7)), .int (zI (i 8)), .int (zI (i 9)), .int (zI (i 10)), .ref (q 1), .int (zI (i 11)), .int (zI (i 12)), .ref (q 2), .ref (q 3), .ref (q 4), .ref (q 5), .ref (q 6), .ref (q 7), .ref (q 8), .ref (q 9), .ref (q 10), .ref (q 11), .ref (q 12), .ref (q 13), .ref (q 14), .ref (q 15), .ref (q 16), .int (zI (i 13)), .int (zI (i 14)), .int (zI (i 15)), .int (zI (i 16)), .int (zI (i 17)), .int (zI (i 18)), .ref (q 17), .ref (q 18), .ref (q 19), .ref (q 20)])), ((q 3), .inl (cI, 200, .inl (fun k => zI (g_now k)))), ((q 17), .inl (cI, 20, .inl (fun k => zI (g_rest k))))]) [0, 2, 1] (by decide) rfl
                  exact ih3 w3 (w5 + 1) _ _ (by omega) (by omega) (hsw.no (by omega) (fun he => by have q := he.2; omega)) hP hD hS ls (lv_sub hl [0, 2, 3, 4, 5, 6] rfl)
                · refine lv_iload hx hb dX9_isEven_123 (lv_at hl 0 rfl) ?_
                  refine lv_iload_n hx hb dX9_isEven_125 rfl (lv_at hl 3 rfl) ?_
                  refine lv_iand hx hb dX9_isEven_126 ?_
                  obtain ⟨zc71, ec72, hc73, hc74⟩ := an_n (x := zc63) (y := w3) (by omega) (by omega)
                  refine rz_eq (z := zc71) ec72 ?_
                  have hhit75 := an_hit2 hc74 hbo67
                  refine rz_if_eq (tgt := 135) F (by omega) dX9_isEven_127 (by decide) (fun h127_75 => ?_) (fun h127_75 => ?_)
                  · refine lv_iinc (v := zI (w5 + 1)) (lv' := [(5, .int (zI (w5 + 1))), (6, .int (zI zc63)), (4, .int (zI b3)), (3, .int (zI w3)), (2, .int (zI v2)), (0, .ref y), (1, .int (zI x))]) hx hb dX9_isEven_135 hl (k := 1) rfl (zI_add _ _) (by decide) rfl (fun ls hl => ?_)
                    refine lv_goto (tgt := 82) hx hb dX9_isEven_138 (by decide) ?_
                    have hP := bw_subP (isC := [0, 2, 1]) (wc := [(y, .inr (9, [.int (zI (i 0)), .ref (q 0), .int (zI (i 1)), .int (zI (i 2)), .int (zI (i 3)), .int (zI (i 4)), .int (zI (i 5)), .int (zI (i 6)), .int (zI (i 7)), .int (zI (i 8)), .int (zI (i 9)), .int (zI (i 10)), .ref (q 1), .int (zI (i 11)), .int (zI (i 12)), .ref (q 2), .ref (q 3), .ref (q 4), .ref (q 5), .ref (q 6), .ref (q 7), .ref (q 8), .ref (q 9), .ref (q 10), .ref (q 11), .ref (q 12), .ref (q 13), .ref (q 14), .ref (q 15), .ref (q 16), .int (zI (i 13)), .int (zI (i 14)), .int (zI (i 15)), .int (zI (i 16)), .int (zI (i 17)), .int (zI (i 18)), .ref (q 17), .ref (q 18), .ref (q 19), .ref (q 20)])), ((q 3), .inl (cI, 200, .inl (fun k => zI (g_now k)))), ((q 17), .inl (cI, 20, .inl (fun k => zI (g_rest k))))]) hP rfl
                    have hD := hD.sub (ws' := [(y, .inr (9, [.int (zI (i 0)), .ref (q 0), .int (zI (i 1)), .int (zI (i 2)), .int (zI (i 3)), .int (zI (i 4)), .int (zI (i 5)), .int (zI (i 6)), .int (zI (i 7)), .int (zI (i 8)), .int (zI (i 9)), .int (zI (i 10)), .ref (q 1), .int (zI (i 11)), .int (zI (i 12)), .ref (q 2), .ref (q 3), .ref (q 4), .ref (q 5), .ref (q 6), .ref (q 7), .ref (q 8), .ref (q 9), .ref (q 10), .ref (q 11), .ref (q 12), .ref (q 13), .ref (q 14), .ref (q 15), .ref (q 16), .int (zI (i 13)), .int (zI (i 14)), .int (zI (i 15)), .int (zI (i 16)), .int (zI (i 17)), .int (zI (i 18)), .ref (q 17), .ref (q 18), .ref (q 19), .ref (q 20)])), ((q 3), .inl (cI, 200, .inl (fun k => zI (g_now k)))), ((q 17), .inl (cI, 20, .inl (fun k => zI (g_rest k))))]) [0, 2, 1] (by decide) rfl
                    exact ih3 w3 (w5 + 1) _ _ (by omega) (by omega) (hsw.no (by omega) (fun _ hs => absurd (hhit75.mpr hs) (fun q => q (by omega)))) hP hD hS ls (lv_sub hl [0, 2, 3, 4, 5, 6] rfl)
                  · refine lv_iload_n hx hb dX9_isEven_130 rfl (lv_at hl 3 rfl) ?_
                    refine lv_iload hx hb dX9_isEven_131 (lv_at hl 0 rfl) ?_
                    refine lv_ior hx hb dX9_isEven_133 ?_
                    obtain ⟨zc78, ec79, hc80, hbt81⟩ := or_n (x := w3) (y := zc63) (by omega) (by omega)
                    refine rz_eq (z := zc78) ec79 ?_
                    refine lv_istore_n (lv' := [(3, .int (zI zc78)), (6, .int (zI zc63)), (5, .int (zI w5)), (4, .int (zI b3)), (2, .int (zI v2)), (0, .ref y), (1, .int (zI x))]) hx hb dX9_isEven_134 rfl hl (by decide) rfl (fun ls hl => ?_)
                    refine lv_iinc (v := zI (w5 + 1)) (lv' := [(5, .int (zI (w5 + 1))), (3, .int (zI zc78)), (6, .int (zI zc63)), (4, .int (zI b3)), (2, .int (zI v2)), (0, .ref y), (1, .int (zI x))]) hx hb dX9_isEven_135 hl (k := 2) rfl (zI_add _ _) (by decide) rfl (fun ls hl => ?_)
                    refine lv_goto (tgt := 82) hx hb dX9_isEven_138 (by decide) ?_
                    have hP := bw_subP (isC := [0, 2, 1]) (wc := [(y, .inr (9, [.int (zI (i 0)), .ref (q 0), .int (zI (i 1)), .int (zI (i 2)), .int (zI (i 3)), .int (zI (i 4)), .int (zI (i 5)), .int (zI (i 6)), .int (zI (i 7)), .int (zI (i 8)), .int (zI (i 9)), .int (zI (i 10)), .ref (q 1), .int (zI (i 11)), .int (zI (i 12)), .ref (q 2), .ref (q 3), .ref (q 4), .ref (q 5), .ref (q 6), .ref (q 7), .ref (q 8), .ref (q 9), .ref (q 10), .ref (q 11), .ref (q 12), .ref (q 13), .ref (q 14), .ref (q 15), .ref (q 16), .int (zI (i 13)), .int (zI (i 14)), .int (zI (i 15)), .int (zI (i 16)), .int (zI (i 17)), .int (zI (i 18)), .ref (q 17), .ref (q 18), .ref (q 19), .ref (q 20)])), ((q 3), .inl (cI, 200, .inl (fun k => zI (g_now k)))), ((q 17), .inl (cI, 20, .inl (fun k => zI (g_rest k))))]) hP rfl
                    have hD := hD.sub (ws' := [(y, .inr (9, [.int (zI (i 0)), .ref (q 0), .int (zI (i 1)), .int (zI (i 2)), .int (zI (i 3)), .int (zI (i 4)), .int (zI (i 5)), .int (zI (i 6)), .int (zI (i 7)), .int (zI (i 8)), .int (zI (i 9)), .int (zI (i 10)), .ref (q 1), .int (zI (i 11)), .int (zI (i 12)), .ref (q 2), .ref (q 3), .ref (q 4), .ref (q 5), .ref (q 6), .ref (q 7), .ref (q 8), .ref (q 9), .ref (q 10), .ref (q 11), .ref (q 12), .ref (q 13), .ref (q 14), .ref (q 15), .ref (q 16), .int (zI (i 13)), .int (zI (i 14)), .int (zI (i 15)), .int (zI (i 16)), .int (zI (i 17)), .int (zI (i 18)), .ref (q 17), .ref (q 18), .ref (q 19), .ref (q 20)])), ((q 3), .inl (cI, 200, .inl (fun k => zI (g_now k)))), ((q 17), .inl (cI, 20, .inl (fun k => zI (g_rest k))))]) [0, 2, 1] (by decide) rfl
                    exact ih3 zc78 (w5 + 1) _ _ (by omega) (by omega) (hsw.yes (by omega) ⟨by omega, by omega⟩ (hhit75.mp (by omega)) (fun j => (hbt81 j).trans (or_congr Iff.rfl (hbo67 j)))) hP hD hS ls (lv_sub hl [0, 3, 1, 4, 5, 6] rfl)
      · refine lv_iconst (v := zI 1) hx hb dX9_isEven_65 rfl ?_
        exact ret (zI 1) (fun k => [((fun _ => 0), fun _ _ => 0)].getD k (fun _ => 0, fun _ _ => 0)) _ _ _ _ _ _ rfl ⟨1, rfl, ⟨by omega, fun _ => EvF.none (fun w hw => (hr_rest w hw).1) (AlB.none (d := dW g_now) (by have q9 := haf; rwa [show v2 = 0 by omega] at q9)), fun _ => rfl⟩⟩ (bw_subP (isC := [0, 1, 2]) hP rfl) (hD.sub [0, 1, 2] (by decide) rfl) hS (Nat.le_of_ble_eq_true rfl) (Nat.le_of_ble_eq_true rfl) dX9_isEven_66
    · refine lv_iload_n hx hb dX9_isEven_20 rfl (lv_at hl 2 rfl) ?_
      refine lv_aload_n hx hb dX9_isEven_21 rfl (lv_at hl 3 rfl) ?_
      refine r_get F hK hP 0 36 rfl rfl in_X9 (by decide) k_1199 rfl dX9_isEven_22 ?_
      refine lv_iload hx hb dX9_isEven_25 (lv_at hl 0 rfl) ?_
      refine rz_iald F hK hP 2 0 rfl rfl (by omega) (by omega) dX9_isEven_27 ?_
      have h_l27_81 := hr_rest (v4).toNat (by omega)
      refine rz_if_le (tgt := 52) F (by omega) dX9_isEven_28 (by decide) (fun h28_82 => ?_) (fun h28_82 => ?_)
      · refine lv_iconst (v := zI 0) hx hb dX9_isEven_52 rfl ?_
        refine lv_ior hx hb dX9_isEven_53 ?_
        refine rz_eq (z := v2) (by rw [show zI 0 = (0 : Int32) from rfl]; exact Int32.or_zero) ?_
        refine lv_istore_n (lv' := [(2, .int (zI v2)), (4, .int (zI v4)), (3, .int (zI zc3)), (0, .ref y), (1, .int (zI x))]) hx hb dX9_isEven_54 rfl hl (by decide) rfl (fun ls hl => ?_)
        refine lv_iinc (v := zI (v4 + 1)) (lv' := [(4, .int (zI (v4 + 1))), (2, .int (zI v2)), (3, .int (zI zc3)), (0, .ref y), (1, .int (zI x))]) hx hb dX9_isEven_55 hl (k := 1) rfl (zI_add _ _) (by decide) rfl (fun ls hl => ?_)
        refine lv_goto (tgt := 9) hx hb dX9_isEven_58 (by decide) ?_
        exact ih1 v2 (v4 + 1) _ _ (by omega) (by omega) (hal.no (by omega) (fun he => by have q := he.2; omega)) hP hD hS ls (lv_sub hl [0, 2, 1, 3, 4] rfl)
      · refine lv_iconst (v := zI 1) hx hb dX9_isEven_31 rfl ?_
        refine lv_iload hx hb dX9_isEven_32 (lv_at hl 0 rfl) ?_
        refine lv_iconst (v := zI 2) hx hb dX9_isEven_34 rfl ?_
        refine rz_idiv F (by omega) (by omega) dX9_isEven_35 (fun z86 h_z86 => ?_)
        obtain ⟨rfl, hd87⟩ := h_z86
        refine lv_ishl hx hb dX9_isEven_36 ?_
        obtain ⟨zc89, ec90, hc91, hbt92⟩ := sh_n (x := v4 / 2) (by omega)
        refine rz_eq (z := zc89) ec90 ?_
        refine lv_iconst (v := zI 1) hx hb dX9_isEven_37 rfl ?_
        refine lv_aload_n hx hb dX9_isEven_38 rfl (lv_at hl 3 rfl) ?_
        refine r_get F hK hP 0 16 rfl rfl in_X9 (by decide) k_1179 rfl dX9_isEven_39 ?_
        refine lv_iload hx hb dX9_isEven_42 (lv_at hl 0 rfl) ?_
        refine r_callSi (As := [.ref (q 3), .int (zI v4)]) (rest := [.int (zI 1), .int (zI zc89), .int (zI v2)]) (wr := [(y, .inr (9, [.int (zI (i 0)), .ref (q 0), .int (zI (i 1)), .int (zI (i 2)), .int (zI (i 3)), .int (zI (i 4)), .int (zI (i 5)), .int (zI (i 6)), .int (zI (i 7)), .int (zI (i 8)), .int (zI (i 9)), .int (zI (i 10)), .ref (q 1), .int (zI (i 11)), .int (zI (i 12)), .ref (q 2), .ref (q 3), .ref (q 4), .ref (q 5), .ref (q 6), .ref (q 7), .ref (q 8), .ref (q 9), .ref (q 10), .ref (q 11), .ref (q 12), .ref (q 13), .ref (q 14), .ref (q 15), .ref (q 16), .int (zI (i 13)), .int (zI (i 14)), .int (zI (i 15)), .int (zI (i 16)), .int (zI (i 17)), .int (zI (i 18)), .ref (q 17), .ref (q 18), .ref (q 19), .ref (q 20)])), ((q 17), .inl (cI, 20, .inl (fun k => zI (g_rest k))))]) F hK hP hD hS hA hO hE (c_X9_gtX hO (q 3) g_now v4 (by omega) hpn (by omega)) k_1578 ks_X9_goesTo 2 rfl (by decide +kernel) ⟨Nat.le_of_ble_eq_true rfl, Nat.le_of_ble_eq_true rfl⟩ [1] [0, 2] rfl rfl (by decide) (by decide) (by decide) hl.1 rfl (Nat.le_of_ble_eq_true rfl) dX9_isEven_44 ⟨Nat.le_of_ble_eq_true rfl, Nat.le_of_ble_eq_true rfl⟩ (w1 := fun u93 => [(y, .inr (9, [.int (zI (i 0)), .ref (q 0), .int (zI (i 1)), .int (zI (i 2)), .int (zI (i 3)), .int (zI (i 4)), .int (zI (i 5)), .int (zI (i 6)), .int (zI (i 7)), .int (zI (i 8)), .int (zI (i 9)), .int (zI (i 10)), .ref (q 1), .int (zI (i 11)), .int (zI (i 12)), .ref (q 2), .ref (q 3), .ref (q 4), .ref (q 5), .ref (q 6), .ref (q 7), .ref (q 8), .ref (q 9), .ref (q 10), .ref (q 11), .ref (q 12), .ref (q 13), .ref (q 14), .ref (q 15), .ref (q 16), .int (zI (i 13)), .int (zI (i 14)), .int (zI (i 15)), .int (zI (i 16)), .int (zI (i 17)), .int (zI (i 18)), .ref (q 17), .ref (q 18), .ref (q 19), .ref (q 20)])), ((q 17), .inl (cI, 20, .inl (fun k => zI (g_rest k)))), ((q 3), .inl (cI, 200, .inl (fun k => zI (g_now k))))]) (fun _ => rfl) (fun r94 u93 H locs hp95 hP hD hS => ?_)
        obtain ⟨z96, rfl, h_z96⟩ := hp95
        have hgt97 := h_z96
        refine lv_ishl hx hb dX9_isEven_47 ?_
        obtain ⟨zc99, ec100, hc101, hbt102⟩ := sh_n (x := z96) (by omega)
        refine rz_eq (z := zc99) ec100 ?_
        refine lv_ior hx hb dX9_isEven_48 ?_
        obtain ⟨zc104, ec105, hc106, hbt107⟩ := or_n (x := zc89) (y := zc99) (by omega) (by omega)
        refine rz_eq (z := zc104) ec105 ?_
        have hbo108 := both_n hbt92 hbt102 hbt107 (show (v4 / 2).toNat = (v4).toNat / 2 by omega) (show (z96).toNat = dW g_now (v4).toNat by unfold dW; rw [show (((v4).toNat : Nat) : Int) = v4 by omega, hgt97.1])
        refine lv_goto (tgt := 53) hx hb dX9_isEven_49 (by decide) ?_
        refine lv_ior hx hb dX9_isEven_53 ?_
        obtain ⟨zc110, ec111, hc112, hbt113⟩ := or_n (x := v2) (y := zc104) (by omega) (by omega)
        refine rz_eq (z := zc110) ec111 ?_
        refine lv_istore_n (lv' := [(2, .int (zI zc110)), (4, .int (zI v4)), (3, .int (zI zc3)), (0, .ref y), (1, .int (zI x))]) hx hb dX9_isEven_54 rfl hl (by decide) rfl (fun ls hl => ?_)
        refine lv_iinc (v := zI (v4 + 1)) (lv' := [(4, .int (zI (v4 + 1))), (2, .int (zI zc110)), (3, .int (zI zc3)), (0, .ref y), (1, .int (zI x))]) hx hb dX9_isEven_55 hl (k := 1) rfl (zI_add _ _) (by decide) rfl (fun ls hl => ?_)
        refine lv_goto (tgt := 9) hx hb dX9_isEven_58 (by decide) ?_
        have hP := bw_subP (isC := [0, 2, 1]) (wc := [(y, .inr (9, [.int (zI (i 0)), .ref (q 0), .int (zI (i 1)), .int (zI (i 2)), .int (zI (i 3)), .int (zI (i 4)), .int (zI (i 5)), .int (zI (i 6)), .int (zI (i 7)), .int (zI (i 8)), .int (zI (i 9)), .int (zI (i 10)), .ref (q 1), .int (zI (i 11)), .int (zI (i 12)), .ref (q 2), .ref (q 3), .ref (q 4), .ref (q 5), .ref (q 6), .ref (q 7), .ref (q 8), .ref (q 9), .ref (q 10), .ref (q 11), .ref (q 12), .ref (q 13), .ref (q 14), .ref (q 15), .ref (q 16), .int (zI (i 13)), .int (zI (i 14)), .int (zI (i 15)), .int (zI (i 16)), .int (zI (i 17)), .int (zI (i 18)), .ref (q 17), .ref (q 18), .ref (q 19), .ref (q 20)])), ((q 3), .inl (cI, 200, .inl (fun k => zI (g_now k)))), ((q 17), .inl (cI, 20, .inl (fun k => zI (g_rest k))))]) hP rfl
        have hD := hD.sub (ws' := [(y, .inr (9, [.int (zI (i 0)), .ref (q 0), .int (zI (i 1)), .int (zI (i 2)), .int (zI (i 3)), .int (zI (i 4)), .int (zI (i 5)), .int (zI (i 6)), .int (zI (i 7)), .int (zI (i 8)), .int (zI (i 9)), .int (zI (i 10)), .ref (q 1), .int (zI (i 11)), .int (zI (i 12)), .ref (q 2), .ref (q 3), .ref (q 4), .ref (q 5), .ref (q 6), .ref (q 7), .ref (q 8), .ref (q 9), .ref (q 10), .ref (q 11), .ref (q 12), .ref (q 13), .ref (q 14), .ref (q 15), .ref (q 16), .int (zI (i 13)), .int (zI (i 14)), .int (zI (i 15)), .int (zI (i 16)), .int (zI (i 17)), .int (zI (i 18)), .ref (q 17), .ref (q 18), .ref (q 19), .ref (q 20)])), ((q 3), .inl (cI, 200, .inl (fun k => zI (g_now k)))), ((q 17), .inl (cI, 20, .inl (fun k => zI (g_rest k))))]) [0, 2, 1] (by decide) rfl
        exact ih1 zc110 (v4 + 1) _ _ (by omega) (by omega) (hal.yes (by omega) ⟨by omega, by omega⟩ (fun j => (hbt113 j).trans (or_congr Iff.rfl (hbo108 j)))) hP hD hS ls (lv_sub hl [0, 2, 1, 3, 4] rfl)
abbrev rm_X9_evenX : Room := { frames := 2, cells := 0, slots := 0, locals := 50 }
set_option maxRecDepth 100000 in
set_option maxHeartbeats 8000000 in
theorem c_X9_evenX {l : Launch} {E : (Nat → Prop) → State → Prop} (hO : bw_Ok E) {G : va_G} {cI cB cJ cN cW : ClassId} (y : Nat) (q : Nat → Nat) (i : Nat → Int) (hM : ModOk i) (g_now : Nat → Int) (g_rest : Nat → Int) (hr_rest : ∀ k, k < 20 → 0 ≤ g_rest k ∧ g_rest k ≤ 9) (hpn : ProgOk g_now) (hLr : LN g_now (i 13)) : bw_Ci (S := zV) l yX9_even (bw_ws (Cond.code yX9_even cX9_even 1 (some .int))) rm_X9_evenX E G (bw_kt cI cB cJ cN cW) [.ref y] [(y, .inr (9, [.int (zI (i 0)), .ref (q 0), .int (zI (i 1)), .int (zI (i 2)), .int (zI (i 3)), .int (zI (i 4)), .int (zI (i 5)), .int (zI (i 6)), .int (zI (i 7)), .int (zI (i 8)), .int (zI (i 9)), .int (zI (i 10)), .ref (q 1), .int (zI (i 11)), .int (zI (i 12)), .ref (q 2), .ref (q 3), .ref (q 4), .ref (q 5), .ref (q 6), .ref (q 7), .ref (q 8), .ref (q 9), .ref (q 10), .ref (q 11), .ref (q 12), .ref (q 13), .ref (q 14), .ref (q 15), .ref (q 16), .int (zI (i 13)), .int (zI (i 14)), .int (zI (i 15)), .int (zI (i 16)), .int (zI (i 17)), .int (zI (i 18)), .ref (q 17), .ref (q 18), .ref (q 19), .ref (q 20)])), ((q 3), .inl (cI, 200, .inl (fun k => zI (g_now k)))), ((q 17), .inl (cI, 20, .inl (fun k => zI (g_rest k))))] (fun r u => ∃ z : Int, r = zI z ∧ (ModOk (u 0).1) ∧ (∀ k, k < 20 → 0 ≤ ((u 1).2 0) k ∧ ((u 1).2 0) k ≤ 9) ∧ ((((u 0).1 1 = i 1 ∧ (u 0).1 8 = i 8 ∧ (u 0).1 9 = i 9 ∧ (u 0).1 12 = i 12 ∧ (u 0).1 13 = i 13 ∧ (u 0).1 15 = i 15 ∧ (u 0).1 17 = i 17 ∧ (u 0).1 10 ≠ 4)) ∧ (((i 12 = 1) ∧ (z = 1 ∨ z = 0) ∧ (z = 1 ↔ EvF g_now (lF g_now) (i 13).toNat 0)) ∨ (¬ (i 12 = 1) ∧ z = -1)))) (fun u => [(y, .inr (9, [.int (zI ((u 0).1 0)), .ref (q 0), .int (zI ((u 0).1 1)), .int (zI ((u 0).1 2)), .int (zI ((u 0).1 3)), .int (zI ((u 0).1 4)), .int (zI ((u 0).1 5)), .int (zI ((u 0).1 6)), .int (zI ((u 0).1 7)), .int (zI ((u 0).1 8)), .int (zI ((u 0).1 9)), .int (zI ((u 0).1 10)), .ref (q 1), .int (zI ((u 0).1 11)), .int (zI ((u 0).1 12)), .ref (q 2), .ref (q 3), .ref (q 4), .ref (q 5), .ref (q 6), .ref (q 7), .ref (q 8), .ref (q 9), .ref (q 10), .ref (q 11), .ref (q 12), .ref (q 13), .ref (q 14), .ref (q 15), .ref (q 16), .int (zI ((u 0).1 13)), .int (zI ((u 0).1 14)), .int (zI ((u 0).1 15)), .int (zI ((u 0).1 16)), .int (zI ((u 0).1 17)), .int (zI ((u 0).1 18)), .ref (q 17), .ref (q 18), .ref (q 19), .ref (q 20)])), ((q 3), .inl (cI, 200, .inl (fun k => zI (g_now k)))), ((q 17), .inl (cI, 20, .inl (fun k => zI (((u 1).2 0) k))))]) := by
  refine bw_Ci.of (cc := cX9_even) (maxL := 1) (ty := .int) (by decide) rfl (Nat.le_of_ble_eq_true rfl) ?_
  intro p e s m below meth c A Q hx hb hml hts hown hin hK hA hS hP hD hE ret ls hl
  have F : CallFix p m c cX9_even 1 s ([.ref y] : List Value).toArray bw_T RX9 := ⟨hx, hb, hml, hown, fun w h => hts w (List.mem_cons_of_mem _ h)⟩
  replace hl : lv_has ls 1 [(0, .ref y)] := hl
  have hf1 := hM.1
  refine lv_aload_n hx hb dX9_even_0 rfl (lv_at hl 0 rfl) ?_
  refine r_callVv (As := []) (rest := []) (wr := [((q 3), .inl (cI, 200, .inl (fun k => zI (g_now k)))), ((q 17), .inl (cI, 20, .inl (fun k => zI (g_rest k))))]) F hK hP hD hS hA hO hE (c_X9_good hO y q i hM) k_1292 kv_X9_good 0 rfl (by decide +kernel) ⟨Nat.le_of_ble_eq_true rfl, Nat.le_of_ble_eq_true rfl⟩ [0] [1, 2] rfl rfl (by decide) (by decide) (by decide) 0 9 rfl rfl rfl hl.1 rfl (Nat.le_of_ble_eq_true rfl) dX9_even_1 ⟨Nat.le_of_ble_eq_true rfl, Nat.le_of_ble_eq_true rfl⟩ (w1 := fun u2 => [((q 3), .inl (cI, 200, .inl (fun k => zI (g_now k)))), ((q 17), .inl (cI, 20, .inl (fun k => zI (g_rest k)))), (y, .inr (9, [.int (zI ((u2 0).1 0)), .ref (q 0), .int (zI ((u2 0).1 1)), .int (zI ((u2 0).1 2)), .int (zI ((u2 0).1 3)), .int (zI ((u2 0).1 4)), .int (zI ((u2 0).1 5)), .int (zI ((u2 0).1 6)), .int (zI ((u2 0).1 7)), .int (zI ((u2 0).1 8)), .int (zI ((u2 0).1 9)), .int (zI ((u2 0).1 10)), .ref (q 1), .int (zI ((u2 0).1 11)), .int (zI ((u2 0).1 12)), .ref (q 2), .ref (q 3), .ref (q 4), .ref (q 5), .ref (q 6), .ref (q 7), .ref (q 8), .ref (q 9), .ref (q 10), .ref (q 11), .ref (q 12), .ref (q 13), .ref (q 14), .ref (q 15), .ref (q 16), .int (zI ((u2 0).1 13)), .int (zI ((u2 0).1 14)), .int (zI ((u2 0).1 15)), .int (zI ((u2 0).1 16)), .int (zI ((u2 0).1 17)), .int (zI ((u2 0).1 18)), .ref (q 17), .ref (q 18), .ref (q 19), .ref (q 20)]))]) (fun _ => rfl) (fun  u2 H locs hp3 hP hD hS => ?_)
  have hf4 := hp3.1.1
  refine lv_aload_n hx hb dX9_even_4 rfl (lv_at hl 0 rfl) ?_
  refine r_get F hK hP 2 14 rfl rfl in_X9 (by decide) k_1177 rfl dX9_even_5 ?_
  refine rz_ifb_ne (tgt := 17) F (by omega) dX9_even_8 (by decide) (fun h8_4 => ?_) (fun h8_4 => ?_)
  · refine lv_aload_n hx hb dX9_even_17 rfl (lv_at hl 0 rfl) ?_
    refine r_callVv (As := []) (rest := []) (wr := []) F hK hP hD hS hA hO hE (c_X9_layRestX hO y q ((u2 0).1) hp3.1 g_now g_rest hr_rest hpn (by rw [show ((u2 0).1) 13 = i 13 by omega]; exact hLr)) k_1585 kv_X9_layRest 0 rfl (by decide +kernel) ⟨Nat.le_of_ble_eq_true rfl, Nat.le_of_ble_eq_true rfl⟩ [2, 0, 1] [] rfl rfl (by decide) (by decide) (by decide) 0 9 rfl rfl rfl hl.1 rfl (Nat.le_of_ble_eq_true rfl) dX9_even_18 ⟨Nat.le_of_ble_eq_true rfl, Nat.le_of_ble_eq_true rfl⟩ (w1 := fun u6 => [(y, .inr (9, [.int (zI ((u2 0).1 0)), .ref (q 0), .int (zI ((u2 0).1 1)), .int (zI ((u2 0).1 2)), .int (zI ((u2 0).1 3)), .int (zI ((u2 0).1 4)), .int (zI ((u2 0).1 5)), .int (zI ((u2 0).1 6)), .int (zI ((u2 0).1 7)), .int (zI ((u2 0).1 8)), .int (zI ((u2 0).1 9)), .int (zI ((u2 0).1 10)), .ref (q 1), .int (zI ((u2 0).1 11)), .int (zI ((u2 0).1 12)), .ref (q 2), .ref (q 3), .ref (q 4), .ref (q 5), .ref (q 6), .ref (q 7), .ref (q 8), .ref (q 9), .ref (q 10), .ref (q 11), .ref (q 12), .ref (q 13), .ref (q 14), .ref (q 15), .ref (q 16), .int (zI ((u2 0).1 13)), .int (zI ((u2 0).1 14)), .int (zI ((u2 0).1 15)), .int (zI ((u2 0).1 16)), .int (zI ((u2 0).1 17)), .int (zI ((u2 0).1 18)), .ref (q 17), .ref (q 18), .ref (q 19), .ref (q 20)])), ((q 3), .inl (cI, 200, .inl (fun k => zI (g_now k)))), ((q 17), .inl (cI, 20, .inl (fun k => zI (((u6 1).2 0) k))))]) (fun _ => rfl) (fun  u6 H locs hp7 hP hD hS => ?_)
    have hly := hp7.2
    have hRs := Rst.ofl hpn hly
    refine lv_aload_n hx hb dX9_even_21 rfl (lv_at hl 0 rfl) ?_
    refine lv_iconst (v := zI 0) hx hb dX9_even_22 rfl ?_
    refine r_callVi (As := [.int (zI 0)]) (rest := []) (wr := []) F hK hP hD hS hA hO hE (c_X9_isEvenX hO y q ((u2 0).1) hp3.1 g_now ((u6 1).2 0) hp7.1 0 (by omega) hpn (by omega) (by rw [show ((u2 0).1) 13 = i 13 by omega]; exact hLr) hRs) k_1589 kv_X9_isEven 1 rfl (by decide +kernel) ⟨Nat.le_of_ble_eq_true rfl, Nat.le_of_ble_eq_true rfl⟩ [0, 1, 2] [] rfl rfl (by decide) (by decide) (by decide) 0 9 rfl rfl rfl hl.1 rfl (Nat.le_of_ble_eq_true rfl) dX9_even_23 ⟨Nat.le_of_ble_eq_true rfl, Nat.le_of_ble_eq_true rfl⟩ (w1 := fun u8 => [(y, .inr (9, [.int (zI ((u2 0).1 0)), .ref (q 0), .int (zI ((u2 0).1 1)), .int (zI ((u2 0).1 2)), .int (zI ((u2 0).1 3)), .int (zI ((u2 0).1 4)), .int (zI ((u2 0).1 5)), .int (zI ((u2 0).1 6)), .int (zI ((u2 0).1 7)), .int (zI ((u2 0).1 8)), .int (zI ((u2 0).1 9)), .int (zI ((u2 0).1 10)), .ref (q 1), .int (zI ((u2 0).1 11)), .int (zI ((u2 0).1 12)), .ref (q 2), .ref (q 3), .ref (q 4), .ref (q 5), .ref (q 6), .ref (q 7), .ref (q 8), .ref (q 9), .ref (q 10), .ref (q 11), .ref (q 12), .ref (q 13), .ref (q 14), .ref (q 15), .ref (q 16), .int (zI ((u2 0).1 13)), .int (zI ((u2 0).1 14)), .int (zI ((u2 0).1 15)), .int (zI ((u2 0).1 16)), .int (zI ((u2 0).1 17)), .int (zI ((u2 0).1 18)), .ref (q 17), .ref (q 18), .ref (q 19), .ref (q 20)])), ((q 3), .inl (cI, 200, .inl (fun k => zI (g_now k)))), ((q 17), .inl (cI, 20, .inl (fun k => zI (((u6 1).2 0) k))))]) (fun _ => rfl) (fun r9 u8 H locs hp10 hP hD hS => ?_)
    obtain ⟨z11, rfl, h_z11⟩ := hp10
    have hEv := EvF.congr (p := g_now) (n := (((u2 0).1) 13).toNat) (f := 0) hly
    have hevn12 := h_z11
    have hc13 := hevn12.1
    refine rz_ifb_eq (tgt := 33) F (by omega) dX9_even_26 (by decide) (fun h26_13 => ?_) (fun h26_13 => ?_)
    · refine lv_iconst (v := zI 0) hx hb dX9_even_33 rfl ?_
      exact ret (zI 0) (fun k => [((u2 0).1, fun _ _ => 0), (fun _ => 0, fun _ => ((u6 1).2 0))].getD k (fun _ => 0, fun _ _ => 0)) _ _ _ _ _ _ rfl ⟨0, rfl, hp3.1, hp7.1, ⟨(show ((u2 0).1) 1 = i 1 ∧ ((u2 0).1) 8 = i 8 ∧ ((u2 0).1) 9 = i 9 ∧ ((u2 0).1) 12 = i 12 ∧ ((u2 0).1) 13 = i 13 ∧ ((u2 0).1) 15 = i 15 ∧ ((u2 0).1) 17 = i 17 ∧ ((u2 0).1) 10 ≠ 4 from by omega), (show ((i 12 = 1) ∧ ((0 : Int) = 1 ∨ (0 : Int) = 0) ∧ ((0 : Int) = 1 ↔ EvF g_now (lF g_now) (i 13).toNat 0)) ∨ (¬ (i 12 = 1) ∧ (0 : Int) = -1) from Or.inl ⟨by omega, by omega, fun q9 => absurd q9 (by decide), fun q9 => absurd (hevn12.2.mpr (hEv.mpr (by rw [← (show i 13 = ((u2 0).1) 13 by omega)]; exact q9))) (by omega)⟩)⟩⟩ (bw_subP (isC := [0, 1, 2]) hP rfl) (hD.sub [0, 1, 2] (by decide) rfl) hS (Nat.le_of_ble_eq_true rfl) (Nat.le_of_ble_eq_true rfl) dX9_even_34
    · refine lv_iconst (v := zI 1) hx hb dX9_even_29 rfl ?_
      refine lv_goto (tgt := 34) hx hb dX9_even_30 (by decide) ?_
      exact ret (zI 1) (fun k => [((u2 0).1, fun _ _ => 0), (fun _ => 0, fun _ => ((u6 1).2 0))].getD k (fun _ => 0, fun _ _ => 0)) _ _ _ _ _ _ rfl ⟨1, rfl, hp3.1, hp7.1, ⟨(show ((u2 0).1) 1 = i 1 ∧ ((u2 0).1) 8 = i 8 ∧ ((u2 0).1) 9 = i 9 ∧ ((u2 0).1) 12 = i 12 ∧ ((u2 0).1) 13 = i 13 ∧ ((u2 0).1) 15 = i 15 ∧ ((u2 0).1) 17 = i 17 ∧ ((u2 0).1) 10 ≠ 4 from by omega), (show ((i 12 = 1) ∧ ((1 : Int) = 1 ∨ (1 : Int) = 0) ∧ ((1 : Int) = 1 ↔ EvF g_now (lF g_now) (i 13).toNat 0)) ∨ (¬ (i 12 = 1) ∧ (1 : Int) = -1) from Or.inl ⟨by omega, by omega, fun _ => by rw [(show i 13 = ((u2 0).1) 13 by omega)]; exact hEv.mp (hevn12.2.mp (by omega)), fun _ => rfl⟩)⟩⟩ (bw_subP (isC := [0, 1, 2]) hP rfl) (hD.sub [0, 1, 2] (by decide) rfl) hS (Nat.le_of_ble_eq_true rfl) (Nat.le_of_ble_eq_true rfl) dX9_even_34
  · refine lv_aload_n hx hb dX9_even_11 rfl (lv_at hl 0 rfl) ?_
    refine lv_iconst (v := zI 1) hx hb dX9_even_12 rfl ?_
    refine r_callVi (As := [.int (zI 1)]) (rest := []) (wr := [((q 3), .inl (cI, 200, .inl (fun k => zI (g_now k)))), ((q 17), .inl (cI, 20, .inl (fun k => zI (g_rest k))))]) F hK hP hD hS hA hO hE (c_X9_no hO y q ((u2 0).1) hp3.1 1 (by omega) (by omega)) k_1299 kv_X9_no 1 rfl (by decide +kernel) ⟨Nat.le_of_ble_eq_true rfl, Nat.le_of_ble_eq_true rfl⟩ [2] [0, 1] rfl rfl (by decide) (by decide) (by decide) 0 9 rfl rfl rfl hl.1 rfl (Nat.le_of_ble_eq_true rfl) dX9_even_13 ⟨Nat.le_of_ble_eq_true rfl, Nat.le_of_ble_eq_true rfl⟩ (w1 := fun u15 => [((q 3), .inl (cI, 200, .inl (fun k => zI (g_now k)))), ((q 17), .inl (cI, 20, .inl (fun k => zI (g_rest k)))), (y, .inr (9, [.int (zI ((u15 0).1 0)), .ref (q 0), .int (zI ((u15 0).1 1)), .int (zI ((u15 0).1 2)), .int (zI ((u15 0).1 3)), .int (zI ((u15 0).1 4)), .int (zI ((u15 0).1 5)), .int (zI ((u15 0).1 6)), .int (zI ((u15 0).1 7)), .int (zI ((u15 0).1 8)), .int (zI ((u15 0).1 9)), .int (zI ((u15 0).1 10)), .ref (q 1), .int (zI ((u15 0).1 11)), .int (zI ((u15 0).1 12)), .ref (q 2), .ref (q 3), .ref (q 4), .ref (q 5), .ref (q 6), .ref (q 7), .ref (q 8), .ref (q 9), .ref (q 10), .ref (q 11), .ref (q 12), .ref (q 13), .ref (q 14), .ref (q 15), .ref (q 16), .int (zI ((u15 0).1 13)), .int (zI ((u15 0).1 14)), .int (zI ((u15 0).1 15)), .int (zI ((u15 0).1 16)), .int (zI ((u15 0).1 17)), .int (zI ((u15 0).1 18)), .ref (q 17), .ref (q 18), .ref (q 19), .ref (q 20)]))]) (fun _ => rfl) (fun r16 u15 H locs hp17 hP hD hS => ?_)
    obtain ⟨z18, rfl, h_z18⟩ := hp17
    have hf19 := h_z18.1.1
    exact ret (zI z18) (fun k => [((u15 0).1, fun _ _ => 0), (fun _ => 0, fun _ => g_rest)].getD k (fun _ => 0, fun _ _ => 0)) _ _ _ _ _ _ rfl ⟨z18, rfl, h_z18.1, hr_rest, ⟨(show ((u15 0).1) 1 = i 1 ∧ ((u15 0).1) 8 = i 8 ∧ ((u15 0).1) 9 = i 9 ∧ ((u15 0).1) 12 = i 12 ∧ ((u15 0).1) 13 = i 13 ∧ ((u15 0).1) 15 = i 15 ∧ ((u15 0).1) 17 = i 17 ∧ ((u15 0).1) 10 ≠ 4 from by omega), (show ((i 12 = 1) ∧ ((z18 : Int) = 1 ∨ (z18 : Int) = 0) ∧ ((z18 : Int) = 1 ↔ EvF g_now (lF g_now) (i 13).toNat 0)) ∨ (¬ (i 12 = 1) ∧ (z18 : Int) = -1) from Or.inr ⟨by omega, by omega⟩)⟩⟩ (bw_subP (isC := [2, 0, 1]) hP rfl) (hD.sub [2, 0, 1] (by decide) rfl) hS (Nat.le_of_ble_eq_true rfl) (Nat.le_of_ble_eq_true rfl) dX9_even_16
