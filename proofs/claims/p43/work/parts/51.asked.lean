abbrev rm_X9_inputs2 : Room := { frames := 0, cells := 0, slots := 0, locals := 0 }
set_option maxRecDepth 100000 in
set_option maxHeartbeats 8000000 in
theorem c_X9_inputs2 {l : Launch} {E : (Nat → Prop) → State → Prop} (hO : bw_Ok E) {G : va_G} {cI cB cJ cN cW : ClassId} (x : Int) (hx9 : zR x) (hk9 : 0 ≤ x ∧ x ≤ 3) : bw_Ci (S := zV) l yX9_inputs (bw_ws (Cond.code yX9_inputs cX9_inputs 2 (some .int))) rm_X9_inputs2 E G (bw_kt cI cB cJ cN cW) [.int (zI x)] [] (fun r u => ∃ z : Int, r = zI z ∧ (z = (x + 1) * (x + 1) * (x + 1) * (x + 1) ∧ 1 ≤ z ∧ z ≤ 256)) (fun u => []) := by
  refine bw_Ci.of (cc := cX9_inputs) (maxL := 2) (ty := .int) (by decide) rfl (Nat.le_of_ble_eq_true rfl) ?_
  intro p e s m below meth c A Q hx hb hml hts hown hin hK hA hS hP hD hE ret ls hl
  have F : CallFix p m c cX9_inputs 2 s ([.int (zI x)] : List Value).toArray bw_T RX9 := ⟨hx, hb, hml, hown, fun w h => hts w (List.mem_cons_of_mem _ h)⟩
  replace hl : lv_has ls 2 [(0, .int (zI x))] := hl
  refine lv_iload_n hx hb dX9_inputs_0 rfl (lv_at hl 0 rfl) ?_
  refine lv_iconst (v := zI 1) hx hb dX9_inputs_1 rfl ?_
  refine r_iadd (v := zI (x + 1)) F dX9_inputs_2 (zI_add _ _) ?_
  refine lv_istore_n (lv' := [(1, .int (zI (x + 1))), (0, .int (zI x))]) hx hb dX9_inputs_3 rfl hl (by decide) rfl (fun ls hl => ?_)
  refine lv_iload_n hx hb dX9_inputs_4 rfl (lv_at hl 0 rfl) ?_
  refine lv_iload_n hx hb dX9_inputs_5 rfl (lv_at hl 0 rfl) ?_
  refine r_imul (v := zI ((x + 1) * (x + 1))) F dX9_inputs_6 (zI_mul _ _) ?_
  refine lv_iload_n hx hb dX9_inputs_7 rfl (lv_at hl 0 rfl) ?_
  refine r_imul (v := zI (((x + 1) * (x + 1)) * (x + 1))) F dX9_inputs_8 (zI_mul _ _) ?_
  refine lv_iload_n hx hb dX9_inputs_9 rfl (lv_at hl 0 rfl) ?_
  refine r_imul (v := zI ((((x + 1) * (x + 1)) * (x + 1)) * (x + 1))) F dX9_inputs_10 (zI_mul _ _) ?_
  exact ret (zI ((((x + 1) * (x + 1)) * (x + 1)) * (x + 1))) (fun k => [((fun _ => 0), fun _ _ => 0)].getD k (fun _ => 0, fun _ _ => 0)) _ _ _ _ _ _ rfl ⟨((((x + 1) * (x + 1)) * (x + 1)) * (x + 1)), rfl, ⟨rfl, by rcases (show x = 0 ∨ x = 1 ∨ x = 2 ∨ x = 3 by omega) with rfl | rfl | rfl | rfl <;> decide⟩⟩ (bw_subP (isC := []) hP rfl) (hD.sub [] (by decide) rfl) hS (Nat.le_of_ble_eq_true rfl) (Nat.le_of_ble_eq_true rfl) dX9_inputs_11
theorem dX9_beginsBy_0 : decode cX9_beginsBy 0 = .ok (.iload_n 3, 1) := bo_29 (by decide +kernel)
theorem dX9_beginsBy_1 : decode cX9_beginsBy 1 = .ok (.iconst 1, 1) := bo_4 (by decide +kernel)
theorem dX9_beginsBy_2 : decode cX9_beginsBy 2 = .ok (.iadd, 1) := bo_96 (by decide +kernel)
theorem dX9_beginsBy_3 : decode cX9_beginsBy 3 = .ok (.istore 4, 2) := bo_54 (by decide +kernel)
theorem dX9_beginsBy_5 : decode cX9_beginsBy 5 = .ok (.aload_n 0, 1) := bo_42 (by decide +kernel)
theorem dX9_beginsBy_6 : decode cX9_beginsBy 6 = .ok (.aload_n 1, 1) := bo_43 (by decide +kernel)
theorem dX9_beginsBy_7 : decode cX9_beginsBy 7 = .ok (.iload_n 2, 1) := bo_28 (by decide +kernel)
theorem dX9_beginsBy_8 : decode cX9_beginsBy 8 = .ok (.iload 4, 2) := bo_21 (by decide +kernel)
theorem dX9_beginsBy_10 : decode cX9_beginsBy 10 = .ok (.iload 4, 2) := bo_21 (by decide +kernel)
theorem dX9_beginsBy_12 : decode cX9_beginsBy 12 = .ok (.imul, 1) := bo_104 (by decide +kernel)
theorem dX9_beginsBy_13 : decode cX9_beginsBy 13 = .ok (.iload 4, 2) := bo_21 (by decide +kernel)
theorem dX9_beginsBy_15 : decode cX9_beginsBy 15 = .ok (.imul, 1) := bo_104 (by decide +kernel)
theorem dX9_beginsBy_16 : decode cX9_beginsBy 16 = .ok (.idiv, 1) := bo_108 (by decide +kernel)
theorem dX9_beginsBy_17 : decode cX9_beginsBy 17 = .ok (.iload_n 2, 1) := bo_28 (by decide +kernel)
theorem dX9_beginsBy_18 : decode cX9_beginsBy 18 = .ok (.iload 4, 2) := bo_21 (by decide +kernel)
theorem dX9_beginsBy_20 : decode cX9_beginsBy 20 = .ok (.iload 4, 2) := bo_21 (by decide +kernel)
theorem dX9_beginsBy_22 : decode cX9_beginsBy 22 = .ok (.imul, 1) := bo_104 (by decide +kernel)
theorem dX9_beginsBy_23 : decode cX9_beginsBy 23 = .ok (.idiv, 1) := bo_108 (by decide +kernel)
theorem dX9_beginsBy_24 : decode cX9_beginsBy 24 = .ok (.iload 4, 2) := bo_21 (by decide +kernel)
theorem dX9_beginsBy_26 : decode cX9_beginsBy 26 = .ok (.irem, 1) := bo_112 (by decide +kernel)
theorem dX9_beginsBy_27 : decode cX9_beginsBy 27 = .ok (.iload_n 2, 1) := bo_28 (by decide +kernel)
theorem dX9_beginsBy_28 : decode cX9_beginsBy 28 = .ok (.iload 4, 2) := bo_21 (by decide +kernel)
theorem dX9_beginsBy_30 : decode cX9_beginsBy 30 = .ok (.idiv, 1) := bo_108 (by decide +kernel)
theorem dX9_beginsBy_31 : decode cX9_beginsBy 31 = .ok (.iload 4, 2) := bo_21 (by decide +kernel)
theorem dX9_beginsBy_33 : decode cX9_beginsBy 33 = .ok (.irem, 1) := bo_112 (by decide +kernel)
theorem dX9_beginsBy_34 : decode cX9_beginsBy 34 = .ok (.iload_n 2, 1) := bo_28 (by decide +kernel)
theorem dX9_beginsBy_35 : decode cX9_beginsBy 35 = .ok (.iload 4, 2) := bo_21 (by decide +kernel)
theorem dX9_beginsBy_37 : decode cX9_beginsBy 37 = .ok (.irem, 1) := bo_112 (by decide +kernel)
theorem dX9_beginsBy_38 : decode cX9_beginsBy 38 = .ok (.invokestatic 225, 3) := bo_184 0 225 (by decide +kernel)
theorem k_1421 : Cond.methodLink RX9 225 yX9_begins ∈ bw_T := bw_m 1421 (by decide +kernel) rfl
theorem ks_X9_begins : bw_KS RX9 yX9_begins (Cond.code yX9_begins cX9_begins 7 none) := ⟨bw_m 1422 (by decide +kernel) rfl, bw_m 107 (by decide +kernel) rfl, bw_m 1423 (by decide +kernel) rfl⟩
theorem dX9_beginsBy_41 : decode cX9_beginsBy 41 = .ok (.return_, 1) := bo_177 (by decide +kernel)
abbrev rm_X9_beginsBy : Room := { frames := 2, cells := 0, slots := 0, locals := 47 }
set_option maxRecDepth 100000 in
set_option maxHeartbeats 8000000 in
theorem c_X9_beginsBy {l : Launch} {E : (Nat → Prop) → State → Prop} (hO : bw_Ok E) {G : va_G} {cI cB cJ cN cW : ClassId} (a : Nat) (g_p : Nat → Int) (d : Nat) (g_s : Nat → Int) (x : Int) (w : Int) (hx9 : zR x) (hw9 : zR w) (hp : ProgOk g_p) (hw8 : 0 ≤ w ∧ w ≤ 3) (hx8 : 0 ≤ x ∧ x < (w + 1) * (w + 1) * (w + 1) * (w + 1)) : bw_Cv (S := zV) l yX9_beginsBy (bw_ws (Cond.code yX9_beginsBy cX9_beginsBy 5 none)) rm_X9_beginsBy E G (bw_kt cI cB cJ cN cW) [.ref a, .ref d, .int (zI x), .int (zI w)] [(a, .inl (cI, 200, .inl (fun k => zI (g_p k)))), (d, .inl (cI, 159, .inl (fun k => zI (g_s k))))] (fun u => (StOk g_p ((u 1).2 0))) (fun u => [(a, .inl (cI, 200, .inl (fun k => zI (g_p k)))), (d, .inl (cI, 159, .inl (fun k => zI (((u 1).2 0) k))))]) := by
  refine bw_Cv.of (cc := cX9_beginsBy) (maxL := 5) (by decide) rfl (Nat.le_of_ble_eq_true rfl) ?_
  intro p e s m below meth c A Q hx hb hml hts hown hin hK hA hS hP hD hE ret ls hl
  have F : CallFix p m c cX9_beginsBy 5 s ([.ref a, .ref d, .int (zI x), .int (zI w)] : List Value).toArray bw_T RX9 := ⟨hx, hb, hml, hown, fun w h => hts w (List.mem_cons_of_mem _ h)⟩
  replace hl : lv_has ls 5 [(0, .ref a), (1, .ref d), (2, .int (zI x)), (3, .int (zI w))] := hl
  rcases (show w = 0 ∨ w = 1 ∨ w = 2 ∨ w = 3 by omega) with rfl | rfl | rfl | rfl
  · refine lv_iload_n hx hb dX9_beginsBy_0 rfl (lv_at hl 3 rfl) ?_
    refine lv_iconst (v := zI 1) hx hb dX9_beginsBy_1 rfl ?_
    refine r_iadd (v := zI 1) F dX9_beginsBy_2 (by decide) ?_
    refine lv_istore (lv' := [(4, .int (zI 1)), (0, .ref a), (1, .ref d), (2, .int (zI x)), (3, .int (zI 0))]) hx hb dX9_beginsBy_3 hl (by decide) rfl (fun ls hl => ?_)
    refine lv_aload_n hx hb dX9_beginsBy_5 rfl (lv_at hl 1 rfl) ?_
    refine lv_aload_n hx hb dX9_beginsBy_6 rfl (lv_at hl 2 rfl) ?_
    refine lv_iload_n hx hb dX9_beginsBy_7 rfl (lv_at hl 3 rfl) ?_
    refine lv_iload hx hb dX9_beginsBy_8 (lv_at hl 0 rfl) ?_
    refine lv_iload hx hb dX9_beginsBy_10 (lv_at hl 0 rfl) ?_
    refine r_imul (v := zI 1) F dX9_beginsBy_12 (by decide) ?_
    refine lv_iload hx hb dX9_beginsBy_13 (lv_at hl 0 rfl) ?_
    refine r_imul (v := zI 1) F dX9_beginsBy_15 (by decide) ?_
    refine rz_idiv F (by omega) (by omega) dX9_beginsBy_16 (fun z1 h_z1 => ?_)
    refine lv_iload_n hx hb dX9_beginsBy_17 rfl (lv_at hl 3 rfl) ?_
    refine lv_iload hx hb dX9_beginsBy_18 (lv_at hl 0 rfl) ?_
    refine lv_iload hx hb dX9_beginsBy_20 (lv_at hl 0 rfl) ?_
    refine r_imul (v := zI 1) F dX9_beginsBy_22 (by decide) ?_
    refine rz_idiv F (by omega) (by omega) dX9_beginsBy_23 (fun z2 h_z2 => ?_)
    refine lv_iload hx hb dX9_beginsBy_24 (lv_at hl 0 rfl) ?_
    refine rz_irem F (by omega) (by omega) dX9_beginsBy_26 (fun z3 h_z3 => ?_)
    refine lv_iload_n hx hb dX9_beginsBy_27 rfl (lv_at hl 3 rfl) ?_
    refine lv_iload hx hb dX9_beginsBy_28 (lv_at hl 0 rfl) ?_
    refine rz_idiv F (by omega) (by omega) dX9_beginsBy_30 (fun z4 h_z4 => ?_)
    refine lv_iload hx hb dX9_beginsBy_31 (lv_at hl 0 rfl) ?_
    refine rz_irem F (by omega) (by omega) dX9_beginsBy_33 (fun z5 h_z5 => ?_)
    refine lv_iload_n hx hb dX9_beginsBy_34 rfl (lv_at hl 3 rfl) ?_
    refine lv_iload hx hb dX9_beginsBy_35 (lv_at hl 0 rfl) ?_
    refine rz_irem F (by omega) (by omega) dX9_beginsBy_37 (fun z6 h_z6 => ?_)
    refine r_callZv (As := [.ref a, .ref d, .int (zI z1), .int (zI z3), .int (zI z5), .int (zI z6)]) (rest := []) (wr := []) F hK hP hD hS hA hO hE (c_X9_begins hO a g_p d g_s z1 z3 z5 z6 (by omega) (by omega) (by omega) (by omega) hp (by omega) (by omega) (by omega) (by omega)) k_1421 ks_X9_begins 6 rfl (by decide +kernel) ⟨Nat.le_of_ble_eq_true rfl, Nat.le_of_ble_eq_true rfl⟩ [0, 1] [] rfl rfl (by decide) (by decide) (by decide) hl.1 rfl (Nat.le_of_ble_eq_true rfl) dX9_beginsBy_38 ⟨Nat.le_of_ble_eq_true rfl, Nat.le_of_ble_eq_true rfl⟩ (w1 := fun u7 => [(a, .inl (cI, 200, .inl (fun k => zI (g_p k)))), (d, .inl (cI, 159, .inl (fun k => zI (((u7 1).2 0) k))))]) (fun _ => rfl) (fun  u7 H locs hp8 hP hD hS => ?_)
    exact ret (fun k => [((fun _ => 0), fun _ _ => 0), (fun _ => 0, fun _ => ((u7 1).2 0))].getD k (fun _ => 0, fun _ _ => 0)) _ _ _ _ _ _ hp8 (bw_subP (isC := [0, 1]) hP rfl) (hD.sub [0, 1] (by decide) rfl) hS (Nat.le_of_ble_eq_true rfl) (Nat.le_of_ble_eq_true rfl) dX9_beginsBy_41
  · refine lv_iload_n hx hb dX9_beginsBy_0 rfl (lv_at hl 3 rfl) ?_
    refine lv_iconst (v := zI 1) hx hb dX9_beginsBy_1 rfl ?_
    refine r_iadd (v := zI 2) F dX9_beginsBy_2 (by decide) ?_
    refine lv_istore (lv' := [(4, .int (zI 2)), (0, .ref a), (1, .ref d), (2, .int (zI x)), (3, .int (zI 1))]) hx hb dX9_beginsBy_3 hl (by decide) rfl (fun ls hl => ?_)
    refine lv_aload_n hx hb dX9_beginsBy_5 rfl (lv_at hl 1 rfl) ?_
    refine lv_aload_n hx hb dX9_beginsBy_6 rfl (lv_at hl 2 rfl) ?_
    refine lv_iload_n hx hb dX9_beginsBy_7 rfl (lv_at hl 3 rfl) ?_
    refine lv_iload hx hb dX9_beginsBy_8 (lv_at hl 0 rfl) ?_
    refine lv_iload hx hb dX9_beginsBy_10 (lv_at hl 0 rfl) ?_
    refine r_imul (v := zI 4) F dX9_beginsBy_12 (by decide) ?_
    refine lv_iload hx hb dX9_beginsBy_13 (lv_at hl 0 rfl) ?_
    refine r_imul (v := zI 8) F dX9_beginsBy_15 (by decide) ?_
    refine rz_idiv F (by omega) (by omega) dX9_beginsBy_16 (fun z9 h_z9 => ?_)
    refine lv_iload_n hx hb dX9_beginsBy_17 rfl (lv_at hl 3 rfl) ?_
    refine lv_iload hx hb dX9_beginsBy_18 (lv_at hl 0 rfl) ?_
    refine lv_iload hx hb dX9_beginsBy_20 (lv_at hl 0 rfl) ?_
    refine r_imul (v := zI 4) F dX9_beginsBy_22 (by decide) ?_
    refine rz_idiv F (by omega) (by omega) dX9_beginsBy_23 (fun z10 h_z10 => ?_)
    refine lv_iload hx hb dX9_beginsBy_24 (lv_at hl 0 rfl) ?_
    refine rz_irem F (by omega) (by omega) dX9_beginsBy_26 (fun z11 h_z11 => ?_)
    refine lv_iload_n hx hb dX9_beginsBy_27 rfl (lv_at hl 3 rfl) ?_
    refine lv_iload hx hb dX9_beginsBy_28 (lv_at hl 0 rfl) ?_
    refine rz_idiv F (by omega) (by omega) dX9_beginsBy_30 (fun z12 h_z12 => ?_)
    refine lv_iload hx hb dX9_beginsBy_31 (lv_at hl 0 rfl) ?_
    refine rz_irem F (by omega) (by omega) dX9_beginsBy_33 (fun z13 h_z13 => ?_)
    refine lv_iload_n hx hb dX9_beginsBy_34 rfl (lv_at hl 3 rfl) ?_
    refine lv_iload hx hb dX9_beginsBy_35 (lv_at hl 0 rfl) ?_
    refine rz_irem F (by omega) (by omega) dX9_beginsBy_37 (fun z14 h_z14 => ?_)
    refine r_callZv (As := [.ref a, .ref d, .int (zI z9), .int (zI z11), .int (zI z13), .int (zI z14)]) (rest := []) (wr := []) F hK hP hD hS hA hO hE (c_X9_begins hO a g_p d g_s z9 z11 z13 z14 (by omega) (by omega) (by omega) (by omega) hp (by omega) (by omega) (by omega) (by omega)) k_1421 ks_X9_begins 6 rfl (by decide +kernel) ⟨Nat.le_of_ble_eq_true rfl, Nat.le_of_ble_eq_true rfl⟩ [0, 1] [] rfl rfl (by decide) (by decide) (by decide) hl.1 rfl (Nat.le_of_ble_eq_true rfl) dX9_beginsBy_38 ⟨Nat.le_of_ble_eq_true rfl, Nat.le_of_ble_eq_true rfl⟩ (w1 := fun u15 => [(a, .inl (cI, 200, .inl (fun k => zI (g_p k)))), (d, .inl (cI, 159, .inl (fun k => zI (((u15 1).2 0) k))))]) (fun _ => rfl) (fun  u15 H locs hp16 hP hD hS => ?_)
    exact ret (fun k => [((fun _ => 0), fun _ _ => 0), (fun _ => 0, fun _ => ((u15 1).2 0))].getD k (fun _ => 0, fun _ _ => 0)) _ _ _ _ _ _ hp16 (bw_subP (isC := [0, 1]) hP rfl) (hD.sub [0, 1] (by decide) rfl) hS (Nat.le_of_ble_eq_true rfl) (Nat.le_of_ble_eq_true rfl) dX9_beginsBy_41
  · refine lv_iload_n hx hb dX9_beginsBy_0 rfl (lv_at hl 3 rfl) ?_
    refine lv_iconst (v := zI 1) hx hb dX9_beginsBy_1 rfl ?_
    refine r_iadd (v := zI 3) F dX9_beginsBy_2 (by decide) ?_
    refine lv_istore (lv' := [(4, .int (zI 3)), (0, .ref a), (1, .ref d), (2, .int (zI x)), (3, .int (zI 2))]) hx hb dX9_beginsBy_3 hl (by decide) rfl (fun ls hl => ?_)
    refine lv_aload_n hx hb dX9_beginsBy_5 rfl (lv_at hl 1 rfl) ?_
    refine lv_aload_n hx hb dX9_beginsBy_6 rfl (lv_at hl 2 rfl) ?_
    refine lv_iload_n hx hb dX9_beginsBy_7 rfl (lv_at hl 3 rfl) ?_
    refine lv_iload hx hb dX9_beginsBy_8 (lv_at hl 0 rfl) ?_
    refine lv_iload hx hb dX9_beginsBy_10 (lv_at hl 0 rfl) ?_
    refine r_imul (v := zI 9) F dX9_beginsBy_12 (by decide) ?_
    refine lv_iload hx hb dX9_beginsBy_13 (lv_at hl 0 rfl) ?_
    refine r_imul (v := zI 27) F dX9_beginsBy_15 (by decide) ?_
    refine rz_idiv F (by omega) (by omega) dX9_beginsBy_16 (fun z17 h_z17 => ?_)
    refine lv_iload_n hx hb dX9_beginsBy_17 rfl (lv_at hl 3 rfl) ?_
    refine lv_iload hx hb dX9_beginsBy_18 (lv_at hl 0 rfl) ?_
    refine lv_iload hx hb dX9_beginsBy_20 (lv_at hl 0 rfl) ?_
    refine r_imul (v := zI 9) F dX9_beginsBy_22 (by decide) ?_
    refine rz_idiv F (by omega) (by omega) dX9_beginsBy_23 (fun z18 h_z18 => ?_)
    refine lv_iload hx hb dX9_beginsBy_24 (lv_at hl 0 rfl) ?_
    refine rz_irem F (by omega) (by omega) dX9_beginsBy_26 (fun z19 h_z19 => ?_)
    refine lv_iload_n hx hb dX9_beginsBy_27 rfl (lv_at hl 3 rfl) ?_
    refine lv_iload hx hb dX9_beginsBy_28 (lv_at hl 0 rfl) ?_
    refine rz_idiv F (by omega) (by omega) dX9_beginsBy_30 (fun z20 h_z20 => ?_)
    refine lv_iload hx hb dX9_beginsBy_31 (lv_at hl 0 rfl) ?_
    refine rz_irem F (by omega) (by omega) dX9_beginsBy_33 (fun z21 h_z21 => ?_)
    refine lv_iload_n hx hb dX9_beginsBy_34 rfl (lv_at hl 3 rfl) ?_
    refine lv_iload hx hb dX9_beginsBy_35 (lv_at hl 0 rfl) ?_
    refine rz_irem F (by omega) (by omega) dX9_beginsBy_37 (fun z22 h_z22 => ?_)
    refine r_callZv (As := [.ref a, .ref d, .int (zI z17), .int (zI z19), .int (zI z21), .int (zI z22)]) (rest := []) (wr := []) F hK hP hD hS hA hO hE (c_X9_begins hO a g_p d g_s z17 z19 z21 z22 (by omega) (by omega) (by omega) (by omega) hp (by omega) (by omega) (by omega) (by omega)) k_1421 ks_X9_begins 6 rfl (by decide +kernel) ⟨Nat.le_of_ble_eq_true rfl, Nat.le_of_ble_eq_true rfl⟩ [0, 1] [] rfl rfl (by decide) (by decide) (by decide) hl.1 rfl (Nat.le_of_ble_eq_true rfl) dX9_beginsBy_38 ⟨Nat.le_of_ble_eq_true rfl, Nat.le_of_ble_eq_true rfl⟩ (w1 := fun u23 => [(a, .inl (cI, 200, .inl (fun k => zI (g_p k)))), (d, .inl (cI, 159, .inl (fun k => zI (((u23 1).2 0) k))))]) (fun _ => rfl) (fun  u23 H locs hp24 hP hD hS => ?_)
    exact ret (fun k => [((fun _ => 0), fun _ _ => 0), (fun _ => 0, fun _ => ((u23 1).2 0))].getD k (fun _ => 0, fun _ _ => 0)) _ _ _ _ _ _ hp24 (bw_subP (isC := [0, 1]) hP rfl) (hD.sub [0, 1] (by decide) rfl) hS (Nat.le_of_ble_eq_true rfl) (Nat.le_of_ble_eq_true rfl) dX9_beginsBy_41
  · refine lv_iload_n hx hb dX9_beginsBy_0 rfl (lv_at hl 3 rfl) ?_
    refine lv_iconst (v := zI 1) hx hb dX9_beginsBy_1 rfl ?_
    refine r_iadd (v := zI 4) F dX9_beginsBy_2 (by decide) ?_
    refine lv_istore (lv' := [(4, .int (zI 4)), (0, .ref a), (1, .ref d), (2, .int (zI x)), (3, .int (zI 3))]) hx hb dX9_beginsBy_3 hl (by decide) rfl (fun ls hl => ?_)
    refine lv_aload_n hx hb dX9_beginsBy_5 rfl (lv_at hl 1 rfl) ?_
    refine lv_aload_n hx hb dX9_beginsBy_6 rfl (lv_at hl 2 rfl) ?_
    refine lv_iload_n hx hb dX9_beginsBy_7 rfl (lv_at hl 3 rfl) ?_
    refine lv_iload hx hb dX9_beginsBy_8 (lv_at hl 0 rfl) ?_
    refine lv_iload hx hb dX9_beginsBy_10 (lv_at hl 0 rfl) ?_
    refine r_imul (v := zI 16) F dX9_beginsBy_12 (by decide) ?_
    refine lv_iload hx hb dX9_beginsBy_13 (lv_at hl 0 rfl) ?_
    refine r_imul (v := zI 64) F dX9_beginsBy_15 (by decide) ?_
    refine rz_idiv F (by omega) (by omega) dX9_beginsBy_16 (fun z25 h_z25 => ?_)
    refine lv_iload_n hx hb dX9_beginsBy_17 rfl (lv_at hl 3 rfl) ?_
    refine lv_iload hx hb dX9_beginsBy_18 (lv_at hl 0 rfl) ?_
    refine lv_iload hx hb dX9_beginsBy_20 (lv_at hl 0 rfl) ?_
    refine r_imul (v := zI 16) F dX9_beginsBy_22 (by decide) ?_
    refine rz_idiv F (by omega) (by omega) dX9_beginsBy_23 (fun z26 h_z26 => ?_)
    refine lv_iload hx hb dX9_beginsBy_24 (lv_at hl 0 rfl) ?_
    refine rz_irem F (by omega) (by omega) dX9_beginsBy_26 (fun z27 h_z27 => ?_)
    refine lv_iload_n hx hb dX9_beginsBy_27 rfl (lv_at hl 3 rfl) ?_
    refine lv_iload hx hb dX9_beginsBy_28 (lv_at hl 0 rfl) ?_
    refine rz_idiv F (by omega) (by omega) dX9_beginsBy_30 (fun z28 h_z28 => ?_)
    refine lv_iload hx hb dX9_beginsBy_31 (lv_at hl 0 rfl) ?_
    refine rz_irem F (by omega) (by omega) dX9_beginsBy_33 (fun z29 h_z29 => ?_)
    refine lv_iload_n hx hb dX9_beginsBy_34 rfl (lv_at hl 3 rfl) ?_
    refine lv_iload hx hb dX9_beginsBy_35 (lv_at hl 0 rfl) ?_
    refine rz_irem F (by omega) (by omega) dX9_beginsBy_37 (fun z30 h_z30 => ?_)
    refine r_callZv (As := [.ref a, .ref d, .int (zI z25), .int (zI z27), .int (zI z29), .int (zI z30)]) (rest := []) (wr := []) F hK hP hD hS hA hO hE (c_X9_begins hO a g_p d g_s z25 z27 z29 z30 (by omega) (by omega) (by omega) (by omega) hp (by omega) (by omega) (by omega) (by omega)) k_1421 ks_X9_begins 6 rfl (by decide +kernel) ⟨Nat.le_of_ble_eq_true rfl, Nat.le_of_ble_eq_true rfl⟩ [0, 1] [] rfl rfl (by decide) (by decide) (by decide) hl.1 rfl (Nat.le_of_ble_eq_true rfl) dX9_beginsBy_38 ⟨Nat.le_of_ble_eq_true rfl, Nat.le_of_ble_eq_true rfl⟩ (w1 := fun u31 => [(a, .inl (cI, 200, .inl (fun k => zI (g_p k)))), (d, .inl (cI, 159, .inl (fun k => zI (((u31 1).2 0) k))))]) (fun _ => rfl) (fun  u31 H locs hp32 hP hD hS => ?_)
    exact ret (fun k => [((fun _ => 0), fun _ _ => 0), (fun _ => 0, fun _ => ((u31 1).2 0))].getD k (fun _ => 0, fun _ _ => 0)) _ _ _ _ _ _ hp32 (bw_subP (isC := [0, 1]) hP rfl) (hD.sub [0, 1] (by decide) rfl) hS (Nat.le_of_ble_eq_true rfl) (Nat.le_of_ble_eq_true rfl) dX9_beginsBy_41
theorem dX9_laid_0 : decode cX9_laid 0 = .ok (.bipush 20, 2) := bo_16 20 (by decide +kernel)
theorem dX9_laid_2 : decode cX9_laid 2 = .ok (.iload_n 1, 1) := bo_27 (by decide +kernel)
theorem dX9_laid_3 : decode cX9_laid 3 = .ok (.iconst 2, 1) := bo_5 (by decide +kernel)
theorem dX9_laid_4 : decode cX9_laid 4 = .ok (.idiv, 1) := bo_108 (by decide +kernel)
theorem dX9_laid_5 : decode cX9_laid 5 = .ok (.imul, 1) := bo_104 (by decide +kernel)
theorem dX9_laid_6 : decode cX9_laid 6 = .ok (.istore_n 2, 1) := bo_61 (by decide +kernel)
theorem dX9_laid_7 : decode cX9_laid 7 = .ok (.aload_n 0, 1) := bo_42 (by decide +kernel)
theorem dX9_laid_8 : decode cX9_laid 8 = .ok (.iload_n 2, 1) := bo_28 (by decide +kernel)
theorem dX9_laid_9 : decode cX9_laid 9 = .ok (.iconst 0, 1) := bo_3 (by decide +kernel)
theorem dX9_laid_10 : decode cX9_laid 10 = .ok (.iadd, 1) := bo_96 (by decide +kernel)
theorem dX9_laid_11 : decode cX9_laid 11 = .ok (.iaload, 1) := bo_46 (by decide +kernel)
theorem dX9_laid_12 : decode cX9_laid 12 = .ok (.iconst 1, 1) := bo_4 (by decide +kernel)
theorem dX9_laid_13 : decode cX9_laid 13 = .ok (.if_icmp .ne 12, 3) := bo_160 0 12 (by decide +kernel)
theorem dX9_laid_25 : decode cX9_laid 25 = .ok (.iconst 0, 1) := bo_3 (by decide +kernel)
theorem dX9_laid_26 : decode cX9_laid 26 = .ok (.istore_n 3, 1) := bo_62 (by decide +kernel)
theorem dX9_laid_27 : decode cX9_laid 27 = .ok (.iload_n 1, 1) := bo_27 (by decide +kernel)
theorem dX9_laid_28 : decode cX9_laid 28 = .ok (.iconst 2, 1) := bo_5 (by decide +kernel)
theorem dX9_laid_29 : decode cX9_laid 29 = .ok (.irem, 1) := bo_112 (by decide +kernel)
theorem dX9_laid_30 : decode cX9_laid 30 = .ok (.ifCond .ne 20, 3) := bo_154 0 20 (by decide +kernel)
theorem dX9_laid_50 : decode cX9_laid 50 = .ok (.iload_n 3, 1) := bo_29 (by decide +kernel)
theorem dX9_laid_51 : decode cX9_laid 51 = .ok (.iconst 2, 1) := bo_5 (by decide +kernel)
theorem dX9_laid_52 : decode cX9_laid 52 = .ok (.if_icmp .ne 12, 3) := bo_160 0 12 (by decide +kernel)
theorem dX9_laid_64 : decode cX9_laid 64 = .ok (.iconst 0, 1) := bo_3 (by decide +kernel)
theorem dX9_laid_65 : decode cX9_laid 65 = .ok (.ireturn, 1) := bo_172 (by decide +kernel)
theorem dX9_laid_33 : decode cX9_laid 33 = .ok (.iload_n 3, 1) := bo_29 (by decide +kernel)
theorem dX9_laid_34 : decode cX9_laid 34 = .ok (.ifCond .le 12, 3) := bo_158 0 12 (by decide +kernel)
theorem dX9_laid_46 : decode cX9_laid 46 = .ok (.iconst 0, 1) := bo_3 (by decide +kernel)
theorem dX9_laid_47 : decode cX9_laid 47 = .ok (.goto 18, 3) := bo_167 0 18 (by decide +kernel)
theorem dX9_laid_16 : decode cX9_laid 16 = .ok (.aload_n 0, 1) := bo_42 (by decide +kernel)
theorem dX9_laid_17 : decode cX9_laid 17 = .ok (.iload_n 2, 1) := bo_28 (by decide +kernel)
theorem dX9_laid_18 : decode cX9_laid 18 = .ok (.bipush 14, 2) := bo_16 14 (by decide +kernel)
theorem dX9_laid_20 : decode cX9_laid 20 = .ok (.iadd, 1) := bo_96 (by decide +kernel)
theorem dX9_laid_21 : decode cX9_laid 21 = .ok (.iaload, 1) := bo_46 (by decide +kernel)
theorem dX9_laid_22 : decode cX9_laid 22 = .ok (.goto 4, 3) := bo_167 0 4 (by decide +kernel)
theorem dX9_laid_55 : decode cX9_laid 55 = .ok (.aload_n 0, 1) := bo_42 (by decide +kernel)
theorem dX9_laid_56 : decode cX9_laid 56 = .ok (.iload_n 2, 1) := bo_28 (by decide +kernel)
theorem dX9_laid_57 : decode cX9_laid 57 = .ok (.bipush 19, 2) := bo_16 19 (by decide +kernel)
theorem dX9_laid_59 : decode cX9_laid 59 = .ok (.iadd, 1) := bo_96 (by decide +kernel)
theorem dX9_laid_60 : decode cX9_laid 60 = .ok (.iaload, 1) := bo_46 (by decide +kernel)
theorem dX9_laid_61 : decode cX9_laid 61 = .ok (.goto 4, 3) := bo_167 0 4 (by decide +kernel)
theorem dX9_laid_37 : decode cX9_laid 37 = .ok (.aload_n 0, 1) := bo_42 (by decide +kernel)
theorem dX9_laid_38 : decode cX9_laid 38 = .ok (.iload_n 2, 1) := bo_28 (by decide +kernel)
theorem dX9_laid_39 : decode cX9_laid 39 = .ok (.bipush 17, 2) := bo_16 17 (by decide +kernel)
theorem dX9_laid_41 : decode cX9_laid 41 = .ok (.iadd, 1) := bo_96 (by decide +kernel)
theorem dX9_laid_42 : decode cX9_laid 42 = .ok (.iaload, 1) := bo_46 (by decide +kernel)
theorem dX9_laid_43 : decode cX9_laid 43 = .ok (.goto 22, 3) := bo_167 0 22 (by decide +kernel)
abbrev rm_X9_laid : Room := { frames := 0, cells := 0, slots := 0, locals := 0 }
set_option maxRecDepth 100000 in
set_option maxHeartbeats 8000000 in
theorem c_X9_laid {l : Launch} {E : (Nat → Prop) → State → Prop} (hO : bw_Ok E) {G : va_G} {cI cB cJ cN cW : ClassId} (a : Nat) (g_p : Nat → Int) (x : Int) (hx9 : zR x) (hp : ProgOk g_p) (hx8 : 0 ≤ x ∧ x < 20) : bw_Ci (S := zV) l yX9_laid (bw_ws (Cond.code yX9_laid cX9_laid 4 (some .int))) rm_X9_laid E G (bw_kt cI cB cJ cN cW) [.ref a, .int (zI x)] [(a, .inl (cI, 200, .inl (fun k => zI (g_p k))))] (fun r u => ∃ z : Int, r = zI z ∧ ((0 ≤ z ∧ z ≤ 9) ∧ Imp (0 < z ∧ x % 2 = 0) (z = g_p (20 * (x / 2) + 17).toNat) ∧ Imp (0 < z ∧ x % 2 = 1) (z = g_p (20 * (x / 2) + 19).toNat))) (fun u => [(a, .inl (cI, 200, .inl (fun k => zI (g_p k))))]) := by
  refine bw_Ci.of (cc := cX9_laid) (maxL := 4) (ty := .int) (by decide) rfl (Nat.le_of_ble_eq_true rfl) ?_
  intro p e s m below meth c A Q hx hb hml hts hown hin hK hA hS hP hD hE ret ls hl
  have F : CallFix p m c cX9_laid 4 s ([.ref a, .int (zI x)] : List Value).toArray bw_T RX9 := ⟨hx, hb, hml, hown, fun w h => hts w (List.mem_cons_of_mem _ h)⟩
  replace hl : lv_has ls 4 [(0, .ref a), (1, .int (zI x))] := hl
  refine lv_bipush (v := zI 20) hx hb dX9_laid_0 (by decide) ?_
  refine lv_iload_n hx hb dX9_laid_2 rfl (lv_at hl 1 rfl) ?_
  refine lv_iconst (v := zI 2) hx hb dX9_laid_3 rfl ?_
  refine rz_idiv F (by omega) (by omega) dX9_laid_4 (fun z2 h_z2 => ?_)
  obtain ⟨rfl, hd3⟩ := h_z2
  refine r_imul (v := zI (20 * (x / 2))) F dX9_laid_5 (zI_mul _ _) ?_
  refine lv_istore_n (lv' := [(2, .int (zI (20 * (x / 2)))), (0, .ref a), (1, .int (zI x))]) hx hb dX9_laid_6 rfl hl (by decide) rfl (fun ls hl => ?_)
  refine lv_aload_n hx hb dX9_laid_7 rfl (lv_at hl 1 rfl) ?_
  refine lv_iload_n hx hb dX9_laid_8 rfl (lv_at hl 0 rfl) ?_
  refine lv_iconst (v := zI 0) hx hb dX9_laid_9 rfl ?_
  refine r_iadd (v := zI ((20 * (x / 2)) + 0)) F dX9_laid_10 (zI_add _ _) ?_
  refine rz_iald F hK hP 0 0 rfl rfl (by omega) (by omega) dX9_laid_11 ?_
  refine rz_top (fun z4 h_z4 => ?_)
  refine lv_iconst (v := zI 1) hx hb dX9_laid_12 rfl ?_
  refine rz_icmp_ne (tgt := 25) F (by omega) (by omega) dX9_laid_13 (by decide) (fun h13_4 => ?_) (fun h13_4 => ?_)
  · refine lv_iconst (v := zI 0) hx hb dX9_laid_25 rfl ?_
    refine lv_istore_n (lv' := [(3, .int (zI 0)), (2, .int (zI (20 * (x / 2)))), (0, .ref a), (1, .int (zI x))]) hx hb dX9_laid_26 rfl hl (by decide) rfl (fun ls hl => ?_)
    refine lv_iload_n hx hb dX9_laid_27 rfl (lv_at hl 3 rfl) ?_
    refine lv_iconst (v := zI 2) hx hb dX9_laid_28 rfl ?_
    refine rz_irem F (by omega) (by omega) dX9_laid_29 (fun z7 h_z7 => ?_)
    obtain ⟨rfl, hd8⟩ := h_z7
    refine rz_if_ne (tgt := 50) F (by omega) dX9_laid_30 (by decide) (fun h30_8 => ?_) (fun h30_8 => ?_)
    · refine lv_iload_n hx hb dX9_laid_50 rfl (lv_at hl 0 rfl) ?_
      refine lv_iconst (v := zI 2) hx hb dX9_laid_51 rfl ?_
      refine rz_icmp_ne (tgt := 64) F (by omega) (by omega) dX9_laid_52 (by decide) (fun h52_9 => ?_) (fun h52_9 => by omega)
      refine lv_iconst (v := zI 0) hx hb dX9_laid_64 rfl ?_
      exact ret (zI 0) (fun k => [((fun _ => 0), fun _ _ => 0)].getD k (fun _ => 0, fun _ _ => 0)) _ _ _ _ _ _ rfl ⟨0, rfl, ⟨(show 0 ≤ (0 : Int) ∧ (0 : Int) ≤ 9 from by omega), (show Imp (0 < (0 : Int) ∧ x % 2 = 0) ((0 : Int) = g_p (20 * (x / 2) + 17).toNat) from fun q9 => by omega), (show Imp (0 < (0 : Int) ∧ x % 2 = 1) ((0 : Int) = g_p (20 * (x / 2) + 19).toNat) from fun q9 => by omega)⟩⟩ (bw_subP (isC := [0]) hP rfl) (hD.sub [0] (by decide) rfl) hS (Nat.le_of_ble_eq_true rfl) (Nat.le_of_ble_eq_true rfl) dX9_laid_65
    · refine lv_iload_n hx hb dX9_laid_33 rfl (lv_at hl 0 rfl) ?_
      refine rz_if_le (tgt := 46) F (by omega) dX9_laid_34 (by decide) (fun h34_10 => ?_) (fun h34_10 => by omega)
      refine lv_iconst (v := zI 0) hx hb dX9_laid_46 rfl ?_
      refine lv_goto (tgt := 65) hx hb dX9_laid_47 (by decide) ?_
      exact ret (zI 0) (fun k => [((fun _ => 0), fun _ _ => 0)].getD k (fun _ => 0, fun _ _ => 0)) _ _ _ _ _ _ rfl ⟨0, rfl, ⟨(show 0 ≤ (0 : Int) ∧ (0 : Int) ≤ 9 from by omega), (show Imp (0 < (0 : Int) ∧ x % 2 = 0) ((0 : Int) = g_p (20 * (x / 2) + 17).toNat) from fun q9 => by omega), (show Imp (0 < (0 : Int) ∧ x % 2 = 1) ((0 : Int) = g_p (20 * (x / 2) + 19).toNat) from fun q9 => by omega)⟩⟩ (bw_subP (isC := [0]) hP rfl) (hD.sub [0] (by decide) rfl) hS (Nat.le_of_ble_eq_true rfl) (Nat.le_of_ble_eq_true rfl) dX9_laid_65
  · refine lv_aload_n hx hb dX9_laid_16 rfl (lv_at hl 1 rfl) ?_
    refine lv_iload_n hx hb dX9_laid_17 rfl (lv_at hl 0 rfl) ?_
    refine lv_bipush (v := zI 14) hx hb dX9_laid_18 (by decide) ?_
    refine r_iadd (v := zI ((20 * (x / 2)) + 14)) F dX9_laid_20 (zI_add _ _) ?_
    refine rz_iald F hK hP 0 0 rfl rfl (by omega) (by omega) dX9_laid_21 ?_
    refine rz_top (fun z12 h_z12 => ?_)
    refine lv_goto (tgt := 26) hx hb dX9_laid_22 (by decide) ?_
    refine lv_istore_n (lv' := [(3, .int (zI z12)), (2, .int (zI (20 * (x / 2)))), (0, .ref a), (1, .int (zI x))]) hx hb dX9_laid_26 rfl hl (by decide) rfl (fun ls hl => ?_)
    refine lv_iload_n hx hb dX9_laid_27 rfl (lv_at hl 3 rfl) ?_
    refine lv_iconst (v := zI 2) hx hb dX9_laid_28 rfl ?_
    refine rz_irem F (by omega) (by omega) dX9_laid_29 (fun z14 h_z14 => ?_)
    obtain ⟨rfl, hd15⟩ := h_z14
    refine rz_if_ne (tgt := 50) F (by omega) dX9_laid_30 (by decide) (fun h30_15 => ?_) (fun h30_15 => ?_)
    · refine lv_iload_n hx hb dX9_laid_50 rfl (lv_at hl 0 rfl) ?_
      refine lv_iconst (v := zI 2) hx hb dX9_laid_51 rfl ?_
      refine rz_icmp_ne (tgt := 64) F (by omega) (by omega) dX9_laid_52 (by decide) (fun h52_16 => ?_) (fun h52_16 => ?_)
      · refine lv_iconst (v := zI 0) hx hb dX9_laid_64 rfl ?_
        exact ret (zI 0) (fun k => [((fun _ => 0), fun _ _ => 0)].getD k (fun _ => 0, fun _ _ => 0)) _ _ _ _ _ _ rfl ⟨0, rfl, ⟨(show 0 ≤ (0 : Int) ∧ (0 : Int) ≤ 9 from by omega), (show Imp (0 < (0 : Int) ∧ x % 2 = 0) ((0 : Int) = g_p (20 * (x / 2) + 17).toNat) from fun q9 => by omega), (show Imp (0 < (0 : Int) ∧ x % 2 = 1) ((0 : Int) = g_p (20 * (x / 2) + 19).toNat) from fun q9 => by omega)⟩⟩ (bw_subP (isC := [0]) hP rfl) (hD.sub [0] (by decide) rfl) hS (Nat.le_of_ble_eq_true rfl) (Nat.le_of_ble_eq_true rfl) dX9_laid_65
      · refine lv_aload_n hx hb dX9_laid_55 rfl (lv_at hl 2 rfl) ?_
        refine lv_iload_n hx hb dX9_laid_56 rfl (lv_at hl 1 rfl) ?_
        refine lv_bipush (v := zI 19) hx hb dX9_laid_57 (by decide) ?_
        refine r_iadd (v := zI ((20 * (x / 2)) + 19)) F dX9_laid_59 (zI_add _ _) ?_
        refine rz_iald F hK hP 0 0 rfl rfl (by omega) (by omega) dX9_laid_60 ?_
        have hpl18 : 0 ≤ (g_p (((20 * (x / 2)) + 19)).toNat) ∧ (g_p (((20 * (x / 2)) + 19)).toNat) ≤ 9 := ProgR.at hp.1 (e := ((20 * (x / 2)) + 19)) (x / 2) 19 (by omega) (by omega) (by decide) rfl
        refine lv_goto (tgt := 65) hx hb dX9_laid_61 (by decide) ?_
        exact ret (zI (g_p (((20 * (x / 2)) + 19)).toNat)) (fun k => [((fun _ => 0), fun _ _ => 0)].getD k (fun _ => 0, fun _ _ => 0)) _ _ _ _ _ _ rfl ⟨(g_p (((20 * (x / 2)) + 19)).toNat), rfl, ⟨(show 0 ≤ ((g_p (((20 * (x / 2)) + 19)).toNat) : Int) ∧ ((g_p (((20 * (x / 2)) + 19)).toNat) : Int) ≤ 9 from by omega), (show Imp (0 < ((g_p (((20 * (x / 2)) + 19)).toNat) : Int) ∧ x % 2 = 0) (((g_p (((20 * (x / 2)) + 19)).toNat) : Int) = g_p (20 * (x / 2) + 17).toNat) from fun q9 => by omega), (show Imp (0 < ((g_p (((20 * (x / 2)) + 19)).toNat) : Int) ∧ x % 2 = 1) (((g_p (((20 * (x / 2)) + 19)).toNat) : Int) = g_p (20 * (x / 2) + 19).toNat) from fun q9 => by omega)⟩⟩ (bw_subP (isC := [0]) hP rfl) (hD.sub [0] (by decide) rfl) hS (Nat.le_of_ble_eq_true rfl) (Nat.le_of_ble_eq_true rfl) dX9_laid_65
    · refine lv_iload_n hx hb dX9_laid_33 rfl (lv_at hl 0 rfl) ?_
      refine rz_if_le (tgt := 46) F (by omega) dX9_laid_34 (by decide) (fun h34_18 => ?_) (fun h34_18 => ?_)
      · refine lv_iconst (v := zI 0) hx hb dX9_laid_46 rfl ?_
        refine lv_goto (tgt := 65) hx hb dX9_laid_47 (by decide) ?_
        exact ret (zI 0) (fun k => [((fun _ => 0), fun _ _ => 0)].getD k (fun _ => 0, fun _ _ => 0)) _ _ _ _ _ _ rfl ⟨0, rfl, ⟨(show 0 ≤ (0 : Int) ∧ (0 : Int) ≤ 9 from by omega), (show Imp (0 < (0 : Int) ∧ x % 2 = 0) ((0 : Int) = g_p (20 * (x / 2) + 17).toNat) from fun q9 => by omega), (show Imp (0 < (0 : Int) ∧ x % 2 = 1) ((0 : Int) = g_p (20 * (x / 2) + 19).toNat) from fun q9 => by omega)⟩⟩ (bw_subP (isC := [0]) hP rfl) (hD.sub [0] (by decide) rfl) hS (Nat.le_of_ble_eq_true rfl) (Nat.le_of_ble_eq_true rfl) dX9_laid_65
      · refine lv_aload_n hx hb dX9_laid_37 rfl (lv_at hl 2 rfl) ?_
        refine lv_iload_n hx hb dX9_laid_38 rfl (lv_at hl 1 rfl) ?_
        refine lv_bipush (v := zI 17) hx hb dX9_laid_39 (by decide) ?_
        refine r_iadd (v := zI ((20 * (x / 2)) + 17)) F dX9_laid_41 (zI_add _ _) ?_
        refine rz_iald F hK hP 0 0 rfl rfl (by omega) (by omega) dX9_laid_42 ?_
        have hpl20 : 0 ≤ (g_p (((20 * (x / 2)) + 17)).toNat) ∧ (g_p (((20 * (x / 2)) + 17)).toNat) ≤ 9 := ProgR.at hp.1 (e := ((20 * (x / 2)) + 17)) (x / 2) 17 (by omega) (by omega) (by decide) rfl
        refine lv_goto (tgt := 65) hx hb dX9_laid_43 (by decide) ?_
        exact ret (zI (g_p (((20 * (x / 2)) + 17)).toNat)) (fun k => [((fun _ => 0), fun _ _ => 0)].getD k (fun _ => 0, fun _ _ => 0)) _ _ _ _ _ _ rfl ⟨(g_p (((20 * (x / 2)) + 17)).toNat), rfl, ⟨(show 0 ≤ ((g_p (((20 * (x / 2)) + 17)).toNat) : Int) ∧ ((g_p (((20 * (x / 2)) + 17)).toNat) : Int) ≤ 9 from by omega), (show Imp (0 < ((g_p (((20 * (x / 2)) + 17)).toNat) : Int) ∧ x % 2 = 0) (((g_p (((20 * (x / 2)) + 17)).toNat) : Int) = g_p (20 * (x / 2) + 17).toNat) from fun q9 => by omega), (show Imp (0 < ((g_p (((20 * (x / 2)) + 17)).toNat) : Int) ∧ x % 2 = 1) (((g_p (((20 * (x / 2)) + 17)).toNat) : Int) = g_p (20 * (x / 2) + 19).toNat) from fun q9 => by omega)⟩⟩ (bw_subP (isC := [0]) hP rfl) (hD.sub [0] (by decide) rfl) hS (Nat.le_of_ble_eq_true rfl) (Nat.le_of_ble_eq_true rfl) dX9_laid_65
theorem dX9_goesTo_0 : decode cX9_goesTo 0 = .ok (.aload_n 0, 1) := bo_42 (by decide +kernel)
theorem dX9_goesTo_1 : decode cX9_goesTo 1 = .ok (.bipush 20, 2) := bo_16 20 (by decide +kernel)
theorem dX9_goesTo_3 : decode cX9_goesTo 3 = .ok (.iload_n 1, 1) := bo_27 (by decide +kernel)
theorem dX9_goesTo_4 : decode cX9_goesTo 4 = .ok (.iconst 2, 1) := bo_5 (by decide +kernel)
theorem dX9_goesTo_5 : decode cX9_goesTo 5 = .ok (.idiv, 1) := bo_108 (by decide +kernel)
theorem dX9_goesTo_6 : decode cX9_goesTo 6 = .ok (.imul, 1) := bo_104 (by decide +kernel)
theorem dX9_goesTo_7 : decode cX9_goesTo 7 = .ok (.iload_n 1, 1) := bo_27 (by decide +kernel)
theorem dX9_goesTo_8 : decode cX9_goesTo 8 = .ok (.iconst 2, 1) := bo_5 (by decide +kernel)
theorem dX9_goesTo_9 : decode cX9_goesTo 9 = .ok (.irem, 1) := bo_112 (by decide +kernel)
theorem dX9_goesTo_10 : decode cX9_goesTo 10 = .ok (.ifCond .ne 8, 3) := bo_154 0 8 (by decide +kernel)
theorem dX9_goesTo_18 : decode cX9_goesTo 18 = .ok (.bipush 18, 2) := bo_16 18 (by decide +kernel)
theorem dX9_goesTo_20 : decode cX9_goesTo 20 = .ok (.iadd, 1) := bo_96 (by decide +kernel)
theorem dX9_goesTo_21 : decode cX9_goesTo 21 = .ok (.iaload, 1) := bo_46 (by decide +kernel)
theorem dX9_goesTo_22 : decode cX9_goesTo 22 = .ok (.ireturn, 1) := bo_172 (by decide +kernel)
theorem dX9_goesTo_13 : decode cX9_goesTo 13 = .ok (.bipush 16, 2) := bo_16 16 (by decide +kernel)
theorem dX9_goesTo_15 : decode cX9_goesTo 15 = .ok (.goto 5, 3) := bo_167 0 5 (by decide +kernel)
abbrev rm_X9_goesTo : Room := { frames := 0, cells := 0, slots := 0, locals := 0 }
set_option maxRecDepth 100000 in
set_option maxHeartbeats 8000000 in
theorem c_X9_goesTo {l : Launch} {E : (Nat → Prop) → State → Prop} (hO : bw_Ok E) {G : va_G} {cI cB cJ cN cW : ClassId} (a : Nat) (g_p : Nat → Int) (x : Int) (hx9 : zR x) (hp : ProgOk g_p) (hx8 : 0 ≤ x ∧ x < 20) : bw_Ci (S := zV) l yX9_goesTo (bw_ws (Cond.code yX9_goesTo cX9_goesTo 2 (some .int))) rm_X9_goesTo E G (bw_kt cI cB cJ cN cW) [.ref a, .int (zI x)] [(a, .inl (cI, 200, .inl (fun k => zI (g_p k))))] (fun r u => ∃ z : Int, r = zI z ∧ (0 ≤ z ∧ z ≤ 9)) (fun u => [(a, .inl (cI, 200, .inl (fun k => zI (g_p k))))]) := by
  refine bw_Ci.of (cc := cX9_goesTo) (maxL := 2) (ty := .int) (by decide) rfl (Nat.le_of_ble_eq_true rfl) ?_
  intro p e s m below meth c A Q hx hb hml hts hown hin hK hA hS hP hD hE ret ls hl
  have F : CallFix p m c cX9_goesTo 2 s ([.ref a, .int (zI x)] : List Value).toArray bw_T RX9 := ⟨hx, hb, hml, hown, fun w h => hts w (List.mem_cons_of_mem _ h)⟩
  replace hl : lv_has ls 2 [(0, .ref a), (1, .int (zI x))] := hl
  refine lv_aload_n hx hb dX9_goesTo_0 rfl (lv_at hl 0 rfl) ?_
  refine lv_bipush (v := zI 20) hx hb dX9_goesTo_1 (by decide) ?_
  refine lv_iload_n hx hb dX9_goesTo_3 rfl (lv_at hl 1 rfl) ?_
  refine lv_iconst (v := zI 2) hx hb dX9_goesTo_4 rfl ?_
  refine rz_idiv F (by omega) (by omega) dX9_goesTo_5 (fun z2 h_z2 => ?_)
  obtain ⟨rfl, hd3⟩ := h_z2
  refine r_imul (v := zI (20 * (x / 2))) F dX9_goesTo_6 (zI_mul _ _) ?_
  refine lv_iload_n hx hb dX9_goesTo_7 rfl (lv_at hl 1 rfl) ?_
  refine lv_iconst (v := zI 2) hx hb dX9_goesTo_8 rfl ?_
  refine rz_irem F (by omega) (by omega) dX9_goesTo_9 (fun z5 h_z5 => ?_)
  obtain ⟨rfl, hd6⟩ := h_z5
  refine rz_if_ne (tgt := 18) F (by omega) dX9_goesTo_10 (by decide) (fun h10_6 => ?_) (fun h10_6 => ?_)
  · refine lv_bipush (v := zI 18) hx hb dX9_goesTo_18 (by decide) ?_
    refine r_iadd (v := zI ((20 * (x / 2)) + 18)) F dX9_goesTo_20 (zI_add _ _) ?_
    refine rz_iald F hK hP 0 0 rfl rfl (by omega) (by omega) dX9_goesTo_21 ?_
    have hpl8 : 0 ≤ (g_p (((20 * (x / 2)) + 18)).toNat) ∧ (g_p (((20 * (x / 2)) + 18)).toNat) ≤ 9 := ProgR.at hp.1 (e := ((20 * (x / 2)) + 18)) (x / 2) 18 (by omega) (by omega) (by decide) rfl
    exact ret (zI (g_p (((20 * (x / 2)) + 18)).toNat)) (fun k => [((fun _ => 0), fun _ _ => 0)].getD k (fun _ => 0, fun _ _ => 0)) _ _ _ _ _ _ rfl ⟨(g_p (((20 * (x / 2)) + 18)).toNat), rfl, by omega⟩ (bw_subP (isC := [0]) hP rfl) (hD.sub [0] (by decide) rfl) hS (Nat.le_of_ble_eq_true rfl) (Nat.le_of_ble_eq_true rfl) dX9_goesTo_22
  · refine lv_bipush (v := zI 16) hx hb dX9_goesTo_13 (by decide) ?_
    refine lv_goto (tgt := 20) hx hb dX9_goesTo_15 (by decide) ?_
    refine r_iadd (v := zI ((20 * (x / 2)) + 16)) F dX9_goesTo_20 (zI_add _ _) ?_
    refine rz_iald F hK hP 0 0 rfl rfl (by omega) (by omega) dX9_goesTo_21 ?_
    have hpl9 : 0 ≤ (g_p (((20 * (x / 2)) + 16)).toNat) ∧ (g_p (((20 * (x / 2)) + 16)).toNat) ≤ 9 := ProgR.at hp.1 (e := ((20 * (x / 2)) + 16)) (x / 2) 16 (by omega) (by omega) (by decide) rfl
    exact ret (zI (g_p (((20 * (x / 2)) + 16)).toNat)) (fun k => [((fun _ => 0), fun _ _ => 0)].getD k (fun _ => 0, fun _ _ => 0)) _ _ _ _ _ _ rfl ⟨(g_p (((20 * (x / 2)) + 16)).toNat), rfl, by omega⟩ (bw_subP (isC := [0]) hP rfl) (hD.sub [0] (by decide) rfl) hS (Nat.le_of_ble_eq_true rfl) (Nat.le_of_ble_eq_true rfl) dX9_goesTo_22
theorem cp_step {f g g' : Nat → Int} {v : Int} {G : Nat → Int} (h0 : 0 ≤ v) (h : ∀ k : Nat, (k : Int) < v → g k = f k) (h2 : ∀ k : Nat, v ≤ (k : Int) → g k = G k) (e : g' = uZ g v.toNat (f v.toNat)) : (∀ k : Nat, (k : Int) < v + 1 → g' k = f k) ∧ (∀ k : Nat, v + 1 ≤ (k : Int) → g' k = G k) := by
  constructor
  · intro k hk
    by_cases q : k = v.toNat
    · rw [uZ_at e q, q]
    · rw [uZ_off e q]; exact h k (by omega)
  · intro k hk
    rw [uZ_off e (by omega)]; exact h2 k (by omega)
theorem dX9_copy_0 : decode cX9_copy 0 = .ok (.iconst 0, 1) := bo_3 (by decide +kernel)
theorem dX9_copy_1 : decode cX9_copy 1 = .ok (.istore_n 3, 1) := bo_62 (by decide +kernel)
theorem dX9_copy_2 : decode cX9_copy 2 = .ok (.iload_n 3, 1) := bo_29 (by decide +kernel)
theorem dX9_copy_3 : decode cX9_copy 3 = .ok (.iload_n 2, 1) := bo_28 (by decide +kernel)
theorem dX9_copy_4 : decode cX9_copy 4 = .ok (.if_icmp .ge 15, 3) := bo_162 0 15 (by decide +kernel)
theorem dX9_copy_19 : decode cX9_copy 19 = .ok (.return_, 1) := bo_177 (by decide +kernel)
theorem dX9_copy_7 : decode cX9_copy 7 = .ok (.aload_n 1, 1) := bo_43 (by decide +kernel)
theorem dX9_copy_8 : decode cX9_copy 8 = .ok (.iload_n 3, 1) := bo_29 (by decide +kernel)
theorem dX9_copy_9 : decode cX9_copy 9 = .ok (.aload_n 0, 1) := bo_42 (by decide +kernel)
theorem dX9_copy_10 : decode cX9_copy 10 = .ok (.iload_n 3, 1) := bo_29 (by decide +kernel)
theorem dX9_copy_11 : decode cX9_copy 11 = .ok (.iaload, 1) := bo_46 (by decide +kernel)
theorem dX9_copy_12 : decode cX9_copy 12 = .ok (.iastore, 1) := bo_79 (by decide +kernel)
theorem dX9_copy_13 : decode cX9_copy 13 = .ok (.iinc 3 1, 3) := bo_132 3 1 (by decide +kernel)
theorem dX9_copy_16 : decode cX9_copy 16 = .ok (.goto (-14), 3) := bo_167 255 242 (by decide +kernel)
abbrev rm_X9_copy200 : Room := { frames := 0, cells := 0, slots := 0, locals := 0 }
set_option maxRecDepth 100000 in
set_option maxHeartbeats 8000000 in
theorem c_X9_copy200 {l : Launch} {E : (Nat → Prop) → State → Prop} (hO : bw_Ok E) {G : va_G} {cI cB cJ cN cW : ClassId} (a : Nat) (g_p : Nat → Int) (d : Nat) (g_s : Nat → Int) (x : Int) (hx9 : zR x) (hx8 : 0 ≤ x ∧ x ≤ 200) : bw_Cv (S := zV) l yX9_copy (bw_ws (Cond.code yX9_copy cX9_copy 4 none)) rm_X9_copy200 E G (bw_kt cI cB cJ cN cW) [.ref a, .ref d, .int (zI x)] [(a, .inl (cI, 200, .inl (fun k => zI (g_p k)))), (d, .inl (cI, 200, .inl (fun k => zI (g_s k))))] (fun u => (∀ k : Nat, (k : Int) < x → ((u 1).2 0) k = g_p k)) (fun u => [(a, .inl (cI, 200, .inl (fun k => zI (g_p k)))), (d, .inl (cI, 200, .inl (fun k => zI (((u 1).2 0) k))))]) := by
  refine bw_Cv.of (cc := cX9_copy) (maxL := 4) (by decide) rfl (Nat.le_of_ble_eq_true rfl) ?_
  intro p e s m below meth c A Q hx hb hml hts hown hin hK hA hS hP hD hE ret ls hl
  have F : CallFix p m c cX9_copy 4 s ([.ref a, .ref d, .int (zI x)] : List Value).toArray bw_T RX9 := ⟨hx, hb, hml, hown, fun w h => hts w (List.mem_cons_of_mem _ h)⟩
  replace hl : lv_has ls 4 [(0, .ref a), (1, .ref d), (2, .int (zI x))] := hl
  refine lv_iconst (v := zI 0) hx hb dX9_copy_0 rfl ?_
  refine lv_istore_n (lv' := [(3, .int (zI 0)), (0, .ref a), (1, .ref d), (2, .int (zI x))]) hx hb dX9_copy_1 rfl hl (by decide) rfl (fun ls hl => ?_)
  refine W.widen (k := 0) (n := 0) (Nat.le_of_ble_eq_true rfl) (Nat.le_of_ble_eq_true rfl) ?_
  refine (?_ : ∀ (n9_1 : Nat) (v3 : Int) (gs9 : Nat → Int) (H : Heap) (locs : List Loc), (0 ≤ v3 ∧ v3 ≤ x) → (x - v3 : Int).toNat < n9_1 → (∀ k : Nat, (k : Int) < v3 → gs9 k = g_p k) → (∀ k : Nat, v3 ≤ (k : Int) → gs9 k = g_s k) → va_P G vwCl [(a, .inl (cI, 200, .inl (fun k => zI (g_p k)))), (d, .inl (cI, 200, .inl (fun k => zI (gs9 k))))] H → va_D A [(a, .inl (cI, 200, .inl (fun k => zI (g_p k)))), (d, .inl (cI, 200, .inl (fun k => zI (gs9 k))))] → va_S A s.heap H locs → ∀ ls : Array Slot, lv_has ls 4 [(3, .int (zI v3)), (0, .ref a), (1, .ref d), (2, .int (zI x))] → W p l e rm_X9_copy200 s m ([.ref a, .ref d, .int (zI x)] : List Value).toArray below meth c H locs 0 0 Q (F0 m 2 ls [])) ((x - 0 : Int).toNat + 1) 0 g_s _ _ (by omega) (by omega) (fun k hk => absurd hk (by omega)) (fun k hk => rfl) hP hD hS ls hl
  clear hP hD hS hl ls
  intro n9_1
  induction n9_1 with
  | zero =>
    intro v3 gs9 H locs hI hM
    exact absurd hM (by omega)
  | succ n9_1 ih1 =>
    intro v3 gs9 H locs hI1 hM1 hc9 hc8 hP hD hS ls hl
    refine lv_iload_n hx hb dX9_copy_2 rfl (lv_at hl 0 rfl) ?_
    refine lv_iload_n hx hb dX9_copy_3 rfl (lv_at hl 3 rfl) ?_
    refine rz_icmp_ge (tgt := 19) F (by omega) (by omega) dX9_copy_4 (by decide) (fun h4_0 => ?_) (fun h4_0 => ?_)
    · exact ret (fun k => [((fun _ => 0), fun _ _ => 0), (fun _ => 0, fun _ => gs9)].getD k (fun _ => 0, fun _ _ => 0)) _ _ _ _ _ _ (fun k hk => hc9 k (by omega)) (bw_subP (isC := [0, 1]) hP rfl) (hD.sub [0, 1] (by decide) rfl) hS (Nat.le_of_ble_eq_true rfl) (Nat.le_of_ble_eq_true rfl) dX9_copy_19
    · refine lv_aload_n hx hb dX9_copy_7 rfl (lv_at hl 2 rfl) ?_
      refine lv_iload_n hx hb dX9_copy_8 rfl (lv_at hl 0 rfl) ?_
      refine lv_aload_n hx hb dX9_copy_9 rfl (lv_at hl 1 rfl) ?_
      refine lv_iload_n hx hb dX9_copy_10 rfl (lv_at hl 0 rfl) ?_
      refine rz_iald F hK hP 0 0 rfl rfl (by omega) (by omega) dX9_copy_11 ?_
      refine rz_iastG F hK hP hD hS 1 0 rfl rfl (by omega) (by omega) dX9_copy_12 (w1 := fun g2 => [(a, .inl (cI, 200, .inl (fun k => zI (g_p k)))), (d, .inl (cI, 200, .inl (fun k => zI (g2 k))))]) (fun _ => rfl) (fun g2 e_g2 H locs hP hD hS => ?_)
      refine lv_iinc (v := zI (v3 + 1)) (lv' := [(3, .int (zI (v3 + 1))), (0, .ref a), (1, .ref d), (2, .int (zI x))]) hx hb dX9_copy_13 hl (k := 0) rfl (zI_add _ _) (by decide) rfl (fun ls hl => ?_)
      refine lv_goto (tgt := 2) hx hb dX9_copy_16 (by decide) ?_
      exact ih1 (v3 + 1) g2 _ _ (by omega) (by omega) (cp_step (by omega) hc9 hc8 e_g2).1 (cp_step (by omega) hc9 hc8 e_g2).2 hP hD hS ls (lv_sub hl [0, 1, 2, 3] rfl)
abbrev rm_X9_copy80 : Room := { frames := 0, cells := 0, slots := 0, locals := 0 }
set_option maxRecDepth 100000 in
set_option maxHeartbeats 8000000 in
theorem c_X9_copy80 {l : Launch} {E : (Nat → Prop) → State → Prop} (hO : bw_Ok E) {G : va_G} {cI cB cJ cN cW : ClassId} (a : Nat) (g_p : Nat → Int) (d : Nat) (g_s : Nat → Int) (x : Int) (hx9 : zR x) (hx8 : 0 ≤ x ∧ x ≤ 80) : bw_Cv (S := zV) l yX9_copy (bw_ws (Cond.code yX9_copy cX9_copy 4 none)) rm_X9_copy80 E G (bw_kt cI cB cJ cN cW) [.ref a, .ref d, .int (zI x)] [(a, .inl (cI, 80, .inl (fun k => zI (g_p k)))), (d, .inl (cI, 80, .inl (fun k => zI (g_s k))))] (fun u => (∀ k : Nat, (k : Int) < x → ((u 1).2 0) k = g_p k)) (fun u => [(a, .inl (cI, 80, .inl (fun k => zI (g_p k)))), (d, .inl (cI, 80, .inl (fun k => zI (((u 1).2 0) k))))]) := by
  refine bw_Cv.of (cc := cX9_copy) (maxL := 4) (by decide) rfl (Nat.le_of_ble_eq_true rfl) ?_
  intro p e s m below meth c A Q hx hb hml hts hown hin hK hA hS hP hD hE ret ls hl
  have F : CallFix p m c cX9_copy 4 s ([.ref a, .ref d, .int (zI x)] : List Value).toArray bw_T RX9 := ⟨hx, hb, hml, hown, fun w h => hts w (List.mem_cons_of_mem _ h)⟩
  replace hl : lv_has ls 4 [(0, .ref a), (1, .ref d), (2, .int (zI x))] := hl
  refine lv_iconst (v := zI 0) hx hb dX9_copy_0 rfl ?_
  refine lv_istore_n (lv' := [(3, .int (zI 0)), (0, .ref a), (1, .ref d), (2, .int (zI x))]) hx hb dX9_copy_1 rfl hl (by decide) rfl (fun ls hl => ?_)
  refine W.widen (k := 0) (n := 0) (Nat.le_of_ble_eq_true rfl) (Nat.le_of_ble_eq_true rfl) ?_
  refine (?_ : ∀ (n9_1 : Nat) (v3 : Int) (gs9 : Nat → Int) (H : Heap) (locs : List Loc), (0 ≤ v3 ∧ v3 ≤ x) → (x - v3 : Int).toNat < n9_1 → (∀ k : Nat, (k : Int) < v3 → gs9 k = g_p k) → (∀ k : Nat, v3 ≤ (k : Int) → gs9 k = g_s k) → va_P G vwCl [(a, .inl (cI, 80, .inl (fun k => zI (g_p k)))), (d, .inl (cI, 80, .inl (fun k => zI (gs9 k))))] H → va_D A [(a, .inl (cI, 80, .inl (fun k => zI (g_p k)))), (d, .inl (cI, 80, .inl (fun k => zI (gs9 k))))] → va_S A s.heap H locs → ∀ ls : Array Slot, lv_has ls 4 [(3, .int (zI v3)), (0, .ref a), (1, .ref d), (2, .int (zI x))] → W p l e rm_X9_copy80 s m ([.ref a, .ref d, .int (zI x)] : List Value).toArray below meth c H locs 0 0 Q (F0 m 2 ls [])) ((x - 0 : Int).toNat + 1) 0 g_s _ _ (by omega) (by omega) (fun k hk => absurd hk (by omega)) (fun k hk => rfl) hP hD hS ls hl
  clear hP hD hS hl ls
  intro n9_1
  induction n9_1 with
  | zero =>
    intro v3 gs9 H locs hI hM
    exact absurd hM (by omega)
  | succ n9_1 ih1 =>
    intro v3 gs9 H locs hI1 hM1 hc9 hc8 hP hD hS ls hl
    refine lv_iload_n hx hb dX9_copy_2 rfl (lv_at hl 0 rfl) ?_
    refine lv_iload_n hx hb dX9_copy_3 rfl (lv_at hl 3 rfl) ?_
    refine rz_icmp_ge (tgt := 19) F (by omega) (by omega) dX9_copy_4 (by decide) (fun h4_0 => ?_) (fun h4_0 => ?_)
    · exact ret (fun k => [((fun _ => 0), fun _ _ => 0), (fun _ => 0, fun _ => gs9)].getD k (fun _ => 0, fun _ _ => 0)) _ _ _ _ _ _ (fun k hk => hc9 k (by omega)) (bw_subP (isC := [0, 1]) hP rfl) (hD.sub [0, 1] (by decide) rfl) hS (Nat.le_of_ble_eq_true rfl) (Nat.le_of_ble_eq_true rfl) dX9_copy_19
    · refine lv_aload_n hx hb dX9_copy_7 rfl (lv_at hl 2 rfl) ?_
      refine lv_iload_n hx hb dX9_copy_8 rfl (lv_at hl 0 rfl) ?_
      refine lv_aload_n hx hb dX9_copy_9 rfl (lv_at hl 1 rfl) ?_
      refine lv_iload_n hx hb dX9_copy_10 rfl (lv_at hl 0 rfl) ?_
      refine rz_iald F hK hP 0 0 rfl rfl (by omega) (by omega) dX9_copy_11 ?_
      refine rz_iastG F hK hP hD hS 1 0 rfl rfl (by omega) (by omega) dX9_copy_12 (w1 := fun g2 => [(a, .inl (cI, 80, .inl (fun k => zI (g_p k)))), (d, .inl (cI, 80, .inl (fun k => zI (g2 k))))]) (fun _ => rfl) (fun g2 e_g2 H locs hP hD hS => ?_)
      refine lv_iinc (v := zI (v3 + 1)) (lv' := [(3, .int (zI (v3 + 1))), (0, .ref a), (1, .ref d), (2, .int (zI x))]) hx hb dX9_copy_13 hl (k := 0) rfl (zI_add _ _) (by decide) rfl (fun ls hl => ?_)
      refine lv_goto (tgt := 2) hx hb dX9_copy_16 (by decide) ?_
      exact ih1 (v3 + 1) g2 _ _ (by omega) (by omega) (cp_step (by omega) hc9 hc8 e_g2).1 (cp_step (by omega) hc9 hc8 e_g2).2 hP hD hS ls (lv_sub hl [0, 1, 2, 3] rfl)
abbrev rm_X9_copy10 : Room := { frames := 0, cells := 0, slots := 0, locals := 0 }
set_option maxRecDepth 100000 in
set_option maxHeartbeats 8000000 in
theorem c_X9_copy10 {l : Launch} {E : (Nat → Prop) → State → Prop} (hO : bw_Ok E) {G : va_G} {cI cB cJ cN cW : ClassId} (a : Nat) (g_p : Nat → Int) (d : Nat) (g_s : Nat → Int) (x : Int) (hx9 : zR x) (hx8 : 0 ≤ x ∧ x ≤ 10) : bw_Cv (S := zV) l yX9_copy (bw_ws (Cond.code yX9_copy cX9_copy 4 none)) rm_X9_copy10 E G (bw_kt cI cB cJ cN cW) [.ref a, .ref d, .int (zI x)] [(a, .inl (cI, 10, .inl (fun k => zI (g_p k)))), (d, .inl (cI, 10, .inl (fun k => zI (g_s k))))] (fun u => (∀ k : Nat, (k : Int) < x → ((u 1).2 0) k = g_p k)) (fun u => [(a, .inl (cI, 10, .inl (fun k => zI (g_p k)))), (d, .inl (cI, 10, .inl (fun k => zI (((u 1).2 0) k))))]) := by
  refine bw_Cv.of (cc := cX9_copy) (maxL := 4) (by decide) rfl (Nat.le_of_ble_eq_true rfl) ?_
  intro p e s m below meth c A Q hx hb hml hts hown hin hK hA hS hP hD hE ret ls hl
  have F : CallFix p m c cX9_copy 4 s ([.ref a, .ref d, .int (zI x)] : List Value).toArray bw_T RX9 := ⟨hx, hb, hml, hown, fun w h => hts w (List.mem_cons_of_mem _ h)⟩
  replace hl : lv_has ls 4 [(0, .ref a), (1, .ref d), (2, .int (zI x))] := hl
  refine lv_iconst (v := zI 0) hx hb dX9_copy_0 rfl ?_
  refine lv_istore_n (lv' := [(3, .int (zI 0)), (0, .ref a), (1, .ref d), (2, .int (zI x))]) hx hb dX9_copy_1 rfl hl (by decide) rfl (fun ls hl => ?_)
  refine W.widen (k := 0) (n := 0) (Nat.le_of_ble_eq_true rfl) (Nat.le_of_ble_eq_true rfl) ?_
  refine (?_ : ∀ (n9_1 : Nat) (v3 : Int) (gs9 : Nat → Int) (H : Heap) (locs : List Loc), (0 ≤ v3 ∧ v3 ≤ x) → (x - v3 : Int).toNat < n9_1 → (∀ k : Nat, (k : Int) < v3 → gs9 k = g_p k) → (∀ k : Nat, v3 ≤ (k : Int) → gs9 k = g_s k) → va_P G vwCl [(a, .inl (cI, 10, .inl (fun k => zI (g_p k)))), (d, .inl (cI, 10, .inl (fun k => zI (gs9 k))))] H → va_D A [(a, .inl (cI, 10, .inl (fun k => zI (g_p k)))), (d, .inl (cI, 10, .inl (fun k => zI (gs9 k))))] → va_S A s.heap H locs → ∀ ls : Array Slot, lv_has ls 4 [(3, .int (zI v3)), (0, .ref a), (1, .ref d), (2, .int (zI x))] → W p l e rm_X9_copy10 s m ([.ref a, .ref d, .int (zI x)] : List Value).toArray below meth c H locs 0 0 Q (F0 m 2 ls [])) ((x - 0 : Int).toNat + 1) 0 g_s _ _ (by omega) (by omega) (fun k hk => absurd hk (by omega)) (fun k hk => rfl) hP hD hS ls hl
  clear hP hD hS hl ls
  intro n9_1
  induction n9_1 with
  | zero =>
    intro v3 gs9 H locs hI hM
    exact absurd hM (by omega)
  | succ n9_1 ih1 =>
    intro v3 gs9 H locs hI1 hM1 hc9 hc8 hP hD hS ls hl
    refine lv_iload_n hx hb dX9_copy_2 rfl (lv_at hl 0 rfl) ?_
    refine lv_iload_n hx hb dX9_copy_3 rfl (lv_at hl 3 rfl) ?_
    refine rz_icmp_ge (tgt := 19) F (by omega) (by omega) dX9_copy_4 (by decide) (fun h4_0 => ?_) (fun h4_0 => ?_)
    · exact ret (fun k => [((fun _ => 0), fun _ _ => 0), (fun _ => 0, fun _ => gs9)].getD k (fun _ => 0, fun _ _ => 0)) _ _ _ _ _ _ (fun k hk => hc9 k (by omega)) (bw_subP (isC := [0, 1]) hP rfl) (hD.sub [0, 1] (by decide) rfl) hS (Nat.le_of_ble_eq_true rfl) (Nat.le_of_ble_eq_true rfl) dX9_copy_19
    · refine lv_aload_n hx hb dX9_copy_7 rfl (lv_at hl 2 rfl) ?_
      refine lv_iload_n hx hb dX9_copy_8 rfl (lv_at hl 0 rfl) ?_
      refine lv_aload_n hx hb dX9_copy_9 rfl (lv_at hl 1 rfl) ?_
      refine lv_iload_n hx hb dX9_copy_10 rfl (lv_at hl 0 rfl) ?_
      refine rz_iald F hK hP 0 0 rfl rfl (by omega) (by omega) dX9_copy_11 ?_
      refine rz_iastG F hK hP hD hS 1 0 rfl rfl (by omega) (by omega) dX9_copy_12 (w1 := fun g2 => [(a, .inl (cI, 10, .inl (fun k => zI (g_p k)))), (d, .inl (cI, 10, .inl (fun k => zI (g2 k))))]) (fun _ => rfl) (fun g2 e_g2 H locs hP hD hS => ?_)
      refine lv_iinc (v := zI (v3 + 1)) (lv' := [(3, .int (zI (v3 + 1))), (0, .ref a), (1, .ref d), (2, .int (zI x))]) hx hb dX9_copy_13 hl (k := 0) rfl (zI_add _ _) (by decide) rfl (fun ls hl => ?_)
      refine lv_goto (tgt := 2) hx hb dX9_copy_16 (by decide) ?_
      exact ih1 (v3 + 1) g2 _ _ (by omega) (by omega) (cp_step (by omega) hc9 hc8 e_g2).1 (cp_step (by omega) hc9 hc8 e_g2).2 hP hD hS ls (lv_sub hl [0, 1, 2, 3] rfl)
abbrev rm_X9_copy30 : Room := { frames := 0, cells := 0, slots := 0, locals := 0 }
set_option maxRecDepth 100000 in
set_option maxHeartbeats 8000000 in
theorem c_X9_copy30 {l : Launch} {E : (Nat → Prop) → State → Prop} (hO : bw_Ok E) {G : va_G} {cI cB cJ cN cW : ClassId} (a : Nat) (g_p : Nat → Int) (d : Nat) (g_s : Nat → Int) (x : Int) (hx9 : zR x) (hx8 : 0 ≤ x ∧ x ≤ 30) : bw_Cv (S := zV) l yX9_copy (bw_ws (Cond.code yX9_copy cX9_copy 4 none)) rm_X9_copy30 E G (bw_kt cI cB cJ cN cW) [.ref a, .ref d, .int (zI x)] [(a, .inl (cI, 30, .inl (fun k => zI (g_p k)))), (d, .inl (cI, 30, .inl (fun k => zI (g_s k))))] (fun u => (∀ k : Nat, (k : Int) < x → ((u 1).2 0) k = g_p k)) (fun u => [(a, .inl (cI, 30, .inl (fun k => zI (g_p k)))), (d, .inl (cI, 30, .inl (fun k => zI (((u 1).2 0) k))))]) := by
  refine bw_Cv.of (cc := cX9_copy) (maxL := 4) (by decide) rfl (Nat.le_of_ble_eq_true rfl) ?_
  intro p e s m below meth c A Q hx hb hml hts hown hin hK hA hS hP hD hE ret ls hl
  have F : CallFix p m c cX9_copy 4 s ([.ref a, .ref d, .int (zI x)] : List Value).toArray bw_T RX9 := ⟨hx, hb, hml, hown, fun w h => hts w (List.mem_cons_of_mem _ h)⟩
  replace hl : lv_has ls 4 [(0, .ref a), (1, .ref d), (2, .int (zI x))] := hl
  refine lv_iconst (v := zI 0) hx hb dX9_copy_0 rfl ?_
  refine lv_istore_n (lv' := [(3, .int (zI 0)), (0, .ref a), (1, .ref d), (2, .int (zI x))]) hx hb dX9_copy_1 rfl hl (by decide) rfl (fun ls hl => ?_)
  refine W.widen (k := 0) (n := 0) (Nat.le_of_ble_eq_true rfl) (Nat.le_of_ble_eq_true rfl) ?_
  refine (?_ : ∀ (n9_1 : Nat) (v3 : Int) (gs9 : Nat → Int) (H : Heap) (locs : List Loc), (0 ≤ v3 ∧ v3 ≤ x) → (x - v3 : Int).toNat < n9_1 → (∀ k : Nat, (k : Int) < v3 → gs9 k = g_p k) → (∀ k : Nat, v3 ≤ (k : Int) → gs9 k = g_s k) → va_P G vwCl [(a, .inl (cI, 30, .inl (fun k => zI (g_p k)))), (d, .inl (cI, 30, .inl (fun k => zI (gs9 k))))] H → va_D A [(a, .inl (cI, 30, .inl (fun k => zI (g_p k)))), (d, .inl (cI, 30, .inl (fun k => zI (gs9 k))))] → va_S A s.heap H locs → ∀ ls : Array Slot, lv_has ls 4 [(3, .int (zI v3)), (0, .ref a), (1, .ref d), (2, .int (zI x))] → W p l e rm_X9_copy30 s m ([.ref a, .ref d, .int (zI x)] : List Value).toArray below meth c H locs 0 0 Q (F0 m 2 ls [])) ((x - 0 : Int).toNat + 1) 0 g_s _ _ (by omega) (by omega) (fun k hk => absurd hk (by omega)) (fun k hk => rfl) hP hD hS ls hl
  clear hP hD hS hl ls
  intro n9_1
  induction n9_1 with
  | zero =>
    intro v3 gs9 H locs hI hM
    exact absurd hM (by omega)
  | succ n9_1 ih1 =>
    intro v3 gs9 H locs hI1 hM1 hc9 hc8 hP hD hS ls hl
    refine lv_iload_n hx hb dX9_copy_2 rfl (lv_at hl 0 rfl) ?_
    refine lv_iload_n hx hb dX9_copy_3 rfl (lv_at hl 3 rfl) ?_
    refine rz_icmp_ge (tgt := 19) F (by omega) (by omega) dX9_copy_4 (by decide) (fun h4_0 => ?_) (fun h4_0 => ?_)
    · exact ret (fun k => [((fun _ => 0), fun _ _ => 0), (fun _ => 0, fun _ => gs9)].getD k (fun _ => 0, fun _ _ => 0)) _ _ _ _ _ _ (fun k hk => hc9 k (by omega)) (bw_subP (isC := [0, 1]) hP rfl) (hD.sub [0, 1] (by decide) rfl) hS (Nat.le_of_ble_eq_true rfl) (Nat.le_of_ble_eq_true rfl) dX9_copy_19
    · refine lv_aload_n hx hb dX9_copy_7 rfl (lv_at hl 2 rfl) ?_
      refine lv_iload_n hx hb dX9_copy_8 rfl (lv_at hl 0 rfl) ?_
      refine lv_aload_n hx hb dX9_copy_9 rfl (lv_at hl 1 rfl) ?_
      refine lv_iload_n hx hb dX9_copy_10 rfl (lv_at hl 0 rfl) ?_
      refine rz_iald F hK hP 0 0 rfl rfl (by omega) (by omega) dX9_copy_11 ?_
      refine rz_iastG F hK hP hD hS 1 0 rfl rfl (by omega) (by omega) dX9_copy_12 (w1 := fun g2 => [(a, .inl (cI, 30, .inl (fun k => zI (g_p k)))), (d, .inl (cI, 30, .inl (fun k => zI (g2 k))))]) (fun _ => rfl) (fun g2 e_g2 H locs hP hD hS => ?_)
      refine lv_iinc (v := zI (v3 + 1)) (lv' := [(3, .int (zI (v3 + 1))), (0, .ref a), (1, .ref d), (2, .int (zI x))]) hx hb dX9_copy_13 hl (k := 0) rfl (zI_add _ _) (by decide) rfl (fun ls hl => ?_)
      refine lv_goto (tgt := 2) hx hb dX9_copy_16 (by decide) ?_
      exact ih1 (v3 + 1) g2 _ _ (by omega) (by omega) (cp_step (by omega) hc9 hc8 e_g2).1 (cp_step (by omega) hc9 hc8 e_g2).2 hP hD hS ls (lv_sub hl [0, 1, 2, 3] rfl)
