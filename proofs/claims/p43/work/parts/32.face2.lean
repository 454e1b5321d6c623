theorem hq_of {g : Nat → Int} {x y : Int} (h : g (2 * x).toNat = g (2 * y).toNat ∧ g (2 * x + 1).toNat = g (2 * y + 1).toNat) : ∀ t : Int, (t = 0 ∨ t = 1) → g ((2 * x) + t).toNat = g ((2 * y) + t).toNat := by
  intro t ht
  rcases ht with rfl | rfl
  · rw [Int.add_zero, Int.add_zero]; exact h.1
  · exact h.2
theorem dX8_mayStart_0 : decode cX8_mayStart 0 = .ok (.aload_n 0, 1) := bo_42 (by decide +kernel)
theorem dX8_mayStart_1 : decode cX8_mayStart 1 = .ok (.invokevirtual 145, 3) := bo_182 0 145 (by decide +kernel)
theorem k_683 : Cond.methodLink RX8 145 yX8_isLoaded ∈ bw_T := bw_m 683 (by decide +kernel) rfl
theorem kv_X8_isLoaded : bw_KV RX8 yX8_isLoaded (Cond.code yX8_isLoaded cX8_isLoaded 1 (some .boolean)) := ⟨bw_m 685 (by decide +kernel) rfl, bw_m 22 (by decide +kernel) rfl, bw_m 94 (by decide +kernel) rfl, bw_m 686 (by decide +kernel) rfl⟩
theorem dX8_mayStart_4 : decode cX8_mayStart 4 = .ok (.ifCond .ne 5, 3) := bo_154 0 5 (by decide +kernel)
theorem dX8_mayStart_9 : decode cX8_mayStart 9 = .ok (.iload_n 1, 1) := bo_27 (by decide +kernel)
theorem dX8_mayStart_10 : decode cX8_mayStart 10 = .ok (.invokestatic 321, 3) := bo_184 1 65 (by decide +kernel)
theorem k_687 : Cond.methodLink RX8 321 yX8_isCount ∈ bw_T := bw_m 687 (by decide +kernel) rfl
theorem ks_X8_isCount : bw_KS RX8 yX8_isCount (Cond.code yX8_isCount cX8_isCount 1 (some .boolean)) := ⟨bw_m 688 (by decide +kernel) rfl, bw_m 94 (by decide +kernel) rfl, bw_m 689 (by decide +kernel) rfl⟩
theorem dX8_mayStart_13 : decode cX8_mayStart 13 = .ok (.ifCond .eq 25, 3) := bo_153 0 25 (by decide +kernel)
theorem dX8_mayStart_38 : decode cX8_mayStart 38 = .ok (.aload_n 0, 1) := bo_42 (by decide +kernel)
theorem dX8_mayStart_39 : decode cX8_mayStart 39 = .ok (.iconst 2, 1) := bo_5 (by decide +kernel)
theorem dX8_mayStart_40 : decode cX8_mayStart 40 = .ok (.invokevirtual 92, 3) := bo_182 0 92 (by decide +kernel)
theorem dX8_mayStart_43 : decode cX8_mayStart 43 = .ok (.pop, 1) := bo_87 (by decide +kernel)
theorem dX8_mayStart_44 : decode cX8_mayStart 44 = .ok (.iconst 0, 1) := bo_3 (by decide +kernel)
theorem dX8_mayStart_45 : decode cX8_mayStart 45 = .ok (.ireturn, 1) := bo_172 (by decide +kernel)
theorem dX8_mayStart_16 : decode cX8_mayStart 16 = .ok (.iload_n 2, 1) := bo_28 (by decide +kernel)
theorem dX8_mayStart_17 : decode cX8_mayStart 17 = .ok (.invokestatic 321, 3) := bo_184 1 65 (by decide +kernel)
theorem dX8_mayStart_20 : decode cX8_mayStart 20 = .ok (.ifCond .eq 18, 3) := bo_153 0 18 (by decide +kernel)
theorem dX8_mayStart_23 : decode cX8_mayStart 23 = .ok (.iload_n 3, 1) := bo_29 (by decide +kernel)
theorem dX8_mayStart_24 : decode cX8_mayStart 24 = .ok (.invokestatic 321, 3) := bo_184 1 65 (by decide +kernel)
theorem dX8_mayStart_27 : decode cX8_mayStart 27 = .ok (.ifCond .eq 11, 3) := bo_153 0 11 (by decide +kernel)
theorem dX8_mayStart_30 : decode cX8_mayStart 30 = .ok (.iload 4, 2) := bo_21 (by decide +kernel)
theorem dX8_mayStart_32 : decode cX8_mayStart 32 = .ok (.invokestatic 321, 3) := bo_184 1 65 (by decide +kernel)
theorem dX8_mayStart_35 : decode cX8_mayStart 35 = .ok (.ifCond .ne 11, 3) := bo_154 0 11 (by decide +kernel)
theorem dX8_mayStart_46 : decode cX8_mayStart 46 = .ok (.iconst 1, 1) := bo_4 (by decide +kernel)
theorem dX8_mayStart_47 : decode cX8_mayStart 47 = .ok (.ireturn, 1) := bo_172 (by decide +kernel)
theorem dX8_mayStart_7 : decode cX8_mayStart 7 = .ok (.iconst 0, 1) := bo_3 (by decide +kernel)
theorem dX8_mayStart_8 : decode cX8_mayStart 8 = .ok (.ireturn, 1) := bo_172 (by decide +kernel)
abbrev rm_X8_mayStart : Room := { frames := 1, cells := 0, slots := 0, locals := 21 }
set_option maxRecDepth 100000 in
set_option maxHeartbeats 8000000 in
theorem c_X8_mayStart {l : Launch} {E : (Nat → Prop) → State → Prop} (hO : bw_Ok E) {G : va_G} {cI cB cJ cN cW : ClassId} (b : Nat) (q : Nat → Nat) (t ld : Int) (hL : ld = 0 ∨ ld = 1) (ht : 0 ≤ t ∧ t ≤ 6)  (x0 : Int) (x1 : Int) (x2 : Int) (x3 : Int) (hx09 : zR x0) (hx19 : zR x1) (hx29 : zR x2) (hx39 : zR x3)  : bw_Ci (S := zV) l yX8_mayStart (bw_ws (Cond.code yX8_mayStart cX8_mayStart 5 (some .boolean))) rm_X8_mayStart E G (bw_kt cI cB cJ cN cW) [.ref b, .int (zI x0), .int (zI x1), .int (zI x2), .int (zI x3)] [(b, .inr (8, [.int (zI t), .int (zI ld), .ref (q 0), .ref (q 1), .ref (q 2), .ref (q 3), .ref (q 4), .ref (q 5), .ref (q 6), .ref (q 7), .ref (q 8), .ref (q 9), .ref (q 10), .ref (q 11)]))] (fun r u => ∃ z : Int, r = zI z ∧ ((0 ≤ (u 0).1 0 ∧ (u 0).1 0 ≤ 6) ∧ (((u 0).1 1 = 0 ∨ (u 0).1 1 = 1) ∧ (u 0).1 1 = ld ∧ (u 0).1 0 ≠ 4)) ∧ (((z = 1 ∧ (ld = 1 ∧ (0 ≤ x0 ∧ x0 ≤ 99) ∧ (0 ≤ x1 ∧ x1 ≤ 99) ∧ (0 ≤ x2 ∧ x2 ≤ 99) ∧ (0 ≤ x3 ∧ x3 ≤ 99))) ∨ (z = 0 ∧ ¬ (ld = 1 ∧ (0 ≤ x0 ∧ x0 ≤ 99) ∧ (0 ≤ x1 ∧ x1 ≤ 99) ∧ (0 ≤ x2 ∧ x2 ≤ 99) ∧ (0 ≤ x3 ∧ x3 ≤ 99)))) ∧ (u 0).1 1 = ld)) (fun u => [(b, .inr (8, [.int (zI ((u 0).1 0)), .int (zI ((u 0).1 1)), .ref (q 0), .ref (q 1), .ref (q 2), .ref (q 3), .ref (q 4), .ref (q 5), .ref (q 6), .ref (q 7), .ref (q 8), .ref (q 9), .ref (q 10), .ref (q 11)]))]) := by
  refine bw_Ci.of (cc := cX8_mayStart) (maxL := 5) (ty := .boolean) (by decide) rfl (Nat.le_of_ble_eq_true rfl) ?_
  intro p e s m below meth c A Q hx hb hml hts hown hin hK hA hS hP hD hE ret ls hl
  have F : CallFix p m c cX8_mayStart 5 s ([.ref b, .int (zI x0), .int (zI x1), .int (zI x2), .int (zI x3)] : List Value).toArray bw_T RX8 := ⟨hx, hb, hml, hown, fun w h => hts w (List.mem_cons_of_mem _ h)⟩
  replace hl : lv_has ls 5 [(0, .ref b), (1, .int (zI x0)), (2, .int (zI x1)), (3, .int (zI x2)), (4, .int (zI x3))] := hl
  refine lv_aload_n hx hb dX8_mayStart_0 rfl (lv_at hl 0 rfl) ?_
  refine r_callVi (As := []) (rest := []) (wr := []) F hK hP hD hS hA hO hE (c_X8_isLoaded hO b q t ld (by omega)) k_683 kv_X8_isLoaded 0 rfl (by decide +kernel) ⟨Nat.le_of_ble_eq_true rfl, Nat.le_of_ble_eq_true rfl⟩ [0] [] rfl rfl (by decide) (by decide) (by decide) 0 8 rfl rfl rfl hl.1 rfl (Nat.le_of_ble_eq_true rfl) dX8_mayStart_1 ⟨Nat.le_of_ble_eq_true rfl, Nat.le_of_ble_eq_true rfl⟩ (w1 := fun u1 => [(b, .inr (8, [.int (zI (u1.1 0)), .int (zI ld), .ref (q 0), .ref (q 1), .ref (q 2), .ref (q 3), .ref (q 4), .ref (q 5), .ref (q 6), .ref (q 7), .ref (q 8), .ref (q 9), .ref (q 10), .ref (q 11)]))]) (fun _ => rfl) (fun r2 u1 H locs hp3 hP hD hS => ?_)
  obtain ⟨z4, rfl, h_z4⟩ := hp3
  refine rz_if_ne (tgt := 9) F (by omega) dX8_mayStart_4 (by decide) (fun h4_4 => ?_) (fun h4_4 => ?_)
  · refine lv_iload_n hx hb dX8_mayStart_9 rfl (lv_at hl 1 rfl) ?_
    refine r_callSi (As := [.int (zI x0)]) (rest := []) (wr := [(b, .inr (8, [.int (zI (u1.1 0)), .int (zI ld), .ref (q 0), .ref (q 1), .ref (q 2), .ref (q 3), .ref (q 4), .ref (q 5), .ref (q 6), .ref (q 7), .ref (q 8), .ref (q 9), .ref (q 10), .ref (q 11)]))]) F hK hP hD hS hA hO hE (c_X8_isCount hO x0 (by omega)) k_687 ks_X8_isCount 1 rfl (by decide +kernel) ⟨Nat.le_of_ble_eq_true rfl, Nat.le_of_ble_eq_true rfl⟩ [] [0] rfl rfl (by decide) (by decide) (by decide) hl.1 rfl (Nat.le_of_ble_eq_true rfl) dX8_mayStart_10 ⟨Nat.le_of_ble_eq_true rfl, Nat.le_of_ble_eq_true rfl⟩ (w1 := fun u6 => [(b, .inr (8, [.int (zI (u1.1 0)), .int (zI ld), .ref (q 0), .ref (q 1), .ref (q 2), .ref (q 3), .ref (q 4), .ref (q 5), .ref (q 6), .ref (q 7), .ref (q 8), .ref (q 9), .ref (q 10), .ref (q 11)]))]) (fun _ => rfl) (fun r7 u6 H locs hp8 hP hD hS => ?_)
    obtain ⟨z9, rfl, h_z9⟩ := hp8
    refine rz_if_eq (tgt := 38) F (by omega) dX8_mayStart_13 (by decide) (fun h13_9 => ?_) (fun h13_9 => ?_)
    · refine lv_aload_n hx hb dX8_mayStart_38 rfl (lv_at hl 0 rfl) ?_
      refine lv_iconst (v := zI 2) hx hb dX8_mayStart_39 rfl ?_
      refine r_callVi (As := [.int (zI 2)]) (rest := []) (wr := []) F hK hP hD hS hA hO hE (c_X8_refuse hO b q (u1.1 0) ld (by omega) 2) k_550 kv_X8_refuse 1 rfl (by decide +kernel) ⟨Nat.le_of_ble_eq_true rfl, Nat.le_of_ble_eq_true rfl⟩ [0] [] rfl rfl (by decide) (by decide) (by decide) 0 8 rfl rfl rfl hl.1 rfl (Nat.le_of_ble_eq_true rfl) dX8_mayStart_40 ⟨Nat.le_of_ble_eq_true rfl, Nat.le_of_ble_eq_true rfl⟩ (w1 := fun u11 => [(b, .inr (8, [.int (zI 2), .int (zI ld), .ref (q 0), .ref (q 1), .ref (q 2), .ref (q 3), .ref (q 4), .ref (q 5), .ref (q 6), .ref (q 7), .ref (q 8), .ref (q 9), .ref (q 10), .ref (q 11)]))]) (fun _ => rfl) (fun r12 u11 H locs hp13 hP hD hS => ?_)
      obtain ⟨z14, rfl, h_z14⟩ := hp13
      refine lv_pop hx hb dX8_mayStart_43 rfl ?_
      refine lv_iconst (v := zI 0) hx hb dX8_mayStart_44 rfl ?_
      exact ret (zI 0) (fun k => [(fun k => [2, ld].getD k 0, fun _ _ => 0)].getD k (fun _ => 0, fun _ _ => 0)) _ _ _ _ _ _ rfl ⟨0, rfl, (show ((0 : Int) ≤ 2 ∧ 2 ≤ 6) ∧ (((ld : Int) = 0 ∨ (ld : Int) = 1) ∧ (ld : Int) = ld ∧ (2 : Int) ≠ 4) from by omega), ⟨(show (((0 : Int) = 1 ∧ (ld = 1 ∧ (0 ≤ x0 ∧ x0 ≤ 99) ∧ (0 ≤ x1 ∧ x1 ≤ 99) ∧ (0 ≤ x2 ∧ x2 ≤ 99) ∧ (0 ≤ x3 ∧ x3 ≤ 99))) ∨ ((0 : Int) = 0 ∧ ¬ (ld = 1 ∧ (0 ≤ x0 ∧ x0 ≤ 99) ∧ (0 ≤ x1 ∧ x1 ≤ 99) ∧ (0 ≤ x2 ∧ x2 ≤ 99) ∧ (0 ≤ x3 ∧ x3 ≤ 99)))) from by omega), rfl⟩⟩ (bw_subP (isC := [0]) hP rfl) (hD.sub [0] (by decide) rfl) hS (Nat.le_of_ble_eq_true rfl) (Nat.le_of_ble_eq_true rfl) dX8_mayStart_45
    · refine lv_iload_n hx hb dX8_mayStart_16 rfl (lv_at hl 2 rfl) ?_
      refine r_callSi (As := [.int (zI x1)]) (rest := []) (wr := [(b, .inr (8, [.int (zI (u1.1 0)), .int (zI ld), .ref (q 0), .ref (q 1), .ref (q 2), .ref (q 3), .ref (q 4), .ref (q 5), .ref (q 6), .ref (q 7), .ref (q 8), .ref (q 9), .ref (q 10), .ref (q 11)]))]) F hK hP hD hS hA hO hE (c_X8_isCount hO x1 (by omega)) k_687 ks_X8_isCount 1 rfl (by decide +kernel) ⟨Nat.le_of_ble_eq_true rfl, Nat.le_of_ble_eq_true rfl⟩ [] [0] rfl rfl (by decide) (by decide) (by decide) hl.1 rfl (Nat.le_of_ble_eq_true rfl) dX8_mayStart_17 ⟨Nat.le_of_ble_eq_true rfl, Nat.le_of_ble_eq_true rfl⟩ (w1 := fun u15 => [(b, .inr (8, [.int (zI (u1.1 0)), .int (zI ld), .ref (q 0), .ref (q 1), .ref (q 2), .ref (q 3), .ref (q 4), .ref (q 5), .ref (q 6), .ref (q 7), .ref (q 8), .ref (q 9), .ref (q 10), .ref (q 11)]))]) (fun _ => rfl) (fun r16 u15 H locs hp17 hP hD hS => ?_)
      obtain ⟨z18, rfl, h_z18⟩ := hp17
      refine rz_if_eq (tgt := 38) F (by omega) dX8_mayStart_20 (by decide) (fun h20_18 => ?_) (fun h20_18 => ?_)
      · refine lv_aload_n hx hb dX8_mayStart_38 rfl (lv_at hl 0 rfl) ?_
        refine lv_iconst (v := zI 2) hx hb dX8_mayStart_39 rfl ?_
        refine r_callVi (As := [.int (zI 2)]) (rest := []) (wr := []) F hK hP hD hS hA hO hE (c_X8_refuse hO b q (u1.1 0) ld (by omega) 2) k_550 kv_X8_refuse 1 rfl (by decide +kernel) ⟨Nat.le_of_ble_eq_true rfl, Nat.le_of_ble_eq_true rfl⟩ [0] [] rfl rfl (by decide) (by decide) (by decide) 0 8 rfl rfl rfl hl.1 rfl (Nat.le_of_ble_eq_true rfl) dX8_mayStart_40 ⟨Nat.le_of_ble_eq_true rfl, Nat.le_of_ble_eq_true rfl⟩ (w1 := fun u20 => [(b, .inr (8, [.int (zI 2), .int (zI ld), .ref (q 0), .ref (q 1), .ref (q 2), .ref (q 3), .ref (q 4), .ref (q 5), .ref (q 6), .ref (q 7), .ref (q 8), .ref (q 9), .ref (q 10), .ref (q 11)]))]) (fun _ => rfl) (fun r21 u20 H locs hp22 hP hD hS => ?_)
        obtain ⟨z23, rfl, h_z23⟩ := hp22
        refine lv_pop hx hb dX8_mayStart_43 rfl ?_
        refine lv_iconst (v := zI 0) hx hb dX8_mayStart_44 rfl ?_
        exact ret (zI 0) (fun k => [(fun k => [2, ld].getD k 0, fun _ _ => 0)].getD k (fun _ => 0, fun _ _ => 0)) _ _ _ _ _ _ rfl ⟨0, rfl, (show ((0 : Int) ≤ 2 ∧ 2 ≤ 6) ∧ (((ld : Int) = 0 ∨ (ld : Int) = 1) ∧ (ld : Int) = ld ∧ (2 : Int) ≠ 4) from by omega), ⟨(show (((0 : Int) = 1 ∧ (ld = 1 ∧ (0 ≤ x0 ∧ x0 ≤ 99) ∧ (0 ≤ x1 ∧ x1 ≤ 99) ∧ (0 ≤ x2 ∧ x2 ≤ 99) ∧ (0 ≤ x3 ∧ x3 ≤ 99))) ∨ ((0 : Int) = 0 ∧ ¬ (ld = 1 ∧ (0 ≤ x0 ∧ x0 ≤ 99) ∧ (0 ≤ x1 ∧ x1 ≤ 99) ∧ (0 ≤ x2 ∧ x2 ≤ 99) ∧ (0 ≤ x3 ∧ x3 ≤ 99)))) from by omega), rfl⟩⟩ (bw_subP (isC := [0]) hP rfl) (hD.sub [0] (by decide) rfl) hS (Nat.le_of_ble_eq_true rfl) (Nat.le_of_ble_eq_true rfl) dX8_mayStart_45
      · refine lv_iload_n hx hb dX8_mayStart_23 rfl (lv_at hl 3 rfl) ?_
        refine r_callSi (As := [.int (zI x2)]) (rest := []) (wr := [(b, .inr (8, [.int (zI (u1.1 0)), .int (zI ld), .ref (q 0), .ref (q 1), .ref (q 2), .ref (q 3), .ref (q 4), .ref (q 5), .ref (q 6), .ref (q 7), .ref (q 8), .ref (q 9), .ref (q 10), .ref (q 11)]))]) F hK hP hD hS hA hO hE (c_X8_isCount hO x2 (by omega)) k_687 ks_X8_isCount 1 rfl (by decide +kernel) ⟨Nat.le_of_ble_eq_true rfl, Nat.le_of_ble_eq_true rfl⟩ [] [0] rfl rfl (by decide) (by decide) (by decide) hl.1 rfl (Nat.le_of_ble_eq_true rfl) dX8_mayStart_24 ⟨Nat.le_of_ble_eq_true rfl, Nat.le_of_ble_eq_true rfl⟩ (w1 := fun u24 => [(b, .inr (8, [.int (zI (u1.1 0)), .int (zI ld), .ref (q 0), .ref (q 1), .ref (q 2), .ref (q 3), .ref (q 4), .ref (q 5), .ref (q 6), .ref (q 7), .ref (q 8), .ref (q 9), .ref (q 10), .ref (q 11)]))]) (fun _ => rfl) (fun r25 u24 H locs hp26 hP hD hS => ?_)
        obtain ⟨z27, rfl, h_z27⟩ := hp26
        refine rz_if_eq (tgt := 38) F (by omega) dX8_mayStart_27 (by decide) (fun h27_27 => ?_) (fun h27_27 => ?_)
        · refine lv_aload_n hx hb dX8_mayStart_38 rfl (lv_at hl 0 rfl) ?_
          refine lv_iconst (v := zI 2) hx hb dX8_mayStart_39 rfl ?_
          refine r_callVi (As := [.int (zI 2)]) (rest := []) (wr := []) F hK hP hD hS hA hO hE (c_X8_refuse hO b q (u1.1 0) ld (by omega) 2) k_550 kv_X8_refuse 1 rfl (by decide +kernel) ⟨Nat.le_of_ble_eq_true rfl, Nat.le_of_ble_eq_true rfl⟩ [0] [] rfl rfl (by decide) (by decide) (by decide) 0 8 rfl rfl rfl hl.1 rfl (Nat.le_of_ble_eq_true rfl) dX8_mayStart_40 ⟨Nat.le_of_ble_eq_true rfl, Nat.le_of_ble_eq_true rfl⟩ (w1 := fun u29 => [(b, .inr (8, [.int (zI 2), .int (zI ld), .ref (q 0), .ref (q 1), .ref (q 2), .ref (q 3), .ref (q 4), .ref (q 5), .ref (q 6), .ref (q 7), .ref (q 8), .ref (q 9), .ref (q 10), .ref (q 11)]))]) (fun _ => rfl) (fun r30 u29 H locs hp31 hP hD hS => ?_)
          obtain ⟨z32, rfl, h_z32⟩ := hp31
          refine lv_pop hx hb dX8_mayStart_43 rfl ?_
          refine lv_iconst (v := zI 0) hx hb dX8_mayStart_44 rfl ?_
          exact ret (zI 0) (fun k => [(fun k => [2, ld].getD k 0, fun _ _ => 0)].getD k (fun _ => 0, fun _ _ => 0)) _ _ _ _ _ _ rfl ⟨0, rfl, (show ((0 : Int) ≤ 2 ∧ 2 ≤ 6) ∧ (((ld : Int) = 0 ∨ (ld : Int) = 1) ∧ (ld : Int) = ld ∧ (2 : Int) ≠ 4) from by omega), ⟨(show (((0 : Int) = 1 ∧ (ld = 1 ∧ (0 ≤ x0 ∧ x0 ≤ 99) ∧ (0 ≤ x1 ∧ x1 ≤ 99) ∧ (0 ≤ x2 ∧ x2 ≤ 99) ∧ (0 ≤ x3 ∧ x3 ≤ 99))) ∨ ((0 : Int) = 0 ∧ ¬ (ld = 1 ∧ (0 ≤ x0 ∧ x0 ≤ 99) ∧ (0 ≤ x1 ∧ x1 ≤ 99) ∧ (0 ≤ x2 ∧ x2 ≤ 99) ∧ (0 ≤ x3 ∧ x3 ≤ 99)))) from by omega), rfl⟩⟩ (bw_subP (isC := [0]) hP rfl) (hD.sub [0] (by decide) rfl) hS (Nat.le_of_ble_eq_true rfl) (Nat.le_of_ble_eq_true rfl) dX8_mayStart_45
        · refine lv_iload hx hb dX8_mayStart_30 (lv_at hl 4 rfl) ?_
          refine r_callSi (As := [.int (zI x3)]) (rest := []) (wr := [(b, .inr (8, [.int (zI (u1.1 0)), .int (zI ld), .ref (q 0), .ref (q 1), .ref (q 2), .ref (q 3), .ref (q 4), .ref (q 5), .ref (q 6), .ref (q 7), .ref (q 8), .ref (q 9), .ref (q 10), .ref (q 11)]))]) F hK hP hD hS hA hO hE (c_X8_isCount hO x3 (by omega)) k_687 ks_X8_isCount 1 rfl (by decide +kernel) ⟨Nat.le_of_ble_eq_true rfl, Nat.le_of_ble_eq_true rfl⟩ [] [0] rfl rfl (by decide) (by decide) (by decide) hl.1 rfl (Nat.le_of_ble_eq_true rfl) dX8_mayStart_32 ⟨Nat.le_of_ble_eq_true rfl, Nat.le_of_ble_eq_true rfl⟩ (w1 := fun u33 => [(b, .inr (8, [.int (zI (u1.1 0)), .int (zI ld), .ref (q 0), .ref (q 1), .ref (q 2), .ref (q 3), .ref (q 4), .ref (q 5), .ref (q 6), .ref (q 7), .ref (q 8), .ref (q 9), .ref (q 10), .ref (q 11)]))]) (fun _ => rfl) (fun r34 u33 H locs hp35 hP hD hS => ?_)
          obtain ⟨z36, rfl, h_z36⟩ := hp35
          refine rz_if_ne (tgt := 46) F (by omega) dX8_mayStart_35 (by decide) (fun h35_36 => ?_) (fun h35_36 => ?_)
          · refine lv_iconst (v := zI 1) hx hb dX8_mayStart_46 rfl ?_
            exact ret (zI 1) (fun k => [(fun k => [(u1.1 0), ld].getD k 0, fun _ _ => 0)].getD k (fun _ => 0, fun _ _ => 0)) _ _ _ _ _ _ rfl ⟨1, rfl, (show ((0 : Int) ≤ (u1.1 0) ∧ (u1.1 0) ≤ 6) ∧ (((ld : Int) = 0 ∨ (ld : Int) = 1) ∧ (ld : Int) = ld ∧ ((u1.1 0) : Int) ≠ 4) from by omega), ⟨(show (((1 : Int) = 1 ∧ (ld = 1 ∧ (0 ≤ x0 ∧ x0 ≤ 99) ∧ (0 ≤ x1 ∧ x1 ≤ 99) ∧ (0 ≤ x2 ∧ x2 ≤ 99) ∧ (0 ≤ x3 ∧ x3 ≤ 99))) ∨ ((1 : Int) = 0 ∧ ¬ (ld = 1 ∧ (0 ≤ x0 ∧ x0 ≤ 99) ∧ (0 ≤ x1 ∧ x1 ≤ 99) ∧ (0 ≤ x2 ∧ x2 ≤ 99) ∧ (0 ≤ x3 ∧ x3 ≤ 99)))) from by omega), rfl⟩⟩ (bw_subP (isC := [0]) hP rfl) (hD.sub [0] (by decide) rfl) hS (Nat.le_of_ble_eq_true rfl) (Nat.le_of_ble_eq_true rfl) dX8_mayStart_47
          · refine lv_aload_n hx hb dX8_mayStart_38 rfl (lv_at hl 0 rfl) ?_
            refine lv_iconst (v := zI 2) hx hb dX8_mayStart_39 rfl ?_
            refine r_callVi (As := [.int (zI 2)]) (rest := []) (wr := []) F hK hP hD hS hA hO hE (c_X8_refuse hO b q (u1.1 0) ld (by omega) 2) k_550 kv_X8_refuse 1 rfl (by decide +kernel) ⟨Nat.le_of_ble_eq_true rfl, Nat.le_of_ble_eq_true rfl⟩ [0] [] rfl rfl (by decide) (by decide) (by decide) 0 8 rfl rfl rfl hl.1 rfl (Nat.le_of_ble_eq_true rfl) dX8_mayStart_40 ⟨Nat.le_of_ble_eq_true rfl, Nat.le_of_ble_eq_true rfl⟩ (w1 := fun u38 => [(b, .inr (8, [.int (zI 2), .int (zI ld), .ref (q 0), .ref (q 1), .ref (q 2), .ref (q 3), .ref (q 4), .ref (q 5), .ref (q 6), .ref (q 7), .ref (q 8), .ref (q 9), .ref (q 10), .ref (q 11)]))]) (fun _ => rfl) (fun r39 u38 H locs hp40 hP hD hS => ?_)
            obtain ⟨z41, rfl, h_z41⟩ := hp40
            refine lv_pop hx hb dX8_mayStart_43 rfl ?_
            refine lv_iconst (v := zI 0) hx hb dX8_mayStart_44 rfl ?_
            exact ret (zI 0) (fun k => [(fun k => [2, ld].getD k 0, fun _ _ => 0)].getD k (fun _ => 0, fun _ _ => 0)) _ _ _ _ _ _ rfl ⟨0, rfl, (show ((0 : Int) ≤ 2 ∧ 2 ≤ 6) ∧ (((ld : Int) = 0 ∨ (ld : Int) = 1) ∧ (ld : Int) = ld ∧ (2 : Int) ≠ 4) from by omega), ⟨(show (((0 : Int) = 1 ∧ (ld = 1 ∧ (0 ≤ x0 ∧ x0 ≤ 99) ∧ (0 ≤ x1 ∧ x1 ≤ 99) ∧ (0 ≤ x2 ∧ x2 ≤ 99) ∧ (0 ≤ x3 ∧ x3 ≤ 99))) ∨ ((0 : Int) = 0 ∧ ¬ (ld = 1 ∧ (0 ≤ x0 ∧ x0 ≤ 99) ∧ (0 ≤ x1 ∧ x1 ≤ 99) ∧ (0 ≤ x2 ∧ x2 ≤ 99) ∧ (0 ≤ x3 ∧ x3 ≤ 99)))) from by omega), rfl⟩⟩ (bw_subP (isC := [0]) hP rfl) (hD.sub [0] (by decide) rfl) hS (Nat.le_of_ble_eq_true rfl) (Nat.le_of_ble_eq_true rfl) dX8_mayStart_45
  · refine lv_iconst (v := zI 0) hx hb dX8_mayStart_7 rfl ?_
    exact ret (zI 0) (fun k => [(fun k => [(u1.1 0), ld].getD k 0, fun _ _ => 0)].getD k (fun _ => 0, fun _ _ => 0)) _ _ _ _ _ _ rfl ⟨0, rfl, (show ((0 : Int) ≤ (u1.1 0) ∧ (u1.1 0) ≤ 6) ∧ (((ld : Int) = 0 ∨ (ld : Int) = 1) ∧ (ld : Int) = ld ∧ ((u1.1 0) : Int) ≠ 4) from by omega), ⟨(show (((0 : Int) = 1 ∧ (ld = 1 ∧ (0 ≤ x0 ∧ x0 ≤ 99) ∧ (0 ≤ x1 ∧ x1 ≤ 99) ∧ (0 ≤ x2 ∧ x2 ≤ 99) ∧ (0 ≤ x3 ∧ x3 ≤ 99))) ∨ ((0 : Int) = 0 ∧ ¬ (ld = 1 ∧ (0 ≤ x0 ∧ x0 ≤ 99) ∧ (0 ≤ x1 ∧ x1 ≤ 99) ∧ (0 ≤ x2 ∧ x2 ≤ 99) ∧ (0 ≤ x3 ∧ x3 ≤ 99)))) from by omega), rfl⟩⟩ (bw_subP (isC := [0]) hP rfl) (hD.sub [0] (by decide) rfl) hS (Nat.le_of_ble_eq_true rfl) (Nat.le_of_ble_eq_true rfl) dX8_mayStart_8
theorem dX8_trouble_0 : decode cX8_trouble 0 = .ok (.aload_n 0, 1) := bo_42 (by decide +kernel)
theorem dX8_trouble_1 : decode cX8_trouble 1 = .ok (.getfield 9, 3) := bo_180 0 9 (by decide +kernel)
theorem dX8_trouble_4 : decode cX8_trouble 4 = .ok (.ireturn, 1) := bo_172 (by decide +kernel)
abbrev rm_X8_trouble : Room := { frames := 0, cells := 0, slots := 0, locals := 0 }
set_option maxRecDepth 100000 in
set_option maxHeartbeats 8000000 in
theorem c_X8_trouble {l : Launch} {E : (Nat → Prop) → State → Prop} (hO : bw_Ok E) {G : va_G} {cI cB cJ cN cW : ClassId} (b : Nat) (q : Nat → Nat) (t ld : Int) (hL : ld = 0 ∨ ld = 1) (ht : 0 ≤ t ∧ t ≤ 6)   : bw_Ci (S := zV) l yX8_trouble (bw_ws (Cond.code yX8_trouble cX8_trouble 1 (some .int))) rm_X8_trouble E G (bw_kt cI cB cJ cN cW) [.ref b] [(b, .inr (8, [.int (zI t), .int (zI ld), .ref (q 0), .ref (q 1), .ref (q 2), .ref (q 3), .ref (q 4), .ref (q 5), .ref (q 6), .ref (q 7), .ref (q 8), .ref (q 9), .ref (q 10), .ref (q 11)]))] (fun r u => ∃ z : Int, r = zI z ∧ ((0 ≤ (u 0).1 0 ∧ (u 0).1 0 ≤ 6) ∧ (((u 0).1 1 = 0 ∨ (u 0).1 1 = 1) ∧ (u 0).1 1 = ld ∧ (u 0).1 0 = t)) ∧ (True)) (fun u => [(b, .inr (8, [.int (zI ((u 0).1 0)), .int (zI ((u 0).1 1)), .ref (q 0), .ref (q 1), .ref (q 2), .ref (q 3), .ref (q 4), .ref (q 5), .ref (q 6), .ref (q 7), .ref (q 8), .ref (q 9), .ref (q 10), .ref (q 11)]))]) := by
  refine bw_Ci.of (cc := cX8_trouble) (maxL := 1) (ty := .int) (by decide) rfl (Nat.le_of_ble_eq_true rfl) ?_
  intro p e s m below meth c A Q hx hb hml hts hown hin hK hA hS hP hD hE ret ls hl
  have F : CallFix p m c cX8_trouble 1 s ([.ref b] : List Value).toArray bw_T RX8 := ⟨hx, hb, hml, hown, fun w h => hts w (List.mem_cons_of_mem _ h)⟩
  replace hl : lv_has ls 1 [(0, .ref b)] := hl
  refine lv_aload_n hx hb dX8_trouble_0 rfl (lv_at hl 0 rfl) ?_
  refine r_get F hK hP 0 0 rfl rfl in_X8 (by decide) k_495 rfl dX8_trouble_1 ?_
  exact ret (zI t) (fun k => [(fun k => [t, ld].getD k 0, fun _ _ => 0)].getD k (fun _ => 0, fun _ _ => 0)) _ _ _ _ _ _ rfl ⟨t, rfl, (show ((0 : Int) ≤ t ∧ t ≤ 6) ∧ (((ld : Int) = 0 ∨ (ld : Int) = 1) ∧ (ld : Int) = ld ∧ (t : Int) = t) from by omega), trivial⟩ (bw_subP (isC := [0]) hP rfl) (hD.sub [0] (by decide) rfl) hS (Nat.le_of_ble_eq_true rfl) (Nat.le_of_ble_eq_true rfl) dX8_trouble_4
theorem dX8_isPair_0 : decode cX8_isPair 0 = .ok (.aload_n 0, 1) := bo_42 (by decide +kernel)
theorem dX8_isPair_1 : decode cX8_isPair 1 = .ok (.getfield 31, 3) := bo_180 0 31 (by decide +kernel)
theorem k_499 : Cond.fieldLink RX8 31 "BurntWays" "net" "LBurntWays$Net;" ∈ bw_T := bw_m 499 (by decide +kernel) rfl
theorem dX8_isPair_4 : decode cX8_isPair 4 = .ok (.iload_n 1, 1) := bo_27 (by decide +kernel)
theorem dX8_isPair_5 : decode cX8_isPair 5 = .ok (.invokevirtual 236, 3) := bo_182 0 236 (by decide +kernel)
theorem k_883 : Cond.methodLink RX8 236 yX2_hasLine ∈ bw_T := bw_m 883 (by decide +kernel) rfl
theorem kv_X2_hasLine : bw_KV RX2 yX2_hasLine (Cond.code yX2_hasLine cX2_hasLine 2 (some .boolean)) := ⟨bw_m 884 (by decide +kernel) rfl, bw_m 885 (by decide +kernel) rfl, bw_m 96 (by decide +kernel) rfl, bw_m 886 (by decide +kernel) rfl⟩
theorem dX8_isPair_8 : decode cX8_isPair 8 = .ok (.ifCond .eq 23, 3) := bo_153 0 23 (by decide +kernel)
theorem dX8_isPair_31 : decode cX8_isPair 31 = .ok (.iconst 0, 1) := bo_3 (by decide +kernel)
theorem dX8_isPair_32 : decode cX8_isPair 32 = .ok (.ireturn, 1) := bo_172 (by decide +kernel)
theorem dX8_isPair_11 : decode cX8_isPair 11 = .ok (.aload_n 0, 1) := bo_42 (by decide +kernel)
theorem dX8_isPair_12 : decode cX8_isPair 12 = .ok (.getfield 31, 3) := bo_180 0 31 (by decide +kernel)
theorem dX8_isPair_15 : decode cX8_isPair 15 = .ok (.iload_n 2, 1) := bo_28 (by decide +kernel)
theorem dX8_isPair_16 : decode cX8_isPair 16 = .ok (.invokevirtual 236, 3) := bo_182 0 236 (by decide +kernel)
theorem dX8_isPair_19 : decode cX8_isPair 19 = .ok (.ifCond .eq 12, 3) := bo_153 0 12 (by decide +kernel)
theorem dX8_isPair_22 : decode cX8_isPair 22 = .ok (.iload_n 1, 1) := bo_27 (by decide +kernel)
theorem dX8_isPair_23 : decode cX8_isPair 23 = .ok (.iload_n 2, 1) := bo_28 (by decide +kernel)
theorem dX8_isPair_24 : decode cX8_isPair 24 = .ok (.if_icmp .ge 7, 3) := bo_162 0 7 (by decide +kernel)
theorem dX8_isPair_27 : decode cX8_isPair 27 = .ok (.iconst 1, 1) := bo_4 (by decide +kernel)
theorem dX8_isPair_28 : decode cX8_isPair 28 = .ok (.goto 4, 3) := bo_167 0 4 (by decide +kernel)
abbrev rm_X8_isPair : Room := { frames := 1, cells := 0, slots := 0, locals := 21 }
set_option maxRecDepth 100000 in
set_option maxHeartbeats 8000000 in
theorem c_X8_isPair {l : Launch} {E : (Nat → Prop) → State → Prop} (hO : bw_Ok E) {G : va_G} {cI cB cJ cN cW : ClassId} (b : Nat) (q : Nat → Nat) (t ld : Int) (hL : ld = 0 ∨ ld = 1) (ht : 0 ≤ t ∧ t ≤ 6) (qN : Nat → Nat) (nN : Int) (gN : Nat → Nat → Int) (hc_N : NetOk nN gN) (x : Int) (y : Int) (hx9 : zR x) (hy9 : zR y)  : bw_Ci (S := zV) l yX8_isPair (bw_ws (Cond.code yX8_isPair cX8_isPair 3 (some .boolean))) rm_X8_isPair E G (bw_kt cI cB cJ cN cW) [.ref b, .int (zI x), .int (zI y)] [(b, .inr (8, [.int (zI t), .int (zI ld), .ref (q 0), .ref (q 1), .ref (q 2), .ref (q 3), .ref (q 4), .ref (q 5), .ref (q 6), .ref (q 7), .ref (q 8), .ref (q 9), .ref (q 10), .ref (q 11)])), ((q 2), .inr (2, [.int (zI nN), .ref (qN 0), .ref (qN 1), .ref (qN 2), .ref (qN 3), .ref (qN 4), .ref (qN 5), .ref (qN 6), .ref (qN 7)])), ((qN 0), .inl (cI, 10, .inl (fun k => zI ((gN 0) k)))), ((qN 1), .inl (cI, 10, .inl (fun k => zI ((gN 1) k)))), ((qN 2), .inl (cI, 10, .inl (fun k => zI ((gN 2) k)))), ((qN 3), .inl (cI, 40, .inl (fun k => zI ((gN 3) k)))), ((qN 4), .inl (cI, 40, .inl (fun k => zI ((gN 4) k)))), ((qN 5), .inl (cI, 40, .inl (fun k => zI ((gN 5) k)))), ((qN 6), .inl (cI, 20, .inl (fun k => zI ((gN 6) k)))), ((qN 7), .inl (cI, 20, .inl (fun k => zI ((gN 7) k))))] (fun r u => ∃ z : Int, r = zI z ∧ ((0 ≤ (u 0).1 0 ∧ (u 0).1 0 ≤ 6) ∧ (((u 0).1 1 = 0 ∨ (u 0).1 1 = 1) ∧ (u 0).1 1 = ld ∧ (u 0).1 0 = t)) ∧ ((z = 0 ∨ z = 1) ∧ (z = 1 → (0 ≤ x ∧ x < nN) ∧ (0 ≤ y ∧ y < nN)))) (fun u => [(b, .inr (8, [.int (zI ((u 0).1 0)), .int (zI ((u 0).1 1)), .ref (q 0), .ref (q 1), .ref (q 2), .ref (q 3), .ref (q 4), .ref (q 5), .ref (q 6), .ref (q 7), .ref (q 8), .ref (q 9), .ref (q 10), .ref (q 11)])), ((q 2), .inr (2, [.int (zI nN), .ref (qN 0), .ref (qN 1), .ref (qN 2), .ref (qN 3), .ref (qN 4), .ref (qN 5), .ref (qN 6), .ref (qN 7)])), ((qN 0), .inl (cI, 10, .inl (fun k => zI ((gN 0) k)))), ((qN 1), .inl (cI, 10, .inl (fun k => zI ((gN 1) k)))), ((qN 2), .inl (cI, 10, .inl (fun k => zI ((gN 2) k)))), ((qN 3), .inl (cI, 40, .inl (fun k => zI ((gN 3) k)))), ((qN 4), .inl (cI, 40, .inl (fun k => zI ((gN 4) k)))), ((qN 5), .inl (cI, 40, .inl (fun k => zI ((gN 5) k)))), ((qN 6), .inl (cI, 20, .inl (fun k => zI ((gN 6) k)))), ((qN 7), .inl (cI, 20, .inl (fun k => zI ((gN 7) k))))]) := by
  refine bw_Ci.of (cc := cX8_isPair) (maxL := 3) (ty := .boolean) (by decide) rfl (Nat.le_of_ble_eq_true rfl) ?_
  intro p e s m below meth c A Q hx hb hml hts hown hin hK hA hS hP hD hE ret ls hl
  have F : CallFix p m c cX8_isPair 3 s ([.ref b, .int (zI x), .int (zI y)] : List Value).toArray bw_T RX8 := ⟨hx, hb, hml, hown, fun w h => hts w (List.mem_cons_of_mem _ h)⟩
  replace hl : lv_has ls 3 [(0, .ref b), (1, .int (zI x)), (2, .int (zI y))] := hl
  have hf1 := hc_N.1
  refine lv_aload_n hx hb dX8_isPair_0 rfl (lv_at hl 0 rfl) ?_
  refine r_get F hK hP 0 4 rfl rfl in_X8 (by decide) k_499 rfl dX8_isPair_1 ?_
  refine lv_iload_n hx hb dX8_isPair_4 rfl (lv_at hl 1 rfl) ?_
  refine r_callVi (As := [.int (zI x)]) (rest := []) (wr := [(b, .inr (8, [.int (zI t), .int (zI ld), .ref (q 0), .ref (q 1), .ref (q 2), .ref (q 3), .ref (q 4), .ref (q 5), .ref (q 6), .ref (q 7), .ref (q 8), .ref (q 9), .ref (q 10), .ref (q 11)]))]) F hK hP hD hS hA hO hE (c_X2_hasLine hO (q 2) qN nN gN hc_N x (by omega)) k_883 kv_X2_hasLine 1 rfl (by decide +kernel) ⟨Nat.le_of_ble_eq_true rfl, Nat.le_of_ble_eq_true rfl⟩ [1, 2, 3, 4, 5, 6, 7, 8, 9] [0] rfl rfl (by decide) (by decide) (by decide) 0 2 rfl rfl rfl hl.1 rfl (Nat.le_of_ble_eq_true rfl) dX8_isPair_5 ⟨Nat.le_of_ble_eq_true rfl, Nat.le_of_ble_eq_true rfl⟩ (w1 := fun u2 => [(b, .inr (8, [.int (zI t), .int (zI ld), .ref (q 0), .ref (q 1), .ref (q 2), .ref (q 3), .ref (q 4), .ref (q 5), .ref (q 6), .ref (q 7), .ref (q 8), .ref (q 9), .ref (q 10), .ref (q 11)])), ((q 2), .inr (2, [.int (zI nN), .ref (qN 0), .ref (qN 1), .ref (qN 2), .ref (qN 3), .ref (qN 4), .ref (qN 5), .ref (qN 6), .ref (qN 7)])), ((qN 0), .inl (cI, 10, .inl (fun k => zI ((gN 0) k)))), ((qN 1), .inl (cI, 10, .inl (fun k => zI ((gN 1) k)))), ((qN 2), .inl (cI, 10, .inl (fun k => zI ((gN 2) k)))), ((qN 3), .inl (cI, 40, .inl (fun k => zI ((gN 3) k)))), ((qN 4), .inl (cI, 40, .inl (fun k => zI ((gN 4) k)))), ((qN 5), .inl (cI, 40, .inl (fun k => zI ((gN 5) k)))), ((qN 6), .inl (cI, 20, .inl (fun k => zI ((gN 6) k)))), ((qN 7), .inl (cI, 20, .inl (fun k => zI ((gN 7) k))))]) (fun _ => rfl) (fun r3 u2 H locs hp4 hP hD hS => ?_)
  obtain ⟨z5, rfl, h_z5⟩ := hp4
  refine rz_if_eq (tgt := 31) F (by omega) dX8_isPair_8 (by decide) (fun h8_5 => ?_) (fun h8_5 => ?_)
  · refine lv_iconst (v := zI 0) hx hb dX8_isPair_31 rfl ?_
    exact ret (zI 0) (fun k => [(fun k => [t, ld].getD k 0, fun _ _ => 0)].getD k (fun _ => 0, fun _ _ => 0)) _ _ _ _ _ _ rfl ⟨0, rfl, (show ((0 : Int) ≤ t ∧ t ≤ 6) ∧ (((ld : Int) = 0 ∨ (ld : Int) = 1) ∧ (ld : Int) = ld ∧ (t : Int) = t) from by omega), ⟨by omega, fun _ => by omega⟩⟩ (bw_subP (isC := [0, 1, 2, 3, 4, 5, 6, 7, 8, 9]) hP rfl) (hD.sub [0, 1, 2, 3, 4, 5, 6, 7, 8, 9] (by decide) rfl) hS (Nat.le_of_ble_eq_true rfl) (Nat.le_of_ble_eq_true rfl) dX8_isPair_32
  · refine lv_aload_n hx hb dX8_isPair_11 rfl (lv_at hl 0 rfl) ?_
    refine r_get F hK hP 0 4 rfl rfl in_X8 (by decide) k_499 rfl dX8_isPair_12 ?_
    refine lv_iload_n hx hb dX8_isPair_15 rfl (lv_at hl 2 rfl) ?_
    refine r_callVi (As := [.int (zI y)]) (rest := []) (wr := [(b, .inr (8, [.int (zI t), .int (zI ld), .ref (q 0), .ref (q 1), .ref (q 2), .ref (q 3), .ref (q 4), .ref (q 5), .ref (q 6), .ref (q 7), .ref (q 8), .ref (q 9), .ref (q 10), .ref (q 11)]))]) F hK hP hD hS hA hO hE (c_X2_hasLine hO (q 2) qN nN gN hc_N y (by omega)) k_883 kv_X2_hasLine 1 rfl (by decide +kernel) ⟨Nat.le_of_ble_eq_true rfl, Nat.le_of_ble_eq_true rfl⟩ [1, 2, 3, 4, 5, 6, 7, 8, 9] [0] rfl rfl (by decide) (by decide) (by decide) 0 2 rfl rfl rfl hl.1 rfl (Nat.le_of_ble_eq_true rfl) dX8_isPair_16 ⟨Nat.le_of_ble_eq_true rfl, Nat.le_of_ble_eq_true rfl⟩ (w1 := fun u7 => [(b, .inr (8, [.int (zI t), .int (zI ld), .ref (q 0), .ref (q 1), .ref (q 2), .ref (q 3), .ref (q 4), .ref (q 5), .ref (q 6), .ref (q 7), .ref (q 8), .ref (q 9), .ref (q 10), .ref (q 11)])), ((q 2), .inr (2, [.int (zI nN), .ref (qN 0), .ref (qN 1), .ref (qN 2), .ref (qN 3), .ref (qN 4), .ref (qN 5), .ref (qN 6), .ref (qN 7)])), ((qN 0), .inl (cI, 10, .inl (fun k => zI ((gN 0) k)))), ((qN 1), .inl (cI, 10, .inl (fun k => zI ((gN 1) k)))), ((qN 2), .inl (cI, 10, .inl (fun k => zI ((gN 2) k)))), ((qN 3), .inl (cI, 40, .inl (fun k => zI ((gN 3) k)))), ((qN 4), .inl (cI, 40, .inl (fun k => zI ((gN 4) k)))), ((qN 5), .inl (cI, 40, .inl (fun k => zI ((gN 5) k)))), ((qN 6), .inl (cI, 20, .inl (fun k => zI ((gN 6) k)))), ((qN 7), .inl (cI, 20, .inl (fun k => zI ((gN 7) k))))]) (fun _ => rfl) (fun r8 u7 H locs hp9 hP hD hS => ?_)
    obtain ⟨z10, rfl, h_z10⟩ := hp9
    refine rz_if_eq (tgt := 31) F (by omega) dX8_isPair_19 (by decide) (fun h19_10 => ?_) (fun h19_10 => ?_)
    · refine lv_iconst (v := zI 0) hx hb dX8_isPair_31 rfl ?_
      exact ret (zI 0) (fun k => [(fun k => [t, ld].getD k 0, fun _ _ => 0)].getD k (fun _ => 0, fun _ _ => 0)) _ _ _ _ _ _ rfl ⟨0, rfl, (show ((0 : Int) ≤ t ∧ t ≤ 6) ∧ (((ld : Int) = 0 ∨ (ld : Int) = 1) ∧ (ld : Int) = ld ∧ (t : Int) = t) from by omega), ⟨by omega, fun _ => by omega⟩⟩ (bw_subP (isC := [0, 1, 2, 3, 4, 5, 6, 7, 8, 9]) hP rfl) (hD.sub [0, 1, 2, 3, 4, 5, 6, 7, 8, 9] (by decide) rfl) hS (Nat.le_of_ble_eq_true rfl) (Nat.le_of_ble_eq_true rfl) dX8_isPair_32
    · refine lv_iload_n hx hb dX8_isPair_22 rfl (lv_at hl 1 rfl) ?_
      refine lv_iload_n hx hb dX8_isPair_23 rfl (lv_at hl 2 rfl) ?_
      refine rz_icmp_ge (tgt := 31) F (by omega) (by omega) dX8_isPair_24 (by decide) (fun h24_11 => ?_) (fun h24_11 => ?_)
      · refine lv_iconst (v := zI 0) hx hb dX8_isPair_31 rfl ?_
        exact ret (zI 0) (fun k => [(fun k => [t, ld].getD k 0, fun _ _ => 0)].getD k (fun _ => 0, fun _ _ => 0)) _ _ _ _ _ _ rfl ⟨0, rfl, (show ((0 : Int) ≤ t ∧ t ≤ 6) ∧ (((ld : Int) = 0 ∨ (ld : Int) = 1) ∧ (ld : Int) = ld ∧ (t : Int) = t) from by omega), ⟨by omega, fun _ => by omega⟩⟩ (bw_subP (isC := [0, 1, 2, 3, 4, 5, 6, 7, 8, 9]) hP rfl) (hD.sub [0, 1, 2, 3, 4, 5, 6, 7, 8, 9] (by decide) rfl) hS (Nat.le_of_ble_eq_true rfl) (Nat.le_of_ble_eq_true rfl) dX8_isPair_32
      · refine lv_iconst (v := zI 1) hx hb dX8_isPair_27 rfl ?_
        refine lv_goto (tgt := 32) hx hb dX8_isPair_28 (by decide) ?_
        exact ret (zI 1) (fun k => [(fun k => [t, ld].getD k 0, fun _ _ => 0)].getD k (fun _ => 0, fun _ _ => 0)) _ _ _ _ _ _ rfl ⟨1, rfl, (show ((0 : Int) ≤ t ∧ t ≤ 6) ∧ (((ld : Int) = 0 ∨ (ld : Int) = 1) ∧ (ld : Int) = ld ∧ (t : Int) = t) from by omega), ⟨by omega, fun _ => by omega⟩⟩ (bw_subP (isC := [0, 1, 2, 3, 4, 5, 6, 7, 8, 9]) hP rfl) (hD.sub [0, 1, 2, 3, 4, 5, 6, 7, 8, 9] (by decide) rfl) hS (Nat.le_of_ble_eq_true rfl) (Nat.le_of_ble_eq_true rfl) dX8_isPair_32
theorem dX8_surveyed_0 : decode cX8_surveyed 0 = .ok (.aload_n 0, 1) := bo_42 (by decide +kernel)
theorem dX8_surveyed_1 : decode cX8_surveyed 1 = .ok (.invokevirtual 145, 3) := bo_182 0 145 (by decide +kernel)
theorem dX8_surveyed_4 : decode cX8_surveyed 4 = .ok (.ifCond .ne 5, 3) := bo_154 0 5 (by decide +kernel)
theorem dX8_surveyed_9 : decode cX8_surveyed 9 = .ok (.iload_n 1, 1) := bo_27 (by decide +kernel)
theorem dX8_surveyed_10 : decode cX8_surveyed 10 = .ok (.ifCond .lt 8, 3) := bo_155 0 8 (by decide +kernel)
theorem dX8_surveyed_18 : decode cX8_surveyed 18 = .ok (.aload_n 0, 1) := bo_42 (by decide +kernel)
theorem dX8_surveyed_19 : decode cX8_surveyed 19 = .ok (.iconst 2, 1) := bo_5 (by decide +kernel)
theorem dX8_surveyed_20 : decode cX8_surveyed 20 = .ok (.invokevirtual 92, 3) := bo_182 0 92 (by decide +kernel)
theorem dX8_surveyed_23 : decode cX8_surveyed 23 = .ok (.pop, 1) := bo_87 (by decide +kernel)
theorem dX8_surveyed_24 : decode cX8_surveyed 24 = .ok (.iconst 0, 1) := bo_3 (by decide +kernel)
theorem dX8_surveyed_25 : decode cX8_surveyed 25 = .ok (.ireturn, 1) := bo_172 (by decide +kernel)
theorem dX8_surveyed_13 : decode cX8_surveyed 13 = .ok (.iload_n 1, 1) := bo_27 (by decide +kernel)
theorem dX8_surveyed_14 : decode cX8_surveyed 14 = .ok (.iconst 3, 1) := bo_6 (by decide +kernel)
theorem dX8_surveyed_15 : decode cX8_surveyed 15 = .ok (.if_icmp .le 11, 3) := bo_164 0 11 (by decide +kernel)
theorem dX8_surveyed_26 : decode cX8_surveyed 26 = .ok (.aload_n 0, 1) := bo_42 (by decide +kernel)
theorem dX8_surveyed_27 : decode cX8_surveyed 27 = .ok (.getfield 60, 3) := bo_180 0 60 (by decide +kernel)
theorem k_505 : Cond.fieldLink RX8 60 "BurntWays" "survey" "LBurntWays$Survey;" ∈ bw_T := bw_m 505 (by decide +kernel) rfl
theorem dX8_surveyed_30 : decode cX8_surveyed 30 = .ok (.aload_n 0, 1) := bo_42 (by decide +kernel)
theorem dX8_surveyed_31 : decode cX8_surveyed 31 = .ok (.getfield 31, 3) := bo_180 0 31 (by decide +kernel)
theorem dX8_surveyed_34 : decode cX8_surveyed 34 = .ok (.iload_n 1, 1) := bo_27 (by decide +kernel)
theorem dX8_surveyed_35 : decode cX8_surveyed 35 = .ok (.invokevirtual 324, 3) := bo_182 1 68 (by decide +kernel)
theorem k_793 : Cond.methodLink RX8 324 yX4_look ∈ bw_T := bw_m 793 (by decide +kernel) rfl
theorem kv_X4_look : bw_KV RX4 yX4_look (Cond.code yX4_look cX4_look 4 none) := ⟨bw_m 794 (by decide +kernel) rfl, bw_m 795 (by decide +kernel) rfl, bw_m 103 (by decide +kernel) rfl, bw_m 796 (by decide +kernel) rfl⟩
theorem dX8_surveyed_38 : decode cX8_surveyed 38 = .ok (.iconst 1, 1) := bo_4 (by decide +kernel)
theorem dX8_surveyed_39 : decode cX8_surveyed 39 = .ok (.ireturn, 1) := bo_172 (by decide +kernel)
theorem dX8_surveyed_7 : decode cX8_surveyed 7 = .ok (.iconst 0, 1) := bo_3 (by decide +kernel)
theorem dX8_surveyed_8 : decode cX8_surveyed 8 = .ok (.ireturn, 1) := bo_172 (by decide +kernel)
theorem dX8_forgetWhatWasFound_0 : decode cX8_forgetWhatWasFound 0 = .ok (.aload_n 0, 1) := bo_42 (by decide +kernel)
theorem dX8_forgetWhatWasFound_1 : decode cX8_forgetWhatWasFound 1 = .ok (.getfield 60, 3) := bo_180 0 60 (by decide +kernel)
theorem dX8_forgetWhatWasFound_4 : decode cX8_forgetWhatWasFound 4 = .ok (.iconst (-1), 1) := bo_2 (by decide +kernel)
theorem dX8_forgetWhatWasFound_5 : decode cX8_forgetWhatWasFound 5 = .ok (.putfield 328, 3) := bo_181 1 72 (by decide +kernel)
theorem k_371 : Cond.fieldLink RX8 328 "BurntWays$Survey" "bound" "I" ∈ bw_T := bw_m 371 (by decide +kernel) rfl
theorem dX8_forgetWhatWasFound_8 : decode cX8_forgetWhatWasFound 8 = .ok (.aload_n 0, 1) := bo_42 (by decide +kernel)
theorem dX8_forgetWhatWasFound_9 : decode cX8_forgetWhatWasFound 9 = .ok (.getfield 67, 3) := bo_180 0 67 (by decide +kernel)
theorem k_506 : Cond.fieldLink RX8 67 "BurntWays" "trailRow" "LBurntWays$Trail;" ∈ bw_T := bw_m 506 (by decide +kernel) rfl
theorem dX8_forgetWhatWasFound_12 : decode cX8_forgetWhatWasFound 12 = .ok (.iconst 0, 1) := bo_3 (by decide +kernel)
theorem dX8_forgetWhatWasFound_13 : decode cX8_forgetWhatWasFound 13 = .ok (.putfield 331, 3) := bo_181 1 75 (by decide +kernel)
theorem k_427 : Cond.fieldLink RX8 331 "BurntWays$Trail" "known" "Z" ∈ bw_T := bw_m 427 (by decide +kernel) rfl
theorem dX8_forgetWhatWasFound_16 : decode cX8_forgetWhatWasFound 16 = .ok (.return_, 1) := bo_177 (by decide +kernel)