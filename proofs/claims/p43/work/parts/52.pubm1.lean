theorem dX9_countsWhy_0 : decode cX9_countsWhy 0 = .ok (.aload_n 0, 1) := bo_42 (by decide +kernel)
theorem dX9_countsWhy_1 : decode cX9_countsWhy 1 = .ok (.getfield 222, 3) := bo_180 0 222 (by decide +kernel)
theorem k_1177 : Cond.fieldLink RX9 222 "BurntWaysModel" "hasProgram" "Z" ∈ bw_T := bw_m 1177 (by decide +kernel) rfl
theorem dX9_countsWhy_4 : decode cX9_countsWhy 4 = .ok (.ifCond .ne 7, 3) := bo_154 0 7 (by decide +kernel)
theorem dX9_countsWhy_11 : decode cX9_countsWhy 11 = .ok (.iload_n 1, 1) := bo_27 (by decide +kernel)
theorem dX9_countsWhy_12 : decode cX9_countsWhy 12 = .ok (.invokestatic 284, 3) := bo_184 1 28 (by decide +kernel)
theorem k_1443 : Cond.methodLink RX9 284 yX9_isCount ∈ bw_T := bw_m 1443 (by decide +kernel) rfl
theorem ks_X9_isCount : bw_KS RX9 yX9_isCount (Cond.code yX9_isCount cX9_isCount 1 (some .boolean)) := ⟨bw_m 1444 (by decide +kernel) rfl, bw_m 107 (by decide +kernel) rfl, bw_m 1445 (by decide +kernel) rfl⟩
theorem dX9_countsWhy_15 : decode cX9_countsWhy 15 = .ok (.ifCond .eq 29, 3) := bo_153 0 29 (by decide +kernel)
theorem dX9_countsWhy_44 : decode cX9_countsWhy 44 = .ok (.iconst 2, 1) := bo_5 (by decide +kernel)
theorem dX9_countsWhy_45 : decode cX9_countsWhy 45 = .ok (.ireturn, 1) := bo_172 (by decide +kernel)
theorem dX9_countsWhy_18 : decode cX9_countsWhy 18 = .ok (.iload_n 2, 1) := bo_28 (by decide +kernel)
theorem dX9_countsWhy_19 : decode cX9_countsWhy 19 = .ok (.invokestatic 284, 3) := bo_184 1 28 (by decide +kernel)
theorem dX9_countsWhy_22 : decode cX9_countsWhy 22 = .ok (.ifCond .eq 22, 3) := bo_153 0 22 (by decide +kernel)
theorem dX9_countsWhy_25 : decode cX9_countsWhy 25 = .ok (.iload_n 3, 1) := bo_29 (by decide +kernel)
theorem dX9_countsWhy_26 : decode cX9_countsWhy 26 = .ok (.invokestatic 284, 3) := bo_184 1 28 (by decide +kernel)
theorem dX9_countsWhy_29 : decode cX9_countsWhy 29 = .ok (.ifCond .eq 15, 3) := bo_153 0 15 (by decide +kernel)
theorem dX9_countsWhy_32 : decode cX9_countsWhy 32 = .ok (.iload 4, 2) := bo_21 (by decide +kernel)
theorem dX9_countsWhy_34 : decode cX9_countsWhy 34 = .ok (.invokestatic 284, 3) := bo_184 1 28 (by decide +kernel)
theorem dX9_countsWhy_37 : decode cX9_countsWhy 37 = .ok (.ifCond .eq 7, 3) := bo_153 0 7 (by decide +kernel)
theorem dX9_countsWhy_40 : decode cX9_countsWhy 40 = .ok (.iconst 0, 1) := bo_3 (by decide +kernel)
theorem dX9_countsWhy_41 : decode cX9_countsWhy 41 = .ok (.goto 4, 3) := bo_167 0 4 (by decide +kernel)
theorem dX9_countsWhy_7 : decode cX9_countsWhy 7 = .ok (.iconst 1, 1) := bo_4 (by decide +kernel)
theorem dX9_countsWhy_8 : decode cX9_countsWhy 8 = .ok (.goto 37, 3) := bo_167 0 37 (by decide +kernel)
abbrev rm_X9_countsWhy : Room := { frames := 2, cells := 0, slots := 0, locals := 42 }
set_option maxRecDepth 100000 in
set_option maxHeartbeats 8000000 in
theorem c_X9_countsWhy {l : Launch} {E : (Nat → Prop) → State → Prop} (hO : bw_Ok E) {G : va_G} {cI cB cJ cN cW : ClassId} (y : Nat) (q : Nat → Nat) (i : Nat → Int) (hM : ModOk i) (x0 : Int) (x1 : Int) (x2 : Int) (x3 : Int) (hx09 : zR x0) (hx19 : zR x1) (hx29 : zR x2) (hx39 : zR x3)  : bw_Ci (S := zV) l yX9_countsWhy (bw_ws (Cond.code yX9_countsWhy cX9_countsWhy 5 (some .int))) rm_X9_countsWhy E G (bw_kt cI cB cJ cN cW) [.ref y, .int (zI x0), .int (zI x1), .int (zI x2), .int (zI x3)] [(y, .inr (9, [.int (zI (i 0)), .ref (q 0), .int (zI (i 1)), .int (zI (i 2)), .int (zI (i 3)), .int (zI (i 4)), .int (zI (i 5)), .int (zI (i 6)), .int (zI (i 7)), .int (zI (i 8)), .int (zI (i 9)), .int (zI (i 10)), .ref (q 1), .int (zI (i 11)), .int (zI (i 12)), .ref (q 2), .ref (q 3), .ref (q 4), .ref (q 5), .ref (q 6), .ref (q 7), .ref (q 8), .ref (q 9), .ref (q 10), .ref (q 11), .ref (q 12), .ref (q 13), .ref (q 14), .ref (q 15), .ref (q 16), .int (zI (i 13)), .int (zI (i 14)), .int (zI (i 15)), .int (zI (i 16)), .int (zI (i 17)), .int (zI (i 18)), .ref (q 17), .ref (q 18), .ref (q 19), .ref (q 20)]))] (fun r u => ∃ z : Int, r = zI z ∧ ((0 ≤ z ∧ z ≤ 2) ∧ Imp (z = 0) (i 12 = 1 ∧ (0 ≤ x0 ∧ x0 ≤ 99) ∧ (0 ≤ x1 ∧ x1 ≤ 99) ∧ (0 ≤ x2 ∧ x2 ≤ 99) ∧ (0 ≤ x3 ∧ x3 ≤ 99)) ∧ (z = 0 ∨ i 12 = 0 ∨ (x0 < 0 ∨ 99 < x0) ∨ (x1 < 0 ∨ 99 < x1) ∨ (x2 < 0 ∨ 99 < x2) ∨ (x3 < 0 ∨ 99 < x3)))) (fun u => [(y, .inr (9, [.int (zI (i 0)), .ref (q 0), .int (zI (i 1)), .int (zI (i 2)), .int (zI (i 3)), .int (zI (i 4)), .int (zI (i 5)), .int (zI (i 6)), .int (zI (i 7)), .int (zI (i 8)), .int (zI (i 9)), .int (zI (i 10)), .ref (q 1), .int (zI (i 11)), .int (zI (i 12)), .ref (q 2), .ref (q 3), .ref (q 4), .ref (q 5), .ref (q 6), .ref (q 7), .ref (q 8), .ref (q 9), .ref (q 10), .ref (q 11), .ref (q 12), .ref (q 13), .ref (q 14), .ref (q 15), .ref (q 16), .int (zI (i 13)), .int (zI (i 14)), .int (zI (i 15)), .int (zI (i 16)), .int (zI (i 17)), .int (zI (i 18)), .ref (q 17), .ref (q 18), .ref (q 19), .ref (q 20)]))]) := by
  refine bw_Ci.of (cc := cX9_countsWhy) (maxL := 5) (ty := .int) (by decide) rfl (Nat.le_of_ble_eq_true rfl) ?_
  intro p e s m below meth c A Q hx hb hml hts hown hin hK hA hS hP hD hE ret ls hl
  have F : CallFix p m c cX9_countsWhy 5 s ([.ref y, .int (zI x0), .int (zI x1), .int (zI x2), .int (zI x3)] : List Value).toArray bw_T RX9 := ⟨hx, hb, hml, hown, fun w h => hts w (List.mem_cons_of_mem _ h)⟩
  replace hl : lv_has ls 5 [(0, .ref y), (1, .int (zI x0)), (2, .int (zI x1)), (3, .int (zI x2)), (4, .int (zI x3))] := hl
  have hf1 := hM.1
  refine lv_aload_n hx hb dX9_countsWhy_0 rfl (lv_at hl 0 rfl) ?_
  refine r_get F hK hP 0 14 rfl rfl in_X9 (by decide) k_1177 rfl dX9_countsWhy_1 ?_
  refine rz_ifb_ne (tgt := 11) F (by omega) dX9_countsWhy_4 (by decide) (fun h4_1 => ?_) (fun h4_1 => ?_)
  · refine lv_iload_n hx hb dX9_countsWhy_11 rfl (lv_at hl 1 rfl) ?_
    refine r_callSi (As := [.int (zI x0)]) (rest := []) (wr := [(y, .inr (9, [.int (zI (i 0)), .ref (q 0), .int (zI (i 1)), .int (zI (i 2)), .int (zI (i 3)), .int (zI (i 4)), .int (zI (i 5)), .int (zI (i 6)), .int (zI (i 7)), .int (zI (i 8)), .int (zI (i 9)), .int (zI (i 10)), .ref (q 1), .int (zI (i 11)), .int (zI (i 12)), .ref (q 2), .ref (q 3), .ref (q 4), .ref (q 5), .ref (q 6), .ref (q 7), .ref (q 8), .ref (q 9), .ref (q 10), .ref (q 11), .ref (q 12), .ref (q 13), .ref (q 14), .ref (q 15), .ref (q 16), .int (zI (i 13)), .int (zI (i 14)), .int (zI (i 15)), .int (zI (i 16)), .int (zI (i 17)), .int (zI (i 18)), .ref (q 17), .ref (q 18), .ref (q 19), .ref (q 20)]))]) F hK hP hD hS hA hO hE (c_X9_isCount hO x0 (by omega)) k_1443 ks_X9_isCount 1 rfl (by decide +kernel) ⟨Nat.le_of_ble_eq_true rfl, Nat.le_of_ble_eq_true rfl⟩ [] [0] rfl rfl (by decide) (by decide) (by decide) hl.1 rfl (Nat.le_of_ble_eq_true rfl) dX9_countsWhy_12 ⟨Nat.le_of_ble_eq_true rfl, Nat.le_of_ble_eq_true rfl⟩ (w1 := fun u3 => [(y, .inr (9, [.int (zI (i 0)), .ref (q 0), .int (zI (i 1)), .int (zI (i 2)), .int (zI (i 3)), .int (zI (i 4)), .int (zI (i 5)), .int (zI (i 6)), .int (zI (i 7)), .int (zI (i 8)), .int (zI (i 9)), .int (zI (i 10)), .ref (q 1), .int (zI (i 11)), .int (zI (i 12)), .ref (q 2), .ref (q 3), .ref (q 4), .ref (q 5), .ref (q 6), .ref (q 7), .ref (q 8), .ref (q 9), .ref (q 10), .ref (q 11), .ref (q 12), .ref (q 13), .ref (q 14), .ref (q 15), .ref (q 16), .int (zI (i 13)), .int (zI (i 14)), .int (zI (i 15)), .int (zI (i 16)), .int (zI (i 17)), .int (zI (i 18)), .ref (q 17), .ref (q 18), .ref (q 19), .ref (q 20)]))]) (fun _ => rfl) (fun r4 u3 H locs hp5 hP hD hS => ?_)
    obtain ⟨z6, rfl, h_z6⟩ := hp5
    refine rz_ifb_eq (tgt := 44) F (by omega) dX9_countsWhy_15 (by decide) (fun h15_6 => ?_) (fun h15_6 => ?_)
    · have hq8 := h_z6.2.2 (by omega)
      refine lv_iconst (v := zI 2) hx hb dX9_countsWhy_44 rfl ?_
      exact ret (zI 2) (fun k => [((fun _ => 0), fun _ _ => 0)].getD k (fun _ => 0, fun _ _ => 0)) _ _ _ _ _ _ rfl ⟨2, rfl, ⟨(show 0 ≤ (2 : Int) ∧ (2 : Int) ≤ 2 from by omega), (show Imp ((2 : Int) = 0) (i 12 = 1 ∧ (0 ≤ x0 ∧ x0 ≤ 99) ∧ (0 ≤ x1 ∧ x1 ≤ 99) ∧ (0 ≤ x2 ∧ x2 ≤ 99) ∧ (0 ≤ x3 ∧ x3 ≤ 99)) from fun q9 => by omega), (show (2 : Int) = 0 ∨ i 12 = 0 ∨ (x0 < 0 ∨ 99 < x0) ∨ (x1 < 0 ∨ 99 < x1) ∨ (x2 < 0 ∨ 99 < x2) ∨ (x3 < 0 ∨ 99 < x3) from by omega)⟩⟩ (bw_subP (isC := [0]) hP rfl) (hD.sub [0] (by decide) rfl) hS (Nat.le_of_ble_eq_true rfl) (Nat.le_of_ble_eq_true rfl) dX9_countsWhy_45
    · have hq9 := h_z6.2.1 (by omega)
      refine lv_iload_n hx hb dX9_countsWhy_18 rfl (lv_at hl 2 rfl) ?_
      refine r_callSi (As := [.int (zI x1)]) (rest := []) (wr := [(y, .inr (9, [.int (zI (i 0)), .ref (q 0), .int (zI (i 1)), .int (zI (i 2)), .int (zI (i 3)), .int (zI (i 4)), .int (zI (i 5)), .int (zI (i 6)), .int (zI (i 7)), .int (zI (i 8)), .int (zI (i 9)), .int (zI (i 10)), .ref (q 1), .int (zI (i 11)), .int (zI (i 12)), .ref (q 2), .ref (q 3), .ref (q 4), .ref (q 5), .ref (q 6), .ref (q 7), .ref (q 8), .ref (q 9), .ref (q 10), .ref (q 11), .ref (q 12), .ref (q 13), .ref (q 14), .ref (q 15), .ref (q 16), .int (zI (i 13)), .int (zI (i 14)), .int (zI (i 15)), .int (zI (i 16)), .int (zI (i 17)), .int (zI (i 18)), .ref (q 17), .ref (q 18), .ref (q 19), .ref (q 20)]))]) F hK hP hD hS hA hO hE (c_X9_isCount hO x1 (by omega)) k_1443 ks_X9_isCount 1 rfl (by decide +kernel) ⟨Nat.le_of_ble_eq_true rfl, Nat.le_of_ble_eq_true rfl⟩ [] [0] rfl rfl (by decide) (by decide) (by decide) hl.1 rfl (Nat.le_of_ble_eq_true rfl) dX9_countsWhy_19 ⟨Nat.le_of_ble_eq_true rfl, Nat.le_of_ble_eq_true rfl⟩ (w1 := fun u10 => [(y, .inr (9, [.int (zI (i 0)), .ref (q 0), .int (zI (i 1)), .int (zI (i 2)), .int (zI (i 3)), .int (zI (i 4)), .int (zI (i 5)), .int (zI (i 6)), .int (zI (i 7)), .int (zI (i 8)), .int (zI (i 9)), .int (zI (i 10)), .ref (q 1), .int (zI (i 11)), .int (zI (i 12)), .ref (q 2), .ref (q 3), .ref (q 4), .ref (q 5), .ref (q 6), .ref (q 7), .ref (q 8), .ref (q 9), .ref (q 10), .ref (q 11), .ref (q 12), .ref (q 13), .ref (q 14), .ref (q 15), .ref (q 16), .int (zI (i 13)), .int (zI (i 14)), .int (zI (i 15)), .int (zI (i 16)), .int (zI (i 17)), .int (zI (i 18)), .ref (q 17), .ref (q 18), .ref (q 19), .ref (q 20)]))]) (fun _ => rfl) (fun r11 u10 H locs hp12 hP hD hS => ?_)
      obtain ⟨z13, rfl, h_z13⟩ := hp12
      refine rz_ifb_eq (tgt := 44) F (by omega) dX9_countsWhy_22 (by decide) (fun h22_13 => ?_) (fun h22_13 => ?_)
      · have hq15 := h_z13.2.2 (by omega)
        refine lv_iconst (v := zI 2) hx hb dX9_countsWhy_44 rfl ?_
        exact ret (zI 2) (fun k => [((fun _ => 0), fun _ _ => 0)].getD k (fun _ => 0, fun _ _ => 0)) _ _ _ _ _ _ rfl ⟨2, rfl, ⟨(show 0 ≤ (2 : Int) ∧ (2 : Int) ≤ 2 from by omega), (show Imp ((2 : Int) = 0) (i 12 = 1 ∧ (0 ≤ x0 ∧ x0 ≤ 99) ∧ (0 ≤ x1 ∧ x1 ≤ 99) ∧ (0 ≤ x2 ∧ x2 ≤ 99) ∧ (0 ≤ x3 ∧ x3 ≤ 99)) from fun q9 => by omega), (show (2 : Int) = 0 ∨ i 12 = 0 ∨ (x0 < 0 ∨ 99 < x0) ∨ (x1 < 0 ∨ 99 < x1) ∨ (x2 < 0 ∨ 99 < x2) ∨ (x3 < 0 ∨ 99 < x3) from by omega)⟩⟩ (bw_subP (isC := [0]) hP rfl) (hD.sub [0] (by decide) rfl) hS (Nat.le_of_ble_eq_true rfl) (Nat.le_of_ble_eq_true rfl) dX9_countsWhy_45
      · have hq16 := h_z13.2.1 (by omega)
        refine lv_iload_n hx hb dX9_countsWhy_25 rfl (lv_at hl 3 rfl) ?_
        refine r_callSi (As := [.int (zI x2)]) (rest := []) (wr := [(y, .inr (9, [.int (zI (i 0)), .ref (q 0), .int (zI (i 1)), .int (zI (i 2)), .int (zI (i 3)), .int (zI (i 4)), .int (zI (i 5)), .int (zI (i 6)), .int (zI (i 7)), .int (zI (i 8)), .int (zI (i 9)), .int (zI (i 10)), .ref (q 1), .int (zI (i 11)), .int (zI (i 12)), .ref (q 2), .ref (q 3), .ref (q 4), .ref (q 5), .ref (q 6), .ref (q 7), .ref (q 8), .ref (q 9), .ref (q 10), .ref (q 11), .ref (q 12), .ref (q 13), .ref (q 14), .ref (q 15), .ref (q 16), .int (zI (i 13)), .int (zI (i 14)), .int (zI (i 15)), .int (zI (i 16)), .int (zI (i 17)), .int (zI (i 18)), .ref (q 17), .ref (q 18), .ref (q 19), .ref (q 20)]))]) F hK hP hD hS hA hO hE (c_X9_isCount hO x2 (by omega)) k_1443 ks_X9_isCount 1 rfl (by decide +kernel) ⟨Nat.le_of_ble_eq_true rfl, Nat.le_of_ble_eq_true rfl⟩ [] [0] rfl rfl (by decide) (by decide) (by decide) hl.1 rfl (Nat.le_of_ble_eq_true rfl) dX9_countsWhy_26 ⟨Nat.le_of_ble_eq_true rfl, Nat.le_of_ble_eq_true rfl⟩ (w1 := fun u17 => [(y, .inr (9, [.int (zI (i 0)), .ref (q 0), .int (zI (i 1)), .int (zI (i 2)), .int (zI (i 3)), .int (zI (i 4)), .int (zI (i 5)), .int (zI (i 6)), .int (zI (i 7)), .int (zI (i 8)), .int (zI (i 9)), .int (zI (i 10)), .ref (q 1), .int (zI (i 11)), .int (zI (i 12)), .ref (q 2), .ref (q 3), .ref (q 4), .ref (q 5), .ref (q 6), .ref (q 7), .ref (q 8), .ref (q 9), .ref (q 10), .ref (q 11), .ref (q 12), .ref (q 13), .ref (q 14), .ref (q 15), .ref (q 16), .int (zI (i 13)), .int (zI (i 14)), .int (zI (i 15)), .int (zI (i 16)), .int (zI (i 17)), .int (zI (i 18)), .ref (q 17), .ref (q 18), .ref (q 19), .ref (q 20)]))]) (fun _ => rfl) (fun r18 u17 H locs hp19 hP hD hS => ?_)
        obtain ⟨z20, rfl, h_z20⟩ := hp19
        refine rz_ifb_eq (tgt := 44) F (by omega) dX9_countsWhy_29 (by decide) (fun h29_20 => ?_) (fun h29_20 => ?_)
        · have hq22 := h_z20.2.2 (by omega)
          refine lv_iconst (v := zI 2) hx hb dX9_countsWhy_44 rfl ?_
          exact ret (zI 2) (fun k => [((fun _ => 0), fun _ _ => 0)].getD k (fun _ => 0, fun _ _ => 0)) _ _ _ _ _ _ rfl ⟨2, rfl, ⟨(show 0 ≤ (2 : Int) ∧ (2 : Int) ≤ 2 from by omega), (show Imp ((2 : Int) = 0) (i 12 = 1 ∧ (0 ≤ x0 ∧ x0 ≤ 99) ∧ (0 ≤ x1 ∧ x1 ≤ 99) ∧ (0 ≤ x2 ∧ x2 ≤ 99) ∧ (0 ≤ x3 ∧ x3 ≤ 99)) from fun q9 => by omega), (show (2 : Int) = 0 ∨ i 12 = 0 ∨ (x0 < 0 ∨ 99 < x0) ∨ (x1 < 0 ∨ 99 < x1) ∨ (x2 < 0 ∨ 99 < x2) ∨ (x3 < 0 ∨ 99 < x3) from by omega)⟩⟩ (bw_subP (isC := [0]) hP rfl) (hD.sub [0] (by decide) rfl) hS (Nat.le_of_ble_eq_true rfl) (Nat.le_of_ble_eq_true rfl) dX9_countsWhy_45
        · have hq23 := h_z20.2.1 (by omega)
          refine lv_iload hx hb dX9_countsWhy_32 (lv_at hl 4 rfl) ?_
          refine r_callSi (As := [.int (zI x3)]) (rest := []) (wr := [(y, .inr (9, [.int (zI (i 0)), .ref (q 0), .int (zI (i 1)), .int (zI (i 2)), .int (zI (i 3)), .int (zI (i 4)), .int (zI (i 5)), .int (zI (i 6)), .int (zI (i 7)), .int (zI (i 8)), .int (zI (i 9)), .int (zI (i 10)), .ref (q 1), .int (zI (i 11)), .int (zI (i 12)), .ref (q 2), .ref (q 3), .ref (q 4), .ref (q 5), .ref (q 6), .ref (q 7), .ref (q 8), .ref (q 9), .ref (q 10), .ref (q 11), .ref (q 12), .ref (q 13), .ref (q 14), .ref (q 15), .ref (q 16), .int (zI (i 13)), .int (zI (i 14)), .int (zI (i 15)), .int (zI (i 16)), .int (zI (i 17)), .int (zI (i 18)), .ref (q 17), .ref (q 18), .ref (q 19), .ref (q 20)]))]) F hK hP hD hS hA hO hE (c_X9_isCount hO x3 (by omega)) k_1443 ks_X9_isCount 1 rfl (by decide +kernel) ⟨Nat.le_of_ble_eq_true rfl, Nat.le_of_ble_eq_true rfl⟩ [] [0] rfl rfl (by decide) (by decide) (by decide) hl.1 rfl (Nat.le_of_ble_eq_true rfl) dX9_countsWhy_34 ⟨Nat.le_of_ble_eq_true rfl, Nat.le_of_ble_eq_true rfl⟩ (w1 := fun u24 => [(y, .inr (9, [.int (zI (i 0)), .ref (q 0), .int (zI (i 1)), .int (zI (i 2)), .int (zI (i 3)), .int (zI (i 4)), .int (zI (i 5)), .int (zI (i 6)), .int (zI (i 7)), .int (zI (i 8)), .int (zI (i 9)), .int (zI (i 10)), .ref (q 1), .int (zI (i 11)), .int (zI (i 12)), .ref (q 2), .ref (q 3), .ref (q 4), .ref (q 5), .ref (q 6), .ref (q 7), .ref (q 8), .ref (q 9), .ref (q 10), .ref (q 11), .ref (q 12), .ref (q 13), .ref (q 14), .ref (q 15), .ref (q 16), .int (zI (i 13)), .int (zI (i 14)), .int (zI (i 15)), .int (zI (i 16)), .int (zI (i 17)), .int (zI (i 18)), .ref (q 17), .ref (q 18), .ref (q 19), .ref (q 20)]))]) (fun _ => rfl) (fun r25 u24 H locs hp26 hP hD hS => ?_)
          obtain ⟨z27, rfl, h_z27⟩ := hp26
          refine rz_ifb_eq (tgt := 44) F (by omega) dX9_countsWhy_37 (by decide) (fun h37_27 => ?_) (fun h37_27 => ?_)
          · have hq29 := h_z27.2.2 (by omega)
            refine lv_iconst (v := zI 2) hx hb dX9_countsWhy_44 rfl ?_
            exact ret (zI 2) (fun k => [((fun _ => 0), fun _ _ => 0)].getD k (fun _ => 0, fun _ _ => 0)) _ _ _ _ _ _ rfl ⟨2, rfl, ⟨(show 0 ≤ (2 : Int) ∧ (2 : Int) ≤ 2 from by omega), (show Imp ((2 : Int) = 0) (i 12 = 1 ∧ (0 ≤ x0 ∧ x0 ≤ 99) ∧ (0 ≤ x1 ∧ x1 ≤ 99) ∧ (0 ≤ x2 ∧ x2 ≤ 99) ∧ (0 ≤ x3 ∧ x3 ≤ 99)) from fun q9 => by omega), (show (2 : Int) = 0 ∨ i 12 = 0 ∨ (x0 < 0 ∨ 99 < x0) ∨ (x1 < 0 ∨ 99 < x1) ∨ (x2 < 0 ∨ 99 < x2) ∨ (x3 < 0 ∨ 99 < x3) from by omega)⟩⟩ (bw_subP (isC := [0]) hP rfl) (hD.sub [0] (by decide) rfl) hS (Nat.le_of_ble_eq_true rfl) (Nat.le_of_ble_eq_true rfl) dX9_countsWhy_45
          · have hq30 := h_z27.2.1 (by omega)
            refine lv_iconst (v := zI 0) hx hb dX9_countsWhy_40 rfl ?_
            refine lv_goto (tgt := 45) hx hb dX9_countsWhy_41 (by decide) ?_
            exact ret (zI 0) (fun k => [((fun _ => 0), fun _ _ => 0)].getD k (fun _ => 0, fun _ _ => 0)) _ _ _ _ _ _ rfl ⟨0, rfl, ⟨(show 0 ≤ (0 : Int) ∧ (0 : Int) ≤ 2 from by omega), (show Imp ((0 : Int) = 0) (i 12 = 1 ∧ (0 ≤ x0 ∧ x0 ≤ 99) ∧ (0 ≤ x1 ∧ x1 ≤ 99) ∧ (0 ≤ x2 ∧ x2 ≤ 99) ∧ (0 ≤ x3 ∧ x3 ≤ 99)) from fun q9 => by omega), (show (0 : Int) = 0 ∨ i 12 = 0 ∨ (x0 < 0 ∨ 99 < x0) ∨ (x1 < 0 ∨ 99 < x1) ∨ (x2 < 0 ∨ 99 < x2) ∨ (x3 < 0 ∨ 99 < x3) from by omega)⟩⟩ (bw_subP (isC := [0]) hP rfl) (hD.sub [0] (by decide) rfl) hS (Nat.le_of_ble_eq_true rfl) (Nat.le_of_ble_eq_true rfl) dX9_countsWhy_45
  · refine lv_iconst (v := zI 1) hx hb dX9_countsWhy_7 rfl ?_
    refine lv_goto (tgt := 45) hx hb dX9_countsWhy_8 (by decide) ?_
    exact ret (zI 1) (fun k => [((fun _ => 0), fun _ _ => 0)].getD k (fun _ => 0, fun _ _ => 0)) _ _ _ _ _ _ rfl ⟨1, rfl, ⟨(show 0 ≤ (1 : Int) ∧ (1 : Int) ≤ 2 from by omega), (show Imp ((1 : Int) = 0) (i 12 = 1 ∧ (0 ≤ x0 ∧ x0 ≤ 99) ∧ (0 ≤ x1 ∧ x1 ≤ 99) ∧ (0 ≤ x2 ∧ x2 ≤ 99) ∧ (0 ≤ x3 ∧ x3 ≤ 99)) from fun q9 => by omega), (show (1 : Int) = 0 ∨ i 12 = 0 ∨ (x0 < 0 ∨ 99 < x0) ∨ (x1 < 0 ∨ 99 < x1) ∨ (x2 < 0 ∨ 99 < x2) ∨ (x3 < 0 ∨ 99 < x3) from by omega)⟩⟩ (bw_subP (isC := [0]) hP rfl) (hD.sub [0] (by decide) rfl) hS (Nat.le_of_ble_eq_true rfl) (Nat.le_of_ble_eq_true rfl) dX9_countsWhy_45
theorem dX9_inputWhy_0 : decode cX9_inputWhy 0 = .ok (.aload_n 0, 1) := bo_42 (by decide +kernel)
theorem dX9_inputWhy_1 : decode cX9_inputWhy 1 = .ok (.getfield 222, 3) := bo_180 0 222 (by decide +kernel)
theorem dX9_inputWhy_4 : decode cX9_inputWhy 4 = .ok (.ifCond .ne 7, 3) := bo_154 0 7 (by decide +kernel)
theorem dX9_inputWhy_11 : decode cX9_inputWhy 11 = .ok (.iload_n 1, 1) := bo_27 (by decide +kernel)
theorem dX9_inputWhy_12 : decode cX9_inputWhy 12 = .ok (.iconst 0, 1) := bo_3 (by decide +kernel)
theorem dX9_inputWhy_13 : decode cX9_inputWhy 13 = .ok (.iconst 3, 1) := bo_6 (by decide +kernel)
theorem dX9_inputWhy_14 : decode cX9_inputWhy 14 = .ok (.invokestatic 146, 3) := bo_184 0 146 (by decide +kernel)
theorem dX9_inputWhy_17 : decode cX9_inputWhy 17 = .ok (.ifCond .eq 7, 3) := bo_153 0 7 (by decide +kernel)
theorem dX9_inputWhy_24 : decode cX9_inputWhy 24 = .ok (.iconst 2, 1) := bo_5 (by decide +kernel)
theorem dX9_inputWhy_25 : decode cX9_inputWhy 25 = .ok (.ireturn, 1) := bo_172 (by decide +kernel)
theorem dX9_inputWhy_20 : decode cX9_inputWhy 20 = .ok (.iconst 0, 1) := bo_3 (by decide +kernel)
theorem dX9_inputWhy_21 : decode cX9_inputWhy 21 = .ok (.goto 4, 3) := bo_167 0 4 (by decide +kernel)
theorem dX9_inputWhy_7 : decode cX9_inputWhy 7 = .ok (.iconst 1, 1) := bo_4 (by decide +kernel)
theorem dX9_inputWhy_8 : decode cX9_inputWhy 8 = .ok (.goto 17, 3) := bo_167 0 17 (by decide +kernel)
abbrev rm_X9_inputWhy : Room := { frames := 1, cells := 0, slots := 0, locals := 22 }
set_option maxRecDepth 100000 in
set_option maxHeartbeats 8000000 in
theorem c_X9_inputWhy {l : Launch} {E : (Nat → Prop) → State → Prop} (hO : bw_Ok E) {G : va_G} {cI cB cJ cN cW : ClassId} (y : Nat) (q : Nat → Nat) (i : Nat → Int) (hM : ModOk i) (x : Int) (hx9 : zR x)  : bw_Ci (S := zV) l yX9_inputWhy (bw_ws (Cond.code yX9_inputWhy cX9_inputWhy 2 (some .int))) rm_X9_inputWhy E G (bw_kt cI cB cJ cN cW) [.ref y, .int (zI x)] [(y, .inr (9, [.int (zI (i 0)), .ref (q 0), .int (zI (i 1)), .int (zI (i 2)), .int (zI (i 3)), .int (zI (i 4)), .int (zI (i 5)), .int (zI (i 6)), .int (zI (i 7)), .int (zI (i 8)), .int (zI (i 9)), .int (zI (i 10)), .ref (q 1), .int (zI (i 11)), .int (zI (i 12)), .ref (q 2), .ref (q 3), .ref (q 4), .ref (q 5), .ref (q 6), .ref (q 7), .ref (q 8), .ref (q 9), .ref (q 10), .ref (q 11), .ref (q 12), .ref (q 13), .ref (q 14), .ref (q 15), .ref (q 16), .int (zI (i 13)), .int (zI (i 14)), .int (zI (i 15)), .int (zI (i 16)), .int (zI (i 17)), .int (zI (i 18)), .ref (q 17), .ref (q 18), .ref (q 19), .ref (q 20)]))] (fun r u => ∃ z : Int, r = zI z ∧ ((0 ≤ z ∧ z ≤ 2) ∧ Imp (z = 0) (i 12 = 1 ∧ 0 ≤ x ∧ x ≤ 3))) (fun u => [(y, .inr (9, [.int (zI (i 0)), .ref (q 0), .int (zI (i 1)), .int (zI (i 2)), .int (zI (i 3)), .int (zI (i 4)), .int (zI (i 5)), .int (zI (i 6)), .int (zI (i 7)), .int (zI (i 8)), .int (zI (i 9)), .int (zI (i 10)), .ref (q 1), .int (zI (i 11)), .int (zI (i 12)), .ref (q 2), .ref (q 3), .ref (q 4), .ref (q 5), .ref (q 6), .ref (q 7), .ref (q 8), .ref (q 9), .ref (q 10), .ref (q 11), .ref (q 12), .ref (q 13), .ref (q 14), .ref (q 15), .ref (q 16), .int (zI (i 13)), .int (zI (i 14)), .int (zI (i 15)), .int (zI (i 16)), .int (zI (i 17)), .int (zI (i 18)), .ref (q 17), .ref (q 18), .ref (q 19), .ref (q 20)]))]) := by
  refine bw_Ci.of (cc := cX9_inputWhy) (maxL := 2) (ty := .int) (by decide) rfl (Nat.le_of_ble_eq_true rfl) ?_
  intro p e s m below meth c A Q hx hb hml hts hown hin hK hA hS hP hD hE ret ls hl
  have F : CallFix p m c cX9_inputWhy 2 s ([.ref y, .int (zI x)] : List Value).toArray bw_T RX9 := ⟨hx, hb, hml, hown, fun w h => hts w (List.mem_cons_of_mem _ h)⟩
  replace hl : lv_has ls 2 [(0, .ref y), (1, .int (zI x))] := hl
  have hf1 := hM.1
  refine lv_aload_n hx hb dX9_inputWhy_0 rfl (lv_at hl 0 rfl) ?_
  refine r_get F hK hP 0 14 rfl rfl in_X9 (by decide) k_1177 rfl dX9_inputWhy_1 ?_
  refine rz_ifb_ne (tgt := 11) F (by omega) dX9_inputWhy_4 (by decide) (fun h4_1 => ?_) (fun h4_1 => ?_)
  · refine lv_iload_n hx hb dX9_inputWhy_11 rfl (lv_at hl 1 rfl) ?_
    refine lv_iconst (v := zI 0) hx hb dX9_inputWhy_12 rfl ?_
    refine lv_iconst (v := zI 3) hx hb dX9_inputWhy_13 rfl ?_
    refine r_callSi (As := [.int (zI x), .int (zI 0), .int (zI 3)]) (rest := []) (wr := [(y, .inr (9, [.int (zI (i 0)), .ref (q 0), .int (zI (i 1)), .int (zI (i 2)), .int (zI (i 3)), .int (zI (i 4)), .int (zI (i 5)), .int (zI (i 6)), .int (zI (i 7)), .int (zI (i 8)), .int (zI (i 9)), .int (zI (i 10)), .ref (q 1), .int (zI (i 11)), .int (zI (i 12)), .ref (q 2), .ref (q 3), .ref (q 4), .ref (q 5), .ref (q 6), .ref (q 7), .ref (q 8), .ref (q 9), .ref (q 10), .ref (q 11), .ref (q 12), .ref (q 13), .ref (q 14), .ref (q 15), .ref (q 16), .int (zI (i 13)), .int (zI (i 14)), .int (zI (i 15)), .int (zI (i 16)), .int (zI (i 17)), .int (zI (i 18)), .ref (q 17), .ref (q 18), .ref (q 19), .ref (q 20)]))]) F hK hP hD hS hA hO hE (c_X9_within hO x 0 3 (by omega) (by omega) (by omega)) k_1300 ks_X9_within 3 rfl (by decide +kernel) ⟨Nat.le_of_ble_eq_true rfl, Nat.le_of_ble_eq_true rfl⟩ [] [0] rfl rfl (by decide) (by decide) (by decide) hl.1 rfl (Nat.le_of_ble_eq_true rfl) dX9_inputWhy_14 ⟨Nat.le_of_ble_eq_true rfl, Nat.le_of_ble_eq_true rfl⟩ (w1 := fun u3 => [(y, .inr (9, [.int (zI (i 0)), .ref (q 0), .int (zI (i 1)), .int (zI (i 2)), .int (zI (i 3)), .int (zI (i 4)), .int (zI (i 5)), .int (zI (i 6)), .int (zI (i 7)), .int (zI (i 8)), .int (zI (i 9)), .int (zI (i 10)), .ref (q 1), .int (zI (i 11)), .int (zI (i 12)), .ref (q 2), .ref (q 3), .ref (q 4), .ref (q 5), .ref (q 6), .ref (q 7), .ref (q 8), .ref (q 9), .ref (q 10), .ref (q 11), .ref (q 12), .ref (q 13), .ref (q 14), .ref (q 15), .ref (q 16), .int (zI (i 13)), .int (zI (i 14)), .int (zI (i 15)), .int (zI (i 16)), .int (zI (i 17)), .int (zI (i 18)), .ref (q 17), .ref (q 18), .ref (q 19), .ref (q 20)]))]) (fun _ => rfl) (fun r4 u3 H locs hp5 hP hD hS => ?_)
    obtain ⟨z6, rfl, h_z6⟩ := hp5
    refine rz_ifb_eq (tgt := 24) F (by omega) dX9_inputWhy_17 (by decide) (fun h17_6 => ?_) (fun h17_6 => ?_)
    · have hq8 := h_z6.2.2 (by omega)
      refine lv_iconst (v := zI 2) hx hb dX9_inputWhy_24 rfl ?_
      exact ret (zI 2) (fun k => [((fun _ => 0), fun _ _ => 0)].getD k (fun _ => 0, fun _ _ => 0)) _ _ _ _ _ _ rfl ⟨2, rfl, ⟨(show 0 ≤ (2 : Int) ∧ (2 : Int) ≤ 2 from by omega), (show Imp ((2 : Int) = 0) (i 12 = 1 ∧ 0 ≤ x ∧ x ≤ 3) from fun q9 => by omega)⟩⟩ (bw_subP (isC := [0]) hP rfl) (hD.sub [0] (by decide) rfl) hS (Nat.le_of_ble_eq_true rfl) (Nat.le_of_ble_eq_true rfl) dX9_inputWhy_25
    · have hq9 := h_z6.2.1 (by omega)
      refine lv_iconst (v := zI 0) hx hb dX9_inputWhy_20 rfl ?_
      refine lv_goto (tgt := 25) hx hb dX9_inputWhy_21 (by decide) ?_
      exact ret (zI 0) (fun k => [((fun _ => 0), fun _ _ => 0)].getD k (fun _ => 0, fun _ _ => 0)) _ _ _ _ _ _ rfl ⟨0, rfl, ⟨(show 0 ≤ (0 : Int) ∧ (0 : Int) ≤ 2 from by omega), (show Imp ((0 : Int) = 0) (i 12 = 1 ∧ 0 ≤ x ∧ x ≤ 3) from fun q9 => by omega)⟩⟩ (bw_subP (isC := [0]) hP rfl) (hD.sub [0] (by decide) rfl) hS (Nat.le_of_ble_eq_true rfl) (Nat.le_of_ble_eq_true rfl) dX9_inputWhy_25
  · refine lv_iconst (v := zI 1) hx hb dX9_inputWhy_7 rfl ?_
    refine lv_goto (tgt := 25) hx hb dX9_inputWhy_8 (by decide) ?_
    exact ret (zI 1) (fun k => [((fun _ => 0), fun _ _ => 0)].getD k (fun _ => 0, fun _ _ => 0)) _ _ _ _ _ _ rfl ⟨1, rfl, ⟨(show 0 ≤ (1 : Int) ∧ (1 : Int) ≤ 2 from by omega), (show Imp ((1 : Int) = 0) (i 12 = 1 ∧ 0 ≤ x ∧ x ≤ 3) from fun q9 => by omega)⟩⟩ (bw_subP (isC := [0]) hP rfl) (hD.sub [0] (by decide) rfl) hS (Nat.le_of_ble_eq_true rfl) (Nat.le_of_ble_eq_true rfl) dX9_inputWhy_25
theorem dX9_start_0 : decode cX9_start 0 = .ok (.aload_n 0, 1) := bo_42 (by decide +kernel)
theorem dX9_start_1 : decode cX9_start 1 = .ok (.invokevirtual 197, 3) := bo_182 0 197 (by decide +kernel)
theorem k_1296 : Cond.methodLink RX9 197 yX9_good ∈ bw_T := bw_m 1296 (by decide +kernel) rfl
theorem kv_X9_good : bw_KV RX9 yX9_good (Cond.code yX9_good cX9_good 1 none) := ⟨bw_m 1298 (by decide +kernel) rfl, bw_m 44 (by decide +kernel) rfl, bw_m 107 (by decide +kernel) rfl, bw_m 1299 (by decide +kernel) rfl⟩
theorem dX9_start_4 : decode cX9_start 4 = .ok (.aload_n 0, 1) := bo_42 (by decide +kernel)
theorem dX9_start_5 : decode cX9_start 5 = .ok (.iload_n 1, 1) := bo_27 (by decide +kernel)
theorem dX9_start_6 : decode cX9_start 6 = .ok (.iload_n 2, 1) := bo_28 (by decide +kernel)
theorem dX9_start_7 : decode cX9_start 7 = .ok (.iload_n 3, 1) := bo_29 (by decide +kernel)
theorem dX9_start_8 : decode cX9_start 8 = .ok (.iload 4, 2) := bo_21 (by decide +kernel)
theorem dX9_start_10 : decode cX9_start 10 = .ok (.invokevirtual 287, 3) := bo_182 1 31 (by decide +kernel)
theorem k_1439 : Cond.methodLink RX9 287 yX9_countsWhy ∈ bw_T := bw_m 1439 (by decide +kernel) rfl
theorem kv_X9_countsWhy : bw_KV RX9 yX9_countsWhy (Cond.code yX9_countsWhy cX9_countsWhy 5 (some .int)) := ⟨bw_m 1441 (by decide +kernel) rfl, bw_m 68 (by decide +kernel) rfl, bw_m 107 (by decide +kernel) rfl, bw_m 1442 (by decide +kernel) rfl⟩
theorem dX9_start_13 : decode cX9_start 13 = .ok (.istore 5, 2) := bo_54 (by decide +kernel)
theorem dX9_start_15 : decode cX9_start 15 = .ok (.iload 5, 2) := bo_21 (by decide +kernel)
theorem dX9_start_17 : decode cX9_start 17 = .ok (.ifCond .eq 10, 3) := bo_153 0 10 (by decide +kernel)
theorem dX9_start_27 : decode cX9_start 27 = .ok (.aload_n 0, 1) := bo_42 (by decide +kernel)
theorem dX9_start_28 : decode cX9_start 28 = .ok (.getfield 23, 3) := bo_180 0 23 (by decide +kernel)
theorem k_1179 : Cond.fieldLink RX9 23 "BurntWaysModel" "now" "[I" ∈ bw_T := bw_m 1179 (by decide +kernel) rfl
theorem dX9_start_31 : decode cX9_start 31 = .ok (.aload_n 0, 1) := bo_42 (by decide +kernel)
theorem dX9_start_32 : decode cX9_start 32 = .ok (.getfield 53, 3) := bo_180 0 53 (by decide +kernel)
theorem k_1189 : Cond.fieldLink RX9 53 "BurntWaysModel" "st" "[I" ∈ bw_T := bw_m 1189 (by decide +kernel) rfl
theorem dX9_start_35 : decode cX9_start 35 = .ok (.iload_n 1, 1) := bo_27 (by decide +kernel)
theorem dX9_start_36 : decode cX9_start 36 = .ok (.iload_n 2, 1) := bo_28 (by decide +kernel)
theorem dX9_start_37 : decode cX9_start 37 = .ok (.iload_n 3, 1) := bo_29 (by decide +kernel)
theorem dX9_start_38 : decode cX9_start 38 = .ok (.iload 4, 2) := bo_21 (by decide +kernel)
theorem dX9_start_40 : decode cX9_start 40 = .ok (.invokestatic 225, 3) := bo_184 0 225 (by decide +kernel)
theorem dX9_start_43 : decode cX9_start 43 = .ok (.iconst 1, 1) := bo_4 (by decide +kernel)
theorem dX9_start_44 : decode cX9_start 44 = .ok (.ireturn, 1) := bo_172 (by decide +kernel)
theorem dX9_start_20 : decode cX9_start 20 = .ok (.aload_n 0, 1) := bo_42 (by decide +kernel)
theorem dX9_start_21 : decode cX9_start 21 = .ok (.iload 5, 2) := bo_21 (by decide +kernel)
theorem dX9_start_23 : decode cX9_start 23 = .ok (.invokevirtual 291, 3) := bo_182 1 35 (by decide +kernel)
theorem k_1446 : Cond.methodLink RX9 291 yX9_isNot ∈ bw_T := bw_m 1446 (by decide +kernel) rfl
theorem kv_X9_isNot : bw_KV RX9 yX9_isNot (Cond.code yX9_isNot cX9_isNot 2 (some .boolean)) := ⟨bw_m 1448 (by decide +kernel) rfl, bw_m 69 (by decide +kernel) rfl, bw_m 107 (by decide +kernel) rfl, bw_m 1449 (by decide +kernel) rfl⟩
theorem dX9_start_26 : decode cX9_start 26 = .ok (.ireturn, 1) := bo_172 (by decide +kernel)
theorem dX9_steps_0 : decode cX9_steps 0 = .ok (.aload_n 0, 1) := bo_42 (by decide +kernel)
theorem dX9_steps_1 : decode cX9_steps 1 = .ok (.invokevirtual 197, 3) := bo_182 0 197 (by decide +kernel)
theorem dX9_steps_4 : decode cX9_steps 4 = .ok (.aload_n 0, 1) := bo_42 (by decide +kernel)
theorem dX9_steps_5 : decode cX9_steps 5 = .ok (.getfield 222, 3) := bo_180 0 222 (by decide +kernel)
theorem dX9_steps_8 : decode cX9_steps 8 = .ok (.ifCond .ne 9, 3) := bo_154 0 9 (by decide +kernel)
theorem dX9_steps_17 : decode cX9_steps 17 = .ok (.iload_n 1, 1) := bo_27 (by decide +kernel)
theorem dX9_steps_18 : decode cX9_steps 18 = .ok (.iconst 1, 1) := bo_4 (by decide +kernel)
theorem dX9_steps_19 : decode cX9_steps 19 = .ok (.bipush 99, 2) := bo_16 99 (by decide +kernel)
theorem dX9_steps_21 : decode cX9_steps 21 = .ok (.invokestatic 146, 3) := bo_184 0 146 (by decide +kernel)
theorem dX9_steps_24 : decode cX9_steps 24 = .ok (.ifCond .ne 9, 3) := bo_154 0 9 (by decide +kernel)
theorem dX9_steps_33 : decode cX9_steps 33 = .ok (.aload_n 0, 1) := bo_42 (by decide +kernel)
theorem dX9_steps_34 : decode cX9_steps 34 = .ok (.getfield 53, 3) := bo_180 0 53 (by decide +kernel)
theorem dX9_steps_37 : decode cX9_steps 37 = .ok (.bipush 6, 2) := bo_16 6 (by decide +kernel)
theorem dX9_steps_39 : decode cX9_steps 39 = .ok (.iaload, 1) := bo_46 (by decide +kernel)
theorem dX9_steps_40 : decode cX9_steps 40 = .ok (.ifCond .eq 10, 3) := bo_153 0 10 (by decide +kernel)
theorem dX9_steps_50 : decode cX9_steps 50 = .ok (.aload_n 0, 1) := bo_42 (by decide +kernel)
theorem dX9_steps_51 : decode cX9_steps 51 = .ok (.getfield 53, 3) := bo_180 0 53 (by decide +kernel)
theorem dX9_steps_54 : decode cX9_steps 54 = .ok (.iconst 5, 1) := bo_8 (by decide +kernel)
theorem dX9_steps_55 : decode cX9_steps 55 = .ok (.iaload, 1) := bo_46 (by decide +kernel)
theorem dX9_steps_56 : decode cX9_steps 56 = .ok (.istore_n 2, 1) := bo_61 (by decide +kernel)
theorem dX9_steps_57 : decode cX9_steps 57 = .ok (.aload_n 0, 1) := bo_42 (by decide +kernel)
theorem dX9_steps_58 : decode cX9_steps 58 = .ok (.getfield 53, 3) := bo_180 0 53 (by decide +kernel)
theorem dX9_steps_61 : decode cX9_steps 61 = .ok (.iconst 5, 1) := bo_8 (by decide +kernel)
theorem dX9_steps_62 : decode cX9_steps 62 = .ok (.iaload, 1) := bo_46 (by decide +kernel)
theorem dX9_steps_63 : decode cX9_steps 63 = .ok (.iload_n 2, 1) := bo_28 (by decide +kernel)
theorem dX9_steps_64 : decode cX9_steps 64 = .ok (.isub, 1) := bo_100 (by decide +kernel)
theorem dX9_steps_65 : decode cX9_steps 65 = .ok (.iload_n 1, 1) := bo_27 (by decide +kernel)
theorem dX9_steps_66 : decode cX9_steps 66 = .ok (.if_icmp .ge 27, 3) := bo_162 0 27 (by decide +kernel)
theorem dX9_steps_93 : decode cX9_steps 93 = .ok (.aload_n 0, 1) := bo_42 (by decide +kernel)
theorem dX9_steps_94 : decode cX9_steps 94 = .ok (.getfield 53, 3) := bo_180 0 53 (by decide +kernel)
theorem dX9_steps_97 : decode cX9_steps 97 = .ok (.iconst 5, 1) := bo_8 (by decide +kernel)
theorem dX9_steps_98 : decode cX9_steps 98 = .ok (.iaload, 1) := bo_46 (by decide +kernel)
theorem dX9_steps_99 : decode cX9_steps 99 = .ok (.iload_n 2, 1) := bo_28 (by decide +kernel)
theorem dX9_steps_100 : decode cX9_steps 100 = .ok (.isub, 1) := bo_100 (by decide +kernel)
theorem dX9_steps_101 : decode cX9_steps 101 = .ok (.ireturn, 1) := bo_172 (by decide +kernel)
theorem dX9_steps_69 : decode cX9_steps 69 = .ok (.aload_n 0, 1) := bo_42 (by decide +kernel)
theorem dX9_steps_70 : decode cX9_steps 70 = .ok (.getfield 53, 3) := bo_180 0 53 (by decide +kernel)
theorem dX9_steps_73 : decode cX9_steps 73 = .ok (.bipush 6, 2) := bo_16 6 (by decide +kernel)
theorem dX9_steps_75 : decode cX9_steps 75 = .ok (.iaload, 1) := bo_46 (by decide +kernel)
theorem dX9_steps_76 : decode cX9_steps 76 = .ok (.ifCond .ne 17, 3) := bo_154 0 17 (by decide +kernel)
theorem dX9_steps_79 : decode cX9_steps 79 = .ok (.aload_n 0, 1) := bo_42 (by decide +kernel)
theorem dX9_steps_80 : decode cX9_steps 80 = .ok (.getfield 23, 3) := bo_180 0 23 (by decide +kernel)
theorem dX9_steps_83 : decode cX9_steps 83 = .ok (.aload_n 0, 1) := bo_42 (by decide +kernel)
theorem dX9_steps_84 : decode cX9_steps 84 = .ok (.getfield 53, 3) := bo_180 0 53 (by decide +kernel)
theorem dX9_steps_87 : decode cX9_steps 87 = .ok (.invokestatic 280, 3) := bo_184 1 24 (by decide +kernel)
theorem dX9_steps_90 : decode cX9_steps 90 = .ok (.goto (-33), 3) := bo_167 255 223 (by decide +kernel)
theorem dX9_steps_43 : decode cX9_steps 43 = .ok (.aload_n 0, 1) := bo_42 (by decide +kernel)
theorem dX9_steps_44 : decode cX9_steps 44 = .ok (.bipush 6, 2) := bo_16 6 (by decide +kernel)
theorem dX9_steps_46 : decode cX9_steps 46 = .ok (.invokevirtual 200, 3) := bo_182 0 200 (by decide +kernel)
theorem k_1303 : Cond.methodLink RX9 200 yX9_no ∈ bw_T := bw_m 1303 (by decide +kernel) rfl
theorem kv_X9_no : bw_KV RX9 yX9_no (Cond.code yX9_no cX9_no 2 (some .int)) := ⟨bw_m 1305 (by decide +kernel) rfl, bw_m 45 (by decide +kernel) rfl, bw_m 107 (by decide +kernel) rfl, bw_m 1306 (by decide +kernel) rfl⟩
theorem dX9_steps_49 : decode cX9_steps 49 = .ok (.ireturn, 1) := bo_172 (by decide +kernel)
theorem dX9_steps_27 : decode cX9_steps 27 = .ok (.aload_n 0, 1) := bo_42 (by decide +kernel)
theorem dX9_steps_28 : decode cX9_steps 28 = .ok (.iconst 2, 1) := bo_5 (by decide +kernel)
theorem dX9_steps_29 : decode cX9_steps 29 = .ok (.invokevirtual 200, 3) := bo_182 0 200 (by decide +kernel)
theorem dX9_steps_32 : decode cX9_steps 32 = .ok (.ireturn, 1) := bo_172 (by decide +kernel)
theorem dX9_steps_11 : decode cX9_steps 11 = .ok (.aload_n 0, 1) := bo_42 (by decide +kernel)
theorem dX9_steps_12 : decode cX9_steps 12 = .ok (.iconst 1, 1) := bo_4 (by decide +kernel)
theorem dX9_steps_13 : decode cX9_steps 13 = .ok (.invokevirtual 200, 3) := bo_182 0 200 (by decide +kernel)
theorem dX9_steps_16 : decode cX9_steps 16 = .ok (.ireturn, 1) := bo_172 (by decide +kernel)
theorem dX9_run_0 : decode cX9_run 0 = .ok (.aload_n 0, 1) := bo_42 (by decide +kernel)
theorem dX9_run_1 : decode cX9_run 1 = .ok (.invokevirtual 197, 3) := bo_182 0 197 (by decide +kernel)
theorem dX9_run_4 : decode cX9_run 4 = .ok (.aload_n 0, 1) := bo_42 (by decide +kernel)
theorem dX9_run_5 : decode cX9_run 5 = .ok (.getfield 222, 3) := bo_180 0 222 (by decide +kernel)
theorem dX9_run_8 : decode cX9_run 8 = .ok (.ifCond .ne 9, 3) := bo_154 0 9 (by decide +kernel)
theorem dX9_run_17 : decode cX9_run 17 = .ok (.aload_n 0, 1) := bo_42 (by decide +kernel)
theorem dX9_run_18 : decode cX9_run 18 = .ok (.getfield 53, 3) := bo_180 0 53 (by decide +kernel)
theorem dX9_run_21 : decode cX9_run 21 = .ok (.iconst 5, 1) := bo_8 (by decide +kernel)
theorem dX9_run_22 : decode cX9_run 22 = .ok (.iaload, 1) := bo_46 (by decide +kernel)
theorem dX9_run_23 : decode cX9_run 23 = .ok (.istore_n 1, 1) := bo_60 (by decide +kernel)
theorem dX9_run_24 : decode cX9_run 24 = .ok (.aload_n 0, 1) := bo_42 (by decide +kernel)
theorem dX9_run_25 : decode cX9_run 25 = .ok (.getfield 23, 3) := bo_180 0 23 (by decide +kernel)
theorem dX9_run_28 : decode cX9_run 28 = .ok (.aload_n 0, 1) := bo_42 (by decide +kernel)
theorem dX9_run_29 : decode cX9_run 29 = .ok (.getfield 53, 3) := bo_180 0 53 (by decide +kernel)
theorem dX9_run_32 : decode cX9_run 32 = .ok (.invokestatic 294, 3) := bo_184 1 38 (by decide +kernel)
theorem k_1470 : Cond.methodLink RX9 294 yX9_runs ∈ bw_T := bw_m 1470 (by decide +kernel) rfl
theorem ks_X9_runs : bw_KS RX9 yX9_runs (Cond.code yX9_runs cX9_runs 2 none) := ⟨bw_m 1471 (by decide +kernel) rfl, bw_m 107 (by decide +kernel) rfl, bw_m 1472 (by decide +kernel) rfl⟩
theorem dX9_run_35 : decode cX9_run 35 = .ok (.aload_n 0, 1) := bo_42 (by decide +kernel)
theorem dX9_run_36 : decode cX9_run 36 = .ok (.getfield 53, 3) := bo_180 0 53 (by decide +kernel)
theorem dX9_run_39 : decode cX9_run 39 = .ok (.iconst 5, 1) := bo_8 (by decide +kernel)
theorem dX9_run_40 : decode cX9_run 40 = .ok (.iaload, 1) := bo_46 (by decide +kernel)
theorem dX9_run_41 : decode cX9_run 41 = .ok (.iload_n 1, 1) := bo_27 (by decide +kernel)
theorem dX9_run_42 : decode cX9_run 42 = .ok (.isub, 1) := bo_100 (by decide +kernel)
theorem dX9_run_43 : decode cX9_run 43 = .ok (.ireturn, 1) := bo_172 (by decide +kernel)
theorem dX9_run_11 : decode cX9_run 11 = .ok (.aload_n 0, 1) := bo_42 (by decide +kernel)
theorem dX9_run_12 : decode cX9_run 12 = .ok (.iconst 1, 1) := bo_4 (by decide +kernel)
theorem dX9_run_13 : decode cX9_run 13 = .ok (.invokevirtual 200, 3) := bo_182 0 200 (by decide +kernel)
theorem dX9_run_16 : decode cX9_run 16 = .ok (.ireturn, 1) := bo_172 (by decide +kernel)
theorem dX9_now_0 : decode cX9_now 0 = .ok (.aload_n 0, 1) := bo_42 (by decide +kernel)
theorem dX9_now_1 : decode cX9_now 1 = .ok (.invokevirtual 197, 3) := bo_182 0 197 (by decide +kernel)
theorem dX9_now_4 : decode cX9_now 4 = .ok (.aload_n 0, 1) := bo_42 (by decide +kernel)
theorem dX9_now_5 : decode cX9_now 5 = .ok (.getfield 222, 3) := bo_180 0 222 (by decide +kernel)
theorem dX9_now_8 : decode cX9_now 8 = .ok (.ifCond .eq 23, 3) := bo_153 0 23 (by decide +kernel)
theorem dX9_now_31 : decode cX9_now 31 = .ok (.aload_n 0, 1) := bo_42 (by decide +kernel)
theorem dX9_now_32 : decode cX9_now 32 = .ok (.iconst 1, 1) := bo_4 (by decide +kernel)
theorem dX9_now_33 : decode cX9_now 33 = .ok (.invokevirtual 200, 3) := bo_182 0 200 (by decide +kernel)
theorem dX9_now_36 : decode cX9_now 36 = .ok (.ireturn, 1) := bo_172 (by decide +kernel)
theorem dX9_now_11 : decode cX9_now 11 = .ok (.iload_n 1, 1) := bo_27 (by decide +kernel)
theorem dX9_now_12 : decode cX9_now 12 = .ok (.iconst 0, 1) := bo_3 (by decide +kernel)
theorem dX9_now_13 : decode cX9_now 13 = .ok (.iconst 3, 1) := bo_6 (by decide +kernel)
theorem dX9_now_14 : decode cX9_now 14 = .ok (.invokestatic 146, 3) := bo_184 0 146 (by decide +kernel)
theorem dX9_now_17 : decode cX9_now 17 = .ok (.ifCond .eq 14, 3) := bo_153 0 14 (by decide +kernel)
theorem dX9_now_20 : decode cX9_now 20 = .ok (.aload_n 0, 1) := bo_42 (by decide +kernel)
theorem dX9_now_21 : decode cX9_now 21 = .ok (.getfield 53, 3) := bo_180 0 53 (by decide +kernel)
theorem dX9_now_24 : decode cX9_now 24 = .ok (.iconst 4, 1) := bo_7 (by decide +kernel)
theorem dX9_now_25 : decode cX9_now 25 = .ok (.iload_n 1, 1) := bo_27 (by decide +kernel)
theorem dX9_now_26 : decode cX9_now 26 = .ok (.iadd, 1) := bo_96 (by decide +kernel)
theorem dX9_now_27 : decode cX9_now 27 = .ok (.iaload, 1) := bo_46 (by decide +kernel)
theorem dX9_now_28 : decode cX9_now 28 = .ok (.goto 8, 3) := bo_167 0 8 (by decide +kernel)
abbrev rm_X9_now : Room := { frames := 1, cells := 0, slots := 0, locals := 22 }
set_option maxRecDepth 100000 in
set_option maxHeartbeats 8000000 in
theorem c_X9_now {l : Launch} {E : (Nat → Prop) → State → Prop} (hO : bw_Ok E) {G : va_G} {cI cB cJ cN cW : ClassId} (y : Nat) (q : Nat → Nat) (i : Nat → Int) (hM : ModOk i) (g_st : Nat → Int) (x : Int) (hx9 : zR x)  : bw_Ci (S := zV) l yX9_now (bw_ws (Cond.code yX9_now cX9_now 2 (some .int))) rm_X9_now E G (bw_kt cI cB cJ cN cW) [.ref y, .int (zI x)] [(y, .inr (9, [.int (zI (i 0)), .ref (q 0), .int (zI (i 1)), .int (zI (i 2)), .int (zI (i 3)), .int (zI (i 4)), .int (zI (i 5)), .int (zI (i 6)), .int (zI (i 7)), .int (zI (i 8)), .int (zI (i 9)), .int (zI (i 10)), .ref (q 1), .int (zI (i 11)), .int (zI (i 12)), .ref (q 2), .ref (q 3), .ref (q 4), .ref (q 5), .ref (q 6), .ref (q 7), .ref (q 8), .ref (q 9), .ref (q 10), .ref (q 11), .ref (q 12), .ref (q 13), .ref (q 14), .ref (q 15), .ref (q 16), .int (zI (i 13)), .int (zI (i 14)), .int (zI (i 15)), .int (zI (i 16)), .int (zI (i 17)), .int (zI (i 18)), .ref (q 17), .ref (q 18), .ref (q 19), .ref (q 20)])), ((q 13), .inl (cI, 159, .inl (fun k => zI (g_st k))))] (fun r u => ∃ z : Int, r = zI z ∧ (ModOk (u 0).1) ∧ (((u 0).1 1 = i 1 ∧ (u 0).1 8 = i 8 ∧ (u 0).1 9 = i 9 ∧ (u 0).1 12 = i 12 ∧ (u 0).1 13 = i 13 ∧ (u 0).1 15 = i 15 ∧ (u 0).1 17 = i 17 ∧ (u 0).1 10 ≠ 4))) (fun u => [(y, .inr (9, [.int (zI ((u 0).1 0)), .ref (q 0), .int (zI ((u 0).1 1)), .int (zI ((u 0).1 2)), .int (zI ((u 0).1 3)), .int (zI ((u 0).1 4)), .int (zI ((u 0).1 5)), .int (zI ((u 0).1 6)), .int (zI ((u 0).1 7)), .int (zI ((u 0).1 8)), .int (zI ((u 0).1 9)), .int (zI ((u 0).1 10)), .ref (q 1), .int (zI ((u 0).1 11)), .int (zI ((u 0).1 12)), .ref (q 2), .ref (q 3), .ref (q 4), .ref (q 5), .ref (q 6), .ref (q 7), .ref (q 8), .ref (q 9), .ref (q 10), .ref (q 11), .ref (q 12), .ref (q 13), .ref (q 14), .ref (q 15), .ref (q 16), .int (zI ((u 0).1 13)), .int (zI ((u 0).1 14)), .int (zI ((u 0).1 15)), .int (zI ((u 0).1 16)), .int (zI ((u 0).1 17)), .int (zI ((u 0).1 18)), .ref (q 17), .ref (q 18), .ref (q 19), .ref (q 20)])), ((q 13), .inl (cI, 159, .inl (fun k => zI (g_st k))))]) := by
  refine bw_Ci.of (cc := cX9_now) (maxL := 2) (ty := .int) (by decide) rfl (Nat.le_of_ble_eq_true rfl) ?_
  intro p e s m below meth c A Q hx hb hml hts hown hin hK hA hS hP hD hE ret ls hl
  have F : CallFix p m c cX9_now 2 s ([.ref y, .int (zI x)] : List Value).toArray bw_T RX9 := ⟨hx, hb, hml, hown, fun w h => hts w (List.mem_cons_of_mem _ h)⟩
  replace hl : lv_has ls 2 [(0, .ref y), (1, .int (zI x))] := hl
  have hf1 := hM.1
  refine lv_aload_n hx hb dX9_now_0 rfl (lv_at hl 0 rfl) ?_
  refine r_callVv (As := []) (rest := []) (wr := [((q 13), .inl (cI, 159, .inl (fun k => zI (g_st k))))]) F hK hP hD hS hA hO hE (c_X9_good hO y q i hM) k_1296 kv_X9_good 0 rfl (by decide +kernel) ⟨Nat.le_of_ble_eq_true rfl, Nat.le_of_ble_eq_true rfl⟩ [0] [1] rfl rfl (by decide) (by decide) (by decide) 0 9 rfl rfl rfl hl.1 rfl (Nat.le_of_ble_eq_true rfl) dX9_now_1 ⟨Nat.le_of_ble_eq_true rfl, Nat.le_of_ble_eq_true rfl⟩ (w1 := fun u2 => [((q 13), .inl (cI, 159, .inl (fun k => zI (g_st k)))), (y, .inr (9, [.int (zI ((u2 0).1 0)), .ref (q 0), .int (zI ((u2 0).1 1)), .int (zI ((u2 0).1 2)), .int (zI ((u2 0).1 3)), .int (zI ((u2 0).1 4)), .int (zI ((u2 0).1 5)), .int (zI ((u2 0).1 6)), .int (zI ((u2 0).1 7)), .int (zI ((u2 0).1 8)), .int (zI ((u2 0).1 9)), .int (zI ((u2 0).1 10)), .ref (q 1), .int (zI ((u2 0).1 11)), .int (zI ((u2 0).1 12)), .ref (q 2), .ref (q 3), .ref (q 4), .ref (q 5), .ref (q 6), .ref (q 7), .ref (q 8), .ref (q 9), .ref (q 10), .ref (q 11), .ref (q 12), .ref (q 13), .ref (q 14), .ref (q 15), .ref (q 16), .int (zI ((u2 0).1 13)), .int (zI ((u2 0).1 14)), .int (zI ((u2 0).1 15)), .int (zI ((u2 0).1 16)), .int (zI ((u2 0).1 17)), .int (zI ((u2 0).1 18)), .ref (q 17), .ref (q 18), .ref (q 19), .ref (q 20)]))]) (fun _ => rfl) (fun  u2 H locs hp3 hP hD hS => ?_)
  have hf4 := hp3.1.1
  refine lv_aload_n hx hb dX9_now_4 rfl (lv_at hl 0 rfl) ?_
  refine r_get F hK hP 1 14 rfl rfl in_X9 (by decide) k_1177 rfl dX9_now_5 ?_
  refine rz_ifb_eq (tgt := 31) F (by omega) dX9_now_8 (by decide) (fun h8_4 => ?_) (fun h8_4 => ?_)
  · refine lv_aload_n hx hb dX9_now_31 rfl (lv_at hl 0 rfl) ?_
    refine lv_iconst (v := zI 1) hx hb dX9_now_32 rfl ?_
    refine r_callVi (As := [.int (zI 1)]) (rest := []) (wr := [((q 13), .inl (cI, 159, .inl (fun k => zI (g_st k))))]) F hK hP hD hS hA hO hE (c_X9_no hO y q ((u2 0).1) hp3.1 1 (by omega) (by omega)) k_1303 kv_X9_no 1 rfl (by decide +kernel) ⟨Nat.le_of_ble_eq_true rfl, Nat.le_of_ble_eq_true rfl⟩ [1] [0] rfl rfl (by decide) (by decide) (by decide) 0 9 rfl rfl rfl hl.1 rfl (Nat.le_of_ble_eq_true rfl) dX9_now_33 ⟨Nat.le_of_ble_eq_true rfl, Nat.le_of_ble_eq_true rfl⟩ (w1 := fun u6 => [((q 13), .inl (cI, 159, .inl (fun k => zI (g_st k)))), (y, .inr (9, [.int (zI ((u6 0).1 0)), .ref (q 0), .int (zI ((u6 0).1 1)), .int (zI ((u6 0).1 2)), .int (zI ((u6 0).1 3)), .int (zI ((u6 0).1 4)), .int (zI ((u6 0).1 5)), .int (zI ((u6 0).1 6)), .int (zI ((u6 0).1 7)), .int (zI ((u6 0).1 8)), .int (zI ((u6 0).1 9)), .int (zI ((u6 0).1 10)), .ref (q 1), .int (zI ((u6 0).1 11)), .int (zI ((u6 0).1 12)), .ref (q 2), .ref (q 3), .ref (q 4), .ref (q 5), .ref (q 6), .ref (q 7), .ref (q 8), .ref (q 9), .ref (q 10), .ref (q 11), .ref (q 12), .ref (q 13), .ref (q 14), .ref (q 15), .ref (q 16), .int (zI ((u6 0).1 13)), .int (zI ((u6 0).1 14)), .int (zI ((u6 0).1 15)), .int (zI ((u6 0).1 16)), .int (zI ((u6 0).1 17)), .int (zI ((u6 0).1 18)), .ref (q 17), .ref (q 18), .ref (q 19), .ref (q 20)]))]) (fun _ => rfl) (fun r7 u6 H locs hp8 hP hD hS => ?_)
    obtain ⟨z9, rfl, h_z9⟩ := hp8
    have hf10 := h_z9.1.1
    exact ret (zI z9) (fun k => [((u6 0).1, fun _ _ => 0)].getD k (fun _ => 0, fun _ _ => 0)) _ _ _ _ _ _ rfl ⟨z9, rfl, h_z9.1, (show ((u6 0).1) 1 = i 1 ∧ ((u6 0).1) 8 = i 8 ∧ ((u6 0).1) 9 = i 9 ∧ ((u6 0).1) 12 = i 12 ∧ ((u6 0).1) 13 = i 13 ∧ ((u6 0).1) 15 = i 15 ∧ ((u6 0).1) 17 = i 17 ∧ ((u6 0).1) 10 ≠ 4 from by omega)⟩ (bw_subP (isC := [1, 0]) hP rfl) (hD.sub [1, 0] (by decide) rfl) hS (Nat.le_of_ble_eq_true rfl) (Nat.le_of_ble_eq_true rfl) dX9_now_36
  · refine lv_iload_n hx hb dX9_now_11 rfl (lv_at hl 1 rfl) ?_
    refine lv_iconst (v := zI 0) hx hb dX9_now_12 rfl ?_
    refine lv_iconst (v := zI 3) hx hb dX9_now_13 rfl ?_
    refine r_callSi (As := [.int (zI x), .int (zI 0), .int (zI 3)]) (rest := []) (wr := [((q 13), .inl (cI, 159, .inl (fun k => zI (g_st k)))), (y, .inr (9, [.int (zI ((u2 0).1 0)), .ref (q 0), .int (zI ((u2 0).1 1)), .int (zI ((u2 0).1 2)), .int (zI ((u2 0).1 3)), .int (zI ((u2 0).1 4)), .int (zI ((u2 0).1 5)), .int (zI ((u2 0).1 6)), .int (zI ((u2 0).1 7)), .int (zI ((u2 0).1 8)), .int (zI ((u2 0).1 9)), .int (zI ((u2 0).1 10)), .ref (q 1), .int (zI ((u2 0).1 11)), .int (zI ((u2 0).1 12)), .ref (q 2), .ref (q 3), .ref (q 4), .ref (q 5), .ref (q 6), .ref (q 7), .ref (q 8), .ref (q 9), .ref (q 10), .ref (q 11), .ref (q 12), .ref (q 13), .ref (q 14), .ref (q 15), .ref (q 16), .int (zI ((u2 0).1 13)), .int (zI ((u2 0).1 14)), .int (zI ((u2 0).1 15)), .int (zI ((u2 0).1 16)), .int (zI ((u2 0).1 17)), .int (zI ((u2 0).1 18)), .ref (q 17), .ref (q 18), .ref (q 19), .ref (q 20)]))]) F hK hP hD hS hA hO hE (c_X9_within hO x 0 3 (by omega) (by omega) (by omega)) k_1300 ks_X9_within 3 rfl (by decide +kernel) ⟨Nat.le_of_ble_eq_true rfl, Nat.le_of_ble_eq_true rfl⟩ [] [0, 1] rfl rfl (by decide) (by decide) (by decide) hl.1 rfl (Nat.le_of_ble_eq_true rfl) dX9_now_14 ⟨Nat.le_of_ble_eq_true rfl, Nat.le_of_ble_eq_true rfl⟩ (w1 := fun u11 => [((q 13), .inl (cI, 159, .inl (fun k => zI (g_st k)))), (y, .inr (9, [.int (zI ((u2 0).1 0)), .ref (q 0), .int (zI ((u2 0).1 1)), .int (zI ((u2 0).1 2)), .int (zI ((u2 0).1 3)), .int (zI ((u2 0).1 4)), .int (zI ((u2 0).1 5)), .int (zI ((u2 0).1 6)), .int (zI ((u2 0).1 7)), .int (zI ((u2 0).1 8)), .int (zI ((u2 0).1 9)), .int (zI ((u2 0).1 10)), .ref (q 1), .int (zI ((u2 0).1 11)), .int (zI ((u2 0).1 12)), .ref (q 2), .ref (q 3), .ref (q 4), .ref (q 5), .ref (q 6), .ref (q 7), .ref (q 8), .ref (q 9), .ref (q 10), .ref (q 11), .ref (q 12), .ref (q 13), .ref (q 14), .ref (q 15), .ref (q 16), .int (zI ((u2 0).1 13)), .int (zI ((u2 0).1 14)), .int (zI ((u2 0).1 15)), .int (zI ((u2 0).1 16)), .int (zI ((u2 0).1 17)), .int (zI ((u2 0).1 18)), .ref (q 17), .ref (q 18), .ref (q 19), .ref (q 20)]))]) (fun _ => rfl) (fun r12 u11 H locs hp13 hP hD hS => ?_)
    obtain ⟨z14, rfl, h_z14⟩ := hp13
    refine rz_ifb_eq (tgt := 31) F (by omega) dX9_now_17 (by decide) (fun h17_14 => ?_) (fun h17_14 => ?_)
    · have hq16 := h_z14.2.2 (by omega)
      refine lv_aload_n hx hb dX9_now_31 rfl (lv_at hl 0 rfl) ?_
      refine lv_iconst (v := zI 1) hx hb dX9_now_32 rfl ?_
      refine r_callVi (As := [.int (zI 1)]) (rest := []) (wr := [((q 13), .inl (cI, 159, .inl (fun k => zI (g_st k))))]) F hK hP hD hS hA hO hE (c_X9_no hO y q ((u2 0).1) hp3.1 1 (by omega) (by omega)) k_1303 kv_X9_no 1 rfl (by decide +kernel) ⟨Nat.le_of_ble_eq_true rfl, Nat.le_of_ble_eq_true rfl⟩ [1] [0] rfl rfl (by decide) (by decide) (by decide) 0 9 rfl rfl rfl hl.1 rfl (Nat.le_of_ble_eq_true rfl) dX9_now_33 ⟨Nat.le_of_ble_eq_true rfl, Nat.le_of_ble_eq_true rfl⟩ (w1 := fun u17 => [((q 13), .inl (cI, 159, .inl (fun k => zI (g_st k)))), (y, .inr (9, [.int (zI ((u17 0).1 0)), .ref (q 0), .int (zI ((u17 0).1 1)), .int (zI ((u17 0).1 2)), .int (zI ((u17 0).1 3)), .int (zI ((u17 0).1 4)), .int (zI ((u17 0).1 5)), .int (zI ((u17 0).1 6)), .int (zI ((u17 0).1 7)), .int (zI ((u17 0).1 8)), .int (zI ((u17 0).1 9)), .int (zI ((u17 0).1 10)), .ref (q 1), .int (zI ((u17 0).1 11)), .int (zI ((u17 0).1 12)), .ref (q 2), .ref (q 3), .ref (q 4), .ref (q 5), .ref (q 6), .ref (q 7), .ref (q 8), .ref (q 9), .ref (q 10), .ref (q 11), .ref (q 12), .ref (q 13), .ref (q 14), .ref (q 15), .ref (q 16), .int (zI ((u17 0).1 13)), .int (zI ((u17 0).1 14)), .int (zI ((u17 0).1 15)), .int (zI ((u17 0).1 16)), .int (zI ((u17 0).1 17)), .int (zI ((u17 0).1 18)), .ref (q 17), .ref (q 18), .ref (q 19), .ref (q 20)]))]) (fun _ => rfl) (fun r18 u17 H locs hp19 hP hD hS => ?_)
      obtain ⟨z20, rfl, h_z20⟩ := hp19
      have hf21 := h_z20.1.1
      exact ret (zI z20) (fun k => [((u17 0).1, fun _ _ => 0)].getD k (fun _ => 0, fun _ _ => 0)) _ _ _ _ _ _ rfl ⟨z20, rfl, h_z20.1, (show ((u17 0).1) 1 = i 1 ∧ ((u17 0).1) 8 = i 8 ∧ ((u17 0).1) 9 = i 9 ∧ ((u17 0).1) 12 = i 12 ∧ ((u17 0).1) 13 = i 13 ∧ ((u17 0).1) 15 = i 15 ∧ ((u17 0).1) 17 = i 17 ∧ ((u17 0).1) 10 ≠ 4 from by omega)⟩ (bw_subP (isC := [1, 0]) hP rfl) (hD.sub [1, 0] (by decide) rfl) hS (Nat.le_of_ble_eq_true rfl) (Nat.le_of_ble_eq_true rfl) dX9_now_36
    · have hq22 := h_z14.2.1 (by omega)
      refine lv_aload_n hx hb dX9_now_20 rfl (lv_at hl 0 rfl) ?_
      refine r_get F hK hP 1 26 rfl rfl in_X9 (by decide) k_1189 rfl dX9_now_21 ?_
      refine lv_iconst (v := zI 4) hx hb dX9_now_24 rfl ?_
      refine lv_iload_n hx hb dX9_now_25 rfl (lv_at hl 1 rfl) ?_
      refine r_iadd (v := zI (4 + x)) F dX9_now_26 (zI_add _ _) ?_
      refine rz_iald F hK hP 0 0 rfl rfl (by omega) (by omega) dX9_now_27 ?_
      refine rz_top (fun z23 h_z23 => ?_)
      refine lv_goto (tgt := 36) hx hb dX9_now_28 (by decide) ?_
      exact ret (zI z23) (fun k => [((u2 0).1, fun _ _ => 0)].getD k (fun _ => 0, fun _ _ => 0)) _ _ _ _ _ _ rfl ⟨z23, rfl, hp3.1, (show ((u2 0).1) 1 = i 1 ∧ ((u2 0).1) 8 = i 8 ∧ ((u2 0).1) 9 = i 9 ∧ ((u2 0).1) 12 = i 12 ∧ ((u2 0).1) 13 = i 13 ∧ ((u2 0).1) 15 = i 15 ∧ ((u2 0).1) 17 = i 17 ∧ ((u2 0).1) 10 ≠ 4 from by omega)⟩ (bw_subP (isC := [1, 0]) hP rfl) (hD.sub [1, 0] (by decide) rfl) hS (Nat.le_of_ble_eq_true rfl) (Nat.le_of_ble_eq_true rfl) dX9_now_36
theorem dX9_counter_0 : decode cX9_counter 0 = .ok (.aload_n 0, 1) := bo_42 (by decide +kernel)
theorem dX9_counter_1 : decode cX9_counter 1 = .ok (.invokevirtual 197, 3) := bo_182 0 197 (by decide +kernel)
theorem dX9_counter_4 : decode cX9_counter 4 = .ok (.aload_n 0, 1) := bo_42 (by decide +kernel)
theorem dX9_counter_5 : decode cX9_counter 5 = .ok (.getfield 222, 3) := bo_180 0 222 (by decide +kernel)
theorem dX9_counter_8 : decode cX9_counter 8 = .ok (.ifCond .eq 21, 3) := bo_153 0 21 (by decide +kernel)
theorem dX9_counter_29 : decode cX9_counter 29 = .ok (.aload_n 0, 1) := bo_42 (by decide +kernel)
theorem dX9_counter_30 : decode cX9_counter 30 = .ok (.iconst 1, 1) := bo_4 (by decide +kernel)
theorem dX9_counter_31 : decode cX9_counter 31 = .ok (.invokevirtual 200, 3) := bo_182 0 200 (by decide +kernel)
theorem dX9_counter_34 : decode cX9_counter 34 = .ok (.ireturn, 1) := bo_172 (by decide +kernel)
theorem dX9_counter_11 : decode cX9_counter 11 = .ok (.iload_n 1, 1) := bo_27 (by decide +kernel)
theorem dX9_counter_12 : decode cX9_counter 12 = .ok (.iconst 0, 1) := bo_3 (by decide +kernel)
theorem dX9_counter_13 : decode cX9_counter 13 = .ok (.iconst 3, 1) := bo_6 (by decide +kernel)
theorem dX9_counter_14 : decode cX9_counter 14 = .ok (.invokestatic 146, 3) := bo_184 0 146 (by decide +kernel)
theorem dX9_counter_17 : decode cX9_counter 17 = .ok (.ifCond .eq 12, 3) := bo_153 0 12 (by decide +kernel)
theorem dX9_counter_20 : decode cX9_counter 20 = .ok (.aload_n 0, 1) := bo_42 (by decide +kernel)
theorem dX9_counter_21 : decode cX9_counter 21 = .ok (.getfield 53, 3) := bo_180 0 53 (by decide +kernel)
theorem dX9_counter_24 : decode cX9_counter 24 = .ok (.iload_n 1, 1) := bo_27 (by decide +kernel)
theorem dX9_counter_25 : decode cX9_counter 25 = .ok (.iaload, 1) := bo_46 (by decide +kernel)
theorem dX9_counter_26 : decode cX9_counter 26 = .ok (.goto 8, 3) := bo_167 0 8 (by decide +kernel)
abbrev rm_X9_counter : Room := { frames := 1, cells := 0, slots := 0, locals := 22 }
set_option maxRecDepth 100000 in
set_option maxHeartbeats 8000000 in
theorem c_X9_counter {l : Launch} {E : (Nat → Prop) → State → Prop} (hO : bw_Ok E) {G : va_G} {cI cB cJ cN cW : ClassId} (y : Nat) (q : Nat → Nat) (i : Nat → Int) (hM : ModOk i) (g_st : Nat → Int) (x : Int) (hx9 : zR x)  : bw_Ci (S := zV) l yX9_counter (bw_ws (Cond.code yX9_counter cX9_counter 2 (some .int))) rm_X9_counter E G (bw_kt cI cB cJ cN cW) [.ref y, .int (zI x)] [(y, .inr (9, [.int (zI (i 0)), .ref (q 0), .int (zI (i 1)), .int (zI (i 2)), .int (zI (i 3)), .int (zI (i 4)), .int (zI (i 5)), .int (zI (i 6)), .int (zI (i 7)), .int (zI (i 8)), .int (zI (i 9)), .int (zI (i 10)), .ref (q 1), .int (zI (i 11)), .int (zI (i 12)), .ref (q 2), .ref (q 3), .ref (q 4), .ref (q 5), .ref (q 6), .ref (q 7), .ref (q 8), .ref (q 9), .ref (q 10), .ref (q 11), .ref (q 12), .ref (q 13), .ref (q 14), .ref (q 15), .ref (q 16), .int (zI (i 13)), .int (zI (i 14)), .int (zI (i 15)), .int (zI (i 16)), .int (zI (i 17)), .int (zI (i 18)), .ref (q 17), .ref (q 18), .ref (q 19), .ref (q 20)])), ((q 13), .inl (cI, 159, .inl (fun k => zI (g_st k))))] (fun r u => ∃ z : Int, r = zI z ∧ (ModOk (u 0).1) ∧ (((u 0).1 1 = i 1 ∧ (u 0).1 8 = i 8 ∧ (u 0).1 9 = i 9 ∧ (u 0).1 12 = i 12 ∧ (u 0).1 13 = i 13 ∧ (u 0).1 15 = i 15 ∧ (u 0).1 17 = i 17 ∧ (u 0).1 10 ≠ 4))) (fun u => [(y, .inr (9, [.int (zI ((u 0).1 0)), .ref (q 0), .int (zI ((u 0).1 1)), .int (zI ((u 0).1 2)), .int (zI ((u 0).1 3)), .int (zI ((u 0).1 4)), .int (zI ((u 0).1 5)), .int (zI ((u 0).1 6)), .int (zI ((u 0).1 7)), .int (zI ((u 0).1 8)), .int (zI ((u 0).1 9)), .int (zI ((u 0).1 10)), .ref (q 1), .int (zI ((u 0).1 11)), .int (zI ((u 0).1 12)), .ref (q 2), .ref (q 3), .ref (q 4), .ref (q 5), .ref (q 6), .ref (q 7), .ref (q 8), .ref (q 9), .ref (q 10), .ref (q 11), .ref (q 12), .ref (q 13), .ref (q 14), .ref (q 15), .ref (q 16), .int (zI ((u 0).1 13)), .int (zI ((u 0).1 14)), .int (zI ((u 0).1 15)), .int (zI ((u 0).1 16)), .int (zI ((u 0).1 17)), .int (zI ((u 0).1 18)), .ref (q 17), .ref (q 18), .ref (q 19), .ref (q 20)])), ((q 13), .inl (cI, 159, .inl (fun k => zI (g_st k))))]) := by
  refine bw_Ci.of (cc := cX9_counter) (maxL := 2) (ty := .int) (by decide) rfl (Nat.le_of_ble_eq_true rfl) ?_
  intro p e s m below meth c A Q hx hb hml hts hown hin hK hA hS hP hD hE ret ls hl
  have F : CallFix p m c cX9_counter 2 s ([.ref y, .int (zI x)] : List Value).toArray bw_T RX9 := ⟨hx, hb, hml, hown, fun w h => hts w (List.mem_cons_of_mem _ h)⟩
  replace hl : lv_has ls 2 [(0, .ref y), (1, .int (zI x))] := hl
  have hf1 := hM.1
  refine lv_aload_n hx hb dX9_counter_0 rfl (lv_at hl 0 rfl) ?_
  refine r_callVv (As := []) (rest := []) (wr := [((q 13), .inl (cI, 159, .inl (fun k => zI (g_st k))))]) F hK hP hD hS hA hO hE (c_X9_good hO y q i hM) k_1296 kv_X9_good 0 rfl (by decide +kernel) ⟨Nat.le_of_ble_eq_true rfl, Nat.le_of_ble_eq_true rfl⟩ [0] [1] rfl rfl (by decide) (by decide) (by decide) 0 9 rfl rfl rfl hl.1 rfl (Nat.le_of_ble_eq_true rfl) dX9_counter_1 ⟨Nat.le_of_ble_eq_true rfl, Nat.le_of_ble_eq_true rfl⟩ (w1 := fun u2 => [((q 13), .inl (cI, 159, .inl (fun k => zI (g_st k)))), (y, .inr (9, [.int (zI ((u2 0).1 0)), .ref (q 0), .int (zI ((u2 0).1 1)), .int (zI ((u2 0).1 2)), .int (zI ((u2 0).1 3)), .int (zI ((u2 0).1 4)), .int (zI ((u2 0).1 5)), .int (zI ((u2 0).1 6)), .int (zI ((u2 0).1 7)), .int (zI ((u2 0).1 8)), .int (zI ((u2 0).1 9)), .int (zI ((u2 0).1 10)), .ref (q 1), .int (zI ((u2 0).1 11)), .int (zI ((u2 0).1 12)), .ref (q 2), .ref (q 3), .ref (q 4), .ref (q 5), .ref (q 6), .ref (q 7), .ref (q 8), .ref (q 9), .ref (q 10), .ref (q 11), .ref (q 12), .ref (q 13), .ref (q 14), .ref (q 15), .ref (q 16), .int (zI ((u2 0).1 13)), .int (zI ((u2 0).1 14)), .int (zI ((u2 0).1 15)), .int (zI ((u2 0).1 16)), .int (zI ((u2 0).1 17)), .int (zI ((u2 0).1 18)), .ref (q 17), .ref (q 18), .ref (q 19), .ref (q 20)]))]) (fun _ => rfl) (fun  u2 H locs hp3 hP hD hS => ?_)
  have hf4 := hp3.1.1
  refine lv_aload_n hx hb dX9_counter_4 rfl (lv_at hl 0 rfl) ?_
  refine r_get F hK hP 1 14 rfl rfl in_X9 (by decide) k_1177 rfl dX9_counter_5 ?_
  refine rz_ifb_eq (tgt := 29) F (by omega) dX9_counter_8 (by decide) (fun h8_4 => ?_) (fun h8_4 => ?_)
  · refine lv_aload_n hx hb dX9_counter_29 rfl (lv_at hl 0 rfl) ?_
    refine lv_iconst (v := zI 1) hx hb dX9_counter_30 rfl ?_
    refine r_callVi (As := [.int (zI 1)]) (rest := []) (wr := [((q 13), .inl (cI, 159, .inl (fun k => zI (g_st k))))]) F hK hP hD hS hA hO hE (c_X9_no hO y q ((u2 0).1) hp3.1 1 (by omega) (by omega)) k_1303 kv_X9_no 1 rfl (by decide +kernel) ⟨Nat.le_of_ble_eq_true rfl, Nat.le_of_ble_eq_true rfl⟩ [1] [0] rfl rfl (by decide) (by decide) (by decide) 0 9 rfl rfl rfl hl.1 rfl (Nat.le_of_ble_eq_true rfl) dX9_counter_31 ⟨Nat.le_of_ble_eq_true rfl, Nat.le_of_ble_eq_true rfl⟩ (w1 := fun u6 => [((q 13), .inl (cI, 159, .inl (fun k => zI (g_st k)))), (y, .inr (9, [.int (zI ((u6 0).1 0)), .ref (q 0), .int (zI ((u6 0).1 1)), .int (zI ((u6 0).1 2)), .int (zI ((u6 0).1 3)), .int (zI ((u6 0).1 4)), .int (zI ((u6 0).1 5)), .int (zI ((u6 0).1 6)), .int (zI ((u6 0).1 7)), .int (zI ((u6 0).1 8)), .int (zI ((u6 0).1 9)), .int (zI ((u6 0).1 10)), .ref (q 1), .int (zI ((u6 0).1 11)), .int (zI ((u6 0).1 12)), .ref (q 2), .ref (q 3), .ref (q 4), .ref (q 5), .ref (q 6), .ref (q 7), .ref (q 8), .ref (q 9), .ref (q 10), .ref (q 11), .ref (q 12), .ref (q 13), .ref (q 14), .ref (q 15), .ref (q 16), .int (zI ((u6 0).1 13)), .int (zI ((u6 0).1 14)), .int (zI ((u6 0).1 15)), .int (zI ((u6 0).1 16)), .int (zI ((u6 0).1 17)), .int (zI ((u6 0).1 18)), .ref (q 17), .ref (q 18), .ref (q 19), .ref (q 20)]))]) (fun _ => rfl) (fun r7 u6 H locs hp8 hP hD hS => ?_)
    obtain ⟨z9, rfl, h_z9⟩ := hp8
    have hf10 := h_z9.1.1
    exact ret (zI z9) (fun k => [((u6 0).1, fun _ _ => 0)].getD k (fun _ => 0, fun _ _ => 0)) _ _ _ _ _ _ rfl ⟨z9, rfl, h_z9.1, (show ((u6 0).1) 1 = i 1 ∧ ((u6 0).1) 8 = i 8 ∧ ((u6 0).1) 9 = i 9 ∧ ((u6 0).1) 12 = i 12 ∧ ((u6 0).1) 13 = i 13 ∧ ((u6 0).1) 15 = i 15 ∧ ((u6 0).1) 17 = i 17 ∧ ((u6 0).1) 10 ≠ 4 from by omega)⟩ (bw_subP (isC := [1, 0]) hP rfl) (hD.sub [1, 0] (by decide) rfl) hS (Nat.le_of_ble_eq_true rfl) (Nat.le_of_ble_eq_true rfl) dX9_counter_34
  · refine lv_iload_n hx hb dX9_counter_11 rfl (lv_at hl 1 rfl) ?_
    refine lv_iconst (v := zI 0) hx hb dX9_counter_12 rfl ?_
    refine lv_iconst (v := zI 3) hx hb dX9_counter_13 rfl ?_
    refine r_callSi (As := [.int (zI x), .int (zI 0), .int (zI 3)]) (rest := []) (wr := [((q 13), .inl (cI, 159, .inl (fun k => zI (g_st k)))), (y, .inr (9, [.int (zI ((u2 0).1 0)), .ref (q 0), .int (zI ((u2 0).1 1)), .int (zI ((u2 0).1 2)), .int (zI ((u2 0).1 3)), .int (zI ((u2 0).1 4)), .int (zI ((u2 0).1 5)), .int (zI ((u2 0).1 6)), .int (zI ((u2 0).1 7)), .int (zI ((u2 0).1 8)), .int (zI ((u2 0).1 9)), .int (zI ((u2 0).1 10)), .ref (q 1), .int (zI ((u2 0).1 11)), .int (zI ((u2 0).1 12)), .ref (q 2), .ref (q 3), .ref (q 4), .ref (q 5), .ref (q 6), .ref (q 7), .ref (q 8), .ref (q 9), .ref (q 10), .ref (q 11), .ref (q 12), .ref (q 13), .ref (q 14), .ref (q 15), .ref (q 16), .int (zI ((u2 0).1 13)), .int (zI ((u2 0).1 14)), .int (zI ((u2 0).1 15)), .int (zI ((u2 0).1 16)), .int (zI ((u2 0).1 17)), .int (zI ((u2 0).1 18)), .ref (q 17), .ref (q 18), .ref (q 19), .ref (q 20)]))]) F hK hP hD hS hA hO hE (c_X9_within hO x 0 3 (by omega) (by omega) (by omega)) k_1300 ks_X9_within 3 rfl (by decide +kernel) ⟨Nat.le_of_ble_eq_true rfl, Nat.le_of_ble_eq_true rfl⟩ [] [0, 1] rfl rfl (by decide) (by decide) (by decide) hl.1 rfl (Nat.le_of_ble_eq_true rfl) dX9_counter_14 ⟨Nat.le_of_ble_eq_true rfl, Nat.le_of_ble_eq_true rfl⟩ (w1 := fun u11 => [((q 13), .inl (cI, 159, .inl (fun k => zI (g_st k)))), (y, .inr (9, [.int (zI ((u2 0).1 0)), .ref (q 0), .int (zI ((u2 0).1 1)), .int (zI ((u2 0).1 2)), .int (zI ((u2 0).1 3)), .int (zI ((u2 0).1 4)), .int (zI ((u2 0).1 5)), .int (zI ((u2 0).1 6)), .int (zI ((u2 0).1 7)), .int (zI ((u2 0).1 8)), .int (zI ((u2 0).1 9)), .int (zI ((u2 0).1 10)), .ref (q 1), .int (zI ((u2 0).1 11)), .int (zI ((u2 0).1 12)), .ref (q 2), .ref (q 3), .ref (q 4), .ref (q 5), .ref (q 6), .ref (q 7), .ref (q 8), .ref (q 9), .ref (q 10), .ref (q 11), .ref (q 12), .ref (q 13), .ref (q 14), .ref (q 15), .ref (q 16), .int (zI ((u2 0).1 13)), .int (zI ((u2 0).1 14)), .int (zI ((u2 0).1 15)), .int (zI ((u2 0).1 16)), .int (zI ((u2 0).1 17)), .int (zI ((u2 0).1 18)), .ref (q 17), .ref (q 18), .ref (q 19), .ref (q 20)]))]) (fun _ => rfl) (fun r12 u11 H locs hp13 hP hD hS => ?_)
    obtain ⟨z14, rfl, h_z14⟩ := hp13
    refine rz_ifb_eq (tgt := 29) F (by omega) dX9_counter_17 (by decide) (fun h17_14 => ?_) (fun h17_14 => ?_)
    · have hq16 := h_z14.2.2 (by omega)
      refine lv_aload_n hx hb dX9_counter_29 rfl (lv_at hl 0 rfl) ?_
      refine lv_iconst (v := zI 1) hx hb dX9_counter_30 rfl ?_
      refine r_callVi (As := [.int (zI 1)]) (rest := []) (wr := [((q 13), .inl (cI, 159, .inl (fun k => zI (g_st k))))]) F hK hP hD hS hA hO hE (c_X9_no hO y q ((u2 0).1) hp3.1 1 (by omega) (by omega)) k_1303 kv_X9_no 1 rfl (by decide +kernel) ⟨Nat.le_of_ble_eq_true rfl, Nat.le_of_ble_eq_true rfl⟩ [1] [0] rfl rfl (by decide) (by decide) (by decide) 0 9 rfl rfl rfl hl.1 rfl (Nat.le_of_ble_eq_true rfl) dX9_counter_31 ⟨Nat.le_of_ble_eq_true rfl, Nat.le_of_ble_eq_true rfl⟩ (w1 := fun u17 => [((q 13), .inl (cI, 159, .inl (fun k => zI (g_st k)))), (y, .inr (9, [.int (zI ((u17 0).1 0)), .ref (q 0), .int (zI ((u17 0).1 1)), .int (zI ((u17 0).1 2)), .int (zI ((u17 0).1 3)), .int (zI ((u17 0).1 4)), .int (zI ((u17 0).1 5)), .int (zI ((u17 0).1 6)), .int (zI ((u17 0).1 7)), .int (zI ((u17 0).1 8)), .int (zI ((u17 0).1 9)), .int (zI ((u17 0).1 10)), .ref (q 1), .int (zI ((u17 0).1 11)), .int (zI ((u17 0).1 12)), .ref (q 2), .ref (q 3), .ref (q 4), .ref (q 5), .ref (q 6), .ref (q 7), .ref (q 8), .ref (q 9), .ref (q 10), .ref (q 11), .ref (q 12), .ref (q 13), .ref (q 14), .ref (q 15), .ref (q 16), .int (zI ((u17 0).1 13)), .int (zI ((u17 0).1 14)), .int (zI ((u17 0).1 15)), .int (zI ((u17 0).1 16)), .int (zI ((u17 0).1 17)), .int (zI ((u17 0).1 18)), .ref (q 17), .ref (q 18), .ref (q 19), .ref (q 20)]))]) (fun _ => rfl) (fun r18 u17 H locs hp19 hP hD hS => ?_)
      obtain ⟨z20, rfl, h_z20⟩ := hp19
      have hf21 := h_z20.1.1
      exact ret (zI z20) (fun k => [((u17 0).1, fun _ _ => 0)].getD k (fun _ => 0, fun _ _ => 0)) _ _ _ _ _ _ rfl ⟨z20, rfl, h_z20.1, (show ((u17 0).1) 1 = i 1 ∧ ((u17 0).1) 8 = i 8 ∧ ((u17 0).1) 9 = i 9 ∧ ((u17 0).1) 12 = i 12 ∧ ((u17 0).1) 13 = i 13 ∧ ((u17 0).1) 15 = i 15 ∧ ((u17 0).1) 17 = i 17 ∧ ((u17 0).1) 10 ≠ 4 from by omega)⟩ (bw_subP (isC := [1, 0]) hP rfl) (hD.sub [1, 0] (by decide) rfl) hS (Nat.le_of_ble_eq_true rfl) (Nat.le_of_ble_eq_true rfl) dX9_counter_34
    · have hq22 := h_z14.2.1 (by omega)
      refine lv_aload_n hx hb dX9_counter_20 rfl (lv_at hl 0 rfl) ?_
      refine r_get F hK hP 1 26 rfl rfl in_X9 (by decide) k_1189 rfl dX9_counter_21 ?_
      refine lv_iload_n hx hb dX9_counter_24 rfl (lv_at hl 1 rfl) ?_
      refine rz_iald F hK hP 0 0 rfl rfl (by omega) (by omega) dX9_counter_25 ?_
      refine rz_top (fun z23 h_z23 => ?_)
      refine lv_goto (tgt := 34) hx hb dX9_counter_26 (by decide) ?_
      exact ret (zI z23) (fun k => [((u2 0).1, fun _ _ => 0)].getD k (fun _ => 0, fun _ _ => 0)) _ _ _ _ _ _ rfl ⟨z23, rfl, hp3.1, (show ((u2 0).1) 1 = i 1 ∧ ((u2 0).1) 8 = i 8 ∧ ((u2 0).1) 9 = i 9 ∧ ((u2 0).1) 12 = i 12 ∧ ((u2 0).1) 13 = i 13 ∧ ((u2 0).1) 15 = i 15 ∧ ((u2 0).1) 17 = i 17 ∧ ((u2 0).1) 10 ≠ 4 from by omega)⟩ (bw_subP (isC := [1, 0]) hP rfl) (hD.sub [1, 0] (by decide) rfl) hS (Nat.le_of_ble_eq_true rfl) (Nat.le_of_ble_eq_true rfl) dX9_counter_34
theorem dX9_isWay_0 : decode cX9_isWay 0 = .ok (.aload_n 0, 1) := bo_42 (by decide +kernel)
theorem dX9_isWay_1 : decode cX9_isWay 1 = .ok (.getfield 222, 3) := bo_180 0 222 (by decide +kernel)
theorem dX9_isWay_4 : decode cX9_isWay 4 = .ok (.ifCond .eq 34, 3) := bo_153 0 34 (by decide +kernel)
theorem dX9_isWay_38 : decode cX9_isWay 38 = .ok (.iconst 0, 1) := bo_3 (by decide +kernel)
theorem dX9_isWay_39 : decode cX9_isWay 39 = .ok (.ireturn, 1) := bo_172 (by decide +kernel)
theorem dX9_isWay_7 : decode cX9_isWay 7 = .ok (.iload_n 1, 1) := bo_27 (by decide +kernel)
theorem dX9_isWay_8 : decode cX9_isWay 8 = .ok (.iconst 0, 1) := bo_3 (by decide +kernel)
theorem dX9_isWay_9 : decode cX9_isWay 9 = .ok (.iconst 2, 1) := bo_5 (by decide +kernel)
theorem dX9_isWay_10 : decode cX9_isWay 10 = .ok (.aload_n 0, 1) := bo_42 (by decide +kernel)
theorem dX9_isWay_11 : decode cX9_isWay 11 = .ok (.getfield 213, 3) := bo_180 0 213 (by decide +kernel)
theorem k_1193 : Cond.fieldLink RX9 213 "BurntWaysModel" "lines" "I" ∈ bw_T := bw_m 1193 (by decide +kernel) rfl
theorem dX9_isWay_14 : decode cX9_isWay 14 = .ok (.imul, 1) := bo_104 (by decide +kernel)
theorem dX9_isWay_15 : decode cX9_isWay 15 = .ok (.iconst 1, 1) := bo_4 (by decide +kernel)
theorem dX9_isWay_16 : decode cX9_isWay 16 = .ok (.isub, 1) := bo_100 (by decide +kernel)
theorem dX9_isWay_17 : decode cX9_isWay 17 = .ok (.invokestatic 146, 3) := bo_184 0 146 (by decide +kernel)
theorem dX9_isWay_20 : decode cX9_isWay 20 = .ok (.ifCond .eq 18, 3) := bo_153 0 18 (by decide +kernel)
theorem dX9_isWay_23 : decode cX9_isWay 23 = .ok (.aload_n 0, 1) := bo_42 (by decide +kernel)
theorem dX9_isWay_24 : decode cX9_isWay 24 = .ok (.getfield 23, 3) := bo_180 0 23 (by decide +kernel)
theorem dX9_isWay_27 : decode cX9_isWay 27 = .ok (.iload_n 1, 1) := bo_27 (by decide +kernel)
theorem dX9_isWay_28 : decode cX9_isWay 28 = .ok (.invokestatic 297, 3) := bo_184 1 41 (by decide +kernel)
theorem k_1489 : Cond.methodLink RX9 297 yX9_laid ∈ bw_T := bw_m 1489 (by decide +kernel) rfl
theorem ks_X9_laid : bw_KS RX9 yX9_laid (Cond.code yX9_laid cX9_laid 4 (some .int)) := ⟨bw_m 1490 (by decide +kernel) rfl, bw_m 107 (by decide +kernel) rfl, bw_m 1491 (by decide +kernel) rfl⟩
theorem dX9_isWay_31 : decode cX9_isWay 31 = .ok (.ifCond .le 7, 3) := bo_158 0 7 (by decide +kernel)
theorem dX9_isWay_34 : decode cX9_isWay 34 = .ok (.iconst 1, 1) := bo_4 (by decide +kernel)
theorem dX9_isWay_35 : decode cX9_isWay 35 = .ok (.goto 4, 3) := bo_167 0 4 (by decide +kernel)
abbrev rm_X9_isWay : Room := { frames := 1, cells := 0, slots := 0, locals := 23 }
set_option maxRecDepth 100000 in
set_option maxHeartbeats 8000000 in
theorem c_X9_isWay {l : Launch} {E : (Nat → Prop) → State → Prop} (hO : bw_Ok E) {G : va_G} {cI cB cJ cN cW : ClassId} (y : Nat) (q : Nat → Nat) (i : Nat → Int) (hM : ModOk i) (g_now : Nat → Int) (x : Int) (hx9 : zR x) (hpn : ProgOk g_now) : bw_Ci (S := zV) l yX9_isWay (bw_ws (Cond.code yX9_isWay cX9_isWay 2 (some .boolean))) rm_X9_isWay E G (bw_kt cI cB cJ cN cW) [.ref y, .int (zI x)] [(y, .inr (9, [.int (zI (i 0)), .ref (q 0), .int (zI (i 1)), .int (zI (i 2)), .int (zI (i 3)), .int (zI (i 4)), .int (zI (i 5)), .int (zI (i 6)), .int (zI (i 7)), .int (zI (i 8)), .int (zI (i 9)), .int (zI (i 10)), .ref (q 1), .int (zI (i 11)), .int (zI (i 12)), .ref (q 2), .ref (q 3), .ref (q 4), .ref (q 5), .ref (q 6), .ref (q 7), .ref (q 8), .ref (q 9), .ref (q 10), .ref (q 11), .ref (q 12), .ref (q 13), .ref (q 14), .ref (q 15), .ref (q 16), .int (zI (i 13)), .int (zI (i 14)), .int (zI (i 15)), .int (zI (i 16)), .int (zI (i 17)), .int (zI (i 18)), .ref (q 17), .ref (q 18), .ref (q 19), .ref (q 20)])), ((q 3), .inl (cI, 200, .inl (fun k => zI (g_now k))))] (fun r u => ∃ z : Int, r = zI z ∧ ((0 ≤ z ∧ z ≤ 1) ∧ Imp (z = 1) (i 12 = 1 ∧ 0 ≤ x ∧ x < 20))) (fun u => [(y, .inr (9, [.int (zI (i 0)), .ref (q 0), .int (zI (i 1)), .int (zI (i 2)), .int (zI (i 3)), .int (zI (i 4)), .int (zI (i 5)), .int (zI (i 6)), .int (zI (i 7)), .int (zI (i 8)), .int (zI (i 9)), .int (zI (i 10)), .ref (q 1), .int (zI (i 11)), .int (zI (i 12)), .ref (q 2), .ref (q 3), .ref (q 4), .ref (q 5), .ref (q 6), .ref (q 7), .ref (q 8), .ref (q 9), .ref (q 10), .ref (q 11), .ref (q 12), .ref (q 13), .ref (q 14), .ref (q 15), .ref (q 16), .int (zI (i 13)), .int (zI (i 14)), .int (zI (i 15)), .int (zI (i 16)), .int (zI (i 17)), .int (zI (i 18)), .ref (q 17), .ref (q 18), .ref (q 19), .ref (q 20)])), ((q 3), .inl (cI, 200, .inl (fun k => zI (g_now k))))]) := by
  refine bw_Ci.of (cc := cX9_isWay) (maxL := 2) (ty := .boolean) (by decide) rfl (Nat.le_of_ble_eq_true rfl) ?_
  intro p e s m below meth c A Q hx hb hml hts hown hin hK hA hS hP hD hE ret ls hl
  have F : CallFix p m c cX9_isWay 2 s ([.ref y, .int (zI x)] : List Value).toArray bw_T RX9 := ⟨hx, hb, hml, hown, fun w h => hts w (List.mem_cons_of_mem _ h)⟩
  replace hl : lv_has ls 2 [(0, .ref y), (1, .int (zI x))] := hl
  have hf1 := hM.1
  refine lv_aload_n hx hb dX9_isWay_0 rfl (lv_at hl 0 rfl) ?_
  refine r_get F hK hP 0 14 rfl rfl in_X9 (by decide) k_1177 rfl dX9_isWay_1 ?_
  refine rz_ifb_eq (tgt := 38) F (by omega) dX9_isWay_4 (by decide) (fun h4_1 => ?_) (fun h4_1 => ?_)
  · refine lv_iconst (v := zI 0) hx hb dX9_isWay_38 rfl ?_
    exact ret (zI 0) (fun k => [((fun _ => 0), fun _ _ => 0)].getD k (fun _ => 0, fun _ _ => 0)) _ _ _ _ _ _ rfl ⟨0, rfl, ⟨(show 0 ≤ (0 : Int) ∧ (0 : Int) ≤ 1 from by omega), (show Imp ((0 : Int) = 1) (i 12 = 1 ∧ 0 ≤ x ∧ x < 20) from fun q9 => by omega)⟩⟩ (bw_subP (isC := [0, 1]) hP rfl) (hD.sub [0, 1] (by decide) rfl) hS (Nat.le_of_ble_eq_true rfl) (Nat.le_of_ble_eq_true rfl) dX9_isWay_39
  · refine lv_iload_n hx hb dX9_isWay_7 rfl (lv_at hl 1 rfl) ?_
    refine lv_iconst (v := zI 0) hx hb dX9_isWay_8 rfl ?_
    refine lv_iconst (v := zI 2) hx hb dX9_isWay_9 rfl ?_
    refine lv_aload_n hx hb dX9_isWay_10 rfl (lv_at hl 0 rfl) ?_
    refine r_get F hK hP 0 30 rfl rfl in_X9 (by decide) k_1193 rfl dX9_isWay_11 ?_
    refine r_imul (v := zI (2 * (i 13))) F dX9_isWay_14 (zI_mul _ _) ?_
    refine lv_iconst (v := zI 1) hx hb dX9_isWay_15 rfl ?_
    refine r_isub (v := zI ((2 * (i 13)) - 1)) F dX9_isWay_16 (zI_sub _ _) ?_
    refine r_callSi (As := [.int (zI x), .int (zI 0), .int (zI ((2 * (i 13)) - 1))]) (rest := []) (wr := [(y, .inr (9, [.int (zI (i 0)), .ref (q 0), .int (zI (i 1)), .int (zI (i 2)), .int (zI (i 3)), .int (zI (i 4)), .int (zI (i 5)), .int (zI (i 6)), .int (zI (i 7)), .int (zI (i 8)), .int (zI (i 9)), .int (zI (i 10)), .ref (q 1), .int (zI (i 11)), .int (zI (i 12)), .ref (q 2), .ref (q 3), .ref (q 4), .ref (q 5), .ref (q 6), .ref (q 7), .ref (q 8), .ref (q 9), .ref (q 10), .ref (q 11), .ref (q 12), .ref (q 13), .ref (q 14), .ref (q 15), .ref (q 16), .int (zI (i 13)), .int (zI (i 14)), .int (zI (i 15)), .int (zI (i 16)), .int (zI (i 17)), .int (zI (i 18)), .ref (q 17), .ref (q 18), .ref (q 19), .ref (q 20)])), ((q 3), .inl (cI, 200, .inl (fun k => zI (g_now k))))]) F hK hP hD hS hA hO hE (c_X9_within hO x 0 ((2 * (i 13)) - 1) (by omega) (by omega) (by omega)) k_1300 ks_X9_within 3 rfl (by decide +kernel) ⟨Nat.le_of_ble_eq_true rfl, Nat.le_of_ble_eq_true rfl⟩ [] [0, 1] rfl rfl (by decide) (by decide) (by decide) hl.1 rfl (Nat.le_of_ble_eq_true rfl) dX9_isWay_17 ⟨Nat.le_of_ble_eq_true rfl, Nat.le_of_ble_eq_true rfl⟩ (w1 := fun u3 => [(y, .inr (9, [.int (zI (i 0)), .ref (q 0), .int (zI (i 1)), .int (zI (i 2)), .int (zI (i 3)), .int (zI (i 4)), .int (zI (i 5)), .int (zI (i 6)), .int (zI (i 7)), .int (zI (i 8)), .int (zI (i 9)), .int (zI (i 10)), .ref (q 1), .int (zI (i 11)), .int (zI (i 12)), .ref (q 2), .ref (q 3), .ref (q 4), .ref (q 5), .ref (q 6), .ref (q 7), .ref (q 8), .ref (q 9), .ref (q 10), .ref (q 11), .ref (q 12), .ref (q 13), .ref (q 14), .ref (q 15), .ref (q 16), .int (zI (i 13)), .int (zI (i 14)), .int (zI (i 15)), .int (zI (i 16)), .int (zI (i 17)), .int (zI (i 18)), .ref (q 17), .ref (q 18), .ref (q 19), .ref (q 20)])), ((q 3), .inl (cI, 200, .inl (fun k => zI (g_now k))))]) (fun _ => rfl) (fun r4 u3 H locs hp5 hP hD hS => ?_)
    obtain ⟨z6, rfl, h_z6⟩ := hp5
    refine rz_ifb_eq (tgt := 38) F (by omega) dX9_isWay_20 (by decide) (fun h20_6 => ?_) (fun h20_6 => ?_)
    · have hq8 := h_z6.2.2 (by omega)
      refine lv_iconst (v := zI 0) hx hb dX9_isWay_38 rfl ?_
      exact ret (zI 0) (fun k => [((fun _ => 0), fun _ _ => 0)].getD k (fun _ => 0, fun _ _ => 0)) _ _ _ _ _ _ rfl ⟨0, rfl, ⟨(show 0 ≤ (0 : Int) ∧ (0 : Int) ≤ 1 from by omega), (show Imp ((0 : Int) = 1) (i 12 = 1 ∧ 0 ≤ x ∧ x < 20) from fun q9 => by omega)⟩⟩ (bw_subP (isC := [0, 1]) hP rfl) (hD.sub [0, 1] (by decide) rfl) hS (Nat.le_of_ble_eq_true rfl) (Nat.le_of_ble_eq_true rfl) dX9_isWay_39
    · have hq9 := h_z6.2.1 (by omega)
      refine lv_aload_n hx hb dX9_isWay_23 rfl (lv_at hl 0 rfl) ?_
      refine r_get F hK hP 0 16 rfl rfl in_X9 (by decide) k_1179 rfl dX9_isWay_24 ?_
      refine lv_iload_n hx hb dX9_isWay_27 rfl (lv_at hl 1 rfl) ?_
      refine r_callSi (As := [.ref (q 3), .int (zI x)]) (rest := []) (wr := [(y, .inr (9, [.int (zI (i 0)), .ref (q 0), .int (zI (i 1)), .int (zI (i 2)), .int (zI (i 3)), .int (zI (i 4)), .int (zI (i 5)), .int (zI (i 6)), .int (zI (i 7)), .int (zI (i 8)), .int (zI (i 9)), .int (zI (i 10)), .ref (q 1), .int (zI (i 11)), .int (zI (i 12)), .ref (q 2), .ref (q 3), .ref (q 4), .ref (q 5), .ref (q 6), .ref (q 7), .ref (q 8), .ref (q 9), .ref (q 10), .ref (q 11), .ref (q 12), .ref (q 13), .ref (q 14), .ref (q 15), .ref (q 16), .int (zI (i 13)), .int (zI (i 14)), .int (zI (i 15)), .int (zI (i 16)), .int (zI (i 17)), .int (zI (i 18)), .ref (q 17), .ref (q 18), .ref (q 19), .ref (q 20)]))]) F hK hP hD hS hA hO hE (c_X9_laid hO (q 3) g_now x (by omega) hpn (by omega)) k_1489 ks_X9_laid 2 rfl (by decide +kernel) ⟨Nat.le_of_ble_eq_true rfl, Nat.le_of_ble_eq_true rfl⟩ [1] [0] rfl rfl (by decide) (by decide) (by decide) hl.1 rfl (Nat.le_of_ble_eq_true rfl) dX9_isWay_28 ⟨Nat.le_of_ble_eq_true rfl, Nat.le_of_ble_eq_true rfl⟩ (w1 := fun u10 => [(y, .inr (9, [.int (zI (i 0)), .ref (q 0), .int (zI (i 1)), .int (zI (i 2)), .int (zI (i 3)), .int (zI (i 4)), .int (zI (i 5)), .int (zI (i 6)), .int (zI (i 7)), .int (zI (i 8)), .int (zI (i 9)), .int (zI (i 10)), .ref (q 1), .int (zI (i 11)), .int (zI (i 12)), .ref (q 2), .ref (q 3), .ref (q 4), .ref (q 5), .ref (q 6), .ref (q 7), .ref (q 8), .ref (q 9), .ref (q 10), .ref (q 11), .ref (q 12), .ref (q 13), .ref (q 14), .ref (q 15), .ref (q 16), .int (zI (i 13)), .int (zI (i 14)), .int (zI (i 15)), .int (zI (i 16)), .int (zI (i 17)), .int (zI (i 18)), .ref (q 17), .ref (q 18), .ref (q 19), .ref (q 20)])), ((q 3), .inl (cI, 200, .inl (fun k => zI (g_now k))))]) (fun _ => rfl) (fun r11 u10 H locs hp12 hP hD hS => ?_)
      obtain ⟨z13, rfl, h_z13⟩ := hp12
      refine rz_if_le (tgt := 38) F (by omega) dX9_isWay_31 (by decide) (fun h31_13 => ?_) (fun h31_13 => ?_)
      · refine lv_iconst (v := zI 0) hx hb dX9_isWay_38 rfl ?_
        exact ret (zI 0) (fun k => [((fun _ => 0), fun _ _ => 0)].getD k (fun _ => 0, fun _ _ => 0)) _ _ _ _ _ _ rfl ⟨0, rfl, ⟨(show 0 ≤ (0 : Int) ∧ (0 : Int) ≤ 1 from by omega), (show Imp ((0 : Int) = 1) (i 12 = 1 ∧ 0 ≤ x ∧ x < 20) from fun q9 => by omega)⟩⟩ (bw_subP (isC := [0, 1]) hP rfl) (hD.sub [0, 1] (by decide) rfl) hS (Nat.le_of_ble_eq_true rfl) (Nat.le_of_ble_eq_true rfl) dX9_isWay_39
      · refine lv_iconst (v := zI 1) hx hb dX9_isWay_34 rfl ?_
        refine lv_goto (tgt := 39) hx hb dX9_isWay_35 (by decide) ?_
        exact ret (zI 1) (fun k => [((fun _ => 0), fun _ _ => 0)].getD k (fun _ => 0, fun _ _ => 0)) _ _ _ _ _ _ rfl ⟨1, rfl, ⟨(show 0 ≤ (1 : Int) ∧ (1 : Int) ≤ 1 from by omega), (show Imp ((1 : Int) = 1) (i 12 = 1 ∧ 0 ≤ x ∧ x < 20) from fun q9 => by omega)⟩⟩ (bw_subP (isC := [0, 1]) hP rfl) (hD.sub [0, 1] (by decide) rfl) hS (Nat.le_of_ble_eq_true rfl) (Nat.le_of_ble_eq_true rfl) dX9_isWay_39
theorem dX9_left_0 : decode cX9_left 0 = .ok (.aload_n 0, 1) := bo_42 (by decide +kernel)
theorem dX9_left_1 : decode cX9_left 1 = .ok (.invokevirtual 197, 3) := bo_182 0 197 (by decide +kernel)
theorem dX9_left_4 : decode cX9_left 4 = .ok (.aload_n 0, 1) := bo_42 (by decide +kernel)
theorem dX9_left_5 : decode cX9_left 5 = .ok (.iload_n 1, 1) := bo_27 (by decide +kernel)
theorem dX9_left_6 : decode cX9_left 6 = .ok (.invokevirtual 301, 3) := bo_182 1 45 (by decide +kernel)
theorem k_1485 : Cond.methodLink RX9 301 yX9_isWay ∈ bw_T := bw_m 1485 (by decide +kernel) rfl
theorem kv_X9_isWay : bw_KV RX9 yX9_isWay (Cond.code yX9_isWay cX9_isWay 2 (some .boolean)) := ⟨bw_m 1487 (by decide +kernel) rfl, bw_m 70 (by decide +kernel) rfl, bw_m 107 (by decide +kernel) rfl, bw_m 1488 (by decide +kernel) rfl⟩
theorem dX9_left_9 : decode cX9_left 9 = .ok (.ifCond .eq 24, 3) := bo_153 0 24 (by decide +kernel)
theorem dX9_left_33 : decode cX9_left 33 = .ok (.aload_n 0, 1) := bo_42 (by decide +kernel)
theorem dX9_left_34 : decode cX9_left 34 = .ok (.iconst 1, 1) := bo_4 (by decide +kernel)
theorem dX9_left_35 : decode cX9_left 35 = .ok (.invokevirtual 200, 3) := bo_182 0 200 (by decide +kernel)
theorem dX9_left_38 : decode cX9_left 38 = .ok (.ireturn, 1) := bo_172 (by decide +kernel)
theorem dX9_left_12 : decode cX9_left 12 = .ok (.aload_n 0, 1) := bo_42 (by decide +kernel)
theorem dX9_left_13 : decode cX9_left 13 = .ok (.getfield 23, 3) := bo_180 0 23 (by decide +kernel)
theorem dX9_left_16 : decode cX9_left 16 = .ok (.iload_n 1, 1) := bo_27 (by decide +kernel)
theorem dX9_left_17 : decode cX9_left 17 = .ok (.invokestatic 297, 3) := bo_184 1 41 (by decide +kernel)
theorem dX9_left_20 : decode cX9_left 20 = .ok (.aload_n 0, 1) := bo_42 (by decide +kernel)
theorem dX9_left_21 : decode cX9_left 21 = .ok (.getfield 53, 3) := bo_180 0 53 (by decide +kernel)
theorem dX9_left_24 : decode cX9_left 24 = .ok (.bipush 8, 2) := bo_16 8 (by decide +kernel)
theorem dX9_left_26 : decode cX9_left 26 = .ok (.iload_n 1, 1) := bo_27 (by decide +kernel)
theorem dX9_left_27 : decode cX9_left 27 = .ok (.iadd, 1) := bo_96 (by decide +kernel)
theorem dX9_left_28 : decode cX9_left 28 = .ok (.iaload, 1) := bo_46 (by decide +kernel)
theorem dX9_left_29 : decode cX9_left 29 = .ok (.isub, 1) := bo_100 (by decide +kernel)
theorem dX9_left_30 : decode cX9_left 30 = .ok (.goto 8, 3) := bo_167 0 8 (by decide +kernel)
abbrev rm_X9_left : Room := { frames := 2, cells := 0, slots := 0, locals := 44 }
set_option maxRecDepth 100000 in
set_option maxHeartbeats 8000000 in
theorem c_X9_left {l : Launch} {E : (Nat → Prop) → State → Prop} (hO : bw_Ok E) {G : va_G} {cI cB cJ cN cW : ClassId} (y : Nat) (q : Nat → Nat) (i : Nat → Int) (hM : ModOk i) (g_now : Nat → Int) (g_st : Nat → Int) (x : Int) (hx9 : zR x) (hpn : ProgOk g_now) : bw_Ci (S := zV) l yX9_left (bw_ws (Cond.code yX9_left cX9_left 2 (some .int))) rm_X9_left E G (bw_kt cI cB cJ cN cW) [.ref y, .int (zI x)] [(y, .inr (9, [.int (zI (i 0)), .ref (q 0), .int (zI (i 1)), .int (zI (i 2)), .int (zI (i 3)), .int (zI (i 4)), .int (zI (i 5)), .int (zI (i 6)), .int (zI (i 7)), .int (zI (i 8)), .int (zI (i 9)), .int (zI (i 10)), .ref (q 1), .int (zI (i 11)), .int (zI (i 12)), .ref (q 2), .ref (q 3), .ref (q 4), .ref (q 5), .ref (q 6), .ref (q 7), .ref (q 8), .ref (q 9), .ref (q 10), .ref (q 11), .ref (q 12), .ref (q 13), .ref (q 14), .ref (q 15), .ref (q 16), .int (zI (i 13)), .int (zI (i 14)), .int (zI (i 15)), .int (zI (i 16)), .int (zI (i 17)), .int (zI (i 18)), .ref (q 17), .ref (q 18), .ref (q 19), .ref (q 20)])), ((q 3), .inl (cI, 200, .inl (fun k => zI (g_now k)))), ((q 13), .inl (cI, 159, .inl (fun k => zI (g_st k))))] (fun r u => ∃ z : Int, r = zI z ∧ (ModOk (u 0).1) ∧ (((u 0).1 1 = i 1 ∧ (u 0).1 8 = i 8 ∧ (u 0).1 9 = i 9 ∧ (u 0).1 12 = i 12 ∧ (u 0).1 13 = i 13 ∧ (u 0).1 15 = i 15 ∧ (u 0).1 17 = i 17 ∧ (u 0).1 10 ≠ 4))) (fun u => [(y, .inr (9, [.int (zI ((u 0).1 0)), .ref (q 0), .int (zI ((u 0).1 1)), .int (zI ((u 0).1 2)), .int (zI ((u 0).1 3)), .int (zI ((u 0).1 4)), .int (zI ((u 0).1 5)), .int (zI ((u 0).1 6)), .int (zI ((u 0).1 7)), .int (zI ((u 0).1 8)), .int (zI ((u 0).1 9)), .int (zI ((u 0).1 10)), .ref (q 1), .int (zI ((u 0).1 11)), .int (zI ((u 0).1 12)), .ref (q 2), .ref (q 3), .ref (q 4), .ref (q 5), .ref (q 6), .ref (q 7), .ref (q 8), .ref (q 9), .ref (q 10), .ref (q 11), .ref (q 12), .ref (q 13), .ref (q 14), .ref (q 15), .ref (q 16), .int (zI ((u 0).1 13)), .int (zI ((u 0).1 14)), .int (zI ((u 0).1 15)), .int (zI ((u 0).1 16)), .int (zI ((u 0).1 17)), .int (zI ((u 0).1 18)), .ref (q 17), .ref (q 18), .ref (q 19), .ref (q 20)])), ((q 3), .inl (cI, 200, .inl (fun k => zI (g_now k)))), ((q 13), .inl (cI, 159, .inl (fun k => zI (g_st k))))]) := by
  refine bw_Ci.of (cc := cX9_left) (maxL := 2) (ty := .int) (by decide) rfl (Nat.le_of_ble_eq_true rfl) ?_
  intro p e s m below meth c A Q hx hb hml hts hown hin hK hA hS hP hD hE ret ls hl
  have F : CallFix p m c cX9_left 2 s ([.ref y, .int (zI x)] : List Value).toArray bw_T RX9 := ⟨hx, hb, hml, hown, fun w h => hts w (List.mem_cons_of_mem _ h)⟩
  replace hl : lv_has ls 2 [(0, .ref y), (1, .int (zI x))] := hl
  have hf1 := hM.1
  refine lv_aload_n hx hb dX9_left_0 rfl (lv_at hl 0 rfl) ?_
  refine r_callVv (As := []) (rest := []) (wr := [((q 3), .inl (cI, 200, .inl (fun k => zI (g_now k)))), ((q 13), .inl (cI, 159, .inl (fun k => zI (g_st k))))]) F hK hP hD hS hA hO hE (c_X9_good hO y q i hM) k_1296 kv_X9_good 0 rfl (by decide +kernel) ⟨Nat.le_of_ble_eq_true rfl, Nat.le_of_ble_eq_true rfl⟩ [0] [1, 2] rfl rfl (by decide) (by decide) (by decide) 0 9 rfl rfl rfl hl.1 rfl (Nat.le_of_ble_eq_true rfl) dX9_left_1 ⟨Nat.le_of_ble_eq_true rfl, Nat.le_of_ble_eq_true rfl⟩ (w1 := fun u2 => [((q 3), .inl (cI, 200, .inl (fun k => zI (g_now k)))), ((q 13), .inl (cI, 159, .inl (fun k => zI (g_st k)))), (y, .inr (9, [.int (zI ((u2 0).1 0)), .ref (q 0), .int (zI ((u2 0).1 1)), .int (zI ((u2 0).1 2)), .int (zI ((u2 0).1 3)), .int (zI ((u2 0).1 4)), .int (zI ((u2 0).1 5)), .int (zI ((u2 0).1 6)), .int (zI ((u2 0).1 7)), .int (zI ((u2 0).1 8)), .int (zI ((u2 0).1 9)), .int (zI ((u2 0).1 10)), .ref (q 1), .int (zI ((u2 0).1 11)), .int (zI ((u2 0).1 12)), .ref (q 2), .ref (q 3), .ref (q 4), .ref (q 5), .ref (q 6), .ref (q 7), .ref (q 8), .ref (q 9), .ref (q 10), .ref (q 11), .ref (q 12), .ref (q 13), .ref (q 14), .ref (q 15), .ref (q 16), .int (zI ((u2 0).1 13)), .int (zI ((u2 0).1 14)), .int (zI ((u2 0).1 15)), .int (zI ((u2 0).1 16)), .int (zI ((u2 0).1 17)), .int (zI ((u2 0).1 18)), .ref (q 17), .ref (q 18), .ref (q 19), .ref (q 20)]))]) (fun _ => rfl) (fun  u2 H locs hp3 hP hD hS => ?_)
  have hf4 := hp3.1.1
  refine lv_aload_n hx hb dX9_left_4 rfl (lv_at hl 0 rfl) ?_
  refine lv_iload_n hx hb dX9_left_5 rfl (lv_at hl 1 rfl) ?_
  refine r_callVi (As := [.int (zI x)]) (rest := []) (wr := [((q 13), .inl (cI, 159, .inl (fun k => zI (g_st k))))]) F hK hP hD hS hA hO hE (c_X9_isWay hO y q ((u2 0).1) hp3.1 g_now x (by omega) hpn) k_1485 kv_X9_isWay 1 rfl (by decide +kernel) ⟨Nat.le_of_ble_eq_true rfl, Nat.le_of_ble_eq_true rfl⟩ [2, 0] [1] rfl rfl (by decide) (by decide) (by decide) 0 9 rfl rfl rfl hl.1 rfl (Nat.le_of_ble_eq_true rfl) dX9_left_6 ⟨Nat.le_of_ble_eq_true rfl, Nat.le_of_ble_eq_true rfl⟩ (w1 := fun u5 => [((q 13), .inl (cI, 159, .inl (fun k => zI (g_st k)))), (y, .inr (9, [.int (zI ((u2 0).1 0)), .ref (q 0), .int (zI ((u2 0).1 1)), .int (zI ((u2 0).1 2)), .int (zI ((u2 0).1 3)), .int (zI ((u2 0).1 4)), .int (zI ((u2 0).1 5)), .int (zI ((u2 0).1 6)), .int (zI ((u2 0).1 7)), .int (zI ((u2 0).1 8)), .int (zI ((u2 0).1 9)), .int (zI ((u2 0).1 10)), .ref (q 1), .int (zI ((u2 0).1 11)), .int (zI ((u2 0).1 12)), .ref (q 2), .ref (q 3), .ref (q 4), .ref (q 5), .ref (q 6), .ref (q 7), .ref (q 8), .ref (q 9), .ref (q 10), .ref (q 11), .ref (q 12), .ref (q 13), .ref (q 14), .ref (q 15), .ref (q 16), .int (zI ((u2 0).1 13)), .int (zI ((u2 0).1 14)), .int (zI ((u2 0).1 15)), .int (zI ((u2 0).1 16)), .int (zI ((u2 0).1 17)), .int (zI ((u2 0).1 18)), .ref (q 17), .ref (q 18), .ref (q 19), .ref (q 20)])), ((q 3), .inl (cI, 200, .inl (fun k => zI (g_now k))))]) (fun _ => rfl) (fun r6 u5 H locs hp7 hP hD hS => ?_)
  obtain ⟨z8, rfl, h_z8⟩ := hp7
  refine rz_ifb_eq (tgt := 33) F (by omega) dX9_left_9 (by decide) (fun h9_8 => ?_) (fun h9_8 => ?_)
  · refine lv_aload_n hx hb dX9_left_33 rfl (lv_at hl 0 rfl) ?_
    refine lv_iconst (v := zI 1) hx hb dX9_left_34 rfl ?_
    refine r_callVi (As := [.int (zI 1)]) (rest := []) (wr := [((q 13), .inl (cI, 159, .inl (fun k => zI (g_st k)))), ((q 3), .inl (cI, 200, .inl (fun k => zI (g_now k))))]) F hK hP hD hS hA hO hE (c_X9_no hO y q ((u2 0).1) hp3.1 1 (by omega) (by omega)) k_1303 kv_X9_no 1 rfl (by decide +kernel) ⟨Nat.le_of_ble_eq_true rfl, Nat.le_of_ble_eq_true rfl⟩ [1] [0, 2] rfl rfl (by decide) (by decide) (by decide) 0 9 rfl rfl rfl hl.1 rfl (Nat.le_of_ble_eq_true rfl) dX9_left_35 ⟨Nat.le_of_ble_eq_true rfl, Nat.le_of_ble_eq_true rfl⟩ (w1 := fun u10 => [((q 13), .inl (cI, 159, .inl (fun k => zI (g_st k)))), ((q 3), .inl (cI, 200, .inl (fun k => zI (g_now k)))), (y, .inr (9, [.int (zI ((u10 0).1 0)), .ref (q 0), .int (zI ((u10 0).1 1)), .int (zI ((u10 0).1 2)), .int (zI ((u10 0).1 3)), .int (zI ((u10 0).1 4)), .int (zI ((u10 0).1 5)), .int (zI ((u10 0).1 6)), .int (zI ((u10 0).1 7)), .int (zI ((u10 0).1 8)), .int (zI ((u10 0).1 9)), .int (zI ((u10 0).1 10)), .ref (q 1), .int (zI ((u10 0).1 11)), .int (zI ((u10 0).1 12)), .ref (q 2), .ref (q 3), .ref (q 4), .ref (q 5), .ref (q 6), .ref (q 7), .ref (q 8), .ref (q 9), .ref (q 10), .ref (q 11), .ref (q 12), .ref (q 13), .ref (q 14), .ref (q 15), .ref (q 16), .int (zI ((u10 0).1 13)), .int (zI ((u10 0).1 14)), .int (zI ((u10 0).1 15)), .int (zI ((u10 0).1 16)), .int (zI ((u10 0).1 17)), .int (zI ((u10 0).1 18)), .ref (q 17), .ref (q 18), .ref (q 19), .ref (q 20)]))]) (fun _ => rfl) (fun r11 u10 H locs hp12 hP hD hS => ?_)
    obtain ⟨z13, rfl, h_z13⟩ := hp12
    have hf14 := h_z13.1.1
    exact ret (zI z13) (fun k => [((u10 0).1, fun _ _ => 0)].getD k (fun _ => 0, fun _ _ => 0)) _ _ _ _ _ _ rfl ⟨z13, rfl, h_z13.1, (show ((u10 0).1) 1 = i 1 ∧ ((u10 0).1) 8 = i 8 ∧ ((u10 0).1) 9 = i 9 ∧ ((u10 0).1) 12 = i 12 ∧ ((u10 0).1) 13 = i 13 ∧ ((u10 0).1) 15 = i 15 ∧ ((u10 0).1) 17 = i 17 ∧ ((u10 0).1) 10 ≠ 4 from by omega)⟩ (bw_subP (isC := [2, 1, 0]) hP rfl) (hD.sub [2, 1, 0] (by decide) rfl) hS (Nat.le_of_ble_eq_true rfl) (Nat.le_of_ble_eq_true rfl) dX9_left_38
  · have hq15 := h_z8.2 (by omega)
    refine lv_aload_n hx hb dX9_left_12 rfl (lv_at hl 0 rfl) ?_
    refine r_get F hK hP 1 16 rfl rfl in_X9 (by decide) k_1179 rfl dX9_left_13 ?_
    refine lv_iload_n hx hb dX9_left_16 rfl (lv_at hl 1 rfl) ?_
    refine r_callSi (As := [.ref (q 3), .int (zI x)]) (rest := []) (wr := [((q 13), .inl (cI, 159, .inl (fun k => zI (g_st k)))), (y, .inr (9, [.int (zI ((u2 0).1 0)), .ref (q 0), .int (zI ((u2 0).1 1)), .int (zI ((u2 0).1 2)), .int (zI ((u2 0).1 3)), .int (zI ((u2 0).1 4)), .int (zI ((u2 0).1 5)), .int (zI ((u2 0).1 6)), .int (zI ((u2 0).1 7)), .int (zI ((u2 0).1 8)), .int (zI ((u2 0).1 9)), .int (zI ((u2 0).1 10)), .ref (q 1), .int (zI ((u2 0).1 11)), .int (zI ((u2 0).1 12)), .ref (q 2), .ref (q 3), .ref (q 4), .ref (q 5), .ref (q 6), .ref (q 7), .ref (q 8), .ref (q 9), .ref (q 10), .ref (q 11), .ref (q 12), .ref (q 13), .ref (q 14), .ref (q 15), .ref (q 16), .int (zI ((u2 0).1 13)), .int (zI ((u2 0).1 14)), .int (zI ((u2 0).1 15)), .int (zI ((u2 0).1 16)), .int (zI ((u2 0).1 17)), .int (zI ((u2 0).1 18)), .ref (q 17), .ref (q 18), .ref (q 19), .ref (q 20)]))]) F hK hP hD hS hA hO hE (c_X9_laid hO (q 3) g_now x (by omega) hpn (by omega)) k_1489 ks_X9_laid 2 rfl (by decide +kernel) ⟨Nat.le_of_ble_eq_true rfl, Nat.le_of_ble_eq_true rfl⟩ [2] [0, 1] rfl rfl (by decide) (by decide) (by decide) hl.1 rfl (Nat.le_of_ble_eq_true rfl) dX9_left_17 ⟨Nat.le_of_ble_eq_true rfl, Nat.le_of_ble_eq_true rfl⟩ (w1 := fun u16 => [((q 13), .inl (cI, 159, .inl (fun k => zI (g_st k)))), (y, .inr (9, [.int (zI ((u2 0).1 0)), .ref (q 0), .int (zI ((u2 0).1 1)), .int (zI ((u2 0).1 2)), .int (zI ((u2 0).1 3)), .int (zI ((u2 0).1 4)), .int (zI ((u2 0).1 5)), .int (zI ((u2 0).1 6)), .int (zI ((u2 0).1 7)), .int (zI ((u2 0).1 8)), .int (zI ((u2 0).1 9)), .int (zI ((u2 0).1 10)), .ref (q 1), .int (zI ((u2 0).1 11)), .int (zI ((u2 0).1 12)), .ref (q 2), .ref (q 3), .ref (q 4), .ref (q 5), .ref (q 6), .ref (q 7), .ref (q 8), .ref (q 9), .ref (q 10), .ref (q 11), .ref (q 12), .ref (q 13), .ref (q 14), .ref (q 15), .ref (q 16), .int (zI ((u2 0).1 13)), .int (zI ((u2 0).1 14)), .int (zI ((u2 0).1 15)), .int (zI ((u2 0).1 16)), .int (zI ((u2 0).1 17)), .int (zI ((u2 0).1 18)), .ref (q 17), .ref (q 18), .ref (q 19), .ref (q 20)])), ((q 3), .inl (cI, 200, .inl (fun k => zI (g_now k))))]) (fun _ => rfl) (fun r17 u16 H locs hp18 hP hD hS => ?_)
    obtain ⟨z19, rfl, h_z19⟩ := hp18
    refine lv_aload_n hx hb dX9_left_20 rfl (lv_at hl 0 rfl) ?_
    refine r_get F hK hP 1 26 rfl rfl in_X9 (by decide) k_1189 rfl dX9_left_21 ?_
    refine lv_bipush (v := zI 8) hx hb dX9_left_24 (by decide) ?_
    refine lv_iload_n hx hb dX9_left_26 rfl (lv_at hl 1 rfl) ?_
    refine r_iadd (v := zI (8 + x)) F dX9_left_27 (zI_add _ _) ?_
    refine rz_iald F hK hP 0 0 rfl rfl (by omega) (by omega) dX9_left_28 ?_
    refine rz_top (fun z20 h_z20 => ?_)
    refine r_isub (v := zI (z19 - z20)) F dX9_left_29 (zI_sub _ _) ?_
    refine lv_goto (tgt := 38) hx hb dX9_left_30 (by decide) ?_
    exact ret (zI (z19 - z20)) (fun k => [((u2 0).1, fun _ _ => 0)].getD k (fun _ => 0, fun _ _ => 0)) _ _ _ _ _ _ rfl ⟨(z19 - z20), rfl, hp3.1, (show ((u2 0).1) 1 = i 1 ∧ ((u2 0).1) 8 = i 8 ∧ ((u2 0).1) 9 = i 9 ∧ ((u2 0).1) 12 = i 12 ∧ ((u2 0).1) 13 = i 13 ∧ ((u2 0).1) 15 = i 15 ∧ ((u2 0).1) 17 = i 17 ∧ ((u2 0).1) 10 ≠ 4 from by omega)⟩ (bw_subP (isC := [1, 2, 0]) hP rfl) (hD.sub [1, 2, 0] (by decide) rfl) hS (Nat.le_of_ble_eq_true rfl) (Nat.le_of_ble_eq_true rfl) dX9_left_38
theorem dX9_burntIn_0 : decode cX9_burntIn 0 = .ok (.iconst 0, 1) := bo_3 (by decide +kernel)
theorem dX9_burntIn_1 : decode cX9_burntIn 1 = .ok (.istore_n 2, 1) := bo_61 (by decide +kernel)
theorem dX9_burntIn_2 : decode cX9_burntIn 2 = .ok (.iconst 0, 1) := bo_3 (by decide +kernel)
theorem dX9_burntIn_3 : decode cX9_burntIn 3 = .ok (.istore_n 3, 1) := bo_62 (by decide +kernel)
theorem dX9_burntIn_4 : decode cX9_burntIn 4 = .ok (.iload_n 3, 1) := bo_29 (by decide +kernel)
theorem dX9_burntIn_5 : decode cX9_burntIn 5 = .ok (.iconst 2, 1) := bo_5 (by decide +kernel)
theorem dX9_burntIn_6 : decode cX9_burntIn 6 = .ok (.aload_n 0, 1) := bo_42 (by decide +kernel)
theorem dX9_burntIn_7 : decode cX9_burntIn 7 = .ok (.getfield 213, 3) := bo_180 0 213 (by decide +kernel)
theorem dX9_burntIn_10 : decode cX9_burntIn 10 = .ok (.imul, 1) := bo_104 (by decide +kernel)
theorem dX9_burntIn_11 : decode cX9_burntIn 11 = .ok (.if_icmp .ge 47, 3) := bo_162 0 47 (by decide +kernel)
theorem dX9_burntIn_58 : decode cX9_burntIn 58 = .ok (.iload_n 2, 1) := bo_28 (by decide +kernel)
theorem dX9_burntIn_59 : decode cX9_burntIn 59 = .ok (.ireturn, 1) := bo_172 (by decide +kernel)
theorem dX9_burntIn_14 : decode cX9_burntIn 14 = .ok (.iload_n 2, 1) := bo_28 (by decide +kernel)
theorem dX9_burntIn_15 : decode cX9_burntIn 15 = .ok (.aload_n 0, 1) := bo_42 (by decide +kernel)
theorem dX9_burntIn_16 : decode cX9_burntIn 16 = .ok (.getfield 23, 3) := bo_180 0 23 (by decide +kernel)
theorem dX9_burntIn_19 : decode cX9_burntIn 19 = .ok (.iload_n 3, 1) := bo_29 (by decide +kernel)
theorem dX9_burntIn_20 : decode cX9_burntIn 20 = .ok (.invokestatic 297, 3) := bo_184 1 41 (by decide +kernel)
theorem dX9_burntIn_23 : decode cX9_burntIn 23 = .ok (.ifCond .le 26, 3) := bo_158 0 26 (by decide +kernel)
theorem dX9_burntIn_49 : decode cX9_burntIn 49 = .ok (.iconst 0, 1) := bo_3 (by decide +kernel)
theorem dX9_burntIn_50 : decode cX9_burntIn 50 = .ok (.ior, 1) := bo_128 (by decide +kernel)
theorem dX9_burntIn_51 : decode cX9_burntIn 51 = .ok (.istore_n 2, 1) := bo_61 (by decide +kernel)
theorem dX9_burntIn_52 : decode cX9_burntIn 52 = .ok (.iinc 3 1, 3) := bo_132 3 1 (by decide +kernel)
theorem dX9_burntIn_55 : decode cX9_burntIn 55 = .ok (.goto (-51), 3) := bo_167 255 205 (by decide +kernel)
theorem dX9_burntIn_26 : decode cX9_burntIn 26 = .ok (.aload_n 0, 1) := bo_42 (by decide +kernel)
theorem dX9_burntIn_27 : decode cX9_burntIn 27 = .ok (.getfield 23, 3) := bo_180 0 23 (by decide +kernel)
theorem dX9_burntIn_30 : decode cX9_burntIn 30 = .ok (.iload_n 3, 1) := bo_29 (by decide +kernel)
theorem dX9_burntIn_31 : decode cX9_burntIn 31 = .ok (.invokestatic 297, 3) := bo_184 1 41 (by decide +kernel)
theorem dX9_burntIn_34 : decode cX9_burntIn 34 = .ok (.aload_n 1, 1) := bo_43 (by decide +kernel)
theorem dX9_burntIn_35 : decode cX9_burntIn 35 = .ok (.bipush 8, 2) := bo_16 8 (by decide +kernel)
theorem dX9_burntIn_37 : decode cX9_burntIn 37 = .ok (.iload_n 3, 1) := bo_29 (by decide +kernel)
theorem dX9_burntIn_38 : decode cX9_burntIn 38 = .ok (.iadd, 1) := bo_96 (by decide +kernel)
theorem dX9_burntIn_39 : decode cX9_burntIn 39 = .ok (.iaload, 1) := bo_46 (by decide +kernel)
theorem dX9_burntIn_40 : decode cX9_burntIn 40 = .ok (.if_icmp .ne 9, 3) := bo_160 0 9 (by decide +kernel)
theorem dX9_burntIn_43 : decode cX9_burntIn 43 = .ok (.iconst 1, 1) := bo_4 (by decide +kernel)
theorem dX9_burntIn_44 : decode cX9_burntIn 44 = .ok (.iload_n 3, 1) := bo_29 (by decide +kernel)
theorem dX9_burntIn_45 : decode cX9_burntIn 45 = .ok (.ishl, 1) := bo_120 (by decide +kernel)
theorem dX9_burntIn_46 : decode cX9_burntIn 46 = .ok (.goto 4, 3) := bo_167 0 4 (by decide +kernel)
abbrev rm_X9_burntIn : Room := { frames := 1, cells := 0, slots := 0, locals := 23 }
set_option maxRecDepth 100000 in
set_option maxHeartbeats 8000000 in
theorem c_X9_burntIn {l : Launch} {E : (Nat → Prop) → State → Prop} (hO : bw_Ok E) {G : va_G} {cI cB cJ cN cW : ClassId} (y : Nat) (q : Nat → Nat) (i : Nat → Int) (hM : ModOk i) (g_now : Nat → Int) (d : Nat) (g_s : Nat → Int) (hpn : ProgOk g_now) : bw_Ci (S := zV) l yX9_burntIn (bw_ws (Cond.code yX9_burntIn cX9_burntIn 4 (some .int))) rm_X9_burntIn E G (bw_kt cI cB cJ cN cW) [.ref y, .ref d] [(y, .inr (9, [.int (zI (i 0)), .ref (q 0), .int (zI (i 1)), .int (zI (i 2)), .int (zI (i 3)), .int (zI (i 4)), .int (zI (i 5)), .int (zI (i 6)), .int (zI (i 7)), .int (zI (i 8)), .int (zI (i 9)), .int (zI (i 10)), .ref (q 1), .int (zI (i 11)), .int (zI (i 12)), .ref (q 2), .ref (q 3), .ref (q 4), .ref (q 5), .ref (q 6), .ref (q 7), .ref (q 8), .ref (q 9), .ref (q 10), .ref (q 11), .ref (q 12), .ref (q 13), .ref (q 14), .ref (q 15), .ref (q 16), .int (zI (i 13)), .int (zI (i 14)), .int (zI (i 15)), .int (zI (i 16)), .int (zI (i 17)), .int (zI (i 18)), .ref (q 17), .ref (q 18), .ref (q 19), .ref (q 20)])), ((q 3), .inl (cI, 200, .inl (fun k => zI (g_now k)))), (d, .inl (cI, 159, .inl (fun k => zI (g_s k))))] (fun r u => ∃ z : Int, r = zI z ∧ (zR z)) (fun u => [(y, .inr (9, [.int (zI (i 0)), .ref (q 0), .int (zI (i 1)), .int (zI (i 2)), .int (zI (i 3)), .int (zI (i 4)), .int (zI (i 5)), .int (zI (i 6)), .int (zI (i 7)), .int (zI (i 8)), .int (zI (i 9)), .int (zI (i 10)), .ref (q 1), .int (zI (i 11)), .int (zI (i 12)), .ref (q 2), .ref (q 3), .ref (q 4), .ref (q 5), .ref (q 6), .ref (q 7), .ref (q 8), .ref (q 9), .ref (q 10), .ref (q 11), .ref (q 12), .ref (q 13), .ref (q 14), .ref (q 15), .ref (q 16), .int (zI (i 13)), .int (zI (i 14)), .int (zI (i 15)), .int (zI (i 16)), .int (zI (i 17)), .int (zI (i 18)), .ref (q 17), .ref (q 18), .ref (q 19), .ref (q 20)])), ((q 3), .inl (cI, 200, .inl (fun k => zI (g_now k)))), (d, .inl (cI, 159, .inl (fun k => zI (g_s k))))]) := by
  refine bw_Ci.of (cc := cX9_burntIn) (maxL := 4) (ty := .int) (by decide) rfl (Nat.le_of_ble_eq_true rfl) ?_
  intro p e s m below meth c A Q hx hb hml hts hown hin hK hA hS hP hD hE ret ls hl
  have F : CallFix p m c cX9_burntIn 4 s ([.ref y, .ref d] : List Value).toArray bw_T RX9 := ⟨hx, hb, hml, hown, fun w h => hts w (List.mem_cons_of_mem _ h)⟩
  replace hl : lv_has ls 4 [(0, .ref y), (1, .ref d)] := hl
  have hf1 := hM.1
  refine lv_iconst (v := zI 0) hx hb dX9_burntIn_0 rfl ?_
  refine lv_istore_n (lv' := [(2, .int (zI 0)), (0, .ref y), (1, .ref d)]) hx hb dX9_burntIn_1 rfl hl (by decide) rfl (fun ls hl => ?_)
  refine lv_iconst (v := zI 0) hx hb dX9_burntIn_2 rfl ?_
  refine lv_istore_n (lv' := [(3, .int (zI 0)), (2, .int (zI 0)), (0, .ref y), (1, .ref d)]) hx hb dX9_burntIn_3 rfl hl (by decide) rfl (fun ls hl => ?_)
  refine W.widen (k := 0) (n := 0) (Nat.le_of_ble_eq_true rfl) (Nat.le_of_ble_eq_true rfl) ?_
  refine (?_ : ∀ (n9_1 : Nat) (v2 : Int) (v3 : Int) (H : Heap) (locs : List Loc), (0 ≤ v3 ∧ v3 ≤ 20 ∧ zR v2) → (20 - v3 : Int).toNat < n9_1 → va_P G vwCl [(y, .inr (9, [.int (zI (i 0)), .ref (q 0), .int (zI (i 1)), .int (zI (i 2)), .int (zI (i 3)), .int (zI (i 4)), .int (zI (i 5)), .int (zI (i 6)), .int (zI (i 7)), .int (zI (i 8)), .int (zI (i 9)), .int (zI (i 10)), .ref (q 1), .int (zI (i 11)), .int (zI (i 12)), .ref (q 2), .ref (q 3), .ref (q 4), .ref (q 5), .ref (q 6), .ref (q 7), .ref (q 8), .ref (q 9), .ref (q 10), .ref (q 11), .ref (q 12), .ref (q 13), .ref (q 14), .ref (q 15), .ref (q 16), .int (zI (i 13)), .int (zI (i 14)), .int (zI (i 15)), .int (zI (i 16)), .int (zI (i 17)), .int (zI (i 18)), .ref (q 17), .ref (q 18), .ref (q 19), .ref (q 20)])), ((q 3), .inl (cI, 200, .inl (fun k => zI (g_now k)))), (d, .inl (cI, 159, .inl (fun k => zI (g_s k))))] H → va_D A [(y, .inr (9, [.int (zI (i 0)), .ref (q 0), .int (zI (i 1)), .int (zI (i 2)), .int (zI (i 3)), .int (zI (i 4)), .int (zI (i 5)), .int (zI (i 6)), .int (zI (i 7)), .int (zI (i 8)), .int (zI (i 9)), .int (zI (i 10)), .ref (q 1), .int (zI (i 11)), .int (zI (i 12)), .ref (q 2), .ref (q 3), .ref (q 4), .ref (q 5), .ref (q 6), .ref (q 7), .ref (q 8), .ref (q 9), .ref (q 10), .ref (q 11), .ref (q 12), .ref (q 13), .ref (q 14), .ref (q 15), .ref (q 16), .int (zI (i 13)), .int (zI (i 14)), .int (zI (i 15)), .int (zI (i 16)), .int (zI (i 17)), .int (zI (i 18)), .ref (q 17), .ref (q 18), .ref (q 19), .ref (q 20)])), ((q 3), .inl (cI, 200, .inl (fun k => zI (g_now k)))), (d, .inl (cI, 159, .inl (fun k => zI (g_s k))))] → va_S A s.heap H locs → ∀ ls : Array Slot, lv_has ls 4 [(3, .int (zI v3)), (2, .int (zI v2)), (0, .ref y), (1, .ref d)] → W p l e rm_X9_burntIn s m ([.ref y, .ref d] : List Value).toArray below meth c H locs 0 0 Q (F0 m 4 ls [])) ((20 - 0 : Int).toNat + 1) 0 0 _ _ (by omega) (by omega) hP hD hS ls hl
  clear hP hD hS hl ls
  intro n9_1
  induction n9_1 with
  | zero =>
    intro v2 v3 H locs hI hM
    exact absurd hM (by omega)
  | succ n9_1 ih1 =>
    intro v2 v3 H locs hI1 hM1  hP hD hS ls hl
    refine lv_iload_n hx hb dX9_burntIn_4 rfl (lv_at hl 0 rfl) ?_
    refine lv_iconst (v := zI 2) hx hb dX9_burntIn_5 rfl ?_
    refine lv_aload_n hx hb dX9_burntIn_6 rfl (lv_at hl 2 rfl) ?_
    refine r_get F hK hP 0 30 rfl rfl in_X9 (by decide) k_1193 rfl dX9_burntIn_7 ?_
    refine r_imul (v := zI (2 * (i 13))) F dX9_burntIn_10 (zI_mul _ _) ?_
    refine rz_icmp_ge (tgt := 58) F (by omega) (by omega) dX9_burntIn_11 (by decide) (fun h11_1 => ?_) (fun h11_1 => ?_)
    · refine lv_iload_n hx hb dX9_burntIn_58 rfl (lv_at hl 1 rfl) ?_
      exact ret (zI v2) (fun k => [((fun _ => 0), fun _ _ => 0)].getD k (fun _ => 0, fun _ _ => 0)) _ _ _ _ _ _ rfl ⟨v2, rfl, by omega⟩ (bw_subP (isC := [0, 1, 2]) hP rfl) (hD.sub [0, 1, 2] (by decide) rfl) hS (Nat.le_of_ble_eq_true rfl) (Nat.le_of_ble_eq_true rfl) dX9_burntIn_59
    · refine lv_iload_n hx hb dX9_burntIn_14 rfl (lv_at hl 1 rfl) ?_
      refine lv_aload_n hx hb dX9_burntIn_15 rfl (lv_at hl 2 rfl) ?_
      refine r_get F hK hP 0 16 rfl rfl in_X9 (by decide) k_1179 rfl dX9_burntIn_16 ?_
      refine lv_iload_n hx hb dX9_burntIn_19 rfl (lv_at hl 0 rfl) ?_
      refine r_callSi (As := [.ref (q 3), .int (zI v3)]) (rest := [.int (zI v2)]) (wr := [(y, .inr (9, [.int (zI (i 0)), .ref (q 0), .int (zI (i 1)), .int (zI (i 2)), .int (zI (i 3)), .int (zI (i 4)), .int (zI (i 5)), .int (zI (i 6)), .int (zI (i 7)), .int (zI (i 8)), .int (zI (i 9)), .int (zI (i 10)), .ref (q 1), .int (zI (i 11)), .int (zI (i 12)), .ref (q 2), .ref (q 3), .ref (q 4), .ref (q 5), .ref (q 6), .ref (q 7), .ref (q 8), .ref (q 9), .ref (q 10), .ref (q 11), .ref (q 12), .ref (q 13), .ref (q 14), .ref (q 15), .ref (q 16), .int (zI (i 13)), .int (zI (i 14)), .int (zI (i 15)), .int (zI (i 16)), .int (zI (i 17)), .int (zI (i 18)), .ref (q 17), .ref (q 18), .ref (q 19), .ref (q 20)])), (d, .inl (cI, 159, .inl (fun k => zI (g_s k))))]) F hK hP hD hS hA hO hE (c_X9_laid hO (q 3) g_now v3 (by omega) hpn (by omega)) k_1489 ks_X9_laid 2 rfl (by decide +kernel) ⟨Nat.le_of_ble_eq_true rfl, Nat.le_of_ble_eq_true rfl⟩ [1] [0, 2] rfl rfl (by decide) (by decide) (by decide) hl.1 rfl (Nat.le_of_ble_eq_true rfl) dX9_burntIn_20 ⟨Nat.le_of_ble_eq_true rfl, Nat.le_of_ble_eq_true rfl⟩ (w1 := fun u3 => [(y, .inr (9, [.int (zI (i 0)), .ref (q 0), .int (zI (i 1)), .int (zI (i 2)), .int (zI (i 3)), .int (zI (i 4)), .int (zI (i 5)), .int (zI (i 6)), .int (zI (i 7)), .int (zI (i 8)), .int (zI (i 9)), .int (zI (i 10)), .ref (q 1), .int (zI (i 11)), .int (zI (i 12)), .ref (q 2), .ref (q 3), .ref (q 4), .ref (q 5), .ref (q 6), .ref (q 7), .ref (q 8), .ref (q 9), .ref (q 10), .ref (q 11), .ref (q 12), .ref (q 13), .ref (q 14), .ref (q 15), .ref (q 16), .int (zI (i 13)), .int (zI (i 14)), .int (zI (i 15)), .int (zI (i 16)), .int (zI (i 17)), .int (zI (i 18)), .ref (q 17), .ref (q 18), .ref (q 19), .ref (q 20)])), (d, .inl (cI, 159, .inl (fun k => zI (g_s k)))), ((q 3), .inl (cI, 200, .inl (fun k => zI (g_now k))))]) (fun _ => rfl) (fun r4 u3 H locs hp5 hP hD hS => ?_)
      obtain ⟨z6, rfl, h_z6⟩ := hp5
      refine rz_if_le (tgt := 49) F (by omega) dX9_burntIn_23 (by decide) (fun h23_6 => ?_) (fun h23_6 => ?_)
      · refine lv_iconst (v := zI 0) hx hb dX9_burntIn_49 rfl ?_
        refine lv_ior hx hb dX9_burntIn_50 ?_
        refine rz_top (fun z8 h_z8 => ?_)
        refine lv_istore_n (lv' := [(2, .int (zI z8)), (3, .int (zI v3)), (0, .ref y), (1, .ref d)]) hx hb dX9_burntIn_51 rfl hl (by decide) rfl (fun ls hl => ?_)
        refine lv_iinc (v := zI (v3 + 1)) (lv' := [(3, .int (zI (v3 + 1))), (2, .int (zI z8)), (0, .ref y), (1, .ref d)]) hx hb dX9_burntIn_52 hl (k := 1) rfl (zI_add _ _) (by decide) rfl (fun ls hl => ?_)
        refine lv_goto (tgt := 4) hx hb dX9_burntIn_55 (by decide) ?_
        have hP := bw_subP (isC := [0, 2, 1]) (wc := [(y, .inr (9, [.int (zI (i 0)), .ref (q 0), .int (zI (i 1)), .int (zI (i 2)), .int (zI (i 3)), .int (zI (i 4)), .int (zI (i 5)), .int (zI (i 6)), .int (zI (i 7)), .int (zI (i 8)), .int (zI (i 9)), .int (zI (i 10)), .ref (q 1), .int (zI (i 11)), .int (zI (i 12)), .ref (q 2), .ref (q 3), .ref (q 4), .ref (q 5), .ref (q 6), .ref (q 7), .ref (q 8), .ref (q 9), .ref (q 10), .ref (q 11), .ref (q 12), .ref (q 13), .ref (q 14), .ref (q 15), .ref (q 16), .int (zI (i 13)), .int (zI (i 14)), .int (zI (i 15)), .int (zI (i 16)), .int (zI (i 17)), .int (zI (i 18)), .ref (q 17), .ref (q 18), .ref (q 19), .ref (q 20)])), ((q 3), .inl (cI, 200, .inl (fun k => zI (g_now k)))), (d, .inl (cI, 159, .inl (fun k => zI (g_s k))))]) hP rfl
        have hD := hD.sub (ws' := [(y, .inr (9, [.int (zI (i 0)), .ref (q 0), .int (zI (i 1)), .int (zI (i 2)), .int (zI (i 3)), .int (zI (i 4)), .int (zI (i 5)), .int (zI (i 6)), .int (zI (i 7)), .int (zI (i 8)), .int (zI (i 9)), .int (zI (i 10)), .ref (q 1), .int (zI (i 11)), .int (zI (i 12)), .ref (q 2), .ref (q 3), .ref (q 4), .ref (q 5), .ref (q 6), .ref (q 7), .ref (q 8), .ref (q 9), .ref (q 10), .ref (q 11), .ref (q 12), .ref (q 13), .ref (q 14), .ref (q 15), .ref (q 16), .int (zI (i 13)), .int (zI (i 14)), .int (zI (i 15)), .int (zI (i 16)), .int (zI (i 17)), .int (zI (i 18)), .ref (q 17), .ref (q 18), .ref (q 19), .ref (q 20)])), ((q 3), .inl (cI, 200, .inl (fun k => zI (g_now k)))), (d, .inl (cI, 159, .inl (fun k => zI (g_s k))))]) [0, 2, 1] (by decide) rfl
        exact ih1 z8 (v3 + 1) _ _ (by omega) (by omega) hP hD hS ls (lv_sub hl [0, 1, 2, 3] rfl)
      · refine lv_aload_n hx hb dX9_burntIn_26 rfl (lv_at hl 2 rfl) ?_
        refine r_get F hK hP 0 16 rfl rfl in_X9 (by decide) k_1179 rfl dX9_burntIn_27 ?_
        refine lv_iload_n hx hb dX9_burntIn_30 rfl (lv_at hl 0 rfl) ?_
        refine r_callSi (As := [.ref (q 3), .int (zI v3)]) (rest := [.int (zI v2)]) (wr := [(y, .inr (9, [.int (zI (i 0)), .ref (q 0), .int (zI (i 1)), .int (zI (i 2)), .int (zI (i 3)), .int (zI (i 4)), .int (zI (i 5)), .int (zI (i 6)), .int (zI (i 7)), .int (zI (i 8)), .int (zI (i 9)), .int (zI (i 10)), .ref (q 1), .int (zI (i 11)), .int (zI (i 12)), .ref (q 2), .ref (q 3), .ref (q 4), .ref (q 5), .ref (q 6), .ref (q 7), .ref (q 8), .ref (q 9), .ref (q 10), .ref (q 11), .ref (q 12), .ref (q 13), .ref (q 14), .ref (q 15), .ref (q 16), .int (zI (i 13)), .int (zI (i 14)), .int (zI (i 15)), .int (zI (i 16)), .int (zI (i 17)), .int (zI (i 18)), .ref (q 17), .ref (q 18), .ref (q 19), .ref (q 20)])), (d, .inl (cI, 159, .inl (fun k => zI (g_s k))))]) F hK hP hD hS hA hO hE (c_X9_laid hO (q 3) g_now v3 (by omega) hpn (by omega)) k_1489 ks_X9_laid 2 rfl (by decide +kernel) ⟨Nat.le_of_ble_eq_true rfl, Nat.le_of_ble_eq_true rfl⟩ [2] [0, 1] rfl rfl (by decide) (by decide) (by decide) hl.1 rfl (Nat.le_of_ble_eq_true rfl) dX9_burntIn_31 ⟨Nat.le_of_ble_eq_true rfl, Nat.le_of_ble_eq_true rfl⟩ (w1 := fun u9 => [(y, .inr (9, [.int (zI (i 0)), .ref (q 0), .int (zI (i 1)), .int (zI (i 2)), .int (zI (i 3)), .int (zI (i 4)), .int (zI (i 5)), .int (zI (i 6)), .int (zI (i 7)), .int (zI (i 8)), .int (zI (i 9)), .int (zI (i 10)), .ref (q 1), .int (zI (i 11)), .int (zI (i 12)), .ref (q 2), .ref (q 3), .ref (q 4), .ref (q 5), .ref (q 6), .ref (q 7), .ref (q 8), .ref (q 9), .ref (q 10), .ref (q 11), .ref (q 12), .ref (q 13), .ref (q 14), .ref (q 15), .ref (q 16), .int (zI (i 13)), .int (zI (i 14)), .int (zI (i 15)), .int (zI (i 16)), .int (zI (i 17)), .int (zI (i 18)), .ref (q 17), .ref (q 18), .ref (q 19), .ref (q 20)])), (d, .inl (cI, 159, .inl (fun k => zI (g_s k)))), ((q 3), .inl (cI, 200, .inl (fun k => zI (g_now k))))]) (fun _ => rfl) (fun r10 u9 H locs hp11 hP hD hS => ?_)
        obtain ⟨z12, rfl, h_z12⟩ := hp11
        refine lv_aload_n hx hb dX9_burntIn_34 rfl (lv_at hl 3 rfl) ?_
        refine lv_bipush (v := zI 8) hx hb dX9_burntIn_35 (by decide) ?_
        refine lv_iload_n hx hb dX9_burntIn_37 rfl (lv_at hl 0 rfl) ?_
        refine r_iadd (v := zI (8 + v3)) F dX9_burntIn_38 (zI_add _ _) ?_
        refine rz_iald F hK hP 1 0 rfl rfl (by omega) (by omega) dX9_burntIn_39 ?_
        refine rz_top (fun z13 h_z13 => ?_)
        refine rz_icmp_ne (tgt := 49) F (by omega) (by omega) dX9_burntIn_40 (by decide) (fun h40_13 => ?_) (fun h40_13 => ?_)
        · refine lv_iconst (v := zI 0) hx hb dX9_burntIn_49 rfl ?_
          refine lv_ior hx hb dX9_burntIn_50 ?_
          refine rz_top (fun z15 h_z15 => ?_)
          refine lv_istore_n (lv' := [(2, .int (zI z15)), (3, .int (zI v3)), (0, .ref y), (1, .ref d)]) hx hb dX9_burntIn_51 rfl hl (by decide) rfl (fun ls hl => ?_)
          refine lv_iinc (v := zI (v3 + 1)) (lv' := [(3, .int (zI (v3 + 1))), (2, .int (zI z15)), (0, .ref y), (1, .ref d)]) hx hb dX9_burntIn_52 hl (k := 1) rfl (zI_add _ _) (by decide) rfl (fun ls hl => ?_)
          refine lv_goto (tgt := 4) hx hb dX9_burntIn_55 (by decide) ?_
          have hP := bw_subP (isC := [0, 2, 1]) (wc := [(y, .inr (9, [.int (zI (i 0)), .ref (q 0), .int (zI (i 1)), .int (zI (i 2)), .int (zI (i 3)), .int (zI (i 4)), .int (zI (i 5)), .int (zI (i 6)), .int (zI (i 7)), .int (zI (i 8)), .int (zI (i 9)), .int (zI (i 10)), .ref (q 1), .int (zI (i 11)), .int (zI (i 12)), .ref (q 2), .ref (q 3), .ref (q 4), .ref (q 5), .ref (q 6), .ref (q 7), .ref (q 8), .ref (q 9), .ref (q 10), .ref (q 11), .ref (q 12), .ref (q 13), .ref (q 14), .ref (q 15), .ref (q 16), .int (zI (i 13)), .int (zI (i 14)), .int (zI (i 15)), .int (zI (i 16)), .int (zI (i 17)), .int (zI (i 18)), .ref (q 17), .ref (q 18), .ref (q 19), .ref (q 20)])), ((q 3), .inl (cI, 200, .inl (fun k => zI (g_now k)))), (d, .inl (cI, 159, .inl (fun k => zI (g_s k))))]) hP rfl
          have hD := hD.sub (ws' := [(y, .inr (9, [.int (zI (i 0)), .ref (q 0), .int (zI (i 1)), .int (zI (i 2)), .int (zI (i 3)), .int (zI (i 4)), .int (zI (i 5)), .int (zI (i 6)), .int (zI (i 7)), .int (zI (i 8)), .int (zI (i 9)), .int (zI (i 10)), .ref (q 1), .int (zI (i 11)), .int (zI (i 12)), .ref (q 2), .ref (q 3), .ref (q 4), .ref (q 5), .ref (q 6), .ref (q 7), .ref (q 8), .ref (q 9), .ref (q 10), .ref (q 11), .ref (q 12), .ref (q 13), .ref (q 14), .ref (q 15), .ref (q 16), .int (zI (i 13)), .int (zI (i 14)), .int (zI (i 15)), .int (zI (i 16)), .int (zI (i 17)), .int (zI (i 18)), .ref (q 17), .ref (q 18), .ref (q 19), .ref (q 20)])), ((q 3), .inl (cI, 200, .inl (fun k => zI (g_now k)))), (d, .inl (cI, 159, .inl (fun k => zI (g_s k))))]) [0, 2, 1] (by decide) rfl
          exact ih1 z15 (v3 + 1) _ _ (by omega) (by omega) hP hD hS ls (lv_sub hl [0, 1, 2, 3] rfl)
        · refine lv_iconst (v := zI 1) hx hb dX9_burntIn_43 rfl ?_
          refine lv_iload_n hx hb dX9_burntIn_44 rfl (lv_at hl 0 rfl) ?_
          refine lv_ishl hx hb dX9_burntIn_45 ?_
          refine rz_top (fun z16 h_z16 => ?_)
          refine lv_goto (tgt := 50) hx hb dX9_burntIn_46 (by decide) ?_
          refine lv_ior hx hb dX9_burntIn_50 ?_
          refine rz_top (fun z17 h_z17 => ?_)
          refine lv_istore_n (lv' := [(2, .int (zI z17)), (3, .int (zI v3)), (0, .ref y), (1, .ref d)]) hx hb dX9_burntIn_51 rfl hl (by decide) rfl (fun ls hl => ?_)
          refine lv_iinc (v := zI (v3 + 1)) (lv' := [(3, .int (zI (v3 + 1))), (2, .int (zI z17)), (0, .ref y), (1, .ref d)]) hx hb dX9_burntIn_52 hl (k := 1) rfl (zI_add _ _) (by decide) rfl (fun ls hl => ?_)
          refine lv_goto (tgt := 4) hx hb dX9_burntIn_55 (by decide) ?_
          have hP := bw_subP (isC := [0, 2, 1]) (wc := [(y, .inr (9, [.int (zI (i 0)), .ref (q 0), .int (zI (i 1)), .int (zI (i 2)), .int (zI (i 3)), .int (zI (i 4)), .int (zI (i 5)), .int (zI (i 6)), .int (zI (i 7)), .int (zI (i 8)), .int (zI (i 9)), .int (zI (i 10)), .ref (q 1), .int (zI (i 11)), .int (zI (i 12)), .ref (q 2), .ref (q 3), .ref (q 4), .ref (q 5), .ref (q 6), .ref (q 7), .ref (q 8), .ref (q 9), .ref (q 10), .ref (q 11), .ref (q 12), .ref (q 13), .ref (q 14), .ref (q 15), .ref (q 16), .int (zI (i 13)), .int (zI (i 14)), .int (zI (i 15)), .int (zI (i 16)), .int (zI (i 17)), .int (zI (i 18)), .ref (q 17), .ref (q 18), .ref (q 19), .ref (q 20)])), ((q 3), .inl (cI, 200, .inl (fun k => zI (g_now k)))), (d, .inl (cI, 159, .inl (fun k => zI (g_s k))))]) hP rfl
          have hD := hD.sub (ws' := [(y, .inr (9, [.int (zI (i 0)), .ref (q 0), .int (zI (i 1)), .int (zI (i 2)), .int (zI (i 3)), .int (zI (i 4)), .int (zI (i 5)), .int (zI (i 6)), .int (zI (i 7)), .int (zI (i 8)), .int (zI (i 9)), .int (zI (i 10)), .ref (q 1), .int (zI (i 11)), .int (zI (i 12)), .ref (q 2), .ref (q 3), .ref (q 4), .ref (q 5), .ref (q 6), .ref (q 7), .ref (q 8), .ref (q 9), .ref (q 10), .ref (q 11), .ref (q 12), .ref (q 13), .ref (q 14), .ref (q 15), .ref (q 16), .int (zI (i 13)), .int (zI (i 14)), .int (zI (i 15)), .int (zI (i 16)), .int (zI (i 17)), .int (zI (i 18)), .ref (q 17), .ref (q 18), .ref (q 19), .ref (q 20)])), ((q 3), .inl (cI, 200, .inl (fun k => zI (g_now k)))), (d, .inl (cI, 159, .inl (fun k => zI (g_s k))))]) [0, 2, 1] (by decide) rfl
          exact ih1 z17 (v3 + 1) _ _ (by omega) (by omega) hP hD hS ls (lv_sub hl [0, 1, 2, 3] rfl)
theorem dX9_allWays_0 : decode cX9_allWays 0 = .ok (.iconst 0, 1) := bo_3 (by decide +kernel)
theorem dX9_allWays_1 : decode cX9_allWays 1 = .ok (.istore_n 1, 1) := bo_60 (by decide +kernel)
theorem dX9_allWays_2 : decode cX9_allWays 2 = .ok (.iconst 0, 1) := bo_3 (by decide +kernel)
theorem dX9_allWays_3 : decode cX9_allWays 3 = .ok (.istore_n 2, 1) := bo_61 (by decide +kernel)
theorem dX9_allWays_4 : decode cX9_allWays 4 = .ok (.iload_n 2, 1) := bo_28 (by decide +kernel)
theorem dX9_allWays_5 : decode cX9_allWays 5 = .ok (.iconst 2, 1) := bo_5 (by decide +kernel)
theorem dX9_allWays_6 : decode cX9_allWays 6 = .ok (.aload_n 0, 1) := bo_42 (by decide +kernel)
theorem dX9_allWays_7 : decode cX9_allWays 7 = .ok (.getfield 213, 3) := bo_180 0 213 (by decide +kernel)
theorem dX9_allWays_10 : decode cX9_allWays 10 = .ok (.imul, 1) := bo_104 (by decide +kernel)
theorem dX9_allWays_11 : decode cX9_allWays 11 = .ok (.if_icmp .ge 30, 3) := bo_162 0 30 (by decide +kernel)
theorem dX9_allWays_41 : decode cX9_allWays 41 = .ok (.iload_n 1, 1) := bo_27 (by decide +kernel)
theorem dX9_allWays_42 : decode cX9_allWays 42 = .ok (.ireturn, 1) := bo_172 (by decide +kernel)
theorem dX9_allWays_14 : decode cX9_allWays 14 = .ok (.iload_n 1, 1) := bo_27 (by decide +kernel)
theorem dX9_allWays_15 : decode cX9_allWays 15 = .ok (.aload_n 0, 1) := bo_42 (by decide +kernel)
theorem dX9_allWays_16 : decode cX9_allWays 16 = .ok (.getfield 23, 3) := bo_180 0 23 (by decide +kernel)
theorem dX9_allWays_19 : decode cX9_allWays 19 = .ok (.iload_n 2, 1) := bo_28 (by decide +kernel)
theorem dX9_allWays_20 : decode cX9_allWays 20 = .ok (.invokestatic 297, 3) := bo_184 1 41 (by decide +kernel)
theorem dX9_allWays_23 : decode cX9_allWays 23 = .ok (.ifCond .le 9, 3) := bo_158 0 9 (by decide +kernel)
theorem dX9_allWays_32 : decode cX9_allWays 32 = .ok (.iconst 0, 1) := bo_3 (by decide +kernel)
theorem dX9_allWays_33 : decode cX9_allWays 33 = .ok (.ior, 1) := bo_128 (by decide +kernel)
theorem dX9_allWays_34 : decode cX9_allWays 34 = .ok (.istore_n 1, 1) := bo_60 (by decide +kernel)
theorem dX9_allWays_35 : decode cX9_allWays 35 = .ok (.iinc 2 1, 3) := bo_132 2 1 (by decide +kernel)
theorem dX9_allWays_38 : decode cX9_allWays 38 = .ok (.goto (-34), 3) := bo_167 255 222 (by decide +kernel)
theorem dX9_allWays_26 : decode cX9_allWays 26 = .ok (.iconst 1, 1) := bo_4 (by decide +kernel)
theorem dX9_allWays_27 : decode cX9_allWays 27 = .ok (.iload_n 2, 1) := bo_28 (by decide +kernel)
theorem dX9_allWays_28 : decode cX9_allWays 28 = .ok (.ishl, 1) := bo_120 (by decide +kernel)
theorem dX9_allWays_29 : decode cX9_allWays 29 = .ok (.goto 4, 3) := bo_167 0 4 (by decide +kernel)
abbrev rm_X9_allWays : Room := { frames := 1, cells := 0, slots := 0, locals := 23 }
set_option maxRecDepth 100000 in
set_option maxHeartbeats 8000000 in
theorem c_X9_allWays {l : Launch} {E : (Nat → Prop) → State → Prop} (hO : bw_Ok E) {G : va_G} {cI cB cJ cN cW : ClassId} (y : Nat) (q : Nat → Nat) (i : Nat → Int) (hM : ModOk i) (g_now : Nat → Int) (hpn : ProgOk g_now) : bw_Ci (S := zV) l yX9_allWays (bw_ws (Cond.code yX9_allWays cX9_allWays 3 (some .int))) rm_X9_allWays E G (bw_kt cI cB cJ cN cW) [.ref y] [(y, .inr (9, [.int (zI (i 0)), .ref (q 0), .int (zI (i 1)), .int (zI (i 2)), .int (zI (i 3)), .int (zI (i 4)), .int (zI (i 5)), .int (zI (i 6)), .int (zI (i 7)), .int (zI (i 8)), .int (zI (i 9)), .int (zI (i 10)), .ref (q 1), .int (zI (i 11)), .int (zI (i 12)), .ref (q 2), .ref (q 3), .ref (q 4), .ref (q 5), .ref (q 6), .ref (q 7), .ref (q 8), .ref (q 9), .ref (q 10), .ref (q 11), .ref (q 12), .ref (q 13), .ref (q 14), .ref (q 15), .ref (q 16), .int (zI (i 13)), .int (zI (i 14)), .int (zI (i 15)), .int (zI (i 16)), .int (zI (i 17)), .int (zI (i 18)), .ref (q 17), .ref (q 18), .ref (q 19), .ref (q 20)])), ((q 3), .inl (cI, 200, .inl (fun k => zI (g_now k))))] (fun r u => ∃ z : Int, r = zI z ∧ (zR z)) (fun u => [(y, .inr (9, [.int (zI (i 0)), .ref (q 0), .int (zI (i 1)), .int (zI (i 2)), .int (zI (i 3)), .int (zI (i 4)), .int (zI (i 5)), .int (zI (i 6)), .int (zI (i 7)), .int (zI (i 8)), .int (zI (i 9)), .int (zI (i 10)), .ref (q 1), .int (zI (i 11)), .int (zI (i 12)), .ref (q 2), .ref (q 3), .ref (q 4), .ref (q 5), .ref (q 6), .ref (q 7), .ref (q 8), .ref (q 9), .ref (q 10), .ref (q 11), .ref (q 12), .ref (q 13), .ref (q 14), .ref (q 15), .ref (q 16), .int (zI (i 13)), .int (zI (i 14)), .int (zI (i 15)), .int (zI (i 16)), .int (zI (i 17)), .int (zI (i 18)), .ref (q 17), .ref (q 18), .ref (q 19), .ref (q 20)])), ((q 3), .inl (cI, 200, .inl (fun k => zI (g_now k))))]) := by
  refine bw_Ci.of (cc := cX9_allWays) (maxL := 3) (ty := .int) (by decide) rfl (Nat.le_of_ble_eq_true rfl) ?_
  intro p e s m below meth c A Q hx hb hml hts hown hin hK hA hS hP hD hE ret ls hl
  have F : CallFix p m c cX9_allWays 3 s ([.ref y] : List Value).toArray bw_T RX9 := ⟨hx, hb, hml, hown, fun w h => hts w (List.mem_cons_of_mem _ h)⟩
  replace hl : lv_has ls 3 [(0, .ref y)] := hl
  have hf1 := hM.1
  refine lv_iconst (v := zI 0) hx hb dX9_allWays_0 rfl ?_
  refine lv_istore_n (lv' := [(1, .int (zI 0)), (0, .ref y)]) hx hb dX9_allWays_1 rfl hl (by decide) rfl (fun ls hl => ?_)
  refine lv_iconst (v := zI 0) hx hb dX9_allWays_2 rfl ?_
  refine lv_istore_n (lv' := [(2, .int (zI 0)), (1, .int (zI 0)), (0, .ref y)]) hx hb dX9_allWays_3 rfl hl (by decide) rfl (fun ls hl => ?_)
  refine W.widen (k := 0) (n := 0) (Nat.le_of_ble_eq_true rfl) (Nat.le_of_ble_eq_true rfl) ?_
  refine (?_ : ∀ (n9_1 : Nat) (v1 : Int) (v2 : Int) (H : Heap) (locs : List Loc), (0 ≤ v2 ∧ v2 ≤ 20 ∧ zR v1) → (20 - v2 : Int).toNat < n9_1 → va_P G vwCl [(y, .inr (9, [.int (zI (i 0)), .ref (q 0), .int (zI (i 1)), .int (zI (i 2)), .int (zI (i 3)), .int (zI (i 4)), .int (zI (i 5)), .int (zI (i 6)), .int (zI (i 7)), .int (zI (i 8)), .int (zI (i 9)), .int (zI (i 10)), .ref (q 1), .int (zI (i 11)), .int (zI (i 12)), .ref (q 2), .ref (q 3), .ref (q 4), .ref (q 5), .ref (q 6), .ref (q 7), .ref (q 8), .ref (q 9), .ref (q 10), .ref (q 11), .ref (q 12), .ref (q 13), .ref (q 14), .ref (q 15), .ref (q 16), .int (zI (i 13)), .int (zI (i 14)), .int (zI (i 15)), .int (zI (i 16)), .int (zI (i 17)), .int (zI (i 18)), .ref (q 17), .ref (q 18), .ref (q 19), .ref (q 20)])), ((q 3), .inl (cI, 200, .inl (fun k => zI (g_now k))))] H → va_D A [(y, .inr (9, [.int (zI (i 0)), .ref (q 0), .int (zI (i 1)), .int (zI (i 2)), .int (zI (i 3)), .int (zI (i 4)), .int (zI (i 5)), .int (zI (i 6)), .int (zI (i 7)), .int (zI (i 8)), .int (zI (i 9)), .int (zI (i 10)), .ref (q 1), .int (zI (i 11)), .int (zI (i 12)), .ref (q 2), .ref (q 3), .ref (q 4), .ref (q 5), .ref (q 6), .ref (q 7), .ref (q 8), .ref (q 9), .ref (q 10), .ref (q 11), .ref (q 12), .ref (q 13), .ref (q 14), .ref (q 15), .ref (q 16), .int (zI (i 13)), .int (zI (i 14)), .int (zI (i 15)), .int (zI (i 16)), .int (zI (i 17)), .int (zI (i 18)), .ref (q 17), .ref (q 18), .ref (q 19), .ref (q 20)])), ((q 3), .inl (cI, 200, .inl (fun k => zI (g_now k))))] → va_S A s.heap H locs → ∀ ls : Array Slot, lv_has ls 3 [(2, .int (zI v2)), (1, .int (zI v1)), (0, .ref y)] → W p l e rm_X9_allWays s m ([.ref y] : List Value).toArray below meth c H locs 0 0 Q (F0 m 4 ls [])) ((20 - 0 : Int).toNat + 1) 0 0 _ _ (by omega) (by omega) hP hD hS ls hl
  clear hP hD hS hl ls
  intro n9_1
  induction n9_1 with
  | zero =>
    intro v1 v2 H locs hI hM
    exact absurd hM (by omega)
  | succ n9_1 ih1 =>
    intro v1 v2 H locs hI1 hM1  hP hD hS ls hl
    refine lv_iload_n hx hb dX9_allWays_4 rfl (lv_at hl 0 rfl) ?_
    refine lv_iconst (v := zI 2) hx hb dX9_allWays_5 rfl ?_
    refine lv_aload_n hx hb dX9_allWays_6 rfl (lv_at hl 2 rfl) ?_
    refine r_get F hK hP 0 30 rfl rfl in_X9 (by decide) k_1193 rfl dX9_allWays_7 ?_
    refine r_imul (v := zI (2 * (i 13))) F dX9_allWays_10 (zI_mul _ _) ?_
    refine rz_icmp_ge (tgt := 41) F (by omega) (by omega) dX9_allWays_11 (by decide) (fun h11_1 => ?_) (fun h11_1 => ?_)
    · refine lv_iload_n hx hb dX9_allWays_41 rfl (lv_at hl 1 rfl) ?_
      exact ret (zI v1) (fun k => [((fun _ => 0), fun _ _ => 0)].getD k (fun _ => 0, fun _ _ => 0)) _ _ _ _ _ _ rfl ⟨v1, rfl, by omega⟩ (bw_subP (isC := [0, 1]) hP rfl) (hD.sub [0, 1] (by decide) rfl) hS (Nat.le_of_ble_eq_true rfl) (Nat.le_of_ble_eq_true rfl) dX9_allWays_42
    · refine lv_iload_n hx hb dX9_allWays_14 rfl (lv_at hl 1 rfl) ?_
      refine lv_aload_n hx hb dX9_allWays_15 rfl (lv_at hl 2 rfl) ?_
      refine r_get F hK hP 0 16 rfl rfl in_X9 (by decide) k_1179 rfl dX9_allWays_16 ?_
      refine lv_iload_n hx hb dX9_allWays_19 rfl (lv_at hl 0 rfl) ?_
      refine r_callSi (As := [.ref (q 3), .int (zI v2)]) (rest := [.int (zI v1)]) (wr := [(y, .inr (9, [.int (zI (i 0)), .ref (q 0), .int (zI (i 1)), .int (zI (i 2)), .int (zI (i 3)), .int (zI (i 4)), .int (zI (i 5)), .int (zI (i 6)), .int (zI (i 7)), .int (zI (i 8)), .int (zI (i 9)), .int (zI (i 10)), .ref (q 1), .int (zI (i 11)), .int (zI (i 12)), .ref (q 2), .ref (q 3), .ref (q 4), .ref (q 5), .ref (q 6), .ref (q 7), .ref (q 8), .ref (q 9), .ref (q 10), .ref (q 11), .ref (q 12), .ref (q 13), .ref (q 14), .ref (q 15), .ref (q 16), .int (zI (i 13)), .int (zI (i 14)), .int (zI (i 15)), .int (zI (i 16)), .int (zI (i 17)), .int (zI (i 18)), .ref (q 17), .ref (q 18), .ref (q 19), .ref (q 20)]))]) F hK hP hD hS hA hO hE (c_X9_laid hO (q 3) g_now v2 (by omega) hpn (by omega)) k_1489 ks_X9_laid 2 rfl (by decide +kernel) ⟨Nat.le_of_ble_eq_true rfl, Nat.le_of_ble_eq_true rfl⟩ [1] [0] rfl rfl (by decide) (by decide) (by decide) hl.1 rfl (Nat.le_of_ble_eq_true rfl) dX9_allWays_20 ⟨Nat.le_of_ble_eq_true rfl, Nat.le_of_ble_eq_true rfl⟩ (w1 := fun u3 => [(y, .inr (9, [.int (zI (i 0)), .ref (q 0), .int (zI (i 1)), .int (zI (i 2)), .int (zI (i 3)), .int (zI (i 4)), .int (zI (i 5)), .int (zI (i 6)), .int (zI (i 7)), .int (zI (i 8)), .int (zI (i 9)), .int (zI (i 10)), .ref (q 1), .int (zI (i 11)), .int (zI (i 12)), .ref (q 2), .ref (q 3), .ref (q 4), .ref (q 5), .ref (q 6), .ref (q 7), .ref (q 8), .ref (q 9), .ref (q 10), .ref (q 11), .ref (q 12), .ref (q 13), .ref (q 14), .ref (q 15), .ref (q 16), .int (zI (i 13)), .int (zI (i 14)), .int (zI (i 15)), .int (zI (i 16)), .int (zI (i 17)), .int (zI (i 18)), .ref (q 17), .ref (q 18), .ref (q 19), .ref (q 20)])), ((q 3), .inl (cI, 200, .inl (fun k => zI (g_now k))))]) (fun _ => rfl) (fun r4 u3 H locs hp5 hP hD hS => ?_)
      obtain ⟨z6, rfl, h_z6⟩ := hp5
      refine rz_if_le (tgt := 32) F (by omega) dX9_allWays_23 (by decide) (fun h23_6 => ?_) (fun h23_6 => ?_)
      · refine lv_iconst (v := zI 0) hx hb dX9_allWays_32 rfl ?_
        refine lv_ior hx hb dX9_allWays_33 ?_
        refine rz_top (fun z8 h_z8 => ?_)
        refine lv_istore_n (lv' := [(1, .int (zI z8)), (2, .int (zI v2)), (0, .ref y)]) hx hb dX9_allWays_34 rfl hl (by decide) rfl (fun ls hl => ?_)
        refine lv_iinc (v := zI (v2 + 1)) (lv' := [(2, .int (zI (v2 + 1))), (1, .int (zI z8)), (0, .ref y)]) hx hb dX9_allWays_35 hl (k := 1) rfl (zI_add _ _) (by decide) rfl (fun ls hl => ?_)
        refine lv_goto (tgt := 4) hx hb dX9_allWays_38 (by decide) ?_
        exact ih1 z8 (v2 + 1) _ _ (by omega) (by omega) hP hD hS ls (lv_sub hl [0, 1, 2] rfl)
      · refine lv_iconst (v := zI 1) hx hb dX9_allWays_26 rfl ?_
        refine lv_iload_n hx hb dX9_allWays_27 rfl (lv_at hl 0 rfl) ?_
        refine lv_ishl hx hb dX9_allWays_28 ?_
        refine rz_top (fun z9 h_z9 => ?_)
        refine lv_goto (tgt := 33) hx hb dX9_allWays_29 (by decide) ?_
        refine lv_ior hx hb dX9_allWays_33 ?_
        refine rz_top (fun z10 h_z10 => ?_)
        refine lv_istore_n (lv' := [(1, .int (zI z10)), (2, .int (zI v2)), (0, .ref y)]) hx hb dX9_allWays_34 rfl hl (by decide) rfl (fun ls hl => ?_)
        refine lv_iinc (v := zI (v2 + 1)) (lv' := [(2, .int (zI (v2 + 1))), (1, .int (zI z10)), (0, .ref y)]) hx hb dX9_allWays_35 hl (k := 1) rfl (zI_add _ _) (by decide) rfl (fun ls hl => ?_)
        refine lv_goto (tgt := 4) hx hb dX9_allWays_38 (by decide) ?_
        exact ih1 z10 (v2 + 1) _ _ (by omega) (by omega) hP hD hS ls (lv_sub hl [0, 1, 2] rfl)
theorem dX9_burnt_0 : decode cX9_burnt 0 = .ok (.aload_n 0, 1) := bo_42 (by decide +kernel)
theorem dX9_burnt_1 : decode cX9_burnt 1 = .ok (.invokevirtual 197, 3) := bo_182 0 197 (by decide +kernel)
theorem dX9_burnt_4 : decode cX9_burnt 4 = .ok (.aload_n 0, 1) := bo_42 (by decide +kernel)
theorem dX9_burnt_5 : decode cX9_burnt 5 = .ok (.getfield 222, 3) := bo_180 0 222 (by decide +kernel)
theorem dX9_burnt_8 : decode cX9_burnt 8 = .ok (.ifCond .eq 14, 3) := bo_153 0 14 (by decide +kernel)
theorem dX9_burnt_22 : decode cX9_burnt 22 = .ok (.aload_n 0, 1) := bo_42 (by decide +kernel)
theorem dX9_burnt_23 : decode cX9_burnt 23 = .ok (.iconst 1, 1) := bo_4 (by decide +kernel)
theorem dX9_burnt_24 : decode cX9_burnt 24 = .ok (.invokevirtual 200, 3) := bo_182 0 200 (by decide +kernel)
theorem dX9_burnt_27 : decode cX9_burnt 27 = .ok (.ireturn, 1) := bo_172 (by decide +kernel)
theorem dX9_burnt_11 : decode cX9_burnt 11 = .ok (.aload_n 0, 1) := bo_42 (by decide +kernel)
theorem dX9_burnt_12 : decode cX9_burnt 12 = .ok (.aload_n 0, 1) := bo_42 (by decide +kernel)
theorem dX9_burnt_13 : decode cX9_burnt 13 = .ok (.getfield 53, 3) := bo_180 0 53 (by decide +kernel)
theorem dX9_burnt_16 : decode cX9_burnt 16 = .ok (.invokevirtual 304, 3) := bo_182 1 48 (by decide +kernel)
theorem k_1496 : Cond.methodLink RX9 304 yX9_burntIn ∈ bw_T := bw_m 1496 (by decide +kernel) rfl
theorem kv_X9_burntIn : bw_KV RX9 yX9_burntIn (Cond.code yX9_burntIn cX9_burntIn 4 (some .int)) := ⟨bw_m 1498 (by decide +kernel) rfl, bw_m 71 (by decide +kernel) rfl, bw_m 107 (by decide +kernel) rfl, bw_m 1499 (by decide +kernel) rfl⟩
theorem dX9_burnt_19 : decode cX9_burnt 19 = .ok (.goto 8, 3) := bo_167 0 8 (by decide +kernel)
abbrev rm_X9_burnt : Room := { frames := 2, cells := 0, slots := 0, locals := 46 }
set_option maxRecDepth 100000 in
set_option maxHeartbeats 8000000 in
theorem c_X9_burnt {l : Launch} {E : (Nat → Prop) → State → Prop} (hO : bw_Ok E) {G : va_G} {cI cB cJ cN cW : ClassId} (y : Nat) (q : Nat → Nat) (i : Nat → Int) (hM : ModOk i) (g_now : Nat → Int) (g_st : Nat → Int) (hpn : ProgOk g_now) : bw_Ci (S := zV) l yX9_burnt (bw_ws (Cond.code yX9_burnt cX9_burnt 1 (some .int))) rm_X9_burnt E G (bw_kt cI cB cJ cN cW) [.ref y] [(y, .inr (9, [.int (zI (i 0)), .ref (q 0), .int (zI (i 1)), .int (zI (i 2)), .int (zI (i 3)), .int (zI (i 4)), .int (zI (i 5)), .int (zI (i 6)), .int (zI (i 7)), .int (zI (i 8)), .int (zI (i 9)), .int (zI (i 10)), .ref (q 1), .int (zI (i 11)), .int (zI (i 12)), .ref (q 2), .ref (q 3), .ref (q 4), .ref (q 5), .ref (q 6), .ref (q 7), .ref (q 8), .ref (q 9), .ref (q 10), .ref (q 11), .ref (q 12), .ref (q 13), .ref (q 14), .ref (q 15), .ref (q 16), .int (zI (i 13)), .int (zI (i 14)), .int (zI (i 15)), .int (zI (i 16)), .int (zI (i 17)), .int (zI (i 18)), .ref (q 17), .ref (q 18), .ref (q 19), .ref (q 20)])), ((q 3), .inl (cI, 200, .inl (fun k => zI (g_now k)))), ((q 13), .inl (cI, 159, .inl (fun k => zI (g_st k))))] (fun r u => ∃ z : Int, r = zI z ∧ (ModOk (u 0).1) ∧ (((u 0).1 1 = i 1 ∧ (u 0).1 8 = i 8 ∧ (u 0).1 9 = i 9 ∧ (u 0).1 12 = i 12 ∧ (u 0).1 13 = i 13 ∧ (u 0).1 15 = i 15 ∧ (u 0).1 17 = i 17 ∧ (u 0).1 10 ≠ 4))) (fun u => [(y, .inr (9, [.int (zI ((u 0).1 0)), .ref (q 0), .int (zI ((u 0).1 1)), .int (zI ((u 0).1 2)), .int (zI ((u 0).1 3)), .int (zI ((u 0).1 4)), .int (zI ((u 0).1 5)), .int (zI ((u 0).1 6)), .int (zI ((u 0).1 7)), .int (zI ((u 0).1 8)), .int (zI ((u 0).1 9)), .int (zI ((u 0).1 10)), .ref (q 1), .int (zI ((u 0).1 11)), .int (zI ((u 0).1 12)), .ref (q 2), .ref (q 3), .ref (q 4), .ref (q 5), .ref (q 6), .ref (q 7), .ref (q 8), .ref (q 9), .ref (q 10), .ref (q 11), .ref (q 12), .ref (q 13), .ref (q 14), .ref (q 15), .ref (q 16), .int (zI ((u 0).1 13)), .int (zI ((u 0).1 14)), .int (zI ((u 0).1 15)), .int (zI ((u 0).1 16)), .int (zI ((u 0).1 17)), .int (zI ((u 0).1 18)), .ref (q 17), .ref (q 18), .ref (q 19), .ref (q 20)])), ((q 3), .inl (cI, 200, .inl (fun k => zI (g_now k)))), ((q 13), .inl (cI, 159, .inl (fun k => zI (g_st k))))]) := by
  refine bw_Ci.of (cc := cX9_burnt) (maxL := 1) (ty := .int) (by decide) rfl (Nat.le_of_ble_eq_true rfl) ?_
  intro p e s m below meth c A Q hx hb hml hts hown hin hK hA hS hP hD hE ret ls hl
  have F : CallFix p m c cX9_burnt 1 s ([.ref y] : List Value).toArray bw_T RX9 := ⟨hx, hb, hml, hown, fun w h => hts w (List.mem_cons_of_mem _ h)⟩
  replace hl : lv_has ls 1 [(0, .ref y)] := hl
  have hf1 := hM.1
  refine lv_aload_n hx hb dX9_burnt_0 rfl (lv_at hl 0 rfl) ?_
  refine r_callVv (As := []) (rest := []) (wr := [((q 3), .inl (cI, 200, .inl (fun k => zI (g_now k)))), ((q 13), .inl (cI, 159, .inl (fun k => zI (g_st k))))]) F hK hP hD hS hA hO hE (c_X9_good hO y q i hM) k_1296 kv_X9_good 0 rfl (by decide +kernel) ⟨Nat.le_of_ble_eq_true rfl, Nat.le_of_ble_eq_true rfl⟩ [0] [1, 2] rfl rfl (by decide) (by decide) (by decide) 0 9 rfl rfl rfl hl.1 rfl (Nat.le_of_ble_eq_true rfl) dX9_burnt_1 ⟨Nat.le_of_ble_eq_true rfl, Nat.le_of_ble_eq_true rfl⟩ (w1 := fun u2 => [((q 3), .inl (cI, 200, .inl (fun k => zI (g_now k)))), ((q 13), .inl (cI, 159, .inl (fun k => zI (g_st k)))), (y, .inr (9, [.int (zI ((u2 0).1 0)), .ref (q 0), .int (zI ((u2 0).1 1)), .int (zI ((u2 0).1 2)), .int (zI ((u2 0).1 3)), .int (zI ((u2 0).1 4)), .int (zI ((u2 0).1 5)), .int (zI ((u2 0).1 6)), .int (zI ((u2 0).1 7)), .int (zI ((u2 0).1 8)), .int (zI ((u2 0).1 9)), .int (zI ((u2 0).1 10)), .ref (q 1), .int (zI ((u2 0).1 11)), .int (zI ((u2 0).1 12)), .ref (q 2), .ref (q 3), .ref (q 4), .ref (q 5), .ref (q 6), .ref (q 7), .ref (q 8), .ref (q 9), .ref (q 10), .ref (q 11), .ref (q 12), .ref (q 13), .ref (q 14), .ref (q 15), .ref (q 16), .int (zI ((u2 0).1 13)), .int (zI ((u2 0).1 14)), .int (zI ((u2 0).1 15)), .int (zI ((u2 0).1 16)), .int (zI ((u2 0).1 17)), .int (zI ((u2 0).1 18)), .ref (q 17), .ref (q 18), .ref (q 19), .ref (q 20)]))]) (fun _ => rfl) (fun  u2 H locs hp3 hP hD hS => ?_)
  have hf4 := hp3.1.1
  refine lv_aload_n hx hb dX9_burnt_4 rfl (lv_at hl 0 rfl) ?_
  refine r_get F hK hP 2 14 rfl rfl in_X9 (by decide) k_1177 rfl dX9_burnt_5 ?_
  refine rz_ifb_eq (tgt := 22) F (by omega) dX9_burnt_8 (by decide) (fun h8_4 => ?_) (fun h8_4 => ?_)
  · refine lv_aload_n hx hb dX9_burnt_22 rfl (lv_at hl 0 rfl) ?_
    refine lv_iconst (v := zI 1) hx hb dX9_burnt_23 rfl ?_
    refine r_callVi (As := [.int (zI 1)]) (rest := []) (wr := [((q 3), .inl (cI, 200, .inl (fun k => zI (g_now k)))), ((q 13), .inl (cI, 159, .inl (fun k => zI (g_st k))))]) F hK hP hD hS hA hO hE (c_X9_no hO y q ((u2 0).1) hp3.1 1 (by omega) (by omega)) k_1303 kv_X9_no 1 rfl (by decide +kernel) ⟨Nat.le_of_ble_eq_true rfl, Nat.le_of_ble_eq_true rfl⟩ [2] [0, 1] rfl rfl (by decide) (by decide) (by decide) 0 9 rfl rfl rfl hl.1 rfl (Nat.le_of_ble_eq_true rfl) dX9_burnt_24 ⟨Nat.le_of_ble_eq_true rfl, Nat.le_of_ble_eq_true rfl⟩ (w1 := fun u6 => [((q 3), .inl (cI, 200, .inl (fun k => zI (g_now k)))), ((q 13), .inl (cI, 159, .inl (fun k => zI (g_st k)))), (y, .inr (9, [.int (zI ((u6 0).1 0)), .ref (q 0), .int (zI ((u6 0).1 1)), .int (zI ((u6 0).1 2)), .int (zI ((u6 0).1 3)), .int (zI ((u6 0).1 4)), .int (zI ((u6 0).1 5)), .int (zI ((u6 0).1 6)), .int (zI ((u6 0).1 7)), .int (zI ((u6 0).1 8)), .int (zI ((u6 0).1 9)), .int (zI ((u6 0).1 10)), .ref (q 1), .int (zI ((u6 0).1 11)), .int (zI ((u6 0).1 12)), .ref (q 2), .ref (q 3), .ref (q 4), .ref (q 5), .ref (q 6), .ref (q 7), .ref (q 8), .ref (q 9), .ref (q 10), .ref (q 11), .ref (q 12), .ref (q 13), .ref (q 14), .ref (q 15), .ref (q 16), .int (zI ((u6 0).1 13)), .int (zI ((u6 0).1 14)), .int (zI ((u6 0).1 15)), .int (zI ((u6 0).1 16)), .int (zI ((u6 0).1 17)), .int (zI ((u6 0).1 18)), .ref (q 17), .ref (q 18), .ref (q 19), .ref (q 20)]))]) (fun _ => rfl) (fun r7 u6 H locs hp8 hP hD hS => ?_)
    obtain ⟨z9, rfl, h_z9⟩ := hp8
    have hf10 := h_z9.1.1
    exact ret (zI z9) (fun k => [((u6 0).1, fun _ _ => 0)].getD k (fun _ => 0, fun _ _ => 0)) _ _ _ _ _ _ rfl ⟨z9, rfl, h_z9.1, (show ((u6 0).1) 1 = i 1 ∧ ((u6 0).1) 8 = i 8 ∧ ((u6 0).1) 9 = i 9 ∧ ((u6 0).1) 12 = i 12 ∧ ((u6 0).1) 13 = i 13 ∧ ((u6 0).1) 15 = i 15 ∧ ((u6 0).1) 17 = i 17 ∧ ((u6 0).1) 10 ≠ 4 from by omega)⟩ (bw_subP (isC := [2, 0, 1]) hP rfl) (hD.sub [2, 0, 1] (by decide) rfl) hS (Nat.le_of_ble_eq_true rfl) (Nat.le_of_ble_eq_true rfl) dX9_burnt_27
  · refine lv_aload_n hx hb dX9_burnt_11 rfl (lv_at hl 0 rfl) ?_
    refine lv_aload_n hx hb dX9_burnt_12 rfl (lv_at hl 0 rfl) ?_
    refine r_get F hK hP 2 26 rfl rfl in_X9 (by decide) k_1189 rfl dX9_burnt_13 ?_
    refine r_callVi (As := [.ref (q 13)]) (rest := []) (wr := []) F hK hP hD hS hA hO hE (c_X9_burntIn hO y q ((u2 0).1) hp3.1 g_now (q 13) g_st hpn) k_1496 kv_X9_burntIn 1 rfl (by decide +kernel) ⟨Nat.le_of_ble_eq_true rfl, Nat.le_of_ble_eq_true rfl⟩ [2, 0, 1] [] rfl rfl (by decide) (by decide) (by decide) 0 9 rfl rfl rfl hl.1 rfl (Nat.le_of_ble_eq_true rfl) dX9_burnt_16 ⟨Nat.le_of_ble_eq_true rfl, Nat.le_of_ble_eq_true rfl⟩ (w1 := fun u11 => [(y, .inr (9, [.int (zI ((u2 0).1 0)), .ref (q 0), .int (zI ((u2 0).1 1)), .int (zI ((u2 0).1 2)), .int (zI ((u2 0).1 3)), .int (zI ((u2 0).1 4)), .int (zI ((u2 0).1 5)), .int (zI ((u2 0).1 6)), .int (zI ((u2 0).1 7)), .int (zI ((u2 0).1 8)), .int (zI ((u2 0).1 9)), .int (zI ((u2 0).1 10)), .ref (q 1), .int (zI ((u2 0).1 11)), .int (zI ((u2 0).1 12)), .ref (q 2), .ref (q 3), .ref (q 4), .ref (q 5), .ref (q 6), .ref (q 7), .ref (q 8), .ref (q 9), .ref (q 10), .ref (q 11), .ref (q 12), .ref (q 13), .ref (q 14), .ref (q 15), .ref (q 16), .int (zI ((u2 0).1 13)), .int (zI ((u2 0).1 14)), .int (zI ((u2 0).1 15)), .int (zI ((u2 0).1 16)), .int (zI ((u2 0).1 17)), .int (zI ((u2 0).1 18)), .ref (q 17), .ref (q 18), .ref (q 19), .ref (q 20)])), ((q 3), .inl (cI, 200, .inl (fun k => zI (g_now k)))), ((q 13), .inl (cI, 159, .inl (fun k => zI (g_st k))))]) (fun _ => rfl) (fun r12 u11 H locs hp13 hP hD hS => ?_)
    obtain ⟨z14, rfl, h_z14⟩ := hp13
    refine lv_goto (tgt := 27) hx hb dX9_burnt_19 (by decide) ?_
    exact ret (zI z14) (fun k => [((u2 0).1, fun _ _ => 0)].getD k (fun _ => 0, fun _ _ => 0)) _ _ _ _ _ _ rfl ⟨z14, rfl, hp3.1, (show ((u2 0).1) 1 = i 1 ∧ ((u2 0).1) 8 = i 8 ∧ ((u2 0).1) 9 = i 9 ∧ ((u2 0).1) 12 = i 12 ∧ ((u2 0).1) 13 = i 13 ∧ ((u2 0).1) 15 = i 15 ∧ ((u2 0).1) 17 = i 17 ∧ ((u2 0).1) 10 ≠ 4 from by omega)⟩ (bw_subP (isC := [0, 1, 2]) hP rfl) (hD.sub [0, 1, 2] (by decide) rfl) hS (Nat.le_of_ble_eq_true rfl) (Nat.le_of_ble_eq_true rfl) dX9_burnt_27
theorem dX9_path_0 : decode cX9_path 0 = .ok (.aload_n 0, 1) := bo_42 (by decide +kernel)
theorem dX9_path_1 : decode cX9_path 1 = .ok (.invokevirtual 197, 3) := bo_182 0 197 (by decide +kernel)
theorem dX9_path_4 : decode cX9_path 4 = .ok (.aload_n 0, 1) := bo_42 (by decide +kernel)
theorem dX9_path_5 : decode cX9_path 5 = .ok (.getfield 222, 3) := bo_180 0 222 (by decide +kernel)
theorem dX9_path_8 : decode cX9_path 8 = .ok (.ifCond .eq 34, 3) := bo_153 0 34 (by decide +kernel)
theorem dX9_path_42 : decode cX9_path 42 = .ok (.aload_n 0, 1) := bo_42 (by decide +kernel)
theorem dX9_path_43 : decode cX9_path 43 = .ok (.iconst 1, 1) := bo_4 (by decide +kernel)
theorem dX9_path_44 : decode cX9_path 44 = .ok (.invokevirtual 200, 3) := bo_182 0 200 (by decide +kernel)
theorem dX9_path_47 : decode cX9_path 47 = .ok (.ireturn, 1) := bo_172 (by decide +kernel)
theorem dX9_path_11 : decode cX9_path 11 = .ok (.iload_n 1, 1) := bo_27 (by decide +kernel)
theorem dX9_path_12 : decode cX9_path 12 = .ok (.iconst 0, 1) := bo_3 (by decide +kernel)
theorem dX9_path_13 : decode cX9_path 13 = .ok (.bipush 99, 2) := bo_16 99 (by decide +kernel)
theorem dX9_path_15 : decode cX9_path 15 = .ok (.aload_n 0, 1) := bo_42 (by decide +kernel)
theorem dX9_path_16 : decode cX9_path 16 = .ok (.getfield 53, 3) := bo_180 0 53 (by decide +kernel)
theorem dX9_path_19 : decode cX9_path 19 = .ok (.iconst 5, 1) := bo_8 (by decide +kernel)
theorem dX9_path_20 : decode cX9_path 20 = .ok (.iaload, 1) := bo_46 (by decide +kernel)
theorem dX9_path_21 : decode cX9_path 21 = .ok (.invokestatic 269, 3) := bo_184 1 13 (by decide +kernel)
theorem dX9_path_24 : decode cX9_path 24 = .ok (.invokestatic 146, 3) := bo_184 0 146 (by decide +kernel)
theorem dX9_path_27 : decode cX9_path 27 = .ok (.ifCond .eq 15, 3) := bo_153 0 15 (by decide +kernel)
theorem dX9_path_30 : decode cX9_path 30 = .ok (.aload_n 0, 1) := bo_42 (by decide +kernel)
theorem dX9_path_31 : decode cX9_path 31 = .ok (.getfield 53, 3) := bo_180 0 53 (by decide +kernel)
theorem dX9_path_34 : decode cX9_path 34 = .ok (.bipush 39, 2) := bo_16 39 (by decide +kernel)
theorem dX9_path_36 : decode cX9_path 36 = .ok (.iload_n 1, 1) := bo_27 (by decide +kernel)
theorem dX9_path_37 : decode cX9_path 37 = .ok (.iadd, 1) := bo_96 (by decide +kernel)
theorem dX9_path_38 : decode cX9_path 38 = .ok (.iaload, 1) := bo_46 (by decide +kernel)
theorem dX9_path_39 : decode cX9_path 39 = .ok (.goto 8, 3) := bo_167 0 8 (by decide +kernel)
abbrev rm_X9_path : Room := { frames := 1, cells := 0, slots := 0, locals := 22 }
set_option maxRecDepth 100000 in
set_option maxHeartbeats 8000000 in
theorem c_X9_path {l : Launch} {E : (Nat → Prop) → State → Prop} (hO : bw_Ok E) {G : va_G} {cI cB cJ cN cW : ClassId} (y : Nat) (q : Nat → Nat) (i : Nat → Int) (hM : ModOk i) (g_st : Nat → Int) (x : Int) (hx9 : zR x)  : bw_Ci (S := zV) l yX9_path (bw_ws (Cond.code yX9_path cX9_path 2 (some .int))) rm_X9_path E G (bw_kt cI cB cJ cN cW) [.ref y, .int (zI x)] [(y, .inr (9, [.int (zI (i 0)), .ref (q 0), .int (zI (i 1)), .int (zI (i 2)), .int (zI (i 3)), .int (zI (i 4)), .int (zI (i 5)), .int (zI (i 6)), .int (zI (i 7)), .int (zI (i 8)), .int (zI (i 9)), .int (zI (i 10)), .ref (q 1), .int (zI (i 11)), .int (zI (i 12)), .ref (q 2), .ref (q 3), .ref (q 4), .ref (q 5), .ref (q 6), .ref (q 7), .ref (q 8), .ref (q 9), .ref (q 10), .ref (q 11), .ref (q 12), .ref (q 13), .ref (q 14), .ref (q 15), .ref (q 16), .int (zI (i 13)), .int (zI (i 14)), .int (zI (i 15)), .int (zI (i 16)), .int (zI (i 17)), .int (zI (i 18)), .ref (q 17), .ref (q 18), .ref (q 19), .ref (q 20)])), ((q 13), .inl (cI, 159, .inl (fun k => zI (g_st k))))] (fun r u => ∃ z : Int, r = zI z ∧ (ModOk (u 0).1) ∧ (((u 0).1 1 = i 1 ∧ (u 0).1 8 = i 8 ∧ (u 0).1 9 = i 9 ∧ (u 0).1 12 = i 12 ∧ (u 0).1 13 = i 13 ∧ (u 0).1 15 = i 15 ∧ (u 0).1 17 = i 17 ∧ (u 0).1 10 ≠ 4))) (fun u => [(y, .inr (9, [.int (zI ((u 0).1 0)), .ref (q 0), .int (zI ((u 0).1 1)), .int (zI ((u 0).1 2)), .int (zI ((u 0).1 3)), .int (zI ((u 0).1 4)), .int (zI ((u 0).1 5)), .int (zI ((u 0).1 6)), .int (zI ((u 0).1 7)), .int (zI ((u 0).1 8)), .int (zI ((u 0).1 9)), .int (zI ((u 0).1 10)), .ref (q 1), .int (zI ((u 0).1 11)), .int (zI ((u 0).1 12)), .ref (q 2), .ref (q 3), .ref (q 4), .ref (q 5), .ref (q 6), .ref (q 7), .ref (q 8), .ref (q 9), .ref (q 10), .ref (q 11), .ref (q 12), .ref (q 13), .ref (q 14), .ref (q 15), .ref (q 16), .int (zI ((u 0).1 13)), .int (zI ((u 0).1 14)), .int (zI ((u 0).1 15)), .int (zI ((u 0).1 16)), .int (zI ((u 0).1 17)), .int (zI ((u 0).1 18)), .ref (q 17), .ref (q 18), .ref (q 19), .ref (q 20)])), ((q 13), .inl (cI, 159, .inl (fun k => zI (g_st k))))]) := by
  refine bw_Ci.of (cc := cX9_path) (maxL := 2) (ty := .int) (by decide) rfl (Nat.le_of_ble_eq_true rfl) ?_
  intro p e s m below meth c A Q hx hb hml hts hown hin hK hA hS hP hD hE ret ls hl
  have F : CallFix p m c cX9_path 2 s ([.ref y, .int (zI x)] : List Value).toArray bw_T RX9 := ⟨hx, hb, hml, hown, fun w h => hts w (List.mem_cons_of_mem _ h)⟩
  replace hl : lv_has ls 2 [(0, .ref y), (1, .int (zI x))] := hl
  have hf1 := hM.1
  refine lv_aload_n hx hb dX9_path_0 rfl (lv_at hl 0 rfl) ?_
  refine r_callVv (As := []) (rest := []) (wr := [((q 13), .inl (cI, 159, .inl (fun k => zI (g_st k))))]) F hK hP hD hS hA hO hE (c_X9_good hO y q i hM) k_1296 kv_X9_good 0 rfl (by decide +kernel) ⟨Nat.le_of_ble_eq_true rfl, Nat.le_of_ble_eq_true rfl⟩ [0] [1] rfl rfl (by decide) (by decide) (by decide) 0 9 rfl rfl rfl hl.1 rfl (Nat.le_of_ble_eq_true rfl) dX9_path_1 ⟨Nat.le_of_ble_eq_true rfl, Nat.le_of_ble_eq_true rfl⟩ (w1 := fun u2 => [((q 13), .inl (cI, 159, .inl (fun k => zI (g_st k)))), (y, .inr (9, [.int (zI ((u2 0).1 0)), .ref (q 0), .int (zI ((u2 0).1 1)), .int (zI ((u2 0).1 2)), .int (zI ((u2 0).1 3)), .int (zI ((u2 0).1 4)), .int (zI ((u2 0).1 5)), .int (zI ((u2 0).1 6)), .int (zI ((u2 0).1 7)), .int (zI ((u2 0).1 8)), .int (zI ((u2 0).1 9)), .int (zI ((u2 0).1 10)), .ref (q 1), .int (zI ((u2 0).1 11)), .int (zI ((u2 0).1 12)), .ref (q 2), .ref (q 3), .ref (q 4), .ref (q 5), .ref (q 6), .ref (q 7), .ref (q 8), .ref (q 9), .ref (q 10), .ref (q 11), .ref (q 12), .ref (q 13), .ref (q 14), .ref (q 15), .ref (q 16), .int (zI ((u2 0).1 13)), .int (zI ((u2 0).1 14)), .int (zI ((u2 0).1 15)), .int (zI ((u2 0).1 16)), .int (zI ((u2 0).1 17)), .int (zI ((u2 0).1 18)), .ref (q 17), .ref (q 18), .ref (q 19), .ref (q 20)]))]) (fun _ => rfl) (fun  u2 H locs hp3 hP hD hS => ?_)
  have hf4 := hp3.1.1
  refine lv_aload_n hx hb dX9_path_4 rfl (lv_at hl 0 rfl) ?_
  refine r_get F hK hP 1 14 rfl rfl in_X9 (by decide) k_1177 rfl dX9_path_5 ?_
  refine rz_ifb_eq (tgt := 42) F (by omega) dX9_path_8 (by decide) (fun h8_4 => ?_) (fun h8_4 => ?_)
  · refine lv_aload_n hx hb dX9_path_42 rfl (lv_at hl 0 rfl) ?_
    refine lv_iconst (v := zI 1) hx hb dX9_path_43 rfl ?_
    refine r_callVi (As := [.int (zI 1)]) (rest := []) (wr := [((q 13), .inl (cI, 159, .inl (fun k => zI (g_st k))))]) F hK hP hD hS hA hO hE (c_X9_no hO y q ((u2 0).1) hp3.1 1 (by omega) (by omega)) k_1303 kv_X9_no 1 rfl (by decide +kernel) ⟨Nat.le_of_ble_eq_true rfl, Nat.le_of_ble_eq_true rfl⟩ [1] [0] rfl rfl (by decide) (by decide) (by decide) 0 9 rfl rfl rfl hl.1 rfl (Nat.le_of_ble_eq_true rfl) dX9_path_44 ⟨Nat.le_of_ble_eq_true rfl, Nat.le_of_ble_eq_true rfl⟩ (w1 := fun u6 => [((q 13), .inl (cI, 159, .inl (fun k => zI (g_st k)))), (y, .inr (9, [.int (zI ((u6 0).1 0)), .ref (q 0), .int (zI ((u6 0).1 1)), .int (zI ((u6 0).1 2)), .int (zI ((u6 0).1 3)), .int (zI ((u6 0).1 4)), .int (zI ((u6 0).1 5)), .int (zI ((u6 0).1 6)), .int (zI ((u6 0).1 7)), .int (zI ((u6 0).1 8)), .int (zI ((u6 0).1 9)), .int (zI ((u6 0).1 10)), .ref (q 1), .int (zI ((u6 0).1 11)), .int (zI ((u6 0).1 12)), .ref (q 2), .ref (q 3), .ref (q 4), .ref (q 5), .ref (q 6), .ref (q 7), .ref (q 8), .ref (q 9), .ref (q 10), .ref (q 11), .ref (q 12), .ref (q 13), .ref (q 14), .ref (q 15), .ref (q 16), .int (zI ((u6 0).1 13)), .int (zI ((u6 0).1 14)), .int (zI ((u6 0).1 15)), .int (zI ((u6 0).1 16)), .int (zI ((u6 0).1 17)), .int (zI ((u6 0).1 18)), .ref (q 17), .ref (q 18), .ref (q 19), .ref (q 20)]))]) (fun _ => rfl) (fun r7 u6 H locs hp8 hP hD hS => ?_)
    obtain ⟨z9, rfl, h_z9⟩ := hp8
    have hf10 := h_z9.1.1
    exact ret (zI z9) (fun k => [((u6 0).1, fun _ _ => 0)].getD k (fun _ => 0, fun _ _ => 0)) _ _ _ _ _ _ rfl ⟨z9, rfl, h_z9.1, (show ((u6 0).1) 1 = i 1 ∧ ((u6 0).1) 8 = i 8 ∧ ((u6 0).1) 9 = i 9 ∧ ((u6 0).1) 12 = i 12 ∧ ((u6 0).1) 13 = i 13 ∧ ((u6 0).1) 15 = i 15 ∧ ((u6 0).1) 17 = i 17 ∧ ((u6 0).1) 10 ≠ 4 from by omega)⟩ (bw_subP (isC := [1, 0]) hP rfl) (hD.sub [1, 0] (by decide) rfl) hS (Nat.le_of_ble_eq_true rfl) (Nat.le_of_ble_eq_true rfl) dX9_path_47
  · refine lv_iload_n hx hb dX9_path_11 rfl (lv_at hl 1 rfl) ?_
    refine lv_iconst (v := zI 0) hx hb dX9_path_12 rfl ?_
    refine lv_bipush (v := zI 99) hx hb dX9_path_13 (by decide) ?_
    refine lv_aload_n hx hb dX9_path_15 rfl (lv_at hl 0 rfl) ?_
    refine r_get F hK hP 1 26 rfl rfl in_X9 (by decide) k_1189 rfl dX9_path_16 ?_
    refine lv_iconst (v := zI 5) hx hb dX9_path_19 rfl ?_
    refine rz_ialdN F hK hP 0 0 rfl rfl (by omega) (by omega) dX9_path_20 5 rfl ?_
    refine rz_top (fun z11 h_z11 => ?_)
    refine r_callSi (As := [.int (zI 99), .int (zI z11)]) (rest := [.int (zI 0), .int (zI x)]) (wr := [((q 13), .inl (cI, 159, .inl (fun k => zI (g_st k)))), (y, .inr (9, [.int (zI ((u2 0).1 0)), .ref (q 0), .int (zI ((u2 0).1 1)), .int (zI ((u2 0).1 2)), .int (zI ((u2 0).1 3)), .int (zI ((u2 0).1 4)), .int (zI ((u2 0).1 5)), .int (zI ((u2 0).1 6)), .int (zI ((u2 0).1 7)), .int (zI ((u2 0).1 8)), .int (zI ((u2 0).1 9)), .int (zI ((u2 0).1 10)), .ref (q 1), .int (zI ((u2 0).1 11)), .int (zI ((u2 0).1 12)), .ref (q 2), .ref (q 3), .ref (q 4), .ref (q 5), .ref (q 6), .ref (q 7), .ref (q 8), .ref (q 9), .ref (q 10), .ref (q 11), .ref (q 12), .ref (q 13), .ref (q 14), .ref (q 15), .ref (q 16), .int (zI ((u2 0).1 13)), .int (zI ((u2 0).1 14)), .int (zI ((u2 0).1 15)), .int (zI ((u2 0).1 16)), .int (zI ((u2 0).1 17)), .int (zI ((u2 0).1 18)), .ref (q 17), .ref (q 18), .ref (q 19), .ref (q 20)]))]) F hK hP hD hS hA hO hE (c_X9_less hO 99 z11 (by omega) (by omega)) k_1460 ks_X9_less 2 rfl (by decide +kernel) ⟨Nat.le_of_ble_eq_true rfl, Nat.le_of_ble_eq_true rfl⟩ [] [0, 1] rfl rfl (by decide) (by decide) (by decide) hl.1 rfl (Nat.le_of_ble_eq_true rfl) dX9_path_21 ⟨Nat.le_of_ble_eq_true rfl, Nat.le_of_ble_eq_true rfl⟩ (w1 := fun u12 => [((q 13), .inl (cI, 159, .inl (fun k => zI (g_st k)))), (y, .inr (9, [.int (zI ((u2 0).1 0)), .ref (q 0), .int (zI ((u2 0).1 1)), .int (zI ((u2 0).1 2)), .int (zI ((u2 0).1 3)), .int (zI ((u2 0).1 4)), .int (zI ((u2 0).1 5)), .int (zI ((u2 0).1 6)), .int (zI ((u2 0).1 7)), .int (zI ((u2 0).1 8)), .int (zI ((u2 0).1 9)), .int (zI ((u2 0).1 10)), .ref (q 1), .int (zI ((u2 0).1 11)), .int (zI ((u2 0).1 12)), .ref (q 2), .ref (q 3), .ref (q 4), .ref (q 5), .ref (q 6), .ref (q 7), .ref (q 8), .ref (q 9), .ref (q 10), .ref (q 11), .ref (q 12), .ref (q 13), .ref (q 14), .ref (q 15), .ref (q 16), .int (zI ((u2 0).1 13)), .int (zI ((u2 0).1 14)), .int (zI ((u2 0).1 15)), .int (zI ((u2 0).1 16)), .int (zI ((u2 0).1 17)), .int (zI ((u2 0).1 18)), .ref (q 17), .ref (q 18), .ref (q 19), .ref (q 20)]))]) (fun _ => rfl) (fun r13 u12 H locs hp14 hP hD hS => ?_)
    obtain ⟨z15, rfl, h_z15⟩ := hp14
    refine r_callSi (As := [.int (zI x), .int (zI 0), .int (zI z15)]) (rest := []) (wr := [((q 13), .inl (cI, 159, .inl (fun k => zI (g_st k)))), (y, .inr (9, [.int (zI ((u2 0).1 0)), .ref (q 0), .int (zI ((u2 0).1 1)), .int (zI ((u2 0).1 2)), .int (zI ((u2 0).1 3)), .int (zI ((u2 0).1 4)), .int (zI ((u2 0).1 5)), .int (zI ((u2 0).1 6)), .int (zI ((u2 0).1 7)), .int (zI ((u2 0).1 8)), .int (zI ((u2 0).1 9)), .int (zI ((u2 0).1 10)), .ref (q 1), .int (zI ((u2 0).1 11)), .int (zI ((u2 0).1 12)), .ref (q 2), .ref (q 3), .ref (q 4), .ref (q 5), .ref (q 6), .ref (q 7), .ref (q 8), .ref (q 9), .ref (q 10), .ref (q 11), .ref (q 12), .ref (q 13), .ref (q 14), .ref (q 15), .ref (q 16), .int (zI ((u2 0).1 13)), .int (zI ((u2 0).1 14)), .int (zI ((u2 0).1 15)), .int (zI ((u2 0).1 16)), .int (zI ((u2 0).1 17)), .int (zI ((u2 0).1 18)), .ref (q 17), .ref (q 18), .ref (q 19), .ref (q 20)]))]) F hK hP hD hS hA hO hE (c_X9_within hO x 0 z15 (by omega) (by omega) (by omega)) k_1300 ks_X9_within 3 rfl (by decide +kernel) ⟨Nat.le_of_ble_eq_true rfl, Nat.le_of_ble_eq_true rfl⟩ [] [0, 1] rfl rfl (by decide) (by decide) (by decide) hl.1 rfl (Nat.le_of_ble_eq_true rfl) dX9_path_24 ⟨Nat.le_of_ble_eq_true rfl, Nat.le_of_ble_eq_true rfl⟩ (w1 := fun u16 => [((q 13), .inl (cI, 159, .inl (fun k => zI (g_st k)))), (y, .inr (9, [.int (zI ((u2 0).1 0)), .ref (q 0), .int (zI ((u2 0).1 1)), .int (zI ((u2 0).1 2)), .int (zI ((u2 0).1 3)), .int (zI ((u2 0).1 4)), .int (zI ((u2 0).1 5)), .int (zI ((u2 0).1 6)), .int (zI ((u2 0).1 7)), .int (zI ((u2 0).1 8)), .int (zI ((u2 0).1 9)), .int (zI ((u2 0).1 10)), .ref (q 1), .int (zI ((u2 0).1 11)), .int (zI ((u2 0).1 12)), .ref (q 2), .ref (q 3), .ref (q 4), .ref (q 5), .ref (q 6), .ref (q 7), .ref (q 8), .ref (q 9), .ref (q 10), .ref (q 11), .ref (q 12), .ref (q 13), .ref (q 14), .ref (q 15), .ref (q 16), .int (zI ((u2 0).1 13)), .int (zI ((u2 0).1 14)), .int (zI ((u2 0).1 15)), .int (zI ((u2 0).1 16)), .int (zI ((u2 0).1 17)), .int (zI ((u2 0).1 18)), .ref (q 17), .ref (q 18), .ref (q 19), .ref (q 20)]))]) (fun _ => rfl) (fun r17 u16 H locs hp18 hP hD hS => ?_)
    obtain ⟨z19, rfl, h_z19⟩ := hp18
    refine rz_ifb_eq (tgt := 42) F (by omega) dX9_path_27 (by decide) (fun h27_19 => ?_) (fun h27_19 => ?_)
    · have hq21 := h_z19.2.2 (by omega)
      refine lv_aload_n hx hb dX9_path_42 rfl (lv_at hl 0 rfl) ?_
      refine lv_iconst (v := zI 1) hx hb dX9_path_43 rfl ?_
      refine r_callVi (As := [.int (zI 1)]) (rest := []) (wr := [((q 13), .inl (cI, 159, .inl (fun k => zI (g_st k))))]) F hK hP hD hS hA hO hE (c_X9_no hO y q ((u2 0).1) hp3.1 1 (by omega) (by omega)) k_1303 kv_X9_no 1 rfl (by decide +kernel) ⟨Nat.le_of_ble_eq_true rfl, Nat.le_of_ble_eq_true rfl⟩ [1] [0] rfl rfl (by decide) (by decide) (by decide) 0 9 rfl rfl rfl hl.1 rfl (Nat.le_of_ble_eq_true rfl) dX9_path_44 ⟨Nat.le_of_ble_eq_true rfl, Nat.le_of_ble_eq_true rfl⟩ (w1 := fun u22 => [((q 13), .inl (cI, 159, .inl (fun k => zI (g_st k)))), (y, .inr (9, [.int (zI ((u22 0).1 0)), .ref (q 0), .int (zI ((u22 0).1 1)), .int (zI ((u22 0).1 2)), .int (zI ((u22 0).1 3)), .int (zI ((u22 0).1 4)), .int (zI ((u22 0).1 5)), .int (zI ((u22 0).1 6)), .int (zI ((u22 0).1 7)), .int (zI ((u22 0).1 8)), .int (zI ((u22 0).1 9)), .int (zI ((u22 0).1 10)), .ref (q 1), .int (zI ((u22 0).1 11)), .int (zI ((u22 0).1 12)), .ref (q 2), .ref (q 3), .ref (q 4), .ref (q 5), .ref (q 6), .ref (q 7), .ref (q 8), .ref (q 9), .ref (q 10), .ref (q 11), .ref (q 12), .ref (q 13), .ref (q 14), .ref (q 15), .ref (q 16), .int (zI ((u22 0).1 13)), .int (zI ((u22 0).1 14)), .int (zI ((u22 0).1 15)), .int (zI ((u22 0).1 16)), .int (zI ((u22 0).1 17)), .int (zI ((u22 0).1 18)), .ref (q 17), .ref (q 18), .ref (q 19), .ref (q 20)]))]) (fun _ => rfl) (fun r23 u22 H locs hp24 hP hD hS => ?_)
      obtain ⟨z25, rfl, h_z25⟩ := hp24
      have hf26 := h_z25.1.1
      exact ret (zI z25) (fun k => [((u22 0).1, fun _ _ => 0)].getD k (fun _ => 0, fun _ _ => 0)) _ _ _ _ _ _ rfl ⟨z25, rfl, h_z25.1, (show ((u22 0).1) 1 = i 1 ∧ ((u22 0).1) 8 = i 8 ∧ ((u22 0).1) 9 = i 9 ∧ ((u22 0).1) 12 = i 12 ∧ ((u22 0).1) 13 = i 13 ∧ ((u22 0).1) 15 = i 15 ∧ ((u22 0).1) 17 = i 17 ∧ ((u22 0).1) 10 ≠ 4 from by omega)⟩ (bw_subP (isC := [1, 0]) hP rfl) (hD.sub [1, 0] (by decide) rfl) hS (Nat.le_of_ble_eq_true rfl) (Nat.le_of_ble_eq_true rfl) dX9_path_47
    · have hq27 := h_z19.2.1 (by omega)
      refine lv_aload_n hx hb dX9_path_30 rfl (lv_at hl 0 rfl) ?_
      refine r_get F hK hP 1 26 rfl rfl in_X9 (by decide) k_1189 rfl dX9_path_31 ?_
      refine lv_bipush (v := zI 39) hx hb dX9_path_34 (by decide) ?_
      refine lv_iload_n hx hb dX9_path_36 rfl (lv_at hl 1 rfl) ?_
      refine r_iadd (v := zI (39 + x)) F dX9_path_37 (zI_add _ _) ?_
      refine rz_iald F hK hP 0 0 rfl rfl (by omega) (by omega) dX9_path_38 ?_
      refine rz_top (fun z28 h_z28 => ?_)
      refine lv_goto (tgt := 47) hx hb dX9_path_39 (by decide) ?_
      exact ret (zI z28) (fun k => [((u2 0).1, fun _ _ => 0)].getD k (fun _ => 0, fun _ _ => 0)) _ _ _ _ _ _ rfl ⟨z28, rfl, hp3.1, (show ((u2 0).1) 1 = i 1 ∧ ((u2 0).1) 8 = i 8 ∧ ((u2 0).1) 9 = i 9 ∧ ((u2 0).1) 12 = i 12 ∧ ((u2 0).1) 13 = i 13 ∧ ((u2 0).1) 15 = i 15 ∧ ((u2 0).1) 17 = i 17 ∧ ((u2 0).1) 10 ≠ 4 from by omega)⟩ (bw_subP (isC := [1, 0]) hP rfl) (hD.sub [1, 0] (by decide) rfl) hS (Nat.le_of_ble_eq_true rfl) (Nat.le_of_ble_eq_true rfl) dX9_path_47
theorem dX9_answer_0 : decode cX9_answer 0 = .ok (.aload_n 0, 1) := bo_42 (by decide +kernel)
theorem dX9_answer_1 : decode cX9_answer 1 = .ok (.invokevirtual 197, 3) := bo_182 0 197 (by decide +kernel)
theorem dX9_answer_4 : decode cX9_answer 4 = .ok (.aload_n 0, 1) := bo_42 (by decide +kernel)
theorem dX9_answer_5 : decode cX9_answer 5 = .ok (.iload_n 1, 1) := bo_27 (by decide +kernel)
theorem dX9_answer_6 : decode cX9_answer 6 = .ok (.iload_n 2, 1) := bo_28 (by decide +kernel)
theorem dX9_answer_7 : decode cX9_answer 7 = .ok (.iload_n 3, 1) := bo_29 (by decide +kernel)
theorem dX9_answer_8 : decode cX9_answer 8 = .ok (.iload 4, 2) := bo_21 (by decide +kernel)
theorem dX9_answer_10 : decode cX9_answer 10 = .ok (.invokevirtual 287, 3) := bo_182 1 31 (by decide +kernel)
theorem dX9_answer_13 : decode cX9_answer 13 = .ok (.istore 5, 2) := bo_54 (by decide +kernel)
theorem dX9_answer_15 : decode cX9_answer 15 = .ok (.iload 5, 2) := bo_21 (by decide +kernel)
theorem dX9_answer_17 : decode cX9_answer 17 = .ok (.ifCond .eq 10, 3) := bo_153 0 10 (by decide +kernel)
theorem dX9_answer_27 : decode cX9_answer 27 = .ok (.aload_n 0, 1) := bo_42 (by decide +kernel)
theorem dX9_answer_28 : decode cX9_answer 28 = .ok (.getfield 23, 3) := bo_180 0 23 (by decide +kernel)
theorem dX9_answer_31 : decode cX9_answer 31 = .ok (.aload_n 0, 1) := bo_42 (by decide +kernel)
theorem dX9_answer_32 : decode cX9_answer 32 = .ok (.getfield 56, 3) := bo_180 0 56 (by decide +kernel)
theorem k_1190 : Cond.fieldLink RX9 56 "BurntWaysModel" "other" "[I" ∈ bw_T := bw_m 1190 (by decide +kernel) rfl
theorem dX9_answer_35 : decode cX9_answer 35 = .ok (.iload_n 1, 1) := bo_27 (by decide +kernel)
theorem dX9_answer_36 : decode cX9_answer 36 = .ok (.iload_n 2, 1) := bo_28 (by decide +kernel)
theorem dX9_answer_37 : decode cX9_answer 37 = .ok (.iload_n 3, 1) := bo_29 (by decide +kernel)
theorem dX9_answer_38 : decode cX9_answer 38 = .ok (.iload 4, 2) := bo_21 (by decide +kernel)
theorem dX9_answer_40 : decode cX9_answer 40 = .ok (.invokestatic 225, 3) := bo_184 0 225 (by decide +kernel)
theorem dX9_answer_43 : decode cX9_answer 43 = .ok (.aload_n 0, 1) := bo_42 (by decide +kernel)
theorem dX9_answer_44 : decode cX9_answer 44 = .ok (.getfield 23, 3) := bo_180 0 23 (by decide +kernel)
theorem dX9_answer_47 : decode cX9_answer 47 = .ok (.aload_n 0, 1) := bo_42 (by decide +kernel)
theorem dX9_answer_48 : decode cX9_answer 48 = .ok (.getfield 56, 3) := bo_180 0 56 (by decide +kernel)
theorem dX9_answer_51 : decode cX9_answer 51 = .ok (.invokestatic 294, 3) := bo_184 1 38 (by decide +kernel)
theorem dX9_answer_54 : decode cX9_answer 54 = .ok (.aload_n 0, 1) := bo_42 (by decide +kernel)
theorem dX9_answer_55 : decode cX9_answer 55 = .ok (.getfield 56, 3) := bo_180 0 56 (by decide +kernel)
theorem dX9_answer_58 : decode cX9_answer 58 = .ok (.bipush 6, 2) := bo_16 6 (by decide +kernel)
theorem dX9_answer_60 : decode cX9_answer 60 = .ok (.iaload, 1) := bo_46 (by decide +kernel)
theorem dX9_answer_61 : decode cX9_answer 61 = .ok (.iconst 1, 1) := bo_4 (by decide +kernel)
theorem dX9_answer_62 : decode cX9_answer 62 = .ok (.if_icmp .ne 12, 3) := bo_160 0 12 (by decide +kernel)
theorem dX9_answer_74 : decode cX9_answer 74 = .ok (.aload_n 0, 1) := bo_42 (by decide +kernel)
theorem dX9_answer_75 : decode cX9_answer 75 = .ok (.iconst 5, 1) := bo_8 (by decide +kernel)
theorem dX9_answer_76 : decode cX9_answer 76 = .ok (.invokevirtual 200, 3) := bo_182 0 200 (by decide +kernel)
theorem dX9_answer_79 : decode cX9_answer 79 = .ok (.ireturn, 1) := bo_172 (by decide +kernel)
theorem dX9_answer_65 : decode cX9_answer 65 = .ok (.aload_n 0, 1) := bo_42 (by decide +kernel)
theorem dX9_answer_66 : decode cX9_answer 66 = .ok (.getfield 56, 3) := bo_180 0 56 (by decide +kernel)
theorem dX9_answer_69 : decode cX9_answer 69 = .ok (.iconst 0, 1) := bo_3 (by decide +kernel)
theorem dX9_answer_70 : decode cX9_answer 70 = .ok (.iaload, 1) := bo_46 (by decide +kernel)
theorem dX9_answer_71 : decode cX9_answer 71 = .ok (.goto 8, 3) := bo_167 0 8 (by decide +kernel)
theorem dX9_answer_20 : decode cX9_answer 20 = .ok (.aload_n 0, 1) := bo_42 (by decide +kernel)
theorem dX9_answer_21 : decode cX9_answer 21 = .ok (.iload 5, 2) := bo_21 (by decide +kernel)
theorem dX9_answer_23 : decode cX9_answer 23 = .ok (.invokevirtual 200, 3) := bo_182 0 200 (by decide +kernel)
theorem dX9_answer_26 : decode cX9_answer 26 = .ok (.ireturn, 1) := bo_172 (by decide +kernel)
abbrev rm_X9_answer : Room := { frames := 4, cells := 0, slots := 0, locals := 93 }
set_option maxRecDepth 100000 in
set_option maxHeartbeats 8000000 in
theorem c_X9_answer {l : Launch} {E : (Nat → Prop) → State → Prop} (hO : bw_Ok E) {G : va_G} {cI cB cJ cN cW : ClassId} (y : Nat) (q : Nat → Nat) (i : Nat → Int) (hM : ModOk i) (g_now : Nat → Int) (g_other : Nat → Int) (x0 : Int) (x1 : Int) (x2 : Int) (x3 : Int) (hx09 : zR x0) (hx19 : zR x1) (hx29 : zR x2) (hx39 : zR x3) (hpn : ProgOk g_now) : bw_Ci (S := zV) l yX9_answer (bw_ws (Cond.code yX9_answer cX9_answer 6 (some .int))) rm_X9_answer E G (bw_kt cI cB cJ cN cW) [.ref y, .int (zI x0), .int (zI x1), .int (zI x2), .int (zI x3)] [(y, .inr (9, [.int (zI (i 0)), .ref (q 0), .int (zI (i 1)), .int (zI (i 2)), .int (zI (i 3)), .int (zI (i 4)), .int (zI (i 5)), .int (zI (i 6)), .int (zI (i 7)), .int (zI (i 8)), .int (zI (i 9)), .int (zI (i 10)), .ref (q 1), .int (zI (i 11)), .int (zI (i 12)), .ref (q 2), .ref (q 3), .ref (q 4), .ref (q 5), .ref (q 6), .ref (q 7), .ref (q 8), .ref (q 9), .ref (q 10), .ref (q 11), .ref (q 12), .ref (q 13), .ref (q 14), .ref (q 15), .ref (q 16), .int (zI (i 13)), .int (zI (i 14)), .int (zI (i 15)), .int (zI (i 16)), .int (zI (i 17)), .int (zI (i 18)), .ref (q 17), .ref (q 18), .ref (q 19), .ref (q 20)])), ((q 3), .inl (cI, 200, .inl (fun k => zI (g_now k)))), ((q 14), .inl (cI, 159, .inl (fun k => zI (g_other k))))] (fun r u => ∃ z : Int, r = zI z ∧ (ModOk (u 0).1) ∧ (((u 0).1 1 = i 1 ∧ (u 0).1 8 = i 8 ∧ (u 0).1 9 = i 9 ∧ (u 0).1 12 = i 12 ∧ (u 0).1 13 = i 13 ∧ (u 0).1 15 = i 15 ∧ (u 0).1 17 = i 17 ∧ (u 0).1 10 ≠ 4))) (fun u => [(y, .inr (9, [.int (zI ((u 0).1 0)), .ref (q 0), .int (zI ((u 0).1 1)), .int (zI ((u 0).1 2)), .int (zI ((u 0).1 3)), .int (zI ((u 0).1 4)), .int (zI ((u 0).1 5)), .int (zI ((u 0).1 6)), .int (zI ((u 0).1 7)), .int (zI ((u 0).1 8)), .int (zI ((u 0).1 9)), .int (zI ((u 0).1 10)), .ref (q 1), .int (zI ((u 0).1 11)), .int (zI ((u 0).1 12)), .ref (q 2), .ref (q 3), .ref (q 4), .ref (q 5), .ref (q 6), .ref (q 7), .ref (q 8), .ref (q 9), .ref (q 10), .ref (q 11), .ref (q 12), .ref (q 13), .ref (q 14), .ref (q 15), .ref (q 16), .int (zI ((u 0).1 13)), .int (zI ((u 0).1 14)), .int (zI ((u 0).1 15)), .int (zI ((u 0).1 16)), .int (zI ((u 0).1 17)), .int (zI ((u 0).1 18)), .ref (q 17), .ref (q 18), .ref (q 19), .ref (q 20)])), ((q 3), .inl (cI, 200, .inl (fun k => zI (g_now k)))), ((q 14), .inl (cI, 159, .inl (fun k => zI (((u 1).2 0) k))))]) := by
  refine bw_Ci.of (cc := cX9_answer) (maxL := 6) (ty := .int) (by decide) rfl (Nat.le_of_ble_eq_true rfl) ?_
  intro p e s m below meth c A Q hx hb hml hts hown hin hK hA hS hP hD hE ret ls hl
  have F : CallFix p m c cX9_answer 6 s ([.ref y, .int (zI x0), .int (zI x1), .int (zI x2), .int (zI x3)] : List Value).toArray bw_T RX9 := ⟨hx, hb, hml, hown, fun w h => hts w (List.mem_cons_of_mem _ h)⟩
  replace hl : lv_has ls 6 [(0, .ref y), (1, .int (zI x0)), (2, .int (zI x1)), (3, .int (zI x2)), (4, .int (zI x3))] := hl
  have hf1 := hM.1
  refine lv_aload_n hx hb dX9_answer_0 rfl (lv_at hl 0 rfl) ?_
  refine r_callVv (As := []) (rest := []) (wr := [((q 3), .inl (cI, 200, .inl (fun k => zI (g_now k)))), ((q 14), .inl (cI, 159, .inl (fun k => zI (g_other k))))]) F hK hP hD hS hA hO hE (c_X9_good hO y q i hM) k_1296 kv_X9_good 0 rfl (by decide +kernel) ⟨Nat.le_of_ble_eq_true rfl, Nat.le_of_ble_eq_true rfl⟩ [0] [1, 2] rfl rfl (by decide) (by decide) (by decide) 0 9 rfl rfl rfl hl.1 rfl (Nat.le_of_ble_eq_true rfl) dX9_answer_1 ⟨Nat.le_of_ble_eq_true rfl, Nat.le_of_ble_eq_true rfl⟩ (w1 := fun u2 => [((q 3), .inl (cI, 200, .inl (fun k => zI (g_now k)))), ((q 14), .inl (cI, 159, .inl (fun k => zI (g_other k)))), (y, .inr (9, [.int (zI ((u2 0).1 0)), .ref (q 0), .int (zI ((u2 0).1 1)), .int (zI ((u2 0).1 2)), .int (zI ((u2 0).1 3)), .int (zI ((u2 0).1 4)), .int (zI ((u2 0).1 5)), .int (zI ((u2 0).1 6)), .int (zI ((u2 0).1 7)), .int (zI ((u2 0).1 8)), .int (zI ((u2 0).1 9)), .int (zI ((u2 0).1 10)), .ref (q 1), .int (zI ((u2 0).1 11)), .int (zI ((u2 0).1 12)), .ref (q 2), .ref (q 3), .ref (q 4), .ref (q 5), .ref (q 6), .ref (q 7), .ref (q 8), .ref (q 9), .ref (q 10), .ref (q 11), .ref (q 12), .ref (q 13), .ref (q 14), .ref (q 15), .ref (q 16), .int (zI ((u2 0).1 13)), .int (zI ((u2 0).1 14)), .int (zI ((u2 0).1 15)), .int (zI ((u2 0).1 16)), .int (zI ((u2 0).1 17)), .int (zI ((u2 0).1 18)), .ref (q 17), .ref (q 18), .ref (q 19), .ref (q 20)]))]) (fun _ => rfl) (fun  u2 H locs hp3 hP hD hS => ?_)
  have hf4 := hp3.1.1
  refine lv_aload_n hx hb dX9_answer_4 rfl (lv_at hl 0 rfl) ?_
  refine lv_iload_n hx hb dX9_answer_5 rfl (lv_at hl 1 rfl) ?_
  refine lv_iload_n hx hb dX9_answer_6 rfl (lv_at hl 2 rfl) ?_
  refine lv_iload_n hx hb dX9_answer_7 rfl (lv_at hl 3 rfl) ?_
  refine lv_iload hx hb dX9_answer_8 (lv_at hl 4 rfl) ?_
  refine r_callVi (As := [.int (zI x0), .int (zI x1), .int (zI x2), .int (zI x3)]) (rest := []) (wr := [((q 3), .inl (cI, 200, .inl (fun k => zI (g_now k)))), ((q 14), .inl (cI, 159, .inl (fun k => zI (g_other k))))]) F hK hP hD hS hA hO hE (c_X9_countsWhy hO y q ((u2 0).1) hp3.1 x0 x1 x2 x3 (by omega) (by omega) (by omega) (by omega)) k_1439 kv_X9_countsWhy 4 rfl (by decide +kernel) ⟨Nat.le_of_ble_eq_true rfl, Nat.le_of_ble_eq_true rfl⟩ [2] [0, 1] rfl rfl (by decide) (by decide) (by decide) 0 9 rfl rfl rfl hl.1 rfl (Nat.le_of_ble_eq_true rfl) dX9_answer_10 ⟨Nat.le_of_ble_eq_true rfl, Nat.le_of_ble_eq_true rfl⟩ (w1 := fun u5 => [((q 3), .inl (cI, 200, .inl (fun k => zI (g_now k)))), ((q 14), .inl (cI, 159, .inl (fun k => zI (g_other k)))), (y, .inr (9, [.int (zI ((u2 0).1 0)), .ref (q 0), .int (zI ((u2 0).1 1)), .int (zI ((u2 0).1 2)), .int (zI ((u2 0).1 3)), .int (zI ((u2 0).1 4)), .int (zI ((u2 0).1 5)), .int (zI ((u2 0).1 6)), .int (zI ((u2 0).1 7)), .int (zI ((u2 0).1 8)), .int (zI ((u2 0).1 9)), .int (zI ((u2 0).1 10)), .ref (q 1), .int (zI ((u2 0).1 11)), .int (zI ((u2 0).1 12)), .ref (q 2), .ref (q 3), .ref (q 4), .ref (q 5), .ref (q 6), .ref (q 7), .ref (q 8), .ref (q 9), .ref (q 10), .ref (q 11), .ref (q 12), .ref (q 13), .ref (q 14), .ref (q 15), .ref (q 16), .int (zI ((u2 0).1 13)), .int (zI ((u2 0).1 14)), .int (zI ((u2 0).1 15)), .int (zI ((u2 0).1 16)), .int (zI ((u2 0).1 17)), .int (zI ((u2 0).1 18)), .ref (q 17), .ref (q 18), .ref (q 19), .ref (q 20)]))]) (fun _ => rfl) (fun r6 u5 H locs hp7 hP hD hS => ?_)
  obtain ⟨z8, rfl, h_z8⟩ := hp7
  refine lv_istore (lv' := [(5, .int (zI z8)), (0, .ref y), (1, .int (zI x0)), (2, .int (zI x1)), (3, .int (zI x2)), (4, .int (zI x3))]) hx hb dX9_answer_13 hl (by decide) rfl (fun ls hl => ?_)
  refine lv_iload hx hb dX9_answer_15 (lv_at hl 0 rfl) ?_
  refine rz_if_eq (tgt := 27) F (by omega) dX9_answer_17 (by decide) (fun h17_8 => ?_) (fun h17_8 => ?_)
  · have hq10 := h_z8.2.1 (by omega)
    refine lv_aload_n hx hb dX9_answer_27 rfl (lv_at hl 1 rfl) ?_
    refine r_get F hK hP 2 16 rfl rfl in_X9 (by decide) k_1179 rfl dX9_answer_28 ?_
    refine lv_aload_n hx hb dX9_answer_31 rfl (lv_at hl 1 rfl) ?_
    refine r_get F hK hP 2 27 rfl rfl in_X9 (by decide) k_1190 rfl dX9_answer_32 ?_
    refine lv_iload_n hx hb dX9_answer_35 rfl (lv_at hl 2 rfl) ?_
    refine lv_iload_n hx hb dX9_answer_36 rfl (lv_at hl 3 rfl) ?_
    refine lv_iload_n hx hb dX9_answer_37 rfl (lv_at hl 4 rfl) ?_
    refine lv_iload hx hb dX9_answer_38 (lv_at hl 5 rfl) ?_
    refine r_callZv (As := [.ref (q 3), .ref (q 14), .int (zI x0), .int (zI x1), .int (zI x2), .int (zI x3)]) (rest := []) (wr := [(y, .inr (9, [.int (zI ((u2 0).1 0)), .ref (q 0), .int (zI ((u2 0).1 1)), .int (zI ((u2 0).1 2)), .int (zI ((u2 0).1 3)), .int (zI ((u2 0).1 4)), .int (zI ((u2 0).1 5)), .int (zI ((u2 0).1 6)), .int (zI ((u2 0).1 7)), .int (zI ((u2 0).1 8)), .int (zI ((u2 0).1 9)), .int (zI ((u2 0).1 10)), .ref (q 1), .int (zI ((u2 0).1 11)), .int (zI ((u2 0).1 12)), .ref (q 2), .ref (q 3), .ref (q 4), .ref (q 5), .ref (q 6), .ref (q 7), .ref (q 8), .ref (q 9), .ref (q 10), .ref (q 11), .ref (q 12), .ref (q 13), .ref (q 14), .ref (q 15), .ref (q 16), .int (zI ((u2 0).1 13)), .int (zI ((u2 0).1 14)), .int (zI ((u2 0).1 15)), .int (zI ((u2 0).1 16)), .int (zI ((u2 0).1 17)), .int (zI ((u2 0).1 18)), .ref (q 17), .ref (q 18), .ref (q 19), .ref (q 20)]))]) F hK hP hD hS hA hO hE (c_X9_begins hO (q 3) g_now (q 14) g_other x0 x1 x2 x3 (by omega) (by omega) (by omega) (by omega) hpn (by omega) (by omega) (by omega) (by omega)) k_1421 ks_X9_begins 6 rfl (by decide +kernel) ⟨Nat.le_of_ble_eq_true rfl, Nat.le_of_ble_eq_true rfl⟩ [0, 1] [2] rfl rfl (by decide) (by decide) (by decide) hl.1 rfl (Nat.le_of_ble_eq_true rfl) dX9_answer_40 ⟨Nat.le_of_ble_eq_true rfl, Nat.le_of_ble_eq_true rfl⟩ (w1 := fun u11 => [(y, .inr (9, [.int (zI ((u2 0).1 0)), .ref (q 0), .int (zI ((u2 0).1 1)), .int (zI ((u2 0).1 2)), .int (zI ((u2 0).1 3)), .int (zI ((u2 0).1 4)), .int (zI ((u2 0).1 5)), .int (zI ((u2 0).1 6)), .int (zI ((u2 0).1 7)), .int (zI ((u2 0).1 8)), .int (zI ((u2 0).1 9)), .int (zI ((u2 0).1 10)), .ref (q 1), .int (zI ((u2 0).1 11)), .int (zI ((u2 0).1 12)), .ref (q 2), .ref (q 3), .ref (q 4), .ref (q 5), .ref (q 6), .ref (q 7), .ref (q 8), .ref (q 9), .ref (q 10), .ref (q 11), .ref (q 12), .ref (q 13), .ref (q 14), .ref (q 15), .ref (q 16), .int (zI ((u2 0).1 13)), .int (zI ((u2 0).1 14)), .int (zI ((u2 0).1 15)), .int (zI ((u2 0).1 16)), .int (zI ((u2 0).1 17)), .int (zI ((u2 0).1 18)), .ref (q 17), .ref (q 18), .ref (q 19), .ref (q 20)])), ((q 3), .inl (cI, 200, .inl (fun k => zI (g_now k)))), ((q 14), .inl (cI, 159, .inl (fun k => zI (((u11 1).2 0) k))))]) (fun _ => rfl) (fun  u11 H locs hp12 hP hD hS => ?_)
    refine lv_aload_n hx hb dX9_answer_43 rfl (lv_at hl 1 rfl) ?_
    refine r_get F hK hP 0 16 rfl rfl in_X9 (by decide) k_1179 rfl dX9_answer_44 ?_
    refine lv_aload_n hx hb dX9_answer_47 rfl (lv_at hl 1 rfl) ?_
    refine r_get F hK hP 0 27 rfl rfl in_X9 (by decide) k_1190 rfl dX9_answer_48 ?_
    refine r_callZv (As := [.ref (q 3), .ref (q 14)]) (rest := []) (wr := [(y, .inr (9, [.int (zI ((u2 0).1 0)), .ref (q 0), .int (zI ((u2 0).1 1)), .int (zI ((u2 0).1 2)), .int (zI ((u2 0).1 3)), .int (zI ((u2 0).1 4)), .int (zI ((u2 0).1 5)), .int (zI ((u2 0).1 6)), .int (zI ((u2 0).1 7)), .int (zI ((u2 0).1 8)), .int (zI ((u2 0).1 9)), .int (zI ((u2 0).1 10)), .ref (q 1), .int (zI ((u2 0).1 11)), .int (zI ((u2 0).1 12)), .ref (q 2), .ref (q 3), .ref (q 4), .ref (q 5), .ref (q 6), .ref (q 7), .ref (q 8), .ref (q 9), .ref (q 10), .ref (q 11), .ref (q 12), .ref (q 13), .ref (q 14), .ref (q 15), .ref (q 16), .int (zI ((u2 0).1 13)), .int (zI ((u2 0).1 14)), .int (zI ((u2 0).1 15)), .int (zI ((u2 0).1 16)), .int (zI ((u2 0).1 17)), .int (zI ((u2 0).1 18)), .ref (q 17), .ref (q 18), .ref (q 19), .ref (q 20)]))]) F hK hP hD hS hA hO hE (c_X9_runs hO (q 3) g_now (q 14) ((u11 1).2 0) hpn hp12) k_1470 ks_X9_runs 2 rfl (by decide +kernel) ⟨Nat.le_of_ble_eq_true rfl, Nat.le_of_ble_eq_true rfl⟩ [1, 2] [0] rfl rfl (by decide) (by decide) (by decide) hl.1 rfl (Nat.le_of_ble_eq_true rfl) dX9_answer_51 ⟨Nat.le_of_ble_eq_true rfl, Nat.le_of_ble_eq_true rfl⟩ (w1 := fun u13 => [(y, .inr (9, [.int (zI ((u2 0).1 0)), .ref (q 0), .int (zI ((u2 0).1 1)), .int (zI ((u2 0).1 2)), .int (zI ((u2 0).1 3)), .int (zI ((u2 0).1 4)), .int (zI ((u2 0).1 5)), .int (zI ((u2 0).1 6)), .int (zI ((u2 0).1 7)), .int (zI ((u2 0).1 8)), .int (zI ((u2 0).1 9)), .int (zI ((u2 0).1 10)), .ref (q 1), .int (zI ((u2 0).1 11)), .int (zI ((u2 0).1 12)), .ref (q 2), .ref (q 3), .ref (q 4), .ref (q 5), .ref (q 6), .ref (q 7), .ref (q 8), .ref (q 9), .ref (q 10), .ref (q 11), .ref (q 12), .ref (q 13), .ref (q 14), .ref (q 15), .ref (q 16), .int (zI ((u2 0).1 13)), .int (zI ((u2 0).1 14)), .int (zI ((u2 0).1 15)), .int (zI ((u2 0).1 16)), .int (zI ((u2 0).1 17)), .int (zI ((u2 0).1 18)), .ref (q 17), .ref (q 18), .ref (q 19), .ref (q 20)])), ((q 3), .inl (cI, 200, .inl (fun k => zI (g_now k)))), ((q 14), .inl (cI, 159, .inl (fun k => zI (((u13 1).2 0) k))))]) (fun _ => rfl) (fun  u13 H locs hp14 hP hD hS => ?_)
    refine lv_aload_n hx hb dX9_answer_54 rfl (lv_at hl 1 rfl) ?_
    refine r_get F hK hP 0 27 rfl rfl in_X9 (by decide) k_1190 rfl dX9_answer_55 ?_
    refine lv_bipush (v := zI 6) hx hb dX9_answer_58 (by decide) ?_
    refine rz_ialdN F hK hP 2 0 rfl rfl (by omega) (by omega) dX9_answer_60 6 rfl ?_
    refine rz_top (fun z15 h_z15 => ?_)
    refine lv_iconst (v := zI 1) hx hb dX9_answer_61 rfl ?_
    refine rz_icmp_ne (tgt := 74) F (by omega) (by omega) dX9_answer_62 (by decide) (fun h62_15 => ?_) (fun h62_15 => ?_)
    · refine lv_aload_n hx hb dX9_answer_74 rfl (lv_at hl 1 rfl) ?_
      refine lv_iconst (v := zI 5) hx hb dX9_answer_75 rfl ?_
      refine r_callVi (As := [.int (zI 5)]) (rest := []) (wr := [((q 3), .inl (cI, 200, .inl (fun k => zI (g_now k)))), ((q 14), .inl (cI, 159, .inl (fun k => zI (((u13 1).2 0) k))))]) F hK hP hD hS hA hO hE (c_X9_no hO y q ((u2 0).1) hp3.1 5 (by omega) (by omega)) k_1303 kv_X9_no 1 rfl (by decide +kernel) ⟨Nat.le_of_ble_eq_true rfl, Nat.le_of_ble_eq_true rfl⟩ [0] [1, 2] rfl rfl (by decide) (by decide) (by decide) 0 9 rfl rfl rfl hl.1 rfl (Nat.le_of_ble_eq_true rfl) dX9_answer_76 ⟨Nat.le_of_ble_eq_true rfl, Nat.le_of_ble_eq_true rfl⟩ (w1 := fun u17 => [((q 3), .inl (cI, 200, .inl (fun k => zI (g_now k)))), ((q 14), .inl (cI, 159, .inl (fun k => zI (((u13 1).2 0) k)))), (y, .inr (9, [.int (zI ((u17 0).1 0)), .ref (q 0), .int (zI ((u17 0).1 1)), .int (zI ((u17 0).1 2)), .int (zI ((u17 0).1 3)), .int (zI ((u17 0).1 4)), .int (zI ((u17 0).1 5)), .int (zI ((u17 0).1 6)), .int (zI ((u17 0).1 7)), .int (zI ((u17 0).1 8)), .int (zI ((u17 0).1 9)), .int (zI ((u17 0).1 10)), .ref (q 1), .int (zI ((u17 0).1 11)), .int (zI ((u17 0).1 12)), .ref (q 2), .ref (q 3), .ref (q 4), .ref (q 5), .ref (q 6), .ref (q 7), .ref (q 8), .ref (q 9), .ref (q 10), .ref (q 11), .ref (q 12), .ref (q 13), .ref (q 14), .ref (q 15), .ref (q 16), .int (zI ((u17 0).1 13)), .int (zI ((u17 0).1 14)), .int (zI ((u17 0).1 15)), .int (zI ((u17 0).1 16)), .int (zI ((u17 0).1 17)), .int (zI ((u17 0).1 18)), .ref (q 17), .ref (q 18), .ref (q 19), .ref (q 20)]))]) (fun _ => rfl) (fun r18 u17 H locs hp19 hP hD hS => ?_)
      obtain ⟨z20, rfl, h_z20⟩ := hp19
      have hf21 := h_z20.1.1
      exact ret (zI z20) (fun k => [((u17 0).1, fun _ _ => 0), (fun _ => 0, fun _ => ((u13 1).2 0))].getD k (fun _ => 0, fun _ _ => 0)) _ _ _ _ _ _ rfl ⟨z20, rfl, h_z20.1, (show ((u17 0).1) 1 = i 1 ∧ ((u17 0).1) 8 = i 8 ∧ ((u17 0).1) 9 = i 9 ∧ ((u17 0).1) 12 = i 12 ∧ ((u17 0).1) 13 = i 13 ∧ ((u17 0).1) 15 = i 15 ∧ ((u17 0).1) 17 = i 17 ∧ ((u17 0).1) 10 ≠ 4 from by omega)⟩ (bw_subP (isC := [2, 0, 1]) hP rfl) (hD.sub [2, 0, 1] (by decide) rfl) hS (Nat.le_of_ble_eq_true rfl) (Nat.le_of_ble_eq_true rfl) dX9_answer_79
    · refine lv_aload_n hx hb dX9_answer_65 rfl (lv_at hl 1 rfl) ?_
      refine r_get F hK hP 0 27 rfl rfl in_X9 (by decide) k_1190 rfl dX9_answer_66 ?_
      refine lv_iconst (v := zI 0) hx hb dX9_answer_69 rfl ?_
      refine rz_ialdN F hK hP 2 0 rfl rfl (by omega) (by omega) dX9_answer_70 0 rfl ?_
      refine rz_top (fun z22 h_z22 => ?_)
      refine lv_goto (tgt := 79) hx hb dX9_answer_71 (by decide) ?_
      exact ret (zI z22) (fun k => [((u2 0).1, fun _ _ => 0), (fun _ => 0, fun _ => ((u13 1).2 0))].getD k (fun _ => 0, fun _ _ => 0)) _ _ _ _ _ _ rfl ⟨z22, rfl, hp3.1, (show ((u2 0).1) 1 = i 1 ∧ ((u2 0).1) 8 = i 8 ∧ ((u2 0).1) 9 = i 9 ∧ ((u2 0).1) 12 = i 12 ∧ ((u2 0).1) 13 = i 13 ∧ ((u2 0).1) 15 = i 15 ∧ ((u2 0).1) 17 = i 17 ∧ ((u2 0).1) 10 ≠ 4 from by omega)⟩ (bw_subP (isC := [0, 1, 2]) hP rfl) (hD.sub [0, 1, 2] (by decide) rfl) hS (Nat.le_of_ble_eq_true rfl) (Nat.le_of_ble_eq_true rfl) dX9_answer_79
  · refine lv_aload_n hx hb dX9_answer_20 rfl (lv_at hl 1 rfl) ?_
    refine lv_iload hx hb dX9_answer_21 (lv_at hl 0 rfl) ?_
    refine r_callVi (As := [.int (zI z8)]) (rest := []) (wr := [((q 3), .inl (cI, 200, .inl (fun k => zI (g_now k)))), ((q 14), .inl (cI, 159, .inl (fun k => zI (g_other k))))]) F hK hP hD hS hA hO hE (c_X9_no hO y q ((u2 0).1) hp3.1 z8 (by omega) (by omega)) k_1303 kv_X9_no 1 rfl (by decide +kernel) ⟨Nat.le_of_ble_eq_true rfl, Nat.le_of_ble_eq_true rfl⟩ [2] [0, 1] rfl rfl (by decide) (by decide) (by decide) 0 9 rfl rfl rfl hl.1 rfl (Nat.le_of_ble_eq_true rfl) dX9_answer_23 ⟨Nat.le_of_ble_eq_true rfl, Nat.le_of_ble_eq_true rfl⟩ (w1 := fun u23 => [((q 3), .inl (cI, 200, .inl (fun k => zI (g_now k)))), ((q 14), .inl (cI, 159, .inl (fun k => zI (g_other k)))), (y, .inr (9, [.int (zI ((u23 0).1 0)), .ref (q 0), .int (zI ((u23 0).1 1)), .int (zI ((u23 0).1 2)), .int (zI ((u23 0).1 3)), .int (zI ((u23 0).1 4)), .int (zI ((u23 0).1 5)), .int (zI ((u23 0).1 6)), .int (zI ((u23 0).1 7)), .int (zI ((u23 0).1 8)), .int (zI ((u23 0).1 9)), .int (zI ((u23 0).1 10)), .ref (q 1), .int (zI ((u23 0).1 11)), .int (zI ((u23 0).1 12)), .ref (q 2), .ref (q 3), .ref (q 4), .ref (q 5), .ref (q 6), .ref (q 7), .ref (q 8), .ref (q 9), .ref (q 10), .ref (q 11), .ref (q 12), .ref (q 13), .ref (q 14), .ref (q 15), .ref (q 16), .int (zI ((u23 0).1 13)), .int (zI ((u23 0).1 14)), .int (zI ((u23 0).1 15)), .int (zI ((u23 0).1 16)), .int (zI ((u23 0).1 17)), .int (zI ((u23 0).1 18)), .ref (q 17), .ref (q 18), .ref (q 19), .ref (q 20)]))]) (fun _ => rfl) (fun r24 u23 H locs hp25 hP hD hS => ?_)
    obtain ⟨z26, rfl, h_z26⟩ := hp25
    have hf27 := h_z26.1.1
    exact ret (zI z26) (fun k => [((u23 0).1, fun _ _ => 0), (fun _ => 0, fun _ => g_other)].getD k (fun _ => 0, fun _ _ => 0)) _ _ _ _ _ _ rfl ⟨z26, rfl, h_z26.1, (show ((u23 0).1) 1 = i 1 ∧ ((u23 0).1) 8 = i 8 ∧ ((u23 0).1) 9 = i 9 ∧ ((u23 0).1) 12 = i 12 ∧ ((u23 0).1) 13 = i 13 ∧ ((u23 0).1) 15 = i 15 ∧ ((u23 0).1) 17 = i 17 ∧ ((u23 0).1) 10 ≠ 4 from by omega)⟩ (bw_subP (isC := [2, 0, 1]) hP rfl) (hD.sub [2, 0, 1] (by decide) rfl) hS (Nat.le_of_ble_eq_true rfl) (Nat.le_of_ble_eq_true rfl) dX9_answer_26
theorem dX9_runOf_0 : decode cX9_runOf 0 = .ok (.aload_n 1, 1) := bo_43 (by decide +kernel)
theorem dX9_runOf_1 : decode cX9_runOf 1 = .ok (.aload_n 0, 1) := bo_42 (by decide +kernel)
theorem dX9_runOf_2 : decode cX9_runOf 2 = .ok (.getfield 56, 3) := bo_180 0 56 (by decide +kernel)
theorem dX9_runOf_5 : decode cX9_runOf 5 = .ok (.iload_n 2, 1) := bo_28 (by decide +kernel)
theorem dX9_runOf_6 : decode cX9_runOf 6 = .ok (.iload_n 3, 1) := bo_29 (by decide +kernel)
theorem dX9_runOf_7 : decode cX9_runOf 7 = .ok (.invokestatic 311, 3) := bo_184 1 55 (by decide +kernel)
theorem k_1515 : Cond.methodLink RX9 311 yX9_beginsBy ∈ bw_T := bw_m 1515 (by decide +kernel) rfl
theorem ks_X9_beginsBy : bw_KS RX9 yX9_beginsBy (Cond.code yX9_beginsBy cX9_beginsBy 5 none) := ⟨bw_m 1516 (by decide +kernel) rfl, bw_m 107 (by decide +kernel) rfl, bw_m 1517 (by decide +kernel) rfl⟩
theorem dX9_runOf_10 : decode cX9_runOf 10 = .ok (.aload_n 1, 1) := bo_43 (by decide +kernel)
theorem dX9_runOf_11 : decode cX9_runOf 11 = .ok (.aload_n 0, 1) := bo_42 (by decide +kernel)
theorem dX9_runOf_12 : decode cX9_runOf 12 = .ok (.getfield 56, 3) := bo_180 0 56 (by decide +kernel)
theorem dX9_runOf_15 : decode cX9_runOf 15 = .ok (.invokestatic 294, 3) := bo_184 1 38 (by decide +kernel)
theorem dX9_runOf_18 : decode cX9_runOf 18 = .ok (.return_, 1) := bo_177 (by decide +kernel)
abbrev rm_X9_runOf : Room := { frames := 4, cells := 0, slots := 0, locals := 93 }
set_option maxRecDepth 100000 in
set_option maxHeartbeats 8000000 in
theorem c_X9_runOf {l : Launch} {E : (Nat → Prop) → State → Prop} (hO : bw_Ok E) {G : va_G} {cI cB cJ cN cW : ClassId} (y : Nat) (q : Nat → Nat) (i : Nat → Int) (hM : ModOk i) (a : Nat) (g_p : Nat → Int) (g_other : Nat → Int) (x : Int) (w : Int) (hx9 : zR x) (hw9 : zR w) (hp : ProgOk g_p) (hw8 : 0 ≤ w ∧ w ≤ 3) (hx8 : 0 ≤ x ∧ x < (w + 1) * (w + 1) * (w + 1) * (w + 1)) : bw_Cv (S := zV) l yX9_runOf (bw_ws (Cond.code yX9_runOf cX9_runOf 4 none)) rm_X9_runOf E G (bw_kt cI cB cJ cN cW) [.ref y, .ref a, .int (zI x), .int (zI w)] [(y, .inr (9, [.int (zI (i 0)), .ref (q 0), .int (zI (i 1)), .int (zI (i 2)), .int (zI (i 3)), .int (zI (i 4)), .int (zI (i 5)), .int (zI (i 6)), .int (zI (i 7)), .int (zI (i 8)), .int (zI (i 9)), .int (zI (i 10)), .ref (q 1), .int (zI (i 11)), .int (zI (i 12)), .ref (q 2), .ref (q 3), .ref (q 4), .ref (q 5), .ref (q 6), .ref (q 7), .ref (q 8), .ref (q 9), .ref (q 10), .ref (q 11), .ref (q 12), .ref (q 13), .ref (q 14), .ref (q 15), .ref (q 16), .int (zI (i 13)), .int (zI (i 14)), .int (zI (i 15)), .int (zI (i 16)), .int (zI (i 17)), .int (zI (i 18)), .ref (q 17), .ref (q 18), .ref (q 19), .ref (q 20)])), (a, .inl (cI, 200, .inl (fun k => zI (g_p k)))), ((q 14), .inl (cI, 159, .inl (fun k => zI (g_other k))))] (fun u => (StOk g_p ((u 1).2 0))) (fun u => [(y, .inr (9, [.int (zI (i 0)), .ref (q 0), .int (zI (i 1)), .int (zI (i 2)), .int (zI (i 3)), .int (zI (i 4)), .int (zI (i 5)), .int (zI (i 6)), .int (zI (i 7)), .int (zI (i 8)), .int (zI (i 9)), .int (zI (i 10)), .ref (q 1), .int (zI (i 11)), .int (zI (i 12)), .ref (q 2), .ref (q 3), .ref (q 4), .ref (q 5), .ref (q 6), .ref (q 7), .ref (q 8), .ref (q 9), .ref (q 10), .ref (q 11), .ref (q 12), .ref (q 13), .ref (q 14), .ref (q 15), .ref (q 16), .int (zI (i 13)), .int (zI (i 14)), .int (zI (i 15)), .int (zI (i 16)), .int (zI (i 17)), .int (zI (i 18)), .ref (q 17), .ref (q 18), .ref (q 19), .ref (q 20)])), (a, .inl (cI, 200, .inl (fun k => zI (g_p k)))), ((q 14), .inl (cI, 159, .inl (fun k => zI (((u 1).2 0) k))))]) := by
  refine bw_Cv.of (cc := cX9_runOf) (maxL := 4) (by decide) rfl (Nat.le_of_ble_eq_true rfl) ?_
  intro p e s m below meth c A Q hx hb hml hts hown hin hK hA hS hP hD hE ret ls hl
  have F : CallFix p m c cX9_runOf 4 s ([.ref y, .ref a, .int (zI x), .int (zI w)] : List Value).toArray bw_T RX9 := ⟨hx, hb, hml, hown, fun w h => hts w (List.mem_cons_of_mem _ h)⟩
  replace hl : lv_has ls 4 [(0, .ref y), (1, .ref a), (2, .int (zI x)), (3, .int (zI w))] := hl
  have hf1 := hM.1
  refine lv_aload_n hx hb dX9_runOf_0 rfl (lv_at hl 1 rfl) ?_
  refine lv_aload_n hx hb dX9_runOf_1 rfl (lv_at hl 0 rfl) ?_
  refine r_get F hK hP 0 27 rfl rfl in_X9 (by decide) k_1190 rfl dX9_runOf_2 ?_
  refine lv_iload_n hx hb dX9_runOf_5 rfl (lv_at hl 2 rfl) ?_
  refine lv_iload_n hx hb dX9_runOf_6 rfl (lv_at hl 3 rfl) ?_
  refine r_callZv (As := [.ref a, .ref (q 14), .int (zI x), .int (zI w)]) (rest := []) (wr := [(y, .inr (9, [.int (zI (i 0)), .ref (q 0), .int (zI (i 1)), .int (zI (i 2)), .int (zI (i 3)), .int (zI (i 4)), .int (zI (i 5)), .int (zI (i 6)), .int (zI (i 7)), .int (zI (i 8)), .int (zI (i 9)), .int (zI (i 10)), .ref (q 1), .int (zI (i 11)), .int (zI (i 12)), .ref (q 2), .ref (q 3), .ref (q 4), .ref (q 5), .ref (q 6), .ref (q 7), .ref (q 8), .ref (q 9), .ref (q 10), .ref (q 11), .ref (q 12), .ref (q 13), .ref (q 14), .ref (q 15), .ref (q 16), .int (zI (i 13)), .int (zI (i 14)), .int (zI (i 15)), .int (zI (i 16)), .int (zI (i 17)), .int (zI (i 18)), .ref (q 17), .ref (q 18), .ref (q 19), .ref (q 20)]))]) F hK hP hD hS hA hO hE (c_X9_beginsBy hO a g_p (q 14) g_other x w (by omega) (by omega) hp (by omega) (by omega)) k_1515 ks_X9_beginsBy 4 rfl (by decide +kernel) ⟨Nat.le_of_ble_eq_true rfl, Nat.le_of_ble_eq_true rfl⟩ [1, 2] [0] rfl rfl (by decide) (by decide) (by decide) hl.1 rfl (Nat.le_of_ble_eq_true rfl) dX9_runOf_7 ⟨Nat.le_of_ble_eq_true rfl, Nat.le_of_ble_eq_true rfl⟩ (w1 := fun u2 => [(y, .inr (9, [.int (zI (i 0)), .ref (q 0), .int (zI (i 1)), .int (zI (i 2)), .int (zI (i 3)), .int (zI (i 4)), .int (zI (i 5)), .int (zI (i 6)), .int (zI (i 7)), .int (zI (i 8)), .int (zI (i 9)), .int (zI (i 10)), .ref (q 1), .int (zI (i 11)), .int (zI (i 12)), .ref (q 2), .ref (q 3), .ref (q 4), .ref (q 5), .ref (q 6), .ref (q 7), .ref (q 8), .ref (q 9), .ref (q 10), .ref (q 11), .ref (q 12), .ref (q 13), .ref (q 14), .ref (q 15), .ref (q 16), .int (zI (i 13)), .int (zI (i 14)), .int (zI (i 15)), .int (zI (i 16)), .int (zI (i 17)), .int (zI (i 18)), .ref (q 17), .ref (q 18), .ref (q 19), .ref (q 20)])), (a, .inl (cI, 200, .inl (fun k => zI (g_p k)))), ((q 14), .inl (cI, 159, .inl (fun k => zI (((u2 1).2 0) k))))]) (fun _ => rfl) (fun  u2 H locs hp3 hP hD hS => ?_)
  refine lv_aload_n hx hb dX9_runOf_10 rfl (lv_at hl 1 rfl) ?_
  refine lv_aload_n hx hb dX9_runOf_11 rfl (lv_at hl 0 rfl) ?_
  refine r_get F hK hP 0 27 rfl rfl in_X9 (by decide) k_1190 rfl dX9_runOf_12 ?_
  refine r_callZv (As := [.ref a, .ref (q 14)]) (rest := []) (wr := [(y, .inr (9, [.int (zI (i 0)), .ref (q 0), .int (zI (i 1)), .int (zI (i 2)), .int (zI (i 3)), .int (zI (i 4)), .int (zI (i 5)), .int (zI (i 6)), .int (zI (i 7)), .int (zI (i 8)), .int (zI (i 9)), .int (zI (i 10)), .ref (q 1), .int (zI (i 11)), .int (zI (i 12)), .ref (q 2), .ref (q 3), .ref (q 4), .ref (q 5), .ref (q 6), .ref (q 7), .ref (q 8), .ref (q 9), .ref (q 10), .ref (q 11), .ref (q 12), .ref (q 13), .ref (q 14), .ref (q 15), .ref (q 16), .int (zI (i 13)), .int (zI (i 14)), .int (zI (i 15)), .int (zI (i 16)), .int (zI (i 17)), .int (zI (i 18)), .ref (q 17), .ref (q 18), .ref (q 19), .ref (q 20)]))]) F hK hP hD hS hA hO hE (c_X9_runs hO a g_p (q 14) ((u2 1).2 0) hp hp3) k_1470 ks_X9_runs 2 rfl (by decide +kernel) ⟨Nat.le_of_ble_eq_true rfl, Nat.le_of_ble_eq_true rfl⟩ [1, 2] [0] rfl rfl (by decide) (by decide) (by decide) hl.1 rfl (Nat.le_of_ble_eq_true rfl) dX9_runOf_15 ⟨Nat.le_of_ble_eq_true rfl, Nat.le_of_ble_eq_true rfl⟩ (w1 := fun u4 => [(y, .inr (9, [.int (zI (i 0)), .ref (q 0), .int (zI (i 1)), .int (zI (i 2)), .int (zI (i 3)), .int (zI (i 4)), .int (zI (i 5)), .int (zI (i 6)), .int (zI (i 7)), .int (zI (i 8)), .int (zI (i 9)), .int (zI (i 10)), .ref (q 1), .int (zI (i 11)), .int (zI (i 12)), .ref (q 2), .ref (q 3), .ref (q 4), .ref (q 5), .ref (q 6), .ref (q 7), .ref (q 8), .ref (q 9), .ref (q 10), .ref (q 11), .ref (q 12), .ref (q 13), .ref (q 14), .ref (q 15), .ref (q 16), .int (zI (i 13)), .int (zI (i 14)), .int (zI (i 15)), .int (zI (i 16)), .int (zI (i 17)), .int (zI (i 18)), .ref (q 17), .ref (q 18), .ref (q 19), .ref (q 20)])), (a, .inl (cI, 200, .inl (fun k => zI (g_p k)))), ((q 14), .inl (cI, 159, .inl (fun k => zI (((u4 1).2 0) k))))]) (fun _ => rfl) (fun  u4 H locs hp5 hP hD hS => ?_)
  exact ret (fun k => [((fun _ => 0), fun _ _ => 0), (fun _ => 0, fun _ => ((u4 1).2 0))].getD k (fun _ => 0, fun _ _ => 0)) _ _ _ _ _ _ hp5 (bw_subP (isC := [0, 1, 2]) hP rfl) (hD.sub [0, 1, 2] (by decide) rfl) hS (Nat.le_of_ble_eq_true rfl) (Nat.le_of_ble_eq_true rfl) dX9_runOf_18
