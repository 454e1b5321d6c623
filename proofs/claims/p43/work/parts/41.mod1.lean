theorem dX9_good_0 : decode cX9_good 0 = .ok (.aload_n 0, 1) := bo_42 (by decide +kernel)
theorem dX9_good_1 : decode cX9_good 1 = .ok (.iconst 0, 1) := bo_3 (by decide +kernel)
theorem dX9_good_2 : decode cX9_good 2 = .ok (.putfield 77, 3) := bo_181 0 77 (by decide +kernel)
theorem k_1163 : Cond.fieldLink RX9 77 "BurntWaysModel" "thrown" "I" ∈ bw_T := bw_m 1163 (by decide +kernel) rfl
theorem in_X9 : ∀ w ∈ wsX90, w ∈ bw_T := bw_ms _ [1203, 1205, 1207, 1209, 1211, 1213, 1215, 1217, 1219, 1221, 1223, 1225, 1227, 1229, 1231, 1233, 1235, 1237, 1239, 1241, 1243, 1245, 1247, 1249, 1251, 1253, 1255, 1257, 1259, 1261, 1263, 1265, 1267, 1269, 1271, 1273, 1275, 1277, 1279, 1281] (by decide +kernel) (by decide +kernel)
theorem dX9_good_5 : decode cX9_good 5 = .ok (.aload_n 0, 1) := bo_42 (by decide +kernel)
theorem dX9_good_6 : decode cX9_good 6 = .ok (.iconst 0, 1) := bo_3 (by decide +kernel)
theorem dX9_good_7 : decode cX9_good 7 = .ok (.putfield 80, 3) := bo_181 0 80 (by decide +kernel)
theorem k_1174 : Cond.fieldLink RX9 80 "BurntWaysModel" "trouble" "I" ∈ bw_T := bw_m 1174 (by decide +kernel) rfl
theorem dX9_good_10 : decode cX9_good 10 = .ok (.return_, 1) := bo_177 (by decide +kernel)
abbrev rm_X9_good : Room := { frames := 0, cells := 0, slots := 0, locals := 0 }
set_option maxRecDepth 100000 in
set_option maxHeartbeats 8000000 in
theorem c_X9_good {l : Launch} {E : (Nat → Prop) → State → Prop} (hO : bw_Ok E) {G : va_G} {cI cB cJ cN cW : ClassId} (y : Nat) (q : Nat → Nat) (i : Nat → Int) (hM : ModOk i)  : bw_Cv (S := zV) l yX9_good (bw_ws (Cond.code yX9_good cX9_good 1 none)) rm_X9_good E G (bw_kt cI cB cJ cN cW) [.ref y] [(y, .inr (9, [.int (zI (i 0)), .ref (q 0), .int (zI (i 1)), .int (zI (i 2)), .int (zI (i 3)), .int (zI (i 4)), .int (zI (i 5)), .int (zI (i 6)), .int (zI (i 7)), .int (zI (i 8)), .int (zI (i 9)), .int (zI (i 10)), .ref (q 1), .int (zI (i 11)), .int (zI (i 12)), .ref (q 2), .ref (q 3), .ref (q 4), .ref (q 5), .ref (q 6), .ref (q 7), .ref (q 8), .ref (q 9), .ref (q 10), .ref (q 11), .ref (q 12), .ref (q 13), .ref (q 14), .ref (q 15), .ref (q 16), .int (zI (i 13)), .int (zI (i 14)), .int (zI (i 15)), .int (zI (i 16)), .int (zI (i 17)), .int (zI (i 18)), .ref (q 17), .ref (q 18), .ref (q 19), .ref (q 20)]))] (fun u => (ModOk (u 0).1) ∧ ((u 0).1 10 = 0 ∧ (u 0).1 1 = i 1 ∧ (u 0).1 8 = i 8 ∧ (u 0).1 9 = i 9 ∧ (u 0).1 12 = i 12 ∧ (u 0).1 13 = i 13 ∧ (u 0).1 15 = i 15 ∧ (u 0).1 17 = i 17)) (fun u => [(y, .inr (9, [.int (zI ((u 0).1 0)), .ref (q 0), .int (zI ((u 0).1 1)), .int (zI ((u 0).1 2)), .int (zI ((u 0).1 3)), .int (zI ((u 0).1 4)), .int (zI ((u 0).1 5)), .int (zI ((u 0).1 6)), .int (zI ((u 0).1 7)), .int (zI ((u 0).1 8)), .int (zI ((u 0).1 9)), .int (zI ((u 0).1 10)), .ref (q 1), .int (zI ((u 0).1 11)), .int (zI ((u 0).1 12)), .ref (q 2), .ref (q 3), .ref (q 4), .ref (q 5), .ref (q 6), .ref (q 7), .ref (q 8), .ref (q 9), .ref (q 10), .ref (q 11), .ref (q 12), .ref (q 13), .ref (q 14), .ref (q 15), .ref (q 16), .int (zI ((u 0).1 13)), .int (zI ((u 0).1 14)), .int (zI ((u 0).1 15)), .int (zI ((u 0).1 16)), .int (zI ((u 0).1 17)), .int (zI ((u 0).1 18)), .ref (q 17), .ref (q 18), .ref (q 19), .ref (q 20)]))]) := by
  refine bw_Cv.of (cc := cX9_good) (maxL := 1) (by decide) rfl (Nat.le_of_ble_eq_true rfl) ?_
  intro p e s m below meth c A Q hx hb hml hts hown hin hK hA hS hP hD hE ret ls hl
  have F : CallFix p m c cX9_good 1 s ([.ref y] : List Value).toArray bw_T RX9 := ⟨hx, hb, hml, hown, fun w h => hts w (List.mem_cons_of_mem _ h)⟩
  replace hl : lv_has ls 1 [(0, .ref y)] := hl
  have hf1 := hM.1
  refine lv_aload_n hx hb dX9_good_0 rfl (lv_at hl 0 rfl) ?_
  refine lv_iconst (v := zI 0) hx hb dX9_good_1 rfl ?_
  refine r_put F hK hP hD hS 0 0 rfl rfl in_X9 tyX9 tyX9_ok nmX9 (by decide) k_1163 rfl rfl rfl (Nat.le_of_ble_eq_true rfl) dX9_good_2 (w1 := [(y, .inr (9, [.int (zI 0), .ref (q 0), .int (zI (i 1)), .int (zI (i 2)), .int (zI (i 3)), .int (zI (i 4)), .int (zI (i 5)), .int (zI (i 6)), .int (zI (i 7)), .int (zI (i 8)), .int (zI (i 9)), .int (zI (i 10)), .ref (q 1), .int (zI (i 11)), .int (zI (i 12)), .ref (q 2), .ref (q 3), .ref (q 4), .ref (q 5), .ref (q 6), .ref (q 7), .ref (q 8), .ref (q 9), .ref (q 10), .ref (q 11), .ref (q 12), .ref (q 13), .ref (q 14), .ref (q 15), .ref (q 16), .int (zI (i 13)), .int (zI (i 14)), .int (zI (i 15)), .int (zI (i 16)), .int (zI (i 17)), .int (zI (i 18)), .ref (q 17), .ref (q 18), .ref (q 19), .ref (q 20)]))]) rfl (fun H locs hP hD hS => ?_)
  refine lv_aload_n hx hb dX9_good_5 rfl (lv_at hl 0 rfl) ?_
  refine lv_iconst (v := zI 0) hx hb dX9_good_6 rfl ?_
  refine r_put F hK hP hD hS 0 11 rfl rfl in_X9 tyX9 tyX9_ok nmX9 (by decide) k_1174 rfl rfl rfl (Nat.le_of_ble_eq_true rfl) dX9_good_7 (w1 := [(y, .inr (9, [.int (zI 0), .ref (q 0), .int (zI (i 1)), .int (zI (i 2)), .int (zI (i 3)), .int (zI (i 4)), .int (zI (i 5)), .int (zI (i 6)), .int (zI (i 7)), .int (zI (i 8)), .int (zI (i 9)), .int (zI 0), .ref (q 1), .int (zI (i 11)), .int (zI (i 12)), .ref (q 2), .ref (q 3), .ref (q 4), .ref (q 5), .ref (q 6), .ref (q 7), .ref (q 8), .ref (q 9), .ref (q 10), .ref (q 11), .ref (q 12), .ref (q 13), .ref (q 14), .ref (q 15), .ref (q 16), .int (zI (i 13)), .int (zI (i 14)), .int (zI (i 15)), .int (zI (i 16)), .int (zI (i 17)), .int (zI (i 18)), .ref (q 17), .ref (q 18), .ref (q 19), .ref (q 20)]))]) rfl (fun H locs hP hD hS => ?_)
  obtain ⟨i2, e_i2⟩ : ∃ i2 : Nat → Int, i2 = fun k => [0, (i 1), (i 2), (i 3), (i 4), (i 5), (i 6), (i 7), (i 8), (i 9), 0, (i 11), (i 12), (i 13), (i 14), (i 15), (i 16), (i 17), (i 18)].getD k 0 := ⟨_, rfl⟩
  have e_i2_0 : i2 0 = 0 := congrFun e_i2 0
  have e_i2_1 : i2 1 = (i 1) := congrFun e_i2 1
  have e_i2_2 : i2 2 = (i 2) := congrFun e_i2 2
  have e_i2_3 : i2 3 = (i 3) := congrFun e_i2 3
  have e_i2_4 : i2 4 = (i 4) := congrFun e_i2 4
  have e_i2_5 : i2 5 = (i 5) := congrFun e_i2 5
  have e_i2_6 : i2 6 = (i 6) := congrFun e_i2 6
  have e_i2_7 : i2 7 = (i 7) := congrFun e_i2 7
  have e_i2_8 : i2 8 = (i 8) := congrFun e_i2 8
  have e_i2_9 : i2 9 = (i 9) := congrFun e_i2 9
  have e_i2_10 : i2 10 = 0 := congrFun e_i2 10
  have e_i2_11 : i2 11 = (i 11) := congrFun e_i2 11
  have e_i2_12 : i2 12 = (i 12) := congrFun e_i2 12
  have e_i2_13 : i2 13 = (i 13) := congrFun e_i2 13
  have e_i2_14 : i2 14 = (i 14) := congrFun e_i2 14
  have e_i2_15 : i2 15 = (i 15) := congrFun e_i2 15
  have e_i2_16 : i2 16 = (i 16) := congrFun e_i2 16
  have e_i2_17 : i2 17 = (i 17) := congrFun e_i2 17
  have e_i2_18 : i2 18 = (i 18) := congrFun e_i2 18
  have hO3 : ModOk i2 := ⟨⟨⟨(by rw [e_i2_11]; exact hM.1.1.1), (by rw [e_i2_14]; exact hM.1.1.2.1), (by rw [e_i2_16]; exact hM.1.1.2.2.1), (by rw [e_i2_7]; exact hM.1.1.2.2.2.1), (by rw [e_i2_5]; exact hM.1.1.2.2.2.2)⟩, ⟨(by rw [e_i2_1]; exact hM.1.2.1.1), (by rw [e_i2_2]; exact hM.1.2.1.2.1), (by rw [e_i2_3]; exact hM.1.2.1.2.2.1), (by rw [e_i2_4]; exact hM.1.2.1.2.2.2.1), (by rw [e_i2_6]; exact hM.1.2.1.2.2.2.2.1), (by omega)⟩, ⟨(by rw [e_i2_12]; exact hM.1.2.2.1), (by rw [e_i2_13]; exact hM.1.2.2.2.1), (by rw [e_i2_15]; exact hM.1.2.2.2.2.1), (by rw [e_i2_17]; exact hM.1.2.2.2.2.2)⟩⟩, fun q5 => by rw [e_i2_7]; exact hM.2 (by rw [← e_i2_5]; exact q5)⟩
  have hf4 := hO3.1
  have hP : va_P G vwCl [(y, .inr (9, [.int (zI (i2 0)), .ref (q 0), .int (zI (i2 1)), .int (zI (i2 2)), .int (zI (i2 3)), .int (zI (i2 4)), .int (zI (i2 5)), .int (zI (i2 6)), .int (zI (i2 7)), .int (zI (i2 8)), .int (zI (i2 9)), .int (zI (i2 10)), .ref (q 1), .int (zI (i2 11)), .int (zI (i2 12)), .ref (q 2), .ref (q 3), .ref (q 4), .ref (q 5), .ref (q 6), .ref (q 7), .ref (q 8), .ref (q 9), .ref (q 10), .ref (q 11), .ref (q 12), .ref (q 13), .ref (q 14), .ref (q 15), .ref (q 16), .int (zI (i2 13)), .int (zI (i2 14)), .int (zI (i2 15)), .int (zI (i2 16)), .int (zI (i2 17)), .int (zI (i2 18)), .ref (q 17), .ref (q 18), .ref (q 19), .ref (q 20)]))] H := by subst e_i2; exact hP
  have hD : va_D A [(y, .inr (9, [.int (zI (i2 0)), .ref (q 0), .int (zI (i2 1)), .int (zI (i2 2)), .int (zI (i2 3)), .int (zI (i2 4)), .int (zI (i2 5)), .int (zI (i2 6)), .int (zI (i2 7)), .int (zI (i2 8)), .int (zI (i2 9)), .int (zI (i2 10)), .ref (q 1), .int (zI (i2 11)), .int (zI (i2 12)), .ref (q 2), .ref (q 3), .ref (q 4), .ref (q 5), .ref (q 6), .ref (q 7), .ref (q 8), .ref (q 9), .ref (q 10), .ref (q 11), .ref (q 12), .ref (q 13), .ref (q 14), .ref (q 15), .ref (q 16), .int (zI (i2 13)), .int (zI (i2 14)), .int (zI (i2 15)), .int (zI (i2 16)), .int (zI (i2 17)), .int (zI (i2 18)), .ref (q 17), .ref (q 18), .ref (q 19), .ref (q 20)]))] := by subst e_i2; exact hD
  exact ret (fun k => [(i2, fun _ _ => 0)].getD k (fun _ => 0, fun _ _ => 0)) _ _ _ _ _ _ ⟨hO3, (show i2 10 = 0 ∧ i2 1 = i 1 ∧ i2 8 = i 8 ∧ i2 9 = i 9 ∧ i2 12 = i 12 ∧ i2 13 = i 13 ∧ i2 15 = i 15 ∧ i2 17 = i 17 from by omega)⟩ (bw_subP (isC := [0]) hP rfl) (hD.sub [0] (by decide) rfl) hS (Nat.le_of_ble_eq_true rfl) (Nat.le_of_ble_eq_true rfl) dX9_good_10
theorem dX9_no_0 : decode cX9_no 0 = .ok (.aload_n 0, 1) := bo_42 (by decide +kernel)
theorem dX9_no_1 : decode cX9_no 1 = .ok (.iload_n 1, 1) := bo_27 (by decide +kernel)
theorem dX9_no_2 : decode cX9_no 2 = .ok (.putfield 80, 3) := bo_181 0 80 (by decide +kernel)
theorem dX9_no_5 : decode cX9_no 5 = .ok (.iconst (-1), 1) := bo_2 (by decide +kernel)
theorem dX9_no_6 : decode cX9_no 6 = .ok (.ireturn, 1) := bo_172 (by decide +kernel)
abbrev rm_X9_no : Room := { frames := 0, cells := 0, slots := 0, locals := 0 }
set_option maxRecDepth 100000 in
set_option maxHeartbeats 8000000 in
theorem c_X9_no {l : Launch} {E : (Nat → Prop) → State → Prop} (hO : bw_Ok E) {G : va_G} {cI cB cJ cN cW : ClassId} (y : Nat) (q : Nat → Nat) (i : Nat → Int) (hM : ModOk i) (x : Int) (hx9 : zR x) (hw9 : 0 ≤ x ∧ x ≤ 6) : bw_Ci (S := zV) l yX9_no (bw_ws (Cond.code yX9_no cX9_no 2 (some .int))) rm_X9_no E G (bw_kt cI cB cJ cN cW) [.ref y, .int (zI x)] [(y, .inr (9, [.int (zI (i 0)), .ref (q 0), .int (zI (i 1)), .int (zI (i 2)), .int (zI (i 3)), .int (zI (i 4)), .int (zI (i 5)), .int (zI (i 6)), .int (zI (i 7)), .int (zI (i 8)), .int (zI (i 9)), .int (zI (i 10)), .ref (q 1), .int (zI (i 11)), .int (zI (i 12)), .ref (q 2), .ref (q 3), .ref (q 4), .ref (q 5), .ref (q 6), .ref (q 7), .ref (q 8), .ref (q 9), .ref (q 10), .ref (q 11), .ref (q 12), .ref (q 13), .ref (q 14), .ref (q 15), .ref (q 16), .int (zI (i 13)), .int (zI (i 14)), .int (zI (i 15)), .int (zI (i 16)), .int (zI (i 17)), .int (zI (i 18)), .ref (q 17), .ref (q 18), .ref (q 19), .ref (q 20)]))] (fun r u => ∃ z : Int, r = zI z ∧ (ModOk (u 0).1) ∧ (z = -1 ∧ (u 0).1 10 = x ∧ (u 0).1 1 = i 1 ∧ (u 0).1 8 = i 8 ∧ (u 0).1 9 = i 9 ∧ (u 0).1 12 = i 12 ∧ (u 0).1 13 = i 13 ∧ (u 0).1 15 = i 15 ∧ (u 0).1 17 = i 17)) (fun u => [(y, .inr (9, [.int (zI ((u 0).1 0)), .ref (q 0), .int (zI ((u 0).1 1)), .int (zI ((u 0).1 2)), .int (zI ((u 0).1 3)), .int (zI ((u 0).1 4)), .int (zI ((u 0).1 5)), .int (zI ((u 0).1 6)), .int (zI ((u 0).1 7)), .int (zI ((u 0).1 8)), .int (zI ((u 0).1 9)), .int (zI ((u 0).1 10)), .ref (q 1), .int (zI ((u 0).1 11)), .int (zI ((u 0).1 12)), .ref (q 2), .ref (q 3), .ref (q 4), .ref (q 5), .ref (q 6), .ref (q 7), .ref (q 8), .ref (q 9), .ref (q 10), .ref (q 11), .ref (q 12), .ref (q 13), .ref (q 14), .ref (q 15), .ref (q 16), .int (zI ((u 0).1 13)), .int (zI ((u 0).1 14)), .int (zI ((u 0).1 15)), .int (zI ((u 0).1 16)), .int (zI ((u 0).1 17)), .int (zI ((u 0).1 18)), .ref (q 17), .ref (q 18), .ref (q 19), .ref (q 20)]))]) := by
  refine bw_Ci.of (cc := cX9_no) (maxL := 2) (ty := .int) (by decide) rfl (Nat.le_of_ble_eq_true rfl) ?_
  intro p e s m below meth c A Q hx hb hml hts hown hin hK hA hS hP hD hE ret ls hl
  have F : CallFix p m c cX9_no 2 s ([.ref y, .int (zI x)] : List Value).toArray bw_T RX9 := ⟨hx, hb, hml, hown, fun w h => hts w (List.mem_cons_of_mem _ h)⟩
  replace hl : lv_has ls 2 [(0, .ref y), (1, .int (zI x))] := hl
  have hf1 := hM.1
  refine lv_aload_n hx hb dX9_no_0 rfl (lv_at hl 0 rfl) ?_
  refine lv_iload_n hx hb dX9_no_1 rfl (lv_at hl 1 rfl) ?_
  refine r_put F hK hP hD hS 0 11 rfl rfl in_X9 tyX9 tyX9_ok nmX9 (by decide) k_1174 rfl rfl rfl (Nat.le_of_ble_eq_true rfl) dX9_no_2 (w1 := [(y, .inr (9, [.int (zI (i 0)), .ref (q 0), .int (zI (i 1)), .int (zI (i 2)), .int (zI (i 3)), .int (zI (i 4)), .int (zI (i 5)), .int (zI (i 6)), .int (zI (i 7)), .int (zI (i 8)), .int (zI (i 9)), .int (zI x), .ref (q 1), .int (zI (i 11)), .int (zI (i 12)), .ref (q 2), .ref (q 3), .ref (q 4), .ref (q 5), .ref (q 6), .ref (q 7), .ref (q 8), .ref (q 9), .ref (q 10), .ref (q 11), .ref (q 12), .ref (q 13), .ref (q 14), .ref (q 15), .ref (q 16), .int (zI (i 13)), .int (zI (i 14)), .int (zI (i 15)), .int (zI (i 16)), .int (zI (i 17)), .int (zI (i 18)), .ref (q 17), .ref (q 18), .ref (q 19), .ref (q 20)]))]) rfl (fun H locs hP hD hS => ?_)
  refine lv_iconst (v := zI (-1)) hx hb dX9_no_5 rfl ?_
  obtain ⟨i2, e_i2⟩ : ∃ i2 : Nat → Int, i2 = fun k => [(i 0), (i 1), (i 2), (i 3), (i 4), (i 5), (i 6), (i 7), (i 8), (i 9), x, (i 11), (i 12), (i 13), (i 14), (i 15), (i 16), (i 17), (i 18)].getD k 0 := ⟨_, rfl⟩
  have e_i2_0 : i2 0 = (i 0) := congrFun e_i2 0
  have e_i2_1 : i2 1 = (i 1) := congrFun e_i2 1
  have e_i2_2 : i2 2 = (i 2) := congrFun e_i2 2
  have e_i2_3 : i2 3 = (i 3) := congrFun e_i2 3
  have e_i2_4 : i2 4 = (i 4) := congrFun e_i2 4
  have e_i2_5 : i2 5 = (i 5) := congrFun e_i2 5
  have e_i2_6 : i2 6 = (i 6) := congrFun e_i2 6
  have e_i2_7 : i2 7 = (i 7) := congrFun e_i2 7
  have e_i2_8 : i2 8 = (i 8) := congrFun e_i2 8
  have e_i2_9 : i2 9 = (i 9) := congrFun e_i2 9
  have e_i2_10 : i2 10 = x := congrFun e_i2 10
  have e_i2_11 : i2 11 = (i 11) := congrFun e_i2 11
  have e_i2_12 : i2 12 = (i 12) := congrFun e_i2 12
  have e_i2_13 : i2 13 = (i 13) := congrFun e_i2 13
  have e_i2_14 : i2 14 = (i 14) := congrFun e_i2 14
  have e_i2_15 : i2 15 = (i 15) := congrFun e_i2 15
  have e_i2_16 : i2 16 = (i 16) := congrFun e_i2 16
  have e_i2_17 : i2 17 = (i 17) := congrFun e_i2 17
  have e_i2_18 : i2 18 = (i 18) := congrFun e_i2 18
  have hO3 : ModOk i2 := ⟨⟨⟨(by rw [e_i2_11]; exact hM.1.1.1), (by rw [e_i2_14]; exact hM.1.1.2.1), (by rw [e_i2_16]; exact hM.1.1.2.2.1), (by rw [e_i2_7]; exact hM.1.1.2.2.2.1), (by rw [e_i2_5]; exact hM.1.1.2.2.2.2)⟩, ⟨(by rw [e_i2_1]; exact hM.1.2.1.1), (by rw [e_i2_2]; exact hM.1.2.1.2.1), (by rw [e_i2_3]; exact hM.1.2.1.2.2.1), (by rw [e_i2_4]; exact hM.1.2.1.2.2.2.1), (by rw [e_i2_6]; exact hM.1.2.1.2.2.2.2.1), (by omega)⟩, ⟨(by rw [e_i2_12]; exact hM.1.2.2.1), (by rw [e_i2_13]; exact hM.1.2.2.2.1), (by rw [e_i2_15]; exact hM.1.2.2.2.2.1), (by rw [e_i2_17]; exact hM.1.2.2.2.2.2)⟩⟩, fun q5 => by rw [e_i2_7]; exact hM.2 (by rw [← e_i2_5]; exact q5)⟩
  have hf4 := hO3.1
  have hP : va_P G vwCl [(y, .inr (9, [.int (zI (i2 0)), .ref (q 0), .int (zI (i2 1)), .int (zI (i2 2)), .int (zI (i2 3)), .int (zI (i2 4)), .int (zI (i2 5)), .int (zI (i2 6)), .int (zI (i2 7)), .int (zI (i2 8)), .int (zI (i2 9)), .int (zI (i2 10)), .ref (q 1), .int (zI (i2 11)), .int (zI (i2 12)), .ref (q 2), .ref (q 3), .ref (q 4), .ref (q 5), .ref (q 6), .ref (q 7), .ref (q 8), .ref (q 9), .ref (q 10), .ref (q 11), .ref (q 12), .ref (q 13), .ref (q 14), .ref (q 15), .ref (q 16), .int (zI (i2 13)), .int (zI (i2 14)), .int (zI (i2 15)), .int (zI (i2 16)), .int (zI (i2 17)), .int (zI (i2 18)), .ref (q 17), .ref (q 18), .ref (q 19), .ref (q 20)]))] H := by subst e_i2; exact hP
  have hD : va_D A [(y, .inr (9, [.int (zI (i2 0)), .ref (q 0), .int (zI (i2 1)), .int (zI (i2 2)), .int (zI (i2 3)), .int (zI (i2 4)), .int (zI (i2 5)), .int (zI (i2 6)), .int (zI (i2 7)), .int (zI (i2 8)), .int (zI (i2 9)), .int (zI (i2 10)), .ref (q 1), .int (zI (i2 11)), .int (zI (i2 12)), .ref (q 2), .ref (q 3), .ref (q 4), .ref (q 5), .ref (q 6), .ref (q 7), .ref (q 8), .ref (q 9), .ref (q 10), .ref (q 11), .ref (q 12), .ref (q 13), .ref (q 14), .ref (q 15), .ref (q 16), .int (zI (i2 13)), .int (zI (i2 14)), .int (zI (i2 15)), .int (zI (i2 16)), .int (zI (i2 17)), .int (zI (i2 18)), .ref (q 17), .ref (q 18), .ref (q 19), .ref (q 20)]))] := by subst e_i2; exact hD
  exact ret (zI (-1)) (fun k => [(i2, fun _ _ => 0)].getD k (fun _ => 0, fun _ _ => 0)) _ _ _ _ _ _ rfl ⟨(-1), rfl, hO3, ⟨rfl, (show i2 10 = x ∧ i2 1 = i 1 ∧ i2 8 = i 8 ∧ i2 9 = i 9 ∧ i2 12 = i 12 ∧ i2 13 = i 13 ∧ i2 15 = i 15 ∧ i2 17 = i 17 from by omega)⟩⟩ (bw_subP (isC := [0]) hP rfl) (hD.sub [0] (by decide) rfl) hS (Nat.le_of_ble_eq_true rfl) (Nat.le_of_ble_eq_true rfl) dX9_no_6
theorem dX9_isNot_0 : decode cX9_isNot 0 = .ok (.aload_n 0, 1) := bo_42 (by decide +kernel)
theorem dX9_isNot_1 : decode cX9_isNot 1 = .ok (.iload_n 1, 1) := bo_27 (by decide +kernel)
theorem dX9_isNot_2 : decode cX9_isNot 2 = .ok (.putfield 80, 3) := bo_181 0 80 (by decide +kernel)
theorem dX9_isNot_5 : decode cX9_isNot 5 = .ok (.iconst 0, 1) := bo_3 (by decide +kernel)
theorem dX9_isNot_6 : decode cX9_isNot 6 = .ok (.ireturn, 1) := bo_172 (by decide +kernel)
abbrev rm_X9_isNot : Room := { frames := 0, cells := 0, slots := 0, locals := 0 }
set_option maxRecDepth 100000 in
set_option maxHeartbeats 8000000 in
theorem c_X9_isNot {l : Launch} {E : (Nat → Prop) → State → Prop} (hO : bw_Ok E) {G : va_G} {cI cB cJ cN cW : ClassId} (y : Nat) (q : Nat → Nat) (i : Nat → Int) (hM : ModOk i) (x : Int) (hx9 : zR x) (hw9 : 0 ≤ x ∧ x ≤ 6) : bw_Ci (S := zV) l yX9_isNot (bw_ws (Cond.code yX9_isNot cX9_isNot 2 (some .boolean))) rm_X9_isNot E G (bw_kt cI cB cJ cN cW) [.ref y, .int (zI x)] [(y, .inr (9, [.int (zI (i 0)), .ref (q 0), .int (zI (i 1)), .int (zI (i 2)), .int (zI (i 3)), .int (zI (i 4)), .int (zI (i 5)), .int (zI (i 6)), .int (zI (i 7)), .int (zI (i 8)), .int (zI (i 9)), .int (zI (i 10)), .ref (q 1), .int (zI (i 11)), .int (zI (i 12)), .ref (q 2), .ref (q 3), .ref (q 4), .ref (q 5), .ref (q 6), .ref (q 7), .ref (q 8), .ref (q 9), .ref (q 10), .ref (q 11), .ref (q 12), .ref (q 13), .ref (q 14), .ref (q 15), .ref (q 16), .int (zI (i 13)), .int (zI (i 14)), .int (zI (i 15)), .int (zI (i 16)), .int (zI (i 17)), .int (zI (i 18)), .ref (q 17), .ref (q 18), .ref (q 19), .ref (q 20)]))] (fun r u => ∃ z : Int, r = zI z ∧ (ModOk (u 0).1) ∧ (z = 0 ∧ (u 0).1 10 = x ∧ (u 0).1 1 = i 1 ∧ (u 0).1 8 = i 8 ∧ (u 0).1 9 = i 9 ∧ (u 0).1 12 = i 12 ∧ (u 0).1 13 = i 13 ∧ (u 0).1 15 = i 15 ∧ (u 0).1 17 = i 17)) (fun u => [(y, .inr (9, [.int (zI ((u 0).1 0)), .ref (q 0), .int (zI ((u 0).1 1)), .int (zI ((u 0).1 2)), .int (zI ((u 0).1 3)), .int (zI ((u 0).1 4)), .int (zI ((u 0).1 5)), .int (zI ((u 0).1 6)), .int (zI ((u 0).1 7)), .int (zI ((u 0).1 8)), .int (zI ((u 0).1 9)), .int (zI ((u 0).1 10)), .ref (q 1), .int (zI ((u 0).1 11)), .int (zI ((u 0).1 12)), .ref (q 2), .ref (q 3), .ref (q 4), .ref (q 5), .ref (q 6), .ref (q 7), .ref (q 8), .ref (q 9), .ref (q 10), .ref (q 11), .ref (q 12), .ref (q 13), .ref (q 14), .ref (q 15), .ref (q 16), .int (zI ((u 0).1 13)), .int (zI ((u 0).1 14)), .int (zI ((u 0).1 15)), .int (zI ((u 0).1 16)), .int (zI ((u 0).1 17)), .int (zI ((u 0).1 18)), .ref (q 17), .ref (q 18), .ref (q 19), .ref (q 20)]))]) := by
  refine bw_Ci.of (cc := cX9_isNot) (maxL := 2) (ty := .boolean) (by decide) rfl (Nat.le_of_ble_eq_true rfl) ?_
  intro p e s m below meth c A Q hx hb hml hts hown hin hK hA hS hP hD hE ret ls hl
  have F : CallFix p m c cX9_isNot 2 s ([.ref y, .int (zI x)] : List Value).toArray bw_T RX9 := ⟨hx, hb, hml, hown, fun w h => hts w (List.mem_cons_of_mem _ h)⟩
  replace hl : lv_has ls 2 [(0, .ref y), (1, .int (zI x))] := hl
  have hf1 := hM.1
  refine lv_aload_n hx hb dX9_isNot_0 rfl (lv_at hl 0 rfl) ?_
  refine lv_iload_n hx hb dX9_isNot_1 rfl (lv_at hl 1 rfl) ?_
  refine r_put F hK hP hD hS 0 11 rfl rfl in_X9 tyX9 tyX9_ok nmX9 (by decide) k_1174 rfl rfl rfl (Nat.le_of_ble_eq_true rfl) dX9_isNot_2 (w1 := [(y, .inr (9, [.int (zI (i 0)), .ref (q 0), .int (zI (i 1)), .int (zI (i 2)), .int (zI (i 3)), .int (zI (i 4)), .int (zI (i 5)), .int (zI (i 6)), .int (zI (i 7)), .int (zI (i 8)), .int (zI (i 9)), .int (zI x), .ref (q 1), .int (zI (i 11)), .int (zI (i 12)), .ref (q 2), .ref (q 3), .ref (q 4), .ref (q 5), .ref (q 6), .ref (q 7), .ref (q 8), .ref (q 9), .ref (q 10), .ref (q 11), .ref (q 12), .ref (q 13), .ref (q 14), .ref (q 15), .ref (q 16), .int (zI (i 13)), .int (zI (i 14)), .int (zI (i 15)), .int (zI (i 16)), .int (zI (i 17)), .int (zI (i 18)), .ref (q 17), .ref (q 18), .ref (q 19), .ref (q 20)]))]) rfl (fun H locs hP hD hS => ?_)
  refine lv_iconst (v := zI 0) hx hb dX9_isNot_5 rfl ?_
  obtain ⟨i2, e_i2⟩ : ∃ i2 : Nat → Int, i2 = fun k => [(i 0), (i 1), (i 2), (i 3), (i 4), (i 5), (i 6), (i 7), (i 8), (i 9), x, (i 11), (i 12), (i 13), (i 14), (i 15), (i 16), (i 17), (i 18)].getD k 0 := ⟨_, rfl⟩
  have e_i2_0 : i2 0 = (i 0) := congrFun e_i2 0
  have e_i2_1 : i2 1 = (i 1) := congrFun e_i2 1
  have e_i2_2 : i2 2 = (i 2) := congrFun e_i2 2
  have e_i2_3 : i2 3 = (i 3) := congrFun e_i2 3
  have e_i2_4 : i2 4 = (i 4) := congrFun e_i2 4
  have e_i2_5 : i2 5 = (i 5) := congrFun e_i2 5
  have e_i2_6 : i2 6 = (i 6) := congrFun e_i2 6
  have e_i2_7 : i2 7 = (i 7) := congrFun e_i2 7
  have e_i2_8 : i2 8 = (i 8) := congrFun e_i2 8
  have e_i2_9 : i2 9 = (i 9) := congrFun e_i2 9
  have e_i2_10 : i2 10 = x := congrFun e_i2 10
  have e_i2_11 : i2 11 = (i 11) := congrFun e_i2 11
  have e_i2_12 : i2 12 = (i 12) := congrFun e_i2 12
  have e_i2_13 : i2 13 = (i 13) := congrFun e_i2 13
  have e_i2_14 : i2 14 = (i 14) := congrFun e_i2 14
  have e_i2_15 : i2 15 = (i 15) := congrFun e_i2 15
  have e_i2_16 : i2 16 = (i 16) := congrFun e_i2 16
  have e_i2_17 : i2 17 = (i 17) := congrFun e_i2 17
  have e_i2_18 : i2 18 = (i 18) := congrFun e_i2 18
  have hO3 : ModOk i2 := ⟨⟨⟨(by rw [e_i2_11]; exact hM.1.1.1), (by rw [e_i2_14]; exact hM.1.1.2.1), (by rw [e_i2_16]; exact hM.1.1.2.2.1), (by rw [e_i2_7]; exact hM.1.1.2.2.2.1), (by rw [e_i2_5]; exact hM.1.1.2.2.2.2)⟩, ⟨(by rw [e_i2_1]; exact hM.1.2.1.1), (by rw [e_i2_2]; exact hM.1.2.1.2.1), (by rw [e_i2_3]; exact hM.1.2.1.2.2.1), (by rw [e_i2_4]; exact hM.1.2.1.2.2.2.1), (by rw [e_i2_6]; exact hM.1.2.1.2.2.2.2.1), (by omega)⟩, ⟨(by rw [e_i2_12]; exact hM.1.2.2.1), (by rw [e_i2_13]; exact hM.1.2.2.2.1), (by rw [e_i2_15]; exact hM.1.2.2.2.2.1), (by rw [e_i2_17]; exact hM.1.2.2.2.2.2)⟩⟩, fun q5 => by rw [e_i2_7]; exact hM.2 (by rw [← e_i2_5]; exact q5)⟩
  have hf4 := hO3.1
  have hP : va_P G vwCl [(y, .inr (9, [.int (zI (i2 0)), .ref (q 0), .int (zI (i2 1)), .int (zI (i2 2)), .int (zI (i2 3)), .int (zI (i2 4)), .int (zI (i2 5)), .int (zI (i2 6)), .int (zI (i2 7)), .int (zI (i2 8)), .int (zI (i2 9)), .int (zI (i2 10)), .ref (q 1), .int (zI (i2 11)), .int (zI (i2 12)), .ref (q 2), .ref (q 3), .ref (q 4), .ref (q 5), .ref (q 6), .ref (q 7), .ref (q 8), .ref (q 9), .ref (q 10), .ref (q 11), .ref (q 12), .ref (q 13), .ref (q 14), .ref (q 15), .ref (q 16), .int (zI (i2 13)), .int (zI (i2 14)), .int (zI (i2 15)), .int (zI (i2 16)), .int (zI (i2 17)), .int (zI (i2 18)), .ref (q 17), .ref (q 18), .ref (q 19), .ref (q 20)]))] H := by subst e_i2; exact hP
  have hD : va_D A [(y, .inr (9, [.int (zI (i2 0)), .ref (q 0), .int (zI (i2 1)), .int (zI (i2 2)), .int (zI (i2 3)), .int (zI (i2 4)), .int (zI (i2 5)), .int (zI (i2 6)), .int (zI (i2 7)), .int (zI (i2 8)), .int (zI (i2 9)), .int (zI (i2 10)), .ref (q 1), .int (zI (i2 11)), .int (zI (i2 12)), .ref (q 2), .ref (q 3), .ref (q 4), .ref (q 5), .ref (q 6), .ref (q 7), .ref (q 8), .ref (q 9), .ref (q 10), .ref (q 11), .ref (q 12), .ref (q 13), .ref (q 14), .ref (q 15), .ref (q 16), .int (zI (i2 13)), .int (zI (i2 14)), .int (zI (i2 15)), .int (zI (i2 16)), .int (zI (i2 17)), .int (zI (i2 18)), .ref (q 17), .ref (q 18), .ref (q 19), .ref (q 20)]))] := by subst e_i2; exact hD
  exact ret (zI 0) (fun k => [(i2, fun _ _ => 0)].getD k (fun _ => 0, fun _ _ => 0)) _ _ _ _ _ _ rfl ⟨0, rfl, hO3, ⟨rfl, (show i2 10 = x ∧ i2 1 = i 1 ∧ i2 8 = i 8 ∧ i2 9 = i 9 ∧ i2 12 = i 12 ∧ i2 13 = i 13 ∧ i2 15 = i 15 ∧ i2 17 = i 17 from by omega)⟩⟩ (bw_subP (isC := [0]) hP rfl) (hD.sub [0] (by decide) rfl) hS (Nat.le_of_ble_eq_true rfl) (Nat.le_of_ble_eq_true rfl) dX9_isNot_6
theorem dX9_within_0 : decode cX9_within 0 = .ok (.iload_n 0, 1) := bo_26 (by decide +kernel)
theorem dX9_within_1 : decode cX9_within 1 = .ok (.iload_n 1, 1) := bo_27 (by decide +kernel)
theorem dX9_within_2 : decode cX9_within 2 = .ok (.if_icmp .lt 12, 3) := bo_161 0 12 (by decide +kernel)
theorem dX9_within_14 : decode cX9_within 14 = .ok (.iconst 0, 1) := bo_3 (by decide +kernel)
theorem dX9_within_15 : decode cX9_within 15 = .ok (.ireturn, 1) := bo_172 (by decide +kernel)
theorem dX9_within_5 : decode cX9_within 5 = .ok (.iload_n 0, 1) := bo_26 (by decide +kernel)
theorem dX9_within_6 : decode cX9_within 6 = .ok (.iload_n 2, 1) := bo_28 (by decide +kernel)
theorem dX9_within_7 : decode cX9_within 7 = .ok (.if_icmp .gt 7, 3) := bo_163 0 7 (by decide +kernel)
theorem dX9_within_10 : decode cX9_within 10 = .ok (.iconst 1, 1) := bo_4 (by decide +kernel)
theorem dX9_within_11 : decode cX9_within 11 = .ok (.goto 4, 3) := bo_167 0 4 (by decide +kernel)
abbrev rm_X9_within : Room := { frames := 0, cells := 0, slots := 0, locals := 0 }
set_option maxRecDepth 100000 in
set_option maxHeartbeats 8000000 in
theorem c_X9_within {l : Launch} {E : (Nat → Prop) → State → Prop} (hO : bw_Ok E) {G : va_G} {cI cB cJ cN cW : ClassId} (x : Int) (y : Int) (w : Int) (hx9 : zR x) (hy9 : zR y) (hw9 : zR w)  : bw_Ci (S := zV) l yX9_within (bw_ws (Cond.code yX9_within cX9_within 3 (some .boolean))) rm_X9_within E G (bw_kt cI cB cJ cN cW) [.int (zI x), .int (zI y), .int (zI w)] [] (fun r u => ∃ z : Int, r = zI z ∧ ((0 ≤ z ∧ z ≤ 1) ∧ Imp (z = 1) (y ≤ x ∧ x ≤ w) ∧ Imp (z = 0) (x < y ∨ w < x))) (fun u => []) := by
  refine bw_Ci.of (cc := cX9_within) (maxL := 3) (ty := .boolean) (by decide) rfl (Nat.le_of_ble_eq_true rfl) ?_
  intro p e s m below meth c A Q hx hb hml hts hown hin hK hA hS hP hD hE ret ls hl
  have F : CallFix p m c cX9_within 3 s ([.int (zI x), .int (zI y), .int (zI w)] : List Value).toArray bw_T RX9 := ⟨hx, hb, hml, hown, fun w h => hts w (List.mem_cons_of_mem _ h)⟩
  replace hl : lv_has ls 3 [(0, .int (zI x)), (1, .int (zI y)), (2, .int (zI w))] := hl
  refine lv_iload_n hx hb dX9_within_0 rfl (lv_at hl 0 rfl) ?_
  refine lv_iload_n hx hb dX9_within_1 rfl (lv_at hl 1 rfl) ?_
  refine rz_icmp_lt (tgt := 14) F (by omega) (by omega) dX9_within_2 (by decide) (fun h2_0 => ?_) (fun h2_0 => ?_)
  · refine lv_iconst (v := zI 0) hx hb dX9_within_14 rfl ?_
    exact ret (zI 0) (fun k => [((fun _ => 0), fun _ _ => 0)].getD k (fun _ => 0, fun _ _ => 0)) _ _ _ _ _ _ rfl ⟨0, rfl, ⟨(show 0 ≤ (0 : Int) ∧ (0 : Int) ≤ 1 from by omega), (show Imp ((0 : Int) = 1) (y ≤ x ∧ x ≤ w) from fun q9 => by omega), (show Imp ((0 : Int) = 0) (x < y ∨ w < x) from fun q9 => by omega)⟩⟩ (bw_subP (isC := []) hP rfl) (hD.sub [] (by decide) rfl) hS (Nat.le_of_ble_eq_true rfl) (Nat.le_of_ble_eq_true rfl) dX9_within_15
  · refine lv_iload_n hx hb dX9_within_5 rfl (lv_at hl 0 rfl) ?_
    refine lv_iload_n hx hb dX9_within_6 rfl (lv_at hl 2 rfl) ?_
    refine rz_icmp_gt (tgt := 14) F (by omega) (by omega) dX9_within_7 (by decide) (fun h7_1 => ?_) (fun h7_1 => ?_)
    · refine lv_iconst (v := zI 0) hx hb dX9_within_14 rfl ?_
      exact ret (zI 0) (fun k => [((fun _ => 0), fun _ _ => 0)].getD k (fun _ => 0, fun _ _ => 0)) _ _ _ _ _ _ rfl ⟨0, rfl, ⟨(show 0 ≤ (0 : Int) ∧ (0 : Int) ≤ 1 from by omega), (show Imp ((0 : Int) = 1) (y ≤ x ∧ x ≤ w) from fun q9 => by omega), (show Imp ((0 : Int) = 0) (x < y ∨ w < x) from fun q9 => by omega)⟩⟩ (bw_subP (isC := []) hP rfl) (hD.sub [] (by decide) rfl) hS (Nat.le_of_ble_eq_true rfl) (Nat.le_of_ble_eq_true rfl) dX9_within_15
    · refine lv_iconst (v := zI 1) hx hb dX9_within_10 rfl ?_
      refine lv_goto (tgt := 15) hx hb dX9_within_11 (by decide) ?_
      exact ret (zI 1) (fun k => [((fun _ => 0), fun _ _ => 0)].getD k (fun _ => 0, fun _ _ => 0)) _ _ _ _ _ _ rfl ⟨1, rfl, ⟨(show 0 ≤ (1 : Int) ∧ (1 : Int) ≤ 1 from by omega), (show Imp ((1 : Int) = 1) (y ≤ x ∧ x ≤ w) from fun q9 => by omega), (show Imp ((1 : Int) = 0) (x < y ∨ w < x) from fun q9 => by omega)⟩⟩ (bw_subP (isC := []) hP rfl) (hD.sub [] (by decide) rfl) hS (Nat.le_of_ble_eq_true rfl) (Nat.le_of_ble_eq_true rfl) dX9_within_15
theorem dX9_has_0 : decode cX9_has 0 = .ok (.iload_n 0, 1) := bo_26 (by decide +kernel)
theorem dX9_has_1 : decode cX9_has 1 = .ok (.iload_n 1, 1) := bo_27 (by decide +kernel)
theorem dX9_has_2 : decode cX9_has 2 = .ok (.ishr, 1) := bo_122 (by decide +kernel)
theorem dX9_has_3 : decode cX9_has 3 = .ok (.iconst 1, 1) := bo_4 (by decide +kernel)
theorem dX9_has_4 : decode cX9_has 4 = .ok (.iand, 1) := bo_126 (by decide +kernel)
theorem dX9_has_5 : decode cX9_has 5 = .ok (.iconst 1, 1) := bo_4 (by decide +kernel)
theorem dX9_has_6 : decode cX9_has 6 = .ok (.if_icmp .ne 7, 3) := bo_160 0 7 (by decide +kernel)
theorem dX9_has_13 : decode cX9_has 13 = .ok (.iconst 0, 1) := bo_3 (by decide +kernel)
theorem dX9_has_14 : decode cX9_has 14 = .ok (.ireturn, 1) := bo_172 (by decide +kernel)
theorem dX9_has_9 : decode cX9_has 9 = .ok (.iconst 1, 1) := bo_4 (by decide +kernel)
theorem dX9_has_10 : decode cX9_has 10 = .ok (.goto 4, 3) := bo_167 0 4 (by decide +kernel)
abbrev rm_X9_has : Room := { frames := 0, cells := 0, slots := 0, locals := 0 }
set_option maxRecDepth 100000 in
set_option maxHeartbeats 8000000 in
theorem c_X9_has {l : Launch} {E : (Nat → Prop) → State → Prop} (hO : bw_Ok E) {G : va_G} {cI cB cJ cN cW : ClassId} (x : Int) (y : Int) (hx9 : zR x) (hy9 : zR y)  : bw_Ci (S := zV) l yX9_has (bw_ws (Cond.code yX9_has cX9_has 2 (some .boolean))) rm_X9_has E G (bw_kt cI cB cJ cN cW) [.int (zI x), .int (zI y)] [] (fun r u => ∃ z : Int, r = zI z ∧ ((0 ≤ z ∧ z ≤ 1) ∧ (z = 0 → ¬ bitB x y))) (fun u => []) := by
  refine bw_Ci.of (cc := cX9_has) (maxL := 2) (ty := .boolean) (by decide) rfl (Nat.le_of_ble_eq_true rfl) ?_
  intro p e s m below meth c A Q hx hb hml hts hown hin hK hA hS hP hD hE ret ls hl
  have F : CallFix p m c cX9_has 2 s ([.int (zI x), .int (zI y)] : List Value).toArray bw_T RX9 := ⟨hx, hb, hml, hown, fun w h => hts w (List.mem_cons_of_mem _ h)⟩
  replace hl : lv_has ls 2 [(0, .int (zI x)), (1, .int (zI y))] := hl
  refine lv_iload_n hx hb dX9_has_0 rfl (lv_at hl 0 rfl) ?_
  refine lv_iload_n hx hb dX9_has_1 rfl (lv_at hl 1 rfl) ?_
  refine lv_ishr hx hb dX9_has_2 ?_
  refine lv_iconst (v := zI 1) hx hb dX9_has_3 rfl ?_
  refine lv_iand hx hb dX9_has_4 ?_
  refine lv_iconst (v := zI 1) hx hb dX9_has_5 rfl ?_
  refine lv_icmp_ne (tgt := 13) hx hb dX9_has_6 (by decide) (fun h6_2 => ?_) (fun h6_2 => ?_)
  · refine lv_iconst (v := zI 0) hx hb dX9_has_13 rfl ?_
    exact ret (zI 0) (fun k => [((fun _ => 0), fun _ _ => 0)].getD k (fun _ => 0, fun _ _ => 0)) _ _ _ _ _ _ rfl ⟨0, rfl, ⟨by omega, fun _ => h6_2⟩⟩ (bw_subP (isC := []) hP rfl) (hD.sub [] (by decide) rfl) hS (Nat.le_of_ble_eq_true rfl) (Nat.le_of_ble_eq_true rfl) dX9_has_14
  · refine lv_iconst (v := zI 1) hx hb dX9_has_9 rfl ?_
    refine lv_goto (tgt := 14) hx hb dX9_has_10 (by decide) ?_
    exact ret (zI 1) (fun k => [((fun _ => 0), fun _ _ => 0)].getD k (fun _ => 0, fun _ _ => 0)) _ _ _ _ _ _ rfl ⟨1, rfl, ⟨by omega, fun q9 => absurd q9 (by omega)⟩⟩ (bw_subP (isC := []) hP rfl) (hD.sub [] (by decide) rfl) hS (Nat.le_of_ble_eq_true rfl) (Nat.le_of_ble_eq_true rfl) dX9_has_14
theorem dX9_less_0 : decode cX9_less 0 = .ok (.iload_n 0, 1) := bo_26 (by decide +kernel)
theorem dX9_less_1 : decode cX9_less 1 = .ok (.iload_n 1, 1) := bo_27 (by decide +kernel)
theorem dX9_less_2 : decode cX9_less 2 = .ok (.if_icmp .ge 7, 3) := bo_162 0 7 (by decide +kernel)
theorem dX9_less_9 : decode cX9_less 9 = .ok (.iload_n 1, 1) := bo_27 (by decide +kernel)
theorem dX9_less_10 : decode cX9_less 10 = .ok (.ireturn, 1) := bo_172 (by decide +kernel)
theorem dX9_less_5 : decode cX9_less 5 = .ok (.iload_n 0, 1) := bo_26 (by decide +kernel)
theorem dX9_less_6 : decode cX9_less 6 = .ok (.goto 4, 3) := bo_167 0 4 (by decide +kernel)
abbrev rm_X9_less : Room := { frames := 0, cells := 0, slots := 0, locals := 0 }
set_option maxRecDepth 100000 in
set_option maxHeartbeats 8000000 in
theorem c_X9_less {l : Launch} {E : (Nat → Prop) → State → Prop} (hO : bw_Ok E) {G : va_G} {cI cB cJ cN cW : ClassId} (x : Int) (y : Int) (hx9 : zR x) (hy9 : zR y)  : bw_Ci (S := zV) l yX9_less (bw_ws (Cond.code yX9_less cX9_less 2 (some .int))) rm_X9_less E G (bw_kt cI cB cJ cN cW) [.int (zI x), .int (zI y)] [] (fun r u => ∃ z : Int, r = zI z ∧ ((z = x ∨ z = y) ∧ z ≤ x ∧ z ≤ y)) (fun u => []) := by
  refine bw_Ci.of (cc := cX9_less) (maxL := 2) (ty := .int) (by decide) rfl (Nat.le_of_ble_eq_true rfl) ?_
  intro p e s m below meth c A Q hx hb hml hts hown hin hK hA hS hP hD hE ret ls hl
  have F : CallFix p m c cX9_less 2 s ([.int (zI x), .int (zI y)] : List Value).toArray bw_T RX9 := ⟨hx, hb, hml, hown, fun w h => hts w (List.mem_cons_of_mem _ h)⟩
  replace hl : lv_has ls 2 [(0, .int (zI x)), (1, .int (zI y))] := hl
  refine lv_iload_n hx hb dX9_less_0 rfl (lv_at hl 0 rfl) ?_
  refine lv_iload_n hx hb dX9_less_1 rfl (lv_at hl 1 rfl) ?_
  refine rz_icmp_ge (tgt := 9) F (by omega) (by omega) dX9_less_2 (by decide) (fun h2_0 => ?_) (fun h2_0 => ?_)
  · refine lv_iload_n hx hb dX9_less_9 rfl (lv_at hl 1 rfl) ?_
    exact ret (zI y) (fun k => [((fun _ => 0), fun _ _ => 0)].getD k (fun _ => 0, fun _ _ => 0)) _ _ _ _ _ _ rfl ⟨y, rfl, by omega⟩ (bw_subP (isC := []) hP rfl) (hD.sub [] (by decide) rfl) hS (Nat.le_of_ble_eq_true rfl) (Nat.le_of_ble_eq_true rfl) dX9_less_10
  · refine lv_iload_n hx hb dX9_less_5 rfl (lv_at hl 0 rfl) ?_
    refine lv_goto (tgt := 10) hx hb dX9_less_6 (by decide) ?_
    exact ret (zI x) (fun k => [((fun _ => 0), fun _ _ => 0)].getD k (fun _ => 0, fun _ _ => 0)) _ _ _ _ _ _ rfl ⟨x, rfl, by omega⟩ (bw_subP (isC := []) hP rfl) (hD.sub [] (by decide) rfl) hS (Nat.le_of_ble_eq_true rfl) (Nat.le_of_ble_eq_true rfl) dX9_less_10
theorem dX9_isSmall_0 : decode cX9_isSmall 0 = .ok (.iload_n 0, 1) := bo_26 (by decide +kernel)
theorem dX9_isSmall_1 : decode cX9_isSmall 1 = .ok (.bipush 97, 2) := bo_16 97 (by decide +kernel)
theorem dX9_isSmall_3 : decode cX9_isSmall 3 = .ok (.if_icmp .lt 13, 3) := bo_161 0 13 (by decide +kernel)
theorem dX9_isSmall_16 : decode cX9_isSmall 16 = .ok (.iconst 0, 1) := bo_3 (by decide +kernel)
theorem dX9_isSmall_17 : decode cX9_isSmall 17 = .ok (.ireturn, 1) := bo_172 (by decide +kernel)
theorem dX9_isSmall_6 : decode cX9_isSmall 6 = .ok (.iload_n 0, 1) := bo_26 (by decide +kernel)
theorem dX9_isSmall_7 : decode cX9_isSmall 7 = .ok (.bipush 122, 2) := bo_16 122 (by decide +kernel)
theorem dX9_isSmall_9 : decode cX9_isSmall 9 = .ok (.if_icmp .gt 7, 3) := bo_163 0 7 (by decide +kernel)
theorem dX9_isSmall_12 : decode cX9_isSmall 12 = .ok (.iconst 1, 1) := bo_4 (by decide +kernel)
theorem dX9_isSmall_13 : decode cX9_isSmall 13 = .ok (.goto 4, 3) := bo_167 0 4 (by decide +kernel)
abbrev rm_X9_isSmall : Room := { frames := 0, cells := 0, slots := 0, locals := 0 }
set_option maxRecDepth 100000 in
set_option maxHeartbeats 8000000 in
theorem c_X9_isSmall {l : Launch} {E : (Nat → Prop) → State → Prop} (hO : bw_Ok E) {G : va_G} {cI cB cJ cN cW : ClassId} (x : Int) (hx9 : zR x)  : bw_Ci (S := zV) l yX9_isSmall (bw_ws (Cond.code yX9_isSmall cX9_isSmall 1 (some .boolean))) rm_X9_isSmall E G (bw_kt cI cB cJ cN cW) [.int (zI x)] [] (fun r u => ∃ z : Int, r = zI z ∧ ((0 ≤ z ∧ z ≤ 1) ∧ (z = 1 → 97 ≤ x ∧ x ≤ 122) ∧ (z = 0 → x < 97 ∨ 122 < x))) (fun u => []) := by
  refine bw_Ci.of (cc := cX9_isSmall) (maxL := 1) (ty := .boolean) (by decide) rfl (Nat.le_of_ble_eq_true rfl) ?_
  intro p e s m below meth c A Q hx hb hml hts hown hin hK hA hS hP hD hE ret ls hl
  have F : CallFix p m c cX9_isSmall 1 s ([.int (zI x)] : List Value).toArray bw_T RX9 := ⟨hx, hb, hml, hown, fun w h => hts w (List.mem_cons_of_mem _ h)⟩
  replace hl : lv_has ls 1 [(0, .int (zI x))] := hl
  refine lv_iload_n hx hb dX9_isSmall_0 rfl (lv_at hl 0 rfl) ?_
  refine lv_bipush (v := zI 97) hx hb dX9_isSmall_1 (by decide) ?_
  refine rz_icmp_lt (tgt := 16) F (by omega) (by omega) dX9_isSmall_3 (by decide) (fun h3_0 => ?_) (fun h3_0 => ?_)
  · refine lv_iconst (v := zI 0) hx hb dX9_isSmall_16 rfl ?_
    exact ret (zI 0) (fun k => [((fun _ => 0), fun _ _ => 0)].getD k (fun _ => 0, fun _ _ => 0)) _ _ _ _ _ _ rfl ⟨0, rfl, ⟨by omega, fun _ => by omega, fun _ => by omega⟩⟩ (bw_subP (isC := []) hP rfl) (hD.sub [] (by decide) rfl) hS (Nat.le_of_ble_eq_true rfl) (Nat.le_of_ble_eq_true rfl) dX9_isSmall_17
  · refine lv_iload_n hx hb dX9_isSmall_6 rfl (lv_at hl 0 rfl) ?_
    refine lv_bipush (v := zI 122) hx hb dX9_isSmall_7 (by decide) ?_
    refine rz_icmp_gt (tgt := 16) F (by omega) (by omega) dX9_isSmall_9 (by decide) (fun h9_1 => ?_) (fun h9_1 => ?_)
    · refine lv_iconst (v := zI 0) hx hb dX9_isSmall_16 rfl ?_
      exact ret (zI 0) (fun k => [((fun _ => 0), fun _ _ => 0)].getD k (fun _ => 0, fun _ _ => 0)) _ _ _ _ _ _ rfl ⟨0, rfl, ⟨by omega, fun _ => by omega, fun _ => by omega⟩⟩ (bw_subP (isC := []) hP rfl) (hD.sub [] (by decide) rfl) hS (Nat.le_of_ble_eq_true rfl) (Nat.le_of_ble_eq_true rfl) dX9_isSmall_17
    · refine lv_iconst (v := zI 1) hx hb dX9_isSmall_12 rfl ?_
      refine lv_goto (tgt := 17) hx hb dX9_isSmall_13 (by decide) ?_
      exact ret (zI 1) (fun k => [((fun _ => 0), fun _ _ => 0)].getD k (fun _ => 0, fun _ _ => 0)) _ _ _ _ _ _ rfl ⟨1, rfl, ⟨by omega, fun _ => by omega, fun _ => by omega⟩⟩ (bw_subP (isC := []) hP rfl) (hD.sub [] (by decide) rfl) hS (Nat.le_of_ble_eq_true rfl) (Nat.le_of_ble_eq_true rfl) dX9_isSmall_17
theorem dX9_isDigit_0 : decode cX9_isDigit 0 = .ok (.iload_n 0, 1) := bo_26 (by decide +kernel)
theorem dX9_isDigit_1 : decode cX9_isDigit 1 = .ok (.bipush 48, 2) := bo_16 48 (by decide +kernel)
theorem dX9_isDigit_3 : decode cX9_isDigit 3 = .ok (.if_icmp .lt 13, 3) := bo_161 0 13 (by decide +kernel)
theorem dX9_isDigit_16 : decode cX9_isDigit 16 = .ok (.iconst 0, 1) := bo_3 (by decide +kernel)
theorem dX9_isDigit_17 : decode cX9_isDigit 17 = .ok (.ireturn, 1) := bo_172 (by decide +kernel)
theorem dX9_isDigit_6 : decode cX9_isDigit 6 = .ok (.iload_n 0, 1) := bo_26 (by decide +kernel)
theorem dX9_isDigit_7 : decode cX9_isDigit 7 = .ok (.bipush 57, 2) := bo_16 57 (by decide +kernel)
theorem dX9_isDigit_9 : decode cX9_isDigit 9 = .ok (.if_icmp .gt 7, 3) := bo_163 0 7 (by decide +kernel)
theorem dX9_isDigit_12 : decode cX9_isDigit 12 = .ok (.iconst 1, 1) := bo_4 (by decide +kernel)
theorem dX9_isDigit_13 : decode cX9_isDigit 13 = .ok (.goto 4, 3) := bo_167 0 4 (by decide +kernel)
abbrev rm_X9_isDigit : Room := { frames := 0, cells := 0, slots := 0, locals := 0 }
set_option maxRecDepth 100000 in
set_option maxHeartbeats 8000000 in
theorem c_X9_isDigit {l : Launch} {E : (Nat → Prop) → State → Prop} (hO : bw_Ok E) {G : va_G} {cI cB cJ cN cW : ClassId} (x : Int) (hx9 : zR x)  : bw_Ci (S := zV) l yX9_isDigit (bw_ws (Cond.code yX9_isDigit cX9_isDigit 1 (some .boolean))) rm_X9_isDigit E G (bw_kt cI cB cJ cN cW) [.int (zI x)] [] (fun r u => ∃ z : Int, r = zI z ∧ ((0 ≤ z ∧ z ≤ 1) ∧ (z = 1 → 48 ≤ x ∧ x ≤ 57) ∧ (z = 0 → x < 48 ∨ 57 < x))) (fun u => []) := by
  refine bw_Ci.of (cc := cX9_isDigit) (maxL := 1) (ty := .boolean) (by decide) rfl (Nat.le_of_ble_eq_true rfl) ?_
  intro p e s m below meth c A Q hx hb hml hts hown hin hK hA hS hP hD hE ret ls hl
  have F : CallFix p m c cX9_isDigit 1 s ([.int (zI x)] : List Value).toArray bw_T RX9 := ⟨hx, hb, hml, hown, fun w h => hts w (List.mem_cons_of_mem _ h)⟩
  replace hl : lv_has ls 1 [(0, .int (zI x))] := hl
  refine lv_iload_n hx hb dX9_isDigit_0 rfl (lv_at hl 0 rfl) ?_
  refine lv_bipush (v := zI 48) hx hb dX9_isDigit_1 (by decide) ?_
  refine rz_icmp_lt (tgt := 16) F (by omega) (by omega) dX9_isDigit_3 (by decide) (fun h3_0 => ?_) (fun h3_0 => ?_)
  · refine lv_iconst (v := zI 0) hx hb dX9_isDigit_16 rfl ?_
    exact ret (zI 0) (fun k => [((fun _ => 0), fun _ _ => 0)].getD k (fun _ => 0, fun _ _ => 0)) _ _ _ _ _ _ rfl ⟨0, rfl, ⟨by omega, fun _ => by omega, fun _ => by omega⟩⟩ (bw_subP (isC := []) hP rfl) (hD.sub [] (by decide) rfl) hS (Nat.le_of_ble_eq_true rfl) (Nat.le_of_ble_eq_true rfl) dX9_isDigit_17
  · refine lv_iload_n hx hb dX9_isDigit_6 rfl (lv_at hl 0 rfl) ?_
    refine lv_bipush (v := zI 57) hx hb dX9_isDigit_7 (by decide) ?_
    refine rz_icmp_gt (tgt := 16) F (by omega) (by omega) dX9_isDigit_9 (by decide) (fun h9_1 => ?_) (fun h9_1 => ?_)
    · refine lv_iconst (v := zI 0) hx hb dX9_isDigit_16 rfl ?_
      exact ret (zI 0) (fun k => [((fun _ => 0), fun _ _ => 0)].getD k (fun _ => 0, fun _ _ => 0)) _ _ _ _ _ _ rfl ⟨0, rfl, ⟨by omega, fun _ => by omega, fun _ => by omega⟩⟩ (bw_subP (isC := []) hP rfl) (hD.sub [] (by decide) rfl) hS (Nat.le_of_ble_eq_true rfl) (Nat.le_of_ble_eq_true rfl) dX9_isDigit_17
    · refine lv_iconst (v := zI 1) hx hb dX9_isDigit_12 rfl ?_
      refine lv_goto (tgt := 17) hx hb dX9_isDigit_13 (by decide) ?_
      exact ret (zI 1) (fun k => [((fun _ => 0), fun _ _ => 0)].getD k (fun _ => 0, fun _ _ => 0)) _ _ _ _ _ _ rfl ⟨1, rfl, ⟨by omega, fun _ => by omega, fun _ => by omega⟩⟩ (bw_subP (isC := []) hP rfl) (hD.sub [] (by decide) rfl) hS (Nat.le_of_ble_eq_true rfl) (Nat.le_of_ble_eq_true rfl) dX9_isDigit_17
theorem dX9_isCount_0 : decode cX9_isCount 0 = .ok (.iload_n 0, 1) := bo_26 (by decide +kernel)
theorem dX9_isCount_1 : decode cX9_isCount 1 = .ok (.iconst 0, 1) := bo_3 (by decide +kernel)
theorem dX9_isCount_2 : decode cX9_isCount 2 = .ok (.bipush 99, 2) := bo_16 99 (by decide +kernel)
theorem dX9_isCount_4 : decode cX9_isCount 4 = .ok (.invokestatic 146, 3) := bo_184 0 146 (by decide +kernel)
theorem k_1300 : Cond.methodLink RX9 146 yX9_within ∈ bw_T := bw_m 1300 (by decide +kernel) rfl
theorem ks_X9_within : bw_KS RX9 yX9_within (Cond.code yX9_within cX9_within 3 (some .boolean)) := ⟨bw_m 1301 (by decide +kernel) rfl, bw_m 107 (by decide +kernel) rfl, bw_m 1302 (by decide +kernel) rfl⟩
theorem dX9_isCount_7 : decode cX9_isCount 7 = .ok (.ireturn, 1) := bo_172 (by decide +kernel)
abbrev rm_X9_isCount : Room := { frames := 1, cells := 0, slots := 0, locals := 22 }
set_option maxRecDepth 100000 in
set_option maxHeartbeats 8000000 in
theorem c_X9_isCount {l : Launch} {E : (Nat → Prop) → State → Prop} (hO : bw_Ok E) {G : va_G} {cI cB cJ cN cW : ClassId} (x : Int) (hx9 : zR x)  : bw_Ci (S := zV) l yX9_isCount (bw_ws (Cond.code yX9_isCount cX9_isCount 1 (some .boolean))) rm_X9_isCount E G (bw_kt cI cB cJ cN cW) [.int (zI x)] [] (fun r u => ∃ z : Int, r = zI z ∧ ((0 ≤ z ∧ z ≤ 1) ∧ Imp (z = 1) (0 ≤ x ∧ x ≤ 99) ∧ Imp (z = 0) (x < 0 ∨ 99 < x))) (fun u => []) := by
  refine bw_Ci.of (cc := cX9_isCount) (maxL := 1) (ty := .boolean) (by decide) rfl (Nat.le_of_ble_eq_true rfl) ?_
  intro p e s m below meth c A Q hx hb hml hts hown hin hK hA hS hP hD hE ret ls hl
  have F : CallFix p m c cX9_isCount 1 s ([.int (zI x)] : List Value).toArray bw_T RX9 := ⟨hx, hb, hml, hown, fun w h => hts w (List.mem_cons_of_mem _ h)⟩
  replace hl : lv_has ls 1 [(0, .int (zI x))] := hl
  refine lv_iload_n hx hb dX9_isCount_0 rfl (lv_at hl 0 rfl) ?_
  refine lv_iconst (v := zI 0) hx hb dX9_isCount_1 rfl ?_
  refine lv_bipush (v := zI 99) hx hb dX9_isCount_2 (by decide) ?_
  refine r_callSi (As := [.int (zI x), .int (zI 0), .int (zI 99)]) (rest := []) (wr := []) F hK hP hD hS hA hO hE (c_X9_within hO x 0 99 (by omega) (by omega) (by omega)) k_1300 ks_X9_within 3 rfl (by decide +kernel) ⟨Nat.le_of_ble_eq_true rfl, Nat.le_of_ble_eq_true rfl⟩ [] [] rfl rfl (by decide) (by decide) (by decide) hl.1 rfl (Nat.le_of_ble_eq_true rfl) dX9_isCount_4 ⟨Nat.le_of_ble_eq_true rfl, Nat.le_of_ble_eq_true rfl⟩ (w1 := fun u1 => []) (fun _ => rfl) (fun r2 u1 H locs hp3 hP hD hS => ?_)
  obtain ⟨z4, rfl, h_z4⟩ := hp3
  exact ret (zI z4) (fun k => [((fun _ => 0), fun _ _ => 0)].getD k (fun _ => 0, fun _ _ => 0)) _ _ _ _ _ _ (zI_nz (by omega)) ⟨z4, rfl, ⟨(show 0 ≤ (z4 : Int) ∧ (z4 : Int) ≤ 1 from by omega), (show Imp ((z4 : Int) = 1) (0 ≤ x ∧ x ≤ 99) from fun q9 => by have r0 := h_z4.2.1 (by omega); omega), (show Imp ((z4 : Int) = 0) (x < 0 ∨ 99 < x) from fun q9 => by have r1 := h_z4.2.2 (by omega); omega)⟩⟩ (bw_subP (isC := []) hP rfl) (hD.sub [] (by decide) rfl) hS (Nat.le_of_ble_eq_true rfl) (Nat.le_of_ble_eq_true rfl) dX9_isCount_7
theorem dX9_inputs_0 : decode cX9_inputs 0 = .ok (.iload_n 0, 1) := bo_26 (by decide +kernel)
theorem dX9_inputs_1 : decode cX9_inputs 1 = .ok (.iconst 1, 1) := bo_4 (by decide +kernel)
theorem dX9_inputs_2 : decode cX9_inputs 2 = .ok (.iadd, 1) := bo_96 (by decide +kernel)
theorem dX9_inputs_3 : decode cX9_inputs 3 = .ok (.istore_n 1, 1) := bo_60 (by decide +kernel)
theorem dX9_inputs_4 : decode cX9_inputs 4 = .ok (.iload_n 1, 1) := bo_27 (by decide +kernel)
theorem dX9_inputs_5 : decode cX9_inputs 5 = .ok (.iload_n 1, 1) := bo_27 (by decide +kernel)
theorem dX9_inputs_6 : decode cX9_inputs 6 = .ok (.imul, 1) := bo_104 (by decide +kernel)
theorem dX9_inputs_7 : decode cX9_inputs 7 = .ok (.iload_n 1, 1) := bo_27 (by decide +kernel)
theorem dX9_inputs_8 : decode cX9_inputs 8 = .ok (.imul, 1) := bo_104 (by decide +kernel)
theorem dX9_inputs_9 : decode cX9_inputs 9 = .ok (.iload_n 1, 1) := bo_27 (by decide +kernel)
theorem dX9_inputs_10 : decode cX9_inputs 10 = .ok (.imul, 1) := bo_104 (by decide +kernel)
theorem dX9_inputs_11 : decode cX9_inputs 11 = .ok (.ireturn, 1) := bo_172 (by decide +kernel)
theorem dX9_look_0 : decode cX9_look 0 = .ok (.iload_n 1, 1) := bo_27 (by decide +kernel)
theorem dX9_look_1 : decode cX9_look 1 = .ok (.aload_n 0, 1) := bo_42 (by decide +kernel)
theorem dX9_look_2 : decode cX9_look 2 = .ok (.getfield 86, 3) := bo_180 0 86 (by decide +kernel)
theorem k_1166 : Cond.fieldLink RX9 86 "BurntWaysModel" "size" "I" ∈ bw_T := bw_m 1166 (by decide +kernel) rfl
theorem dX9_look_5 : decode cX9_look 5 = .ok (.if_icmp .ge 12, 3) := bo_162 0 12 (by decide +kernel)
theorem dX9_look_17 : decode cX9_look 17 = .ok (.iconst (-1), 1) := bo_2 (by decide +kernel)
theorem dX9_look_18 : decode cX9_look 18 = .ok (.ireturn, 1) := bo_172 (by decide +kernel)
theorem dX9_look_8 : decode cX9_look 8 = .ok (.aload_n 0, 1) := bo_42 (by decide +kernel)
theorem dX9_look_9 : decode cX9_look 9 = .ok (.getfield 7, 3) := bo_180 0 7 (by decide +kernel)
theorem k_1164 : Cond.fieldLink RX9 7 "BurntWaysModel" "tape" "[I" ∈ bw_T := bw_m 1164 (by decide +kernel) rfl
theorem dX9_look_12 : decode cX9_look 12 = .ok (.iload_n 1, 1) := bo_27 (by decide +kernel)
theorem dX9_look_13 : decode cX9_look 13 = .ok (.iaload, 1) := bo_46 (by decide +kernel)
theorem dX9_look_14 : decode cX9_look 14 = .ok (.goto 4, 3) := bo_167 0 4 (by decide +kernel)
abbrev rm_X9_look : Room := { frames := 0, cells := 0, slots := 0, locals := 0 }
set_option maxRecDepth 100000 in
set_option maxHeartbeats 8000000 in
theorem c_X9_look {l : Launch} {E : (Nat → Prop) → State → Prop} (hO : bw_Ok E) {G : va_G} {cI cB cJ cN cW : ClassId} (y : Nat) (q : Nat → Nat) (i : Nat → Int) (hM : ModS i) (g_tape : Nat → Int) (hr_tape : ∀ k, k < 900 → (-2147483648) ≤ g_tape k ∧ g_tape k ≤ 2147483647) (x : Int) (hx9 : zR x) (hk9 : 0 ≤ x) : bw_Ci (S := zV) l yX9_look (bw_ws (Cond.code yX9_look cX9_look 2 (some .int))) rm_X9_look E G (bw_kt cI cB cJ cN cW) [.ref y, .int (zI x)] [(y, .inr (9, [.int (zI (i 0)), .ref (q 0), .int (zI (i 1)), .int (zI (i 2)), .int (zI (i 3)), .int (zI (i 4)), .int (zI (i 5)), .int (zI (i 6)), .int (zI (i 7)), .int (zI (i 8)), .int (zI (i 9)), .int (zI (i 10)), .ref (q 1), .int (zI (i 11)), .int (zI (i 12)), .ref (q 2), .ref (q 3), .ref (q 4), .ref (q 5), .ref (q 6), .ref (q 7), .ref (q 8), .ref (q 9), .ref (q 10), .ref (q 11), .ref (q 12), .ref (q 13), .ref (q 14), .ref (q 15), .ref (q 16), .int (zI (i 13)), .int (zI (i 14)), .int (zI (i 15)), .int (zI (i 16)), .int (zI (i 17)), .int (zI (i 18)), .ref (q 17), .ref (q 18), .ref (q 19), .ref (q 20)])), ((q 0), .inl (cI, 900, .inl (fun k => zI (g_tape k))))] (fun r u => ∃ z : Int, r = zI z ∧ (z = lk g_tape (i 2) x ∧ zR z ∧ (z ≠ -1 → x < i 2))) (fun u => [(y, .inr (9, [.int (zI (i 0)), .ref (q 0), .int (zI (i 1)), .int (zI (i 2)), .int (zI (i 3)), .int (zI (i 4)), .int (zI (i 5)), .int (zI (i 6)), .int (zI (i 7)), .int (zI (i 8)), .int (zI (i 9)), .int (zI (i 10)), .ref (q 1), .int (zI (i 11)), .int (zI (i 12)), .ref (q 2), .ref (q 3), .ref (q 4), .ref (q 5), .ref (q 6), .ref (q 7), .ref (q 8), .ref (q 9), .ref (q 10), .ref (q 11), .ref (q 12), .ref (q 13), .ref (q 14), .ref (q 15), .ref (q 16), .int (zI (i 13)), .int (zI (i 14)), .int (zI (i 15)), .int (zI (i 16)), .int (zI (i 17)), .int (zI (i 18)), .ref (q 17), .ref (q 18), .ref (q 19), .ref (q 20)])), ((q 0), .inl (cI, 900, .inl (fun k => zI (g_tape k))))]) := by
  refine bw_Ci.of (cc := cX9_look) (maxL := 2) (ty := .int) (by decide) rfl (Nat.le_of_ble_eq_true rfl) ?_
  intro p e s m below meth c A Q hx hb hml hts hown hin hK hA hS hP hD hE ret ls hl
  have F : CallFix p m c cX9_look 2 s ([.ref y, .int (zI x)] : List Value).toArray bw_T RX9 := ⟨hx, hb, hml, hown, fun w h => hts w (List.mem_cons_of_mem _ h)⟩
  replace hl : lv_has ls 2 [(0, .ref y), (1, .int (zI x))] := hl
  have hf1 := hM
  refine lv_iload_n hx hb dX9_look_0 rfl (lv_at hl 1 rfl) ?_
  refine lv_aload_n hx hb dX9_look_1 rfl (lv_at hl 0 rfl) ?_
  refine r_get F hK hP 0 3 rfl rfl in_X9 (by decide) k_1166 rfl dX9_look_2 ?_
  refine rz_icmp_ge (tgt := 17) F (by omega) (by omega) dX9_look_5 (by decide) (fun h5_1 => ?_) (fun h5_1 => ?_)
  · refine lv_iconst (v := zI (-1)) hx hb dX9_look_17 rfl ?_
    exact ret (zI (-1)) (fun k => [((fun _ => 0), fun _ _ => 0)].getD k (fun _ => 0, fun _ _ => 0)) _ _ _ _ _ _ rfl ⟨(-1), rfl, ⟨(if_neg (by omega)).symm, by omega, fun _ => by omega⟩⟩ (bw_subP (isC := [0, 1]) hP rfl) (hD.sub [0, 1] (by decide) rfl) hS (Nat.le_of_ble_eq_true rfl) (Nat.le_of_ble_eq_true rfl) dX9_look_18
  · refine lv_aload_n hx hb dX9_look_8 rfl (lv_at hl 0 rfl) ?_
    refine r_get F hK hP 0 1 rfl rfl in_X9 (by decide) k_1164 rfl dX9_look_9 ?_
    refine lv_iload_n hx hb dX9_look_12 rfl (lv_at hl 1 rfl) ?_
    refine rz_iald F hK hP 1 0 rfl rfl (by omega) (by omega) dX9_look_13 ?_
    have h_l13_2 := hr_tape (x).toNat (by omega)
    refine lv_goto (tgt := 18) hx hb dX9_look_14 (by decide) ?_
    exact ret (zI (g_tape (x).toNat)) (fun k => [((fun _ => 0), fun _ _ => 0)].getD k (fun _ => 0, fun _ _ => 0)) _ _ _ _ _ _ rfl ⟨(g_tape (x).toNat), rfl, ⟨(if_pos (by omega)).symm, by omega, fun _ => by omega⟩⟩ (bw_subP (isC := [0, 1]) hP rfl) (hD.sub [0, 1] (by decide) rfl) hS (Nat.le_of_ble_eq_true rfl) (Nat.le_of_ble_eq_true rfl) dX9_look_18
theorem dX9_thrown_0 : decode cX9_thrown 0 = .ok (.aload_n 0, 1) := bo_42 (by decide +kernel)
theorem dX9_thrown_1 : decode cX9_thrown 1 = .ok (.getfield 77, 3) := bo_180 0 77 (by decide +kernel)
theorem dX9_thrown_4 : decode cX9_thrown 4 = .ok (.ireturn, 1) := bo_172 (by decide +kernel)
theorem dX9_fault_0 : decode cX9_fault 0 = .ok (.aload_n 0, 1) := bo_42 (by decide +kernel)
theorem dX9_fault_1 : decode cX9_fault 1 = .ok (.iconst 0, 1) := bo_3 (by decide +kernel)
theorem dX9_fault_2 : decode cX9_fault 2 = .ok (.putfield 77, 3) := bo_181 0 77 (by decide +kernel)
theorem dX9_fault_5 : decode cX9_fault 5 = .ok (.aload_n 0, 1) := bo_42 (by decide +kernel)
theorem dX9_fault_6 : decode cX9_fault 6 = .ok (.getfield 119, 3) := bo_180 0 119 (by decide +kernel)
theorem k_1172 : Cond.fieldLink RX9 119 "BurntWaysModel" "fault" "I" ∈ bw_T := bw_m 1172 (by decide +kernel) rfl
theorem dX9_fault_9 : decode cX9_fault 9 = .ok (.ireturn, 1) := bo_172 (by decide +kernel)
abbrev rm_X9_fault : Room := { frames := 0, cells := 0, slots := 0, locals := 0 }
set_option maxRecDepth 100000 in
set_option maxHeartbeats 8000000 in
theorem c_X9_fault {l : Launch} {E : (Nat → Prop) → State → Prop} (hO : bw_Ok E) {G : va_G} {cI cB cJ cN cW : ClassId} (y : Nat) (q : Nat → Nat) (i : Nat → Int) (hM : ModOk i)  : bw_Ci (S := zV) l yX9_fault (bw_ws (Cond.code yX9_fault cX9_fault 1 (some .int))) rm_X9_fault E G (bw_kt cI cB cJ cN cW) [.ref y] [(y, .inr (9, [.int (zI (i 0)), .ref (q 0), .int (zI (i 1)), .int (zI (i 2)), .int (zI (i 3)), .int (zI (i 4)), .int (zI (i 5)), .int (zI (i 6)), .int (zI (i 7)), .int (zI (i 8)), .int (zI (i 9)), .int (zI (i 10)), .ref (q 1), .int (zI (i 11)), .int (zI (i 12)), .ref (q 2), .ref (q 3), .ref (q 4), .ref (q 5), .ref (q 6), .ref (q 7), .ref (q 8), .ref (q 9), .ref (q 10), .ref (q 11), .ref (q 12), .ref (q 13), .ref (q 14), .ref (q 15), .ref (q 16), .int (zI (i 13)), .int (zI (i 14)), .int (zI (i 15)), .int (zI (i 16)), .int (zI (i 17)), .int (zI (i 18)), .ref (q 17), .ref (q 18), .ref (q 19), .ref (q 20)]))] (fun r u => ∃ z : Int, r = zI z ∧ (ModOk (u 0).1) ∧ ((u 0).1 1 = i 1 ∧ (u 0).1 8 = i 8 ∧ (u 0).1 9 = i 9 ∧ (u 0).1 10 = i 10 ∧ (u 0).1 12 = i 12 ∧ (u 0).1 13 = i 13 ∧ (u 0).1 15 = i 15 ∧ (u 0).1 17 = i 17 ∧ z = i 8)) (fun u => [(y, .inr (9, [.int (zI ((u 0).1 0)), .ref (q 0), .int (zI ((u 0).1 1)), .int (zI ((u 0).1 2)), .int (zI ((u 0).1 3)), .int (zI ((u 0).1 4)), .int (zI ((u 0).1 5)), .int (zI ((u 0).1 6)), .int (zI ((u 0).1 7)), .int (zI ((u 0).1 8)), .int (zI ((u 0).1 9)), .int (zI ((u 0).1 10)), .ref (q 1), .int (zI ((u 0).1 11)), .int (zI ((u 0).1 12)), .ref (q 2), .ref (q 3), .ref (q 4), .ref (q 5), .ref (q 6), .ref (q 7), .ref (q 8), .ref (q 9), .ref (q 10), .ref (q 11), .ref (q 12), .ref (q 13), .ref (q 14), .ref (q 15), .ref (q 16), .int (zI ((u 0).1 13)), .int (zI ((u 0).1 14)), .int (zI ((u 0).1 15)), .int (zI ((u 0).1 16)), .int (zI ((u 0).1 17)), .int (zI ((u 0).1 18)), .ref (q 17), .ref (q 18), .ref (q 19), .ref (q 20)]))]) := by
  refine bw_Ci.of (cc := cX9_fault) (maxL := 1) (ty := .int) (by decide) rfl (Nat.le_of_ble_eq_true rfl) ?_
  intro p e s m below meth c A Q hx hb hml hts hown hin hK hA hS hP hD hE ret ls hl
  have F : CallFix p m c cX9_fault 1 s ([.ref y] : List Value).toArray bw_T RX9 := ⟨hx, hb, hml, hown, fun w h => hts w (List.mem_cons_of_mem _ h)⟩
  replace hl : lv_has ls 1 [(0, .ref y)] := hl
  have hf1 := hM.1
  refine lv_aload_n hx hb dX9_fault_0 rfl (lv_at hl 0 rfl) ?_
  refine lv_iconst (v := zI 0) hx hb dX9_fault_1 rfl ?_
  refine r_put F hK hP hD hS 0 0 rfl rfl in_X9 tyX9 tyX9_ok nmX9 (by decide) k_1163 rfl rfl rfl (Nat.le_of_ble_eq_true rfl) dX9_fault_2 (w1 := [(y, .inr (9, [.int (zI 0), .ref (q 0), .int (zI (i 1)), .int (zI (i 2)), .int (zI (i 3)), .int (zI (i 4)), .int (zI (i 5)), .int (zI (i 6)), .int (zI (i 7)), .int (zI (i 8)), .int (zI (i 9)), .int (zI (i 10)), .ref (q 1), .int (zI (i 11)), .int (zI (i 12)), .ref (q 2), .ref (q 3), .ref (q 4), .ref (q 5), .ref (q 6), .ref (q 7), .ref (q 8), .ref (q 9), .ref (q 10), .ref (q 11), .ref (q 12), .ref (q 13), .ref (q 14), .ref (q 15), .ref (q 16), .int (zI (i 13)), .int (zI (i 14)), .int (zI (i 15)), .int (zI (i 16)), .int (zI (i 17)), .int (zI (i 18)), .ref (q 17), .ref (q 18), .ref (q 19), .ref (q 20)]))]) rfl (fun H locs hP hD hS => ?_)
  refine lv_aload_n hx hb dX9_fault_5 rfl (lv_at hl 0 rfl) ?_
  refine r_get F hK hP 0 9 rfl rfl in_X9 (by decide) k_1172 rfl dX9_fault_6 ?_
  obtain ⟨i2, e_i2⟩ : ∃ i2 : Nat → Int, i2 = fun k => [0, (i 1), (i 2), (i 3), (i 4), (i 5), (i 6), (i 7), (i 8), (i 9), (i 10), (i 11), (i 12), (i 13), (i 14), (i 15), (i 16), (i 17), (i 18)].getD k 0 := ⟨_, rfl⟩
  have e_i2_0 : i2 0 = 0 := congrFun e_i2 0
  have e_i2_1 : i2 1 = (i 1) := congrFun e_i2 1
  have e_i2_2 : i2 2 = (i 2) := congrFun e_i2 2
  have e_i2_3 : i2 3 = (i 3) := congrFun e_i2 3
  have e_i2_4 : i2 4 = (i 4) := congrFun e_i2 4
  have e_i2_5 : i2 5 = (i 5) := congrFun e_i2 5
  have e_i2_6 : i2 6 = (i 6) := congrFun e_i2 6
  have e_i2_7 : i2 7 = (i 7) := congrFun e_i2 7
  have e_i2_8 : i2 8 = (i 8) := congrFun e_i2 8
  have e_i2_9 : i2 9 = (i 9) := congrFun e_i2 9
  have e_i2_10 : i2 10 = (i 10) := congrFun e_i2 10
  have e_i2_11 : i2 11 = (i 11) := congrFun e_i2 11
  have e_i2_12 : i2 12 = (i 12) := congrFun e_i2 12
  have e_i2_13 : i2 13 = (i 13) := congrFun e_i2 13
  have e_i2_14 : i2 14 = (i 14) := congrFun e_i2 14
  have e_i2_15 : i2 15 = (i 15) := congrFun e_i2 15
  have e_i2_16 : i2 16 = (i 16) := congrFun e_i2 16
  have e_i2_17 : i2 17 = (i 17) := congrFun e_i2 17
  have e_i2_18 : i2 18 = (i 18) := congrFun e_i2 18
  have hO3 : ModOk i2 := ⟨⟨⟨(by rw [e_i2_11]; exact hM.1.1.1), (by rw [e_i2_14]; exact hM.1.1.2.1), (by rw [e_i2_16]; exact hM.1.1.2.2.1), (by rw [e_i2_7]; exact hM.1.1.2.2.2.1), (by rw [e_i2_5]; exact hM.1.1.2.2.2.2)⟩, ⟨(by rw [e_i2_1]; exact hM.1.2.1.1), (by rw [e_i2_2]; exact hM.1.2.1.2.1), (by rw [e_i2_3]; exact hM.1.2.1.2.2.1), (by rw [e_i2_4]; exact hM.1.2.1.2.2.2.1), (by rw [e_i2_6]; exact hM.1.2.1.2.2.2.2.1), (by rw [e_i2_10]; exact hM.1.2.1.2.2.2.2.2)⟩, ⟨(by rw [e_i2_12]; exact hM.1.2.2.1), (by rw [e_i2_13]; exact hM.1.2.2.2.1), (by rw [e_i2_15]; exact hM.1.2.2.2.2.1), (by rw [e_i2_17]; exact hM.1.2.2.2.2.2)⟩⟩, fun q5 => by rw [e_i2_7]; exact hM.2 (by rw [← e_i2_5]; exact q5)⟩
  have hf4 := hO3.1
  have hP : va_P G vwCl [(y, .inr (9, [.int (zI (i2 0)), .ref (q 0), .int (zI (i2 1)), .int (zI (i2 2)), .int (zI (i2 3)), .int (zI (i2 4)), .int (zI (i2 5)), .int (zI (i2 6)), .int (zI (i2 7)), .int (zI (i2 8)), .int (zI (i2 9)), .int (zI (i2 10)), .ref (q 1), .int (zI (i2 11)), .int (zI (i2 12)), .ref (q 2), .ref (q 3), .ref (q 4), .ref (q 5), .ref (q 6), .ref (q 7), .ref (q 8), .ref (q 9), .ref (q 10), .ref (q 11), .ref (q 12), .ref (q 13), .ref (q 14), .ref (q 15), .ref (q 16), .int (zI (i2 13)), .int (zI (i2 14)), .int (zI (i2 15)), .int (zI (i2 16)), .int (zI (i2 17)), .int (zI (i2 18)), .ref (q 17), .ref (q 18), .ref (q 19), .ref (q 20)]))] H := by subst e_i2; exact hP
  have hD : va_D A [(y, .inr (9, [.int (zI (i2 0)), .ref (q 0), .int (zI (i2 1)), .int (zI (i2 2)), .int (zI (i2 3)), .int (zI (i2 4)), .int (zI (i2 5)), .int (zI (i2 6)), .int (zI (i2 7)), .int (zI (i2 8)), .int (zI (i2 9)), .int (zI (i2 10)), .ref (q 1), .int (zI (i2 11)), .int (zI (i2 12)), .ref (q 2), .ref (q 3), .ref (q 4), .ref (q 5), .ref (q 6), .ref (q 7), .ref (q 8), .ref (q 9), .ref (q 10), .ref (q 11), .ref (q 12), .ref (q 13), .ref (q 14), .ref (q 15), .ref (q 16), .int (zI (i2 13)), .int (zI (i2 14)), .int (zI (i2 15)), .int (zI (i2 16)), .int (zI (i2 17)), .int (zI (i2 18)), .ref (q 17), .ref (q 18), .ref (q 19), .ref (q 20)]))] := by subst e_i2; exact hD
  exact ret (zI (i 8)) (fun k => [(i2, fun _ _ => 0)].getD k (fun _ => 0, fun _ _ => 0)) _ _ _ _ _ _ rfl ⟨(i 8), rfl, hO3, (show i2 1 = i 1 ∧ i2 8 = i 8 ∧ i2 9 = i 9 ∧ i2 10 = i 10 ∧ i2 12 = i 12 ∧ i2 13 = i 13 ∧ i2 15 = i 15 ∧ i2 17 = i 17 ∧ ((i 8) : Int) = i 8 from by omega)⟩ (bw_subP (isC := [0]) hP rfl) (hD.sub [0] (by decide) rfl) hS (Nat.le_of_ble_eq_true rfl) (Nat.le_of_ble_eq_true rfl) dX9_fault_9
theorem dX9_where_0 : decode cX9_where 0 = .ok (.aload_n 0, 1) := bo_42 (by decide +kernel)
theorem dX9_where_1 : decode cX9_where 1 = .ok (.iconst 0, 1) := bo_3 (by decide +kernel)
theorem dX9_where_2 : decode cX9_where 2 = .ok (.putfield 77, 3) := bo_181 0 77 (by decide +kernel)
theorem dX9_where_5 : decode cX9_where 5 = .ok (.aload_n 0, 1) := bo_42 (by decide +kernel)
theorem dX9_where_6 : decode cX9_where 6 = .ok (.getfield 80, 3) := bo_180 0 80 (by decide +kernel)
theorem dX9_where_9 : decode cX9_where 9 = .ok (.iconst 4, 1) := bo_7 (by decide +kernel)
theorem dX9_where_10 : decode cX9_where 10 = .ok (.if_icmp .ne 10, 3) := bo_160 0 10 (by decide +kernel)
theorem dX9_where_20 : decode cX9_where 20 = .ok (.iconst (-1), 1) := bo_2 (by decide +kernel)
theorem dX9_where_21 : decode cX9_where 21 = .ok (.ireturn, 1) := bo_172 (by decide +kernel)
theorem dX9_where_13 : decode cX9_where 13 = .ok (.aload_n 0, 1) := bo_42 (by decide +kernel)
theorem dX9_where_14 : decode cX9_where 14 = .ok (.getfield 13, 3) := bo_180 0 13 (by decide +kernel)
theorem k_1173 : Cond.fieldLink RX9 13 "BurntWaysModel" "place" "I" ∈ bw_T := bw_m 1173 (by decide +kernel) rfl
theorem dX9_where_17 : decode cX9_where 17 = .ok (.goto 4, 3) := bo_167 0 4 (by decide +kernel)
abbrev rm_X9_where : Room := { frames := 0, cells := 0, slots := 0, locals := 0 }
set_option maxRecDepth 100000 in
set_option maxHeartbeats 8000000 in
theorem c_X9_where {l : Launch} {E : (Nat → Prop) → State → Prop} (hO : bw_Ok E) {G : va_G} {cI cB cJ cN cW : ClassId} (y : Nat) (q : Nat → Nat) (i : Nat → Int) (hM : ModOk i)  : bw_Ci (S := zV) l yX9_where (bw_ws (Cond.code yX9_where cX9_where 1 (some .int))) rm_X9_where E G (bw_kt cI cB cJ cN cW) [.ref y] [(y, .inr (9, [.int (zI (i 0)), .ref (q 0), .int (zI (i 1)), .int (zI (i 2)), .int (zI (i 3)), .int (zI (i 4)), .int (zI (i 5)), .int (zI (i 6)), .int (zI (i 7)), .int (zI (i 8)), .int (zI (i 9)), .int (zI (i 10)), .ref (q 1), .int (zI (i 11)), .int (zI (i 12)), .ref (q 2), .ref (q 3), .ref (q 4), .ref (q 5), .ref (q 6), .ref (q 7), .ref (q 8), .ref (q 9), .ref (q 10), .ref (q 11), .ref (q 12), .ref (q 13), .ref (q 14), .ref (q 15), .ref (q 16), .int (zI (i 13)), .int (zI (i 14)), .int (zI (i 15)), .int (zI (i 16)), .int (zI (i 17)), .int (zI (i 18)), .ref (q 17), .ref (q 18), .ref (q 19), .ref (q 20)]))] (fun r u => ∃ z : Int, r = zI z ∧ (ModOk (u 0).1) ∧ ((u 0).1 1 = i 1 ∧ (u 0).1 8 = i 8 ∧ (u 0).1 9 = i 9 ∧ (u 0).1 10 = i 10 ∧ (u 0).1 12 = i 12 ∧ (u 0).1 13 = i 13 ∧ (u 0).1 15 = i 15 ∧ (u 0).1 17 = i 17 ∧ ((i 10 = 4 ∧ z = i 9) ∨ (i 10 ≠ 4 ∧ z = -1)))) (fun u => [(y, .inr (9, [.int (zI ((u 0).1 0)), .ref (q 0), .int (zI ((u 0).1 1)), .int (zI ((u 0).1 2)), .int (zI ((u 0).1 3)), .int (zI ((u 0).1 4)), .int (zI ((u 0).1 5)), .int (zI ((u 0).1 6)), .int (zI ((u 0).1 7)), .int (zI ((u 0).1 8)), .int (zI ((u 0).1 9)), .int (zI ((u 0).1 10)), .ref (q 1), .int (zI ((u 0).1 11)), .int (zI ((u 0).1 12)), .ref (q 2), .ref (q 3), .ref (q 4), .ref (q 5), .ref (q 6), .ref (q 7), .ref (q 8), .ref (q 9), .ref (q 10), .ref (q 11), .ref (q 12), .ref (q 13), .ref (q 14), .ref (q 15), .ref (q 16), .int (zI ((u 0).1 13)), .int (zI ((u 0).1 14)), .int (zI ((u 0).1 15)), .int (zI ((u 0).1 16)), .int (zI ((u 0).1 17)), .int (zI ((u 0).1 18)), .ref (q 17), .ref (q 18), .ref (q 19), .ref (q 20)]))]) := by
  refine bw_Ci.of (cc := cX9_where) (maxL := 1) (ty := .int) (by decide) rfl (Nat.le_of_ble_eq_true rfl) ?_
  intro p e s m below meth c A Q hx hb hml hts hown hin hK hA hS hP hD hE ret ls hl
  have F : CallFix p m c cX9_where 1 s ([.ref y] : List Value).toArray bw_T RX9 := ⟨hx, hb, hml, hown, fun w h => hts w (List.mem_cons_of_mem _ h)⟩
  replace hl : lv_has ls 1 [(0, .ref y)] := hl
  have hf1 := hM.1
  refine lv_aload_n hx hb dX9_where_0 rfl (lv_at hl 0 rfl) ?_
  refine lv_iconst (v := zI 0) hx hb dX9_where_1 rfl ?_
  refine r_put F hK hP hD hS 0 0 rfl rfl in_X9 tyX9 tyX9_ok nmX9 (by decide) k_1163 rfl rfl rfl (Nat.le_of_ble_eq_true rfl) dX9_where_2 (w1 := [(y, .inr (9, [.int (zI 0), .ref (q 0), .int (zI (i 1)), .int (zI (i 2)), .int (zI (i 3)), .int (zI (i 4)), .int (zI (i 5)), .int (zI (i 6)), .int (zI (i 7)), .int (zI (i 8)), .int (zI (i 9)), .int (zI (i 10)), .ref (q 1), .int (zI (i 11)), .int (zI (i 12)), .ref (q 2), .ref (q 3), .ref (q 4), .ref (q 5), .ref (q 6), .ref (q 7), .ref (q 8), .ref (q 9), .ref (q 10), .ref (q 11), .ref (q 12), .ref (q 13), .ref (q 14), .ref (q 15), .ref (q 16), .int (zI (i 13)), .int (zI (i 14)), .int (zI (i 15)), .int (zI (i 16)), .int (zI (i 17)), .int (zI (i 18)), .ref (q 17), .ref (q 18), .ref (q 19), .ref (q 20)]))]) rfl (fun H locs hP hD hS => ?_)
  refine lv_aload_n hx hb dX9_where_5 rfl (lv_at hl 0 rfl) ?_
  refine r_get F hK hP 0 11 rfl rfl in_X9 (by decide) k_1174 rfl dX9_where_6 ?_
  refine lv_iconst (v := zI 4) hx hb dX9_where_9 rfl ?_
  refine rz_icmp_ne (tgt := 20) F (by omega) (by omega) dX9_where_10 (by decide) (fun h10_1 => ?_) (fun h10_1 => ?_)
  · refine lv_iconst (v := zI (-1)) hx hb dX9_where_20 rfl ?_
    obtain ⟨i3, e_i3⟩ : ∃ i3 : Nat → Int, i3 = fun k => [0, (i 1), (i 2), (i 3), (i 4), (i 5), (i 6), (i 7), (i 8), (i 9), (i 10), (i 11), (i 12), (i 13), (i 14), (i 15), (i 16), (i 17), (i 18)].getD k 0 := ⟨_, rfl⟩
    have e_i3_0 : i3 0 = 0 := congrFun e_i3 0
    have e_i3_1 : i3 1 = (i 1) := congrFun e_i3 1
    have e_i3_2 : i3 2 = (i 2) := congrFun e_i3 2
    have e_i3_3 : i3 3 = (i 3) := congrFun e_i3 3
    have e_i3_4 : i3 4 = (i 4) := congrFun e_i3 4
    have e_i3_5 : i3 5 = (i 5) := congrFun e_i3 5
    have e_i3_6 : i3 6 = (i 6) := congrFun e_i3 6
    have e_i3_7 : i3 7 = (i 7) := congrFun e_i3 7
    have e_i3_8 : i3 8 = (i 8) := congrFun e_i3 8
    have e_i3_9 : i3 9 = (i 9) := congrFun e_i3 9
    have e_i3_10 : i3 10 = (i 10) := congrFun e_i3 10
    have e_i3_11 : i3 11 = (i 11) := congrFun e_i3 11
    have e_i3_12 : i3 12 = (i 12) := congrFun e_i3 12
    have e_i3_13 : i3 13 = (i 13) := congrFun e_i3 13
    have e_i3_14 : i3 14 = (i 14) := congrFun e_i3 14
    have e_i3_15 : i3 15 = (i 15) := congrFun e_i3 15
    have e_i3_16 : i3 16 = (i 16) := congrFun e_i3 16
    have e_i3_17 : i3 17 = (i 17) := congrFun e_i3 17
    have e_i3_18 : i3 18 = (i 18) := congrFun e_i3 18
    have hO4 : ModOk i3 := ⟨⟨⟨(by rw [e_i3_11]; exact hM.1.1.1), (by rw [e_i3_14]; exact hM.1.1.2.1), (by rw [e_i3_16]; exact hM.1.1.2.2.1), (by rw [e_i3_7]; exact hM.1.1.2.2.2.1), (by rw [e_i3_5]; exact hM.1.1.2.2.2.2)⟩, ⟨(by rw [e_i3_1]; exact hM.1.2.1.1), (by rw [e_i3_2]; exact hM.1.2.1.2.1), (by rw [e_i3_3]; exact hM.1.2.1.2.2.1), (by rw [e_i3_4]; exact hM.1.2.1.2.2.2.1), (by rw [e_i3_6]; exact hM.1.2.1.2.2.2.2.1), (by rw [e_i3_10]; exact hM.1.2.1.2.2.2.2.2)⟩, ⟨(by rw [e_i3_12]; exact hM.1.2.2.1), (by rw [e_i3_13]; exact hM.1.2.2.2.1), (by rw [e_i3_15]; exact hM.1.2.2.2.2.1), (by rw [e_i3_17]; exact hM.1.2.2.2.2.2)⟩⟩, fun q5 => by rw [e_i3_7]; exact hM.2 (by rw [← e_i3_5]; exact q5)⟩
    have hf5 := hO4.1
    have hP : va_P G vwCl [(y, .inr (9, [.int (zI (i3 0)), .ref (q 0), .int (zI (i3 1)), .int (zI (i3 2)), .int (zI (i3 3)), .int (zI (i3 4)), .int (zI (i3 5)), .int (zI (i3 6)), .int (zI (i3 7)), .int (zI (i3 8)), .int (zI (i3 9)), .int (zI (i3 10)), .ref (q 1), .int (zI (i3 11)), .int (zI (i3 12)), .ref (q 2), .ref (q 3), .ref (q 4), .ref (q 5), .ref (q 6), .ref (q 7), .ref (q 8), .ref (q 9), .ref (q 10), .ref (q 11), .ref (q 12), .ref (q 13), .ref (q 14), .ref (q 15), .ref (q 16), .int (zI (i3 13)), .int (zI (i3 14)), .int (zI (i3 15)), .int (zI (i3 16)), .int (zI (i3 17)), .int (zI (i3 18)), .ref (q 17), .ref (q 18), .ref (q 19), .ref (q 20)]))] H := by subst e_i3; exact hP
    have hD : va_D A [(y, .inr (9, [.int (zI (i3 0)), .ref (q 0), .int (zI (i3 1)), .int (zI (i3 2)), .int (zI (i3 3)), .int (zI (i3 4)), .int (zI (i3 5)), .int (zI (i3 6)), .int (zI (i3 7)), .int (zI (i3 8)), .int (zI (i3 9)), .int (zI (i3 10)), .ref (q 1), .int (zI (i3 11)), .int (zI (i3 12)), .ref (q 2), .ref (q 3), .ref (q 4), .ref (q 5), .ref (q 6), .ref (q 7), .ref (q 8), .ref (q 9), .ref (q 10), .ref (q 11), .ref (q 12), .ref (q 13), .ref (q 14), .ref (q 15), .ref (q 16), .int (zI (i3 13)), .int (zI (i3 14)), .int (zI (i3 15)), .int (zI (i3 16)), .int (zI (i3 17)), .int (zI (i3 18)), .ref (q 17), .ref (q 18), .ref (q 19), .ref (q 20)]))] := by subst e_i3; exact hD
    exact ret (zI (-1)) (fun k => [(i3, fun _ _ => 0)].getD k (fun _ => 0, fun _ _ => 0)) _ _ _ _ _ _ rfl ⟨(-1), rfl, hO4, (show i3 1 = i 1 ∧ i3 8 = i 8 ∧ i3 9 = i 9 ∧ i3 10 = i 10 ∧ i3 12 = i 12 ∧ i3 13 = i 13 ∧ i3 15 = i 15 ∧ i3 17 = i 17 ∧ ((i 10 = 4 ∧ ((-1) : Int) = i 9) ∨ (i 10 ≠ 4 ∧ ((-1) : Int) = -1)) from by omega)⟩ (bw_subP (isC := [0]) hP rfl) (hD.sub [0] (by decide) rfl) hS (Nat.le_of_ble_eq_true rfl) (Nat.le_of_ble_eq_true rfl) dX9_where_21
  · refine lv_aload_n hx hb dX9_where_13 rfl (lv_at hl 0 rfl) ?_
    refine r_get F hK hP 0 10 rfl rfl in_X9 (by decide) k_1173 rfl dX9_where_14 ?_
    refine lv_goto (tgt := 21) hx hb dX9_where_17 (by decide) ?_
    obtain ⟨i6, e_i6⟩ : ∃ i6 : Nat → Int, i6 = fun k => [0, (i 1), (i 2), (i 3), (i 4), (i 5), (i 6), (i 7), (i 8), (i 9), (i 10), (i 11), (i 12), (i 13), (i 14), (i 15), (i 16), (i 17), (i 18)].getD k 0 := ⟨_, rfl⟩
    have e_i6_0 : i6 0 = 0 := congrFun e_i6 0
    have e_i6_1 : i6 1 = (i 1) := congrFun e_i6 1
    have e_i6_2 : i6 2 = (i 2) := congrFun e_i6 2
    have e_i6_3 : i6 3 = (i 3) := congrFun e_i6 3
    have e_i6_4 : i6 4 = (i 4) := congrFun e_i6 4
    have e_i6_5 : i6 5 = (i 5) := congrFun e_i6 5
    have e_i6_6 : i6 6 = (i 6) := congrFun e_i6 6
    have e_i6_7 : i6 7 = (i 7) := congrFun e_i6 7
    have e_i6_8 : i6 8 = (i 8) := congrFun e_i6 8
    have e_i6_9 : i6 9 = (i 9) := congrFun e_i6 9
    have e_i6_10 : i6 10 = (i 10) := congrFun e_i6 10
    have e_i6_11 : i6 11 = (i 11) := congrFun e_i6 11
    have e_i6_12 : i6 12 = (i 12) := congrFun e_i6 12
    have e_i6_13 : i6 13 = (i 13) := congrFun e_i6 13
    have e_i6_14 : i6 14 = (i 14) := congrFun e_i6 14
    have e_i6_15 : i6 15 = (i 15) := congrFun e_i6 15
    have e_i6_16 : i6 16 = (i 16) := congrFun e_i6 16
    have e_i6_17 : i6 17 = (i 17) := congrFun e_i6 17
    have e_i6_18 : i6 18 = (i 18) := congrFun e_i6 18
    have hO7 : ModOk i6 := ⟨⟨⟨(by rw [e_i6_11]; exact hM.1.1.1), (by rw [e_i6_14]; exact hM.1.1.2.1), (by rw [e_i6_16]; exact hM.1.1.2.2.1), (by rw [e_i6_7]; exact hM.1.1.2.2.2.1), (by rw [e_i6_5]; exact hM.1.1.2.2.2.2)⟩, ⟨(by rw [e_i6_1]; exact hM.1.2.1.1), (by rw [e_i6_2]; exact hM.1.2.1.2.1), (by rw [e_i6_3]; exact hM.1.2.1.2.2.1), (by rw [e_i6_4]; exact hM.1.2.1.2.2.2.1), (by rw [e_i6_6]; exact hM.1.2.1.2.2.2.2.1), (by rw [e_i6_10]; exact hM.1.2.1.2.2.2.2.2)⟩, ⟨(by rw [e_i6_12]; exact hM.1.2.2.1), (by rw [e_i6_13]; exact hM.1.2.2.2.1), (by rw [e_i6_15]; exact hM.1.2.2.2.2.1), (by rw [e_i6_17]; exact hM.1.2.2.2.2.2)⟩⟩, fun q5 => by rw [e_i6_7]; exact hM.2 (by rw [← e_i6_5]; exact q5)⟩
    have hf8 := hO7.1
    have hP : va_P G vwCl [(y, .inr (9, [.int (zI (i6 0)), .ref (q 0), .int (zI (i6 1)), .int (zI (i6 2)), .int (zI (i6 3)), .int (zI (i6 4)), .int (zI (i6 5)), .int (zI (i6 6)), .int (zI (i6 7)), .int (zI (i6 8)), .int (zI (i6 9)), .int (zI (i6 10)), .ref (q 1), .int (zI (i6 11)), .int (zI (i6 12)), .ref (q 2), .ref (q 3), .ref (q 4), .ref (q 5), .ref (q 6), .ref (q 7), .ref (q 8), .ref (q 9), .ref (q 10), .ref (q 11), .ref (q 12), .ref (q 13), .ref (q 14), .ref (q 15), .ref (q 16), .int (zI (i6 13)), .int (zI (i6 14)), .int (zI (i6 15)), .int (zI (i6 16)), .int (zI (i6 17)), .int (zI (i6 18)), .ref (q 17), .ref (q 18), .ref (q 19), .ref (q 20)]))] H := by subst e_i6; exact hP
    have hD : va_D A [(y, .inr (9, [.int (zI (i6 0)), .ref (q 0), .int (zI (i6 1)), .int (zI (i6 2)), .int (zI (i6 3)), .int (zI (i6 4)), .int (zI (i6 5)), .int (zI (i6 6)), .int (zI (i6 7)), .int (zI (i6 8)), .int (zI (i6 9)), .int (zI (i6 10)), .ref (q 1), .int (zI (i6 11)), .int (zI (i6 12)), .ref (q 2), .ref (q 3), .ref (q 4), .ref (q 5), .ref (q 6), .ref (q 7), .ref (q 8), .ref (q 9), .ref (q 10), .ref (q 11), .ref (q 12), .ref (q 13), .ref (q 14), .ref (q 15), .ref (q 16), .int (zI (i6 13)), .int (zI (i6 14)), .int (zI (i6 15)), .int (zI (i6 16)), .int (zI (i6 17)), .int (zI (i6 18)), .ref (q 17), .ref (q 18), .ref (q 19), .ref (q 20)]))] := by subst e_i6; exact hD
    exact ret (zI (i 9)) (fun k => [(i6, fun _ _ => 0)].getD k (fun _ => 0, fun _ _ => 0)) _ _ _ _ _ _ rfl ⟨(i 9), rfl, hO7, (show i6 1 = i 1 ∧ i6 8 = i 8 ∧ i6 9 = i 9 ∧ i6 10 = i 10 ∧ i6 12 = i 12 ∧ i6 13 = i 13 ∧ i6 15 = i 15 ∧ i6 17 = i 17 ∧ ((i 10 = 4 ∧ ((i 9) : Int) = i 9) ∨ (i 10 ≠ 4 ∧ ((i 9) : Int) = -1)) from by omega)⟩ (bw_subP (isC := [0]) hP rfl) (hD.sub [0] (by decide) rfl) hS (Nat.le_of_ble_eq_true rfl) (Nat.le_of_ble_eq_true rfl) dX9_where_21
theorem dX9_trouble_0 : decode cX9_trouble 0 = .ok (.aload_n 0, 1) := bo_42 (by decide +kernel)
theorem dX9_trouble_1 : decode cX9_trouble 1 = .ok (.iconst 0, 1) := bo_3 (by decide +kernel)
theorem dX9_trouble_2 : decode cX9_trouble 2 = .ok (.putfield 77, 3) := bo_181 0 77 (by decide +kernel)
theorem dX9_trouble_5 : decode cX9_trouble 5 = .ok (.aload_n 0, 1) := bo_42 (by decide +kernel)
theorem dX9_trouble_6 : decode cX9_trouble 6 = .ok (.getfield 80, 3) := bo_180 0 80 (by decide +kernel)
theorem dX9_trouble_9 : decode cX9_trouble 9 = .ok (.ireturn, 1) := bo_172 (by decide +kernel)
abbrev rm_X9_trouble : Room := { frames := 0, cells := 0, slots := 0, locals := 0 }
set_option maxRecDepth 100000 in
set_option maxHeartbeats 8000000 in
theorem c_X9_trouble {l : Launch} {E : (Nat → Prop) → State → Prop} (hO : bw_Ok E) {G : va_G} {cI cB cJ cN cW : ClassId} (y : Nat) (q : Nat → Nat) (i : Nat → Int) (hM : ModOk i)  : bw_Ci (S := zV) l yX9_trouble (bw_ws (Cond.code yX9_trouble cX9_trouble 1 (some .int))) rm_X9_trouble E G (bw_kt cI cB cJ cN cW) [.ref y] [(y, .inr (9, [.int (zI (i 0)), .ref (q 0), .int (zI (i 1)), .int (zI (i 2)), .int (zI (i 3)), .int (zI (i 4)), .int (zI (i 5)), .int (zI (i 6)), .int (zI (i 7)), .int (zI (i 8)), .int (zI (i 9)), .int (zI (i 10)), .ref (q 1), .int (zI (i 11)), .int (zI (i 12)), .ref (q 2), .ref (q 3), .ref (q 4), .ref (q 5), .ref (q 6), .ref (q 7), .ref (q 8), .ref (q 9), .ref (q 10), .ref (q 11), .ref (q 12), .ref (q 13), .ref (q 14), .ref (q 15), .ref (q 16), .int (zI (i 13)), .int (zI (i 14)), .int (zI (i 15)), .int (zI (i 16)), .int (zI (i 17)), .int (zI (i 18)), .ref (q 17), .ref (q 18), .ref (q 19), .ref (q 20)]))] (fun r u => ∃ z : Int, r = zI z ∧ (ModOk (u 0).1) ∧ ((u 0).1 1 = i 1 ∧ (u 0).1 8 = i 8 ∧ (u 0).1 9 = i 9 ∧ (u 0).1 10 = i 10 ∧ (u 0).1 12 = i 12 ∧ (u 0).1 13 = i 13 ∧ (u 0).1 15 = i 15 ∧ (u 0).1 17 = i 17)) (fun u => [(y, .inr (9, [.int (zI ((u 0).1 0)), .ref (q 0), .int (zI ((u 0).1 1)), .int (zI ((u 0).1 2)), .int (zI ((u 0).1 3)), .int (zI ((u 0).1 4)), .int (zI ((u 0).1 5)), .int (zI ((u 0).1 6)), .int (zI ((u 0).1 7)), .int (zI ((u 0).1 8)), .int (zI ((u 0).1 9)), .int (zI ((u 0).1 10)), .ref (q 1), .int (zI ((u 0).1 11)), .int (zI ((u 0).1 12)), .ref (q 2), .ref (q 3), .ref (q 4), .ref (q 5), .ref (q 6), .ref (q 7), .ref (q 8), .ref (q 9), .ref (q 10), .ref (q 11), .ref (q 12), .ref (q 13), .ref (q 14), .ref (q 15), .ref (q 16), .int (zI ((u 0).1 13)), .int (zI ((u 0).1 14)), .int (zI ((u 0).1 15)), .int (zI ((u 0).1 16)), .int (zI ((u 0).1 17)), .int (zI ((u 0).1 18)), .ref (q 17), .ref (q 18), .ref (q 19), .ref (q 20)]))]) := by
  refine bw_Ci.of (cc := cX9_trouble) (maxL := 1) (ty := .int) (by decide) rfl (Nat.le_of_ble_eq_true rfl) ?_
  intro p e s m below meth c A Q hx hb hml hts hown hin hK hA hS hP hD hE ret ls hl
  have F : CallFix p m c cX9_trouble 1 s ([.ref y] : List Value).toArray bw_T RX9 := ⟨hx, hb, hml, hown, fun w h => hts w (List.mem_cons_of_mem _ h)⟩
  replace hl : lv_has ls 1 [(0, .ref y)] := hl
  have hf1 := hM.1
  refine lv_aload_n hx hb dX9_trouble_0 rfl (lv_at hl 0 rfl) ?_
  refine lv_iconst (v := zI 0) hx hb dX9_trouble_1 rfl ?_
  refine r_put F hK hP hD hS 0 0 rfl rfl in_X9 tyX9 tyX9_ok nmX9 (by decide) k_1163 rfl rfl rfl (Nat.le_of_ble_eq_true rfl) dX9_trouble_2 (w1 := [(y, .inr (9, [.int (zI 0), .ref (q 0), .int (zI (i 1)), .int (zI (i 2)), .int (zI (i 3)), .int (zI (i 4)), .int (zI (i 5)), .int (zI (i 6)), .int (zI (i 7)), .int (zI (i 8)), .int (zI (i 9)), .int (zI (i 10)), .ref (q 1), .int (zI (i 11)), .int (zI (i 12)), .ref (q 2), .ref (q 3), .ref (q 4), .ref (q 5), .ref (q 6), .ref (q 7), .ref (q 8), .ref (q 9), .ref (q 10), .ref (q 11), .ref (q 12), .ref (q 13), .ref (q 14), .ref (q 15), .ref (q 16), .int (zI (i 13)), .int (zI (i 14)), .int (zI (i 15)), .int (zI (i 16)), .int (zI (i 17)), .int (zI (i 18)), .ref (q 17), .ref (q 18), .ref (q 19), .ref (q 20)]))]) rfl (fun H locs hP hD hS => ?_)
  refine lv_aload_n hx hb dX9_trouble_5 rfl (lv_at hl 0 rfl) ?_
  refine r_get F hK hP 0 11 rfl rfl in_X9 (by decide) k_1174 rfl dX9_trouble_6 ?_
  obtain ⟨i2, e_i2⟩ : ∃ i2 : Nat → Int, i2 = fun k => [0, (i 1), (i 2), (i 3), (i 4), (i 5), (i 6), (i 7), (i 8), (i 9), (i 10), (i 11), (i 12), (i 13), (i 14), (i 15), (i 16), (i 17), (i 18)].getD k 0 := ⟨_, rfl⟩
  have e_i2_0 : i2 0 = 0 := congrFun e_i2 0
  have e_i2_1 : i2 1 = (i 1) := congrFun e_i2 1
  have e_i2_2 : i2 2 = (i 2) := congrFun e_i2 2
  have e_i2_3 : i2 3 = (i 3) := congrFun e_i2 3
  have e_i2_4 : i2 4 = (i 4) := congrFun e_i2 4
  have e_i2_5 : i2 5 = (i 5) := congrFun e_i2 5
  have e_i2_6 : i2 6 = (i 6) := congrFun e_i2 6
  have e_i2_7 : i2 7 = (i 7) := congrFun e_i2 7
  have e_i2_8 : i2 8 = (i 8) := congrFun e_i2 8
  have e_i2_9 : i2 9 = (i 9) := congrFun e_i2 9
  have e_i2_10 : i2 10 = (i 10) := congrFun e_i2 10
  have e_i2_11 : i2 11 = (i 11) := congrFun e_i2 11
  have e_i2_12 : i2 12 = (i 12) := congrFun e_i2 12
  have e_i2_13 : i2 13 = (i 13) := congrFun e_i2 13
  have e_i2_14 : i2 14 = (i 14) := congrFun e_i2 14
  have e_i2_15 : i2 15 = (i 15) := congrFun e_i2 15
  have e_i2_16 : i2 16 = (i 16) := congrFun e_i2 16
  have e_i2_17 : i2 17 = (i 17) := congrFun e_i2 17
  have e_i2_18 : i2 18 = (i 18) := congrFun e_i2 18
  have hO3 : ModOk i2 := ⟨⟨⟨(by rw [e_i2_11]; exact hM.1.1.1), (by rw [e_i2_14]; exact hM.1.1.2.1), (by rw [e_i2_16]; exact hM.1.1.2.2.1), (by rw [e_i2_7]; exact hM.1.1.2.2.2.1), (by rw [e_i2_5]; exact hM.1.1.2.2.2.2)⟩, ⟨(by rw [e_i2_1]; exact hM.1.2.1.1), (by rw [e_i2_2]; exact hM.1.2.1.2.1), (by rw [e_i2_3]; exact hM.1.2.1.2.2.1), (by rw [e_i2_4]; exact hM.1.2.1.2.2.2.1), (by rw [e_i2_6]; exact hM.1.2.1.2.2.2.2.1), (by rw [e_i2_10]; exact hM.1.2.1.2.2.2.2.2)⟩, ⟨(by rw [e_i2_12]; exact hM.1.2.2.1), (by rw [e_i2_13]; exact hM.1.2.2.2.1), (by rw [e_i2_15]; exact hM.1.2.2.2.2.1), (by rw [e_i2_17]; exact hM.1.2.2.2.2.2)⟩⟩, fun q5 => by rw [e_i2_7]; exact hM.2 (by rw [← e_i2_5]; exact q5)⟩
  have hf4 := hO3.1
  have hP : va_P G vwCl [(y, .inr (9, [.int (zI (i2 0)), .ref (q 0), .int (zI (i2 1)), .int (zI (i2 2)), .int (zI (i2 3)), .int (zI (i2 4)), .int (zI (i2 5)), .int (zI (i2 6)), .int (zI (i2 7)), .int (zI (i2 8)), .int (zI (i2 9)), .int (zI (i2 10)), .ref (q 1), .int (zI (i2 11)), .int (zI (i2 12)), .ref (q 2), .ref (q 3), .ref (q 4), .ref (q 5), .ref (q 6), .ref (q 7), .ref (q 8), .ref (q 9), .ref (q 10), .ref (q 11), .ref (q 12), .ref (q 13), .ref (q 14), .ref (q 15), .ref (q 16), .int (zI (i2 13)), .int (zI (i2 14)), .int (zI (i2 15)), .int (zI (i2 16)), .int (zI (i2 17)), .int (zI (i2 18)), .ref (q 17), .ref (q 18), .ref (q 19), .ref (q 20)]))] H := by subst e_i2; exact hP
  have hD : va_D A [(y, .inr (9, [.int (zI (i2 0)), .ref (q 0), .int (zI (i2 1)), .int (zI (i2 2)), .int (zI (i2 3)), .int (zI (i2 4)), .int (zI (i2 5)), .int (zI (i2 6)), .int (zI (i2 7)), .int (zI (i2 8)), .int (zI (i2 9)), .int (zI (i2 10)), .ref (q 1), .int (zI (i2 11)), .int (zI (i2 12)), .ref (q 2), .ref (q 3), .ref (q 4), .ref (q 5), .ref (q 6), .ref (q 7), .ref (q 8), .ref (q 9), .ref (q 10), .ref (q 11), .ref (q 12), .ref (q 13), .ref (q 14), .ref (q 15), .ref (q 16), .int (zI (i2 13)), .int (zI (i2 14)), .int (zI (i2 15)), .int (zI (i2 16)), .int (zI (i2 17)), .int (zI (i2 18)), .ref (q 17), .ref (q 18), .ref (q 19), .ref (q 20)]))] := by subst e_i2; exact hD
  exact ret (zI (i 10)) (fun k => [(i2, fun _ _ => 0)].getD k (fun _ => 0, fun _ _ => 0)) _ _ _ _ _ _ rfl ⟨(i 10), rfl, hO3, (show i2 1 = i 1 ∧ i2 8 = i 8 ∧ i2 9 = i 9 ∧ i2 10 = i 10 ∧ i2 12 = i 12 ∧ i2 13 = i 13 ∧ i2 15 = i 15 ∧ i2 17 = i 17 from by omega)⟩ (bw_subP (isC := [0]) hP rfl) (hD.sub [0] (by decide) rfl) hS (Nat.le_of_ble_eq_true rfl) (Nat.le_of_ble_eq_true rfl) dX9_trouble_9
