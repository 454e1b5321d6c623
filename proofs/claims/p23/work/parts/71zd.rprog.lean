abbrev rm_X9_goodX : Room := { frames := 0, cells := 0, slots := 0, locals := 0 }
set_option maxRecDepth 100000 in
set_option maxHeartbeats 8000000 in
theorem c_X9_goodX {l : Launch} {E : (Nat → Prop) → State → Prop} (hO : bw_Ok E) {G : va_G} {cI cB cJ cN cW : ClassId} (y : Nat) (q : Nat → Nat) (i : Nat → Int) (hM : ModOk i)  : bw_Cv (S := zV) l yX9_good (bw_ws (Cond.code yX9_good cX9_good 1 none)) rm_X9_goodX E G (bw_kt cI cB cJ cN cW) [.ref y] [(y, .inr (9, [.int (zI (i 0)), .ref (q 0), .int (zI (i 1)), .int (zI (i 2)), .int (zI (i 3)), .int (zI (i 4)), .int (zI (i 5)), .int (zI (i 6)), .int (zI (i 7)), .int (zI (i 8)), .int (zI (i 9)), .int (zI (i 10)), .ref (q 1), .int (zI (i 11)), .int (zI (i 12)), .ref (q 2), .ref (q 3), .ref (q 4), .ref (q 5), .ref (q 6), .ref (q 7), .ref (q 8), .ref (q 9), .ref (q 10), .ref (q 11), .ref (q 12), .ref (q 13), .ref (q 14), .ref (q 15), .ref (q 16), .int (zI (i 13)), .int (zI (i 14)), .int (zI (i 15)), .int (zI (i 16)), .int (zI (i 17)), .int (zI (i 18)), .ref (q 17), .ref (q 18), .ref (q 19), .ref (q 20)]))] (fun u => (ModOk (u 0).1) ∧ ((u 0).1 10 = 0 ∧ (u 0).1 1 = i 1 ∧ (u 0).1 2 = i 2 ∧ (u 0).1 3 = i 3 ∧ (u 0).1 4 = i 4 ∧ (u 0).1 5 = i 5 ∧ (u 0).1 6 = i 6 ∧ (u 0).1 7 = i 7 ∧ (u 0).1 8 = i 8 ∧ (u 0).1 9 = i 9 ∧ (u 0).1 11 = i 11 ∧ (u 0).1 12 = i 12 ∧ (u 0).1 13 = i 13 ∧ (u 0).1 14 = i 14 ∧ (u 0).1 15 = i 15 ∧ (u 0).1 16 = i 16 ∧ (u 0).1 17 = i 17 ∧ (u 0).1 18 = i 18)) (fun u => [(y, .inr (9, [.int (zI ((u 0).1 0)), .ref (q 0), .int (zI ((u 0).1 1)), .int (zI ((u 0).1 2)), .int (zI ((u 0).1 3)), .int (zI ((u 0).1 4)), .int (zI ((u 0).1 5)), .int (zI ((u 0).1 6)), .int (zI ((u 0).1 7)), .int (zI ((u 0).1 8)), .int (zI ((u 0).1 9)), .int (zI ((u 0).1 10)), .ref (q 1), .int (zI ((u 0).1 11)), .int (zI ((u 0).1 12)), .ref (q 2), .ref (q 3), .ref (q 4), .ref (q 5), .ref (q 6), .ref (q 7), .ref (q 8), .ref (q 9), .ref (q 10), .ref (q 11), .ref (q 12), .ref (q 13), .ref (q 14), .ref (q 15), .ref (q 16), .int (zI ((u 0).1 13)), .int (zI ((u 0).1 14)), .int (zI ((u 0).1 15)), .int (zI ((u 0).1 16)), .int (zI ((u 0).1 17)), .int (zI ((u 0).1 18)), .ref (q 17), .ref (q 18), .ref (q 19), .ref (q 20)]))]) := by
  refine bw_Cv.of (cc := cX9_good) (maxL := 1) (by decide) rfl (Nat.le_of_ble_eq_true rfl) ?_
  intro p e s m below meth c A Q hx hb hml hts hown hin hK hA hS hP hD hE ret ls hl
  have F : CallFix p m c cX9_good 1 s ([.ref y] : List Value).toArray bw_T RX9 := ⟨hx, hb, hml, hown, fun w h => hts w (List.mem_cons_of_mem _ h)⟩
  replace hl : lv_has ls 1 [(0, .ref y)] := hl
  have hf1 := hM.1
  refine lv_aload_n hx hb dX9_good_0 rfl (lv_at hl 0 rfl) ?_
  refine lv_iconst (v := zI 0) hx hb dX9_good_1 rfl ?_
  refine r_put F hK hP hD hS 0 0 rfl rfl in_X9 tyX9 tyX9_ok nmX9 (by decide) k_1163 rfl rfl rfl (Nat.le_of_ble_eq_true rfl) dX9_good_2 (w1 := [(y, .inr (9, [.int (zI 0), .ref (q 0), .int (zI (i 1)), .int (zI (i 2)), .int (zI (i 3)), .int (zI (i 4)), .int (zI (i 5)), .int (zI (i 6)), .int (zI (i 7)), .int (zI (i 8)), .int (zI (i 9)), .int (zI (i 10)), .ref (q 1), .int (zI (i 11)), .int (zI (i 12)), .ref (q 2), .ref (q 3), .ref (q 4), .ref (q 5), .ref (q 6), .ref (q 7), .ref (q 8), .ref (q 9), .ref (q 10), .ref (q 11), .ref (q 12), .ref (q 13), .ref (q 14), .ref (q 15), .ref (q 16), .int (zI (i 13)), .int (zI (i 14)), .int (zI (i 15)), .int (zI (i 16)), .int (zI (i 17)), .int (zI (i 18)), .ref (q 17), .ref (q 18), .ref (q 19), .ref (q 20)]))]) rfl (fun H locs hP hD hS => ?_)
  refine lv_aload_n hx hb dX9_good_5 rfl (lv_at hl 0 rfl) ?_
  refine lv_iconst (v := zI 0) hx hb dX9_good_6 rfl ?_
  refine r_put F hK hP hD hS 0 11 rfl rfl in_X9 tyX9 tyX9_ok nmX9 (by decide) k_1174 rfl rfl rfl (Nat.le_of_ble_eq_true rfl) dX9_good_7 (w1 := [(y, .inr (9, [.int (zI 0), .ref (q 0), .int (zI (i 1)), .int (zI (i 2)), .int (zI (i 3)), .int (zI (i 4)), .int (zI (i 5)), .int (zI (i 6)), .int (zI (i 7)), .int (zI (i 8)), .int (zI (i 9)), .int (zI 0), .ref (q 1), .int (zI (i 11)), .int (zI (i 12)), .ref (q 2), .ref (q 3), .ref (q 4), .ref (q 5), .ref (q 6), .ref (q 7), .ref (q 8), .ref (q 9), .ref (q 10), .ref (q 11), .ref (q 12), .ref (q 13), .ref (q 14), .ref (q 15), .ref (q 16), .int (zI (i 13)), .int (zI (i 14)), .int (zI (i 15)), .int (zI (i 16)), .int (zI (i 17)), .int (zI (i 18)), .ref (q 17), .ref (q 18), .ref (q 19), .ref (q 20)]))]) rfl (fun H locs hP hD hS => ?_)
  obtain ⟨i2, e_i2⟩ : ∃ i2 : Nat → Int, i2 = fun k => [0, (i 1), (i 2), (i 3), (i 4), (i 5), (i 6), (i 7), (i 8), (i 9), 0, (i 11), (i 12), (i 13), (i 14), (i 15), (i 16), (i 17), (i 18)].getD k 0 := ⟨_, rfl⟩
  have e_i2_0 : i2 0 = 0 := by rw [e_i2]; rfl
  have e_i2_1 : i2 1 = (i 1) := by rw [e_i2]; rfl
  have e_i2_2 : i2 2 = (i 2) := by rw [e_i2]; rfl
  have e_i2_3 : i2 3 = (i 3) := by rw [e_i2]; rfl
  have e_i2_4 : i2 4 = (i 4) := by rw [e_i2]; rfl
  have e_i2_5 : i2 5 = (i 5) := by rw [e_i2]; rfl
  have e_i2_6 : i2 6 = (i 6) := by rw [e_i2]; rfl
  have e_i2_7 : i2 7 = (i 7) := by rw [e_i2]; rfl
  have e_i2_8 : i2 8 = (i 8) := by rw [e_i2]; rfl
  have e_i2_9 : i2 9 = (i 9) := by rw [e_i2]; rfl
  have e_i2_10 : i2 10 = 0 := by rw [e_i2]; rfl
  have e_i2_11 : i2 11 = (i 11) := by rw [e_i2]; rfl
  have e_i2_12 : i2 12 = (i 12) := by rw [e_i2]; rfl
  have e_i2_13 : i2 13 = (i 13) := by rw [e_i2]; rfl
  have e_i2_14 : i2 14 = (i 14) := by rw [e_i2]; rfl
  have e_i2_15 : i2 15 = (i 15) := by rw [e_i2]; rfl
  have e_i2_16 : i2 16 = (i 16) := by rw [e_i2]; rfl
  have e_i2_17 : i2 17 = (i 17) := by rw [e_i2]; rfl
  have e_i2_18 : i2 18 = (i 18) := by rw [e_i2]; rfl
  have hO3 : ModOk i2 := by have hold9 := hM.1; have hold8 : _ → _ := hM.2; refine ⟨⟨⟨?_, ?_, ?_, ?_, ?_⟩, ⟨?_, ?_, ?_, ?_, ?_, ?_⟩, ⟨?_, ?_, ?_, ?_⟩⟩, fun q5 => ?_⟩ <;> omega
  have hf4 := hO3.1
  have hP : va_P G vwCl [(y, .inr (9, [.int (zI (i2 0)), .ref (q 0), .int (zI (i2 1)), .int (zI (i2 2)), .int (zI (i2 3)), .int (zI (i2 4)), .int (zI (i2 5)), .int (zI (i2 6)), .int (zI (i2 7)), .int (zI (i2 8)), .int (zI (i2 9)), .int (zI (i2 10)), .ref (q 1), .int (zI (i2 11)), .int (zI (i2 12)), .ref (q 2), .ref (q 3), .ref (q 4), .ref (q 5), .ref (q 6), .ref (q 7), .ref (q 8), .ref (q 9), .ref (q 10), .ref (q 11), .ref (q 12), .ref (q 13), .ref (q 14), .ref (q 15), .ref (q 16), .int (zI (i2 13)), .int (zI (i2 14)), .int (zI (i2 15)), .int (zI (i2 16)), .int (zI (i2 17)), .int (zI (i2 18)), .ref (q 17), .ref (q 18), .ref (q 19), .ref (q 20)]))] H := by subst e_i2; exact hP
  have hD : va_D A [(y, .inr (9, [.int (zI (i2 0)), .ref (q 0), .int (zI (i2 1)), .int (zI (i2 2)), .int (zI (i2 3)), .int (zI (i2 4)), .int (zI (i2 5)), .int (zI (i2 6)), .int (zI (i2 7)), .int (zI (i2 8)), .int (zI (i2 9)), .int (zI (i2 10)), .ref (q 1), .int (zI (i2 11)), .int (zI (i2 12)), .ref (q 2), .ref (q 3), .ref (q 4), .ref (q 5), .ref (q 6), .ref (q 7), .ref (q 8), .ref (q 9), .ref (q 10), .ref (q 11), .ref (q 12), .ref (q 13), .ref (q 14), .ref (q 15), .ref (q 16), .int (zI (i2 13)), .int (zI (i2 14)), .int (zI (i2 15)), .int (zI (i2 16)), .int (zI (i2 17)), .int (zI (i2 18)), .ref (q 17), .ref (q 18), .ref (q 19), .ref (q 20)]))] := by subst e_i2; exact hD
  exact ret (fun k => [(i2, fun _ _ => 0)].getD k (fun _ => 0, fun _ _ => 0)) _ _ _ _ _ _ ⟨hO3, (show i2 10 = 0 ∧ i2 1 = i 1 ∧ i2 2 = i 2 ∧ i2 3 = i 3 ∧ i2 4 = i 4 ∧ i2 5 = i 5 ∧ i2 6 = i 6 ∧ i2 7 = i 7 ∧ i2 8 = i 8 ∧ i2 9 = i 9 ∧ i2 11 = i 11 ∧ i2 12 = i 12 ∧ i2 13 = i 13 ∧ i2 14 = i 14 ∧ i2 15 = i 15 ∧ i2 16 = i 16 ∧ i2 17 = i 17 ∧ i2 18 = i 18 from by omega)⟩ (bw_subP (isC := [0]) hP rfl) (hD.sub [0] (by decide) rfl) hS (Nat.le_of_ble_eq_true rfl) (Nat.le_of_ble_eq_true rfl) dX9_good_10
abbrev rm_X9_noX : Room := { frames := 0, cells := 0, slots := 0, locals := 0 }
set_option maxRecDepth 100000 in
set_option maxHeartbeats 8000000 in
theorem c_X9_noX {l : Launch} {E : (Nat → Prop) → State → Prop} (hO : bw_Ok E) {G : va_G} {cI cB cJ cN cW : ClassId} (y : Nat) (q : Nat → Nat) (i : Nat → Int) (hM : ModOk i) (x : Int) (hx9 : zR x) (hw9 : 0 ≤ x ∧ x ≤ 6) : bw_Ci (S := zV) l yX9_no (bw_ws (Cond.code yX9_no cX9_no 2 (some .int))) rm_X9_noX E G (bw_kt cI cB cJ cN cW) [.ref y, .int (zI x)] [(y, .inr (9, [.int (zI (i 0)), .ref (q 0), .int (zI (i 1)), .int (zI (i 2)), .int (zI (i 3)), .int (zI (i 4)), .int (zI (i 5)), .int (zI (i 6)), .int (zI (i 7)), .int (zI (i 8)), .int (zI (i 9)), .int (zI (i 10)), .ref (q 1), .int (zI (i 11)), .int (zI (i 12)), .ref (q 2), .ref (q 3), .ref (q 4), .ref (q 5), .ref (q 6), .ref (q 7), .ref (q 8), .ref (q 9), .ref (q 10), .ref (q 11), .ref (q 12), .ref (q 13), .ref (q 14), .ref (q 15), .ref (q 16), .int (zI (i 13)), .int (zI (i 14)), .int (zI (i 15)), .int (zI (i 16)), .int (zI (i 17)), .int (zI (i 18)), .ref (q 17), .ref (q 18), .ref (q 19), .ref (q 20)]))] (fun r u => ∃ z : Int, r = zI z ∧ (ModOk (u 0).1) ∧ (z = -1 ∧ (u 0).1 10 = x ∧ (u 0).1 0 = i 0 ∧ (u 0).1 1 = i 1 ∧ (u 0).1 2 = i 2 ∧ (u 0).1 3 = i 3 ∧ (u 0).1 4 = i 4 ∧ (u 0).1 5 = i 5 ∧ (u 0).1 6 = i 6 ∧ (u 0).1 7 = i 7 ∧ (u 0).1 8 = i 8 ∧ (u 0).1 9 = i 9 ∧ (u 0).1 11 = i 11 ∧ (u 0).1 12 = i 12 ∧ (u 0).1 13 = i 13 ∧ (u 0).1 14 = i 14 ∧ (u 0).1 15 = i 15 ∧ (u 0).1 16 = i 16 ∧ (u 0).1 17 = i 17 ∧ (u 0).1 18 = i 18)) (fun u => [(y, .inr (9, [.int (zI ((u 0).1 0)), .ref (q 0), .int (zI ((u 0).1 1)), .int (zI ((u 0).1 2)), .int (zI ((u 0).1 3)), .int (zI ((u 0).1 4)), .int (zI ((u 0).1 5)), .int (zI ((u 0).1 6)), .int (zI ((u 0).1 7)), .int (zI ((u 0).1 8)), .int (zI ((u 0).1 9)), .int (zI ((u 0).1 10)), .ref (q 1), .int (zI ((u 0).1 11)), .int (zI ((u 0).1 12)), .ref (q 2), .ref (q 3), .ref (q 4), .ref (q 5), .ref (q 6), .ref (q 7), .ref (q 8), .ref (q 9), .ref (q 10), .ref (q 11), .ref (q 12), .ref (q 13), .ref (q 14), .ref (q 15), .ref (q 16), .int (zI ((u 0).1 13)), .int (zI ((u 0).1 14)), .int (zI ((u 0).1 15)), .int (zI ((u 0).1 16)), .int (zI ((u 0).1 17)), .int (zI ((u 0).1 18)), .ref (q 17), .ref (q 18), .ref (q 19), .ref (q 20)]))]) := by
  refine bw_Ci.of (cc := cX9_no) (maxL := 2) (ty := .int) (by decide) rfl (Nat.le_of_ble_eq_true rfl) ?_
  intro p e s m below meth c A Q hx hb hml hts hown hin hK hA hS hP hD hE ret ls hl
  have F : CallFix p m c cX9_no 2 s ([.ref y, .int (zI x)] : List Value).toArray bw_T RX9 := ⟨hx, hb, hml, hown, fun w h => hts w (List.mem_cons_of_mem _ h)⟩
  replace hl : lv_has ls 2 [(0, .ref y), (1, .int (zI x))] := hl
  have hf1 := hM.1
  refine lv_aload_n hx hb dX9_no_0 rfl (lv_at hl 0 rfl) ?_
  refine lv_iload_n hx hb dX9_no_1 rfl (lv_at hl 1 rfl) ?_
  refine r_put F hK hP hD hS 0 11 rfl rfl in_X9 tyX9 tyX9_ok nmX9 (by decide) k_1174 rfl rfl rfl (Nat.le_of_ble_eq_true rfl) dX9_no_2 (w1 := [(y, .inr (9, [.int (zI (i 0)), .ref (q 0), .int (zI (i 1)), .int (zI (i 2)), .int (zI (i 3)), .int (zI (i 4)), .int (zI (i 5)), .int (zI (i 6)), .int (zI (i 7)), .int (zI (i 8)), .int (zI (i 9)), .int (zI x), .ref (q 1), .int (zI (i 11)), .int (zI (i 12)), .ref (q 2), .ref (q 3), .ref (q 4), .ref (q 5), .ref (q 6), .ref (q 7), .ref (q 8), .ref (q 9), .ref (q 10), .ref (q 11), .ref (q 12), .ref (q 13), .ref (q 14), .ref (q 15), .ref (q 16), .int (zI (i 13)), .int (zI (i 14)), .int (zI (i 15)), .int (zI (i 16)), .int (zI (i 17)), .int (zI (i 18)), .ref (q 17), .ref (q 18), .ref (q 19), .ref (q 20)]))]) rfl (fun H locs hP hD hS => ?_)
  refine lv_iconst (v := zI (-1)) hx hb dX9_no_5 rfl ?_
  obtain ⟨i2, e_i2⟩ : ∃ i2 : Nat → Int, i2 = fun k => [(i 0), (i 1), (i 2), (i 3), (i 4), (i 5), (i 6), (i 7), (i 8), (i 9), x, (i 11), (i 12), (i 13), (i 14), (i 15), (i 16), (i 17), (i 18)].getD k 0 := ⟨_, rfl⟩
  have e_i2_0 : i2 0 = (i 0) := by rw [e_i2]; rfl
  have e_i2_1 : i2 1 = (i 1) := by rw [e_i2]; rfl
  have e_i2_2 : i2 2 = (i 2) := by rw [e_i2]; rfl
  have e_i2_3 : i2 3 = (i 3) := by rw [e_i2]; rfl
  have e_i2_4 : i2 4 = (i 4) := by rw [e_i2]; rfl
  have e_i2_5 : i2 5 = (i 5) := by rw [e_i2]; rfl
  have e_i2_6 : i2 6 = (i 6) := by rw [e_i2]; rfl
  have e_i2_7 : i2 7 = (i 7) := by rw [e_i2]; rfl
  have e_i2_8 : i2 8 = (i 8) := by rw [e_i2]; rfl
  have e_i2_9 : i2 9 = (i 9) := by rw [e_i2]; rfl
  have e_i2_10 : i2 10 = x := by rw [e_i2]; rfl
  have e_i2_11 : i2 11 = (i 11) := by rw [e_i2]; rfl
  have e_i2_12 : i2 12 = (i 12) := by rw [e_i2]; rfl
  have e_i2_13 : i2 13 = (i 13) := by rw [e_i2]; rfl
  have e_i2_14 : i2 14 = (i 14) := by rw [e_i2]; rfl
  have e_i2_15 : i2 15 = (i 15) := by rw [e_i2]; rfl
  have e_i2_16 : i2 16 = (i 16) := by rw [e_i2]; rfl
  have e_i2_17 : i2 17 = (i 17) := by rw [e_i2]; rfl
  have e_i2_18 : i2 18 = (i 18) := by rw [e_i2]; rfl
  have hO3 : ModOk i2 := by have hold9 := hM.1; have hold8 : _ → _ := hM.2; refine ⟨⟨⟨?_, ?_, ?_, ?_, ?_⟩, ⟨?_, ?_, ?_, ?_, ?_, ?_⟩, ⟨?_, ?_, ?_, ?_⟩⟩, fun q5 => ?_⟩ <;> omega
  have hf4 := hO3.1
  have hP : va_P G vwCl [(y, .inr (9, [.int (zI (i2 0)), .ref (q 0), .int (zI (i2 1)), .int (zI (i2 2)), .int (zI (i2 3)), .int (zI (i2 4)), .int (zI (i2 5)), .int (zI (i2 6)), .int (zI (i2 7)), .int (zI (i2 8)), .int (zI (i2 9)), .int (zI (i2 10)), .ref (q 1), .int (zI (i2 11)), .int (zI (i2 12)), .ref (q 2), .ref (q 3), .ref (q 4), .ref (q 5), .ref (q 6), .ref (q 7), .ref (q 8), .ref (q 9), .ref (q 10), .ref (q 11), .ref (q 12), .ref (q 13), .ref (q 14), .ref (q 15), .ref (q 16), .int (zI (i2 13)), .int (zI (i2 14)), .int (zI (i2 15)), .int (zI (i2 16)), .int (zI (i2 17)), .int (zI (i2 18)), .ref (q 17), .ref (q 18), .ref (q 19), .ref (q 20)]))] H := by subst e_i2; exact hP
  have hD : va_D A [(y, .inr (9, [.int (zI (i2 0)), .ref (q 0), .int (zI (i2 1)), .int (zI (i2 2)), .int (zI (i2 3)), .int (zI (i2 4)), .int (zI (i2 5)), .int (zI (i2 6)), .int (zI (i2 7)), .int (zI (i2 8)), .int (zI (i2 9)), .int (zI (i2 10)), .ref (q 1), .int (zI (i2 11)), .int (zI (i2 12)), .ref (q 2), .ref (q 3), .ref (q 4), .ref (q 5), .ref (q 6), .ref (q 7), .ref (q 8), .ref (q 9), .ref (q 10), .ref (q 11), .ref (q 12), .ref (q 13), .ref (q 14), .ref (q 15), .ref (q 16), .int (zI (i2 13)), .int (zI (i2 14)), .int (zI (i2 15)), .int (zI (i2 16)), .int (zI (i2 17)), .int (zI (i2 18)), .ref (q 17), .ref (q 18), .ref (q 19), .ref (q 20)]))] := by subst e_i2; exact hD
  exact ret (zI (-1)) (fun k => [(i2, fun _ _ => 0)].getD k (fun _ => 0, fun _ _ => 0)) _ _ _ _ _ _ rfl ⟨(-1), rfl, hO3, ⟨rfl, (show i2 10 = x ∧ i2 0 = i 0 ∧ i2 1 = i 1 ∧ i2 2 = i 2 ∧ i2 3 = i 3 ∧ i2 4 = i 4 ∧ i2 5 = i 5 ∧ i2 6 = i 6 ∧ i2 7 = i 7 ∧ i2 8 = i 8 ∧ i2 9 = i 9 ∧ i2 11 = i 11 ∧ i2 12 = i 12 ∧ i2 13 = i 13 ∧ i2 14 = i 14 ∧ i2 15 = i 15 ∧ i2 16 = i 16 ∧ i2 17 = i 17 ∧ i2 18 = i 18 from by omega)⟩⟩ (bw_subP (isC := [0]) hP rfl) (hD.sub [0] (by decide) rfl) hS (Nat.le_of_ble_eq_true rfl) (Nat.le_of_ble_eq_true rfl) dX9_no_6