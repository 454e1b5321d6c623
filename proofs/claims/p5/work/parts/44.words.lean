theorem ProgOk.tgtA {g g' : Nat → Int} {k : Nat} {i n v : Int} (h : ProgOk g) (e : g' = uZ g k v) (hi : 0 ≤ i ∧ i < 10) (hn : 0 ≤ n ∧ n < 4) (hk : (k : Int) = 20 * i + 2 + 3 * n + 1) (hv : 0 ≤ v ∧ v ≤ 3) : ProgOk g' := by
  refine ⟨h.1.setA e (j := 1) hi hn (by omega) (by omega) (by omega), h.2.tgt e ?_ hv.2⟩
  rcases (show n = 0 ∨ n = 1 ∨ n = 2 ∨ n = 3 by omega) with rfl | rfl | rfl | rfl <;> omega
theorem ProgOk.valA {g g' : Nat → Int} {k : Nat} {i n v : Int} (h : ProgOk g) (e : g' = uZ g k v) (hi : 0 ≤ i ∧ i < 10) (hn : 0 ≤ n ∧ n < 4) (hk : (k : Int) = 20 * i + 2 + 3 * n + 2) (hv : 0 ≤ v ∧ v ≤ 9) : ProgOk g' := by
  refine ⟨h.1.setA e (j := 2) hi hn (by omega) (by omega) (by omega), h.2.set e ?_⟩
  rcases (show n = 0 ∨ n = 1 ∨ n = 2 ∨ n = 3 by omega) with rfl | rfl | rfl | rfl <;> omega
theorem ProgOk.pairA {g g1 g2 : Nat → Int} {k k1 : Nat} {i n v w : Int} (h : ProgOk g) (e1 : g1 = uZ g k v) (e2 : g2 = uZ g1 k1 w) (hi : 0 ≤ i ∧ i < 10) (hn : 0 ≤ n ∧ n < 4) (hk : (k : Int) = 20 * i + 2 + 3 * n) (hk1 : k1 = k + 1) (hv : 0 ≤ v ∧ v ≤ 3) (hw : 0 ≤ w ∧ w ≤ 9) (hvw : v = 3 ∨ w ≤ 3) : ProgOk g2 := by
  refine ⟨(h.1.setA e1 (j := 0) hi hn (by omega) (by omega) (by omega)).setA e2 (j := 1) hi hn (by omega) (by omega) (by omega), h.2.pair e1 e2 ?_ hk1 hvw⟩
  rcases (show n = 0 ∨ n = 1 ∨ n = 2 ∨ n = 3 by omega) with rfl | rfl | rfl | rfl <;> omega
theorem dX9_wrong_0 : decode cX9_wrong 0 = .ok (.aload_n 0, 1) := by decide +kernel
theorem dX9_wrong_1 : decode cX9_wrong 1 = .ok (.getfield 115, 3) := by decide +kernel
theorem k_1176 : Cond.fieldLink RX9 115 "BurntWaysModel" "failed" "Z" ∈ bw_T := bw_m 1176 (by decide +kernel) rfl
theorem dX9_wrong_4 : decode cX9_wrong 4 = .ok (.ifCond .eq 4, 3) := by decide +kernel
theorem dX9_wrong_8 : decode cX9_wrong 8 = .ok (.aload_n 0, 1) := by decide +kernel
theorem dX9_wrong_9 : decode cX9_wrong 9 = .ok (.iconst 1, 1) := by decide +kernel
theorem dX9_wrong_10 : decode cX9_wrong 10 = .ok (.putfield 115, 3) := by decide +kernel
theorem dX9_wrong_13 : decode cX9_wrong 13 = .ok (.aload_n 0, 1) := by decide +kernel
theorem dX9_wrong_14 : decode cX9_wrong 14 = .ok (.iload_n 1, 1) := by decide +kernel
theorem dX9_wrong_15 : decode cX9_wrong 15 = .ok (.putfield 119, 3) := by decide +kernel
theorem dX9_wrong_18 : decode cX9_wrong 18 = .ok (.aload_n 0, 1) := by decide +kernel
theorem dX9_wrong_19 : decode cX9_wrong 19 = .ok (.iload_n 2, 1) := by decide +kernel
theorem dX9_wrong_20 : decode cX9_wrong 20 = .ok (.putfield 13, 3) := by decide +kernel
theorem dX9_wrong_23 : decode cX9_wrong 23 = .ok (.return_, 1) := by decide +kernel
theorem dX9_wrong_7 : decode cX9_wrong 7 = .ok (.return_, 1) := by decide +kernel
abbrev rm_X9_wrong : Room := { frames := 0, cells := 0, slots := 0, locals := 0 }
set_option maxRecDepth 100000 in
set_option maxHeartbeats 8000000 in
theorem c_X9_wrong {l : Launch} {E : (Nat → Prop) → State → Prop} (hO : bw_Ok E) {G : va_G} {cI cB cJ cN cW : ClassId} (y : Nat) (q : Nat → Nat) (i : Nat → Int) (hM : ModOk i) (x : Int) (w : Int)  : bw_Cv (S := zV) l yX9_wrong (bw_ws (Cond.code yX9_wrong cX9_wrong 3 none)) rm_X9_wrong E G (bw_kt cI cB cJ cN cW) [.ref y, .int (zI x), .int (zI w)] [(y, .inr (9, [.int (zI (i 0)), .ref (q 0), .int (zI (i 1)), .int (zI (i 2)), .int (zI (i 3)), .int (zI (i 4)), .int (zI (i 5)), .int (zI (i 6)), .int (zI (i 7)), .int (zI (i 8)), .int (zI (i 9)), .int (zI (i 10)), .ref (q 1), .int (zI (i 11)), .int (zI (i 12)), .ref (q 2), .ref (q 3), .ref (q 4), .ref (q 5), .ref (q 6), .ref (q 7), .ref (q 8), .ref (q 9), .ref (q 10), .ref (q 11), .ref (q 12), .ref (q 13), .ref (q 14), .ref (q 15), .ref (q 16), .int (zI (i 13)), .int (zI (i 14)), .int (zI (i 15)), .int (zI (i 16)), .int (zI (i 17)), .int (zI (i 18)), .ref (q 17), .ref (q 18), .ref (q 19), .ref (q 20)]))] (fun u => (ModOk (u 0).1) ∧ (((u 0).1 11 = 1 ∧ (u 0).1 1 = i 1 ∧ (u 0).1 4 = i 4 ∧ (u 0).1 5 = i 5 ∧ (u 0).1 7 = i 7 ∧ (u 0).1 14 = i 14 ∧ (u 0).1 16 = i 16 ∧ (u 0).1 12 = i 12 ∧ (u 0).1 13 = i 13 ∧ (u 0).1 15 = i 15 ∧ (u 0).1 17 = i 17))) (fun u => [(y, .inr (9, [.int (zI ((u 0).1 0)), .ref (q 0), .int (zI ((u 0).1 1)), .int (zI ((u 0).1 2)), .int (zI ((u 0).1 3)), .int (zI ((u 0).1 4)), .int (zI ((u 0).1 5)), .int (zI ((u 0).1 6)), .int (zI ((u 0).1 7)), .int (zI ((u 0).1 8)), .int (zI ((u 0).1 9)), .int (zI ((u 0).1 10)), .ref (q 1), .int (zI ((u 0).1 11)), .int (zI ((u 0).1 12)), .ref (q 2), .ref (q 3), .ref (q 4), .ref (q 5), .ref (q 6), .ref (q 7), .ref (q 8), .ref (q 9), .ref (q 10), .ref (q 11), .ref (q 12), .ref (q 13), .ref (q 14), .ref (q 15), .ref (q 16), .int (zI ((u 0).1 13)), .int (zI ((u 0).1 14)), .int (zI ((u 0).1 15)), .int (zI ((u 0).1 16)), .int (zI ((u 0).1 17)), .int (zI ((u 0).1 18)), .ref (q 17), .ref (q 18), .ref (q 19), .ref (q 20)]))]) := by
  refine bw_Cv.of (cc := cX9_wrong) (maxL := 3) (by decide) rfl (Nat.le_of_ble_eq_true rfl) ?_
  intro p e s m below meth c A Q hx hb hml hts hown hin hK hA hS hP hD hE ret ls hl
  have F : CallFix p m c cX9_wrong 3 s ([.ref y, .int (zI x), .int (zI w)] : List Value).toArray bw_T RX9 := ⟨hx, hb, hml, hown, fun w h => hts w (List.mem_cons_of_mem _ h)⟩
  replace hl : lv_has ls 3 [(0, .ref y), (1, .int (zI x)), (2, .int (zI w))] := hl
  have hf1 := hM.1
  refine lv_aload_n hx hb dX9_wrong_0 rfl (lv_at hl 0 rfl) ?_
  refine r_get F hK hP 0 13 rfl rfl in_X9 (by decide) k_1176 rfl dX9_wrong_1 ?_
  refine rz_ifb_eq (tgt := 8) F (by omega) dX9_wrong_4 (by decide) (fun h4_1 => ?_) (fun h4_1 => ?_)
  · refine lv_aload_n hx hb dX9_wrong_8 rfl (lv_at hl 0 rfl) ?_
    refine lv_iconst (v := zI 1) hx hb dX9_wrong_9 rfl ?_
    refine r_put F hK hP hD hS 0 13 rfl rfl in_X9 tyX9 tyX9_ok nmX9 (by decide) k_1176 rfl (zI_nz (by omega)) (zI_fz (by omega)) (Nat.le_of_ble_eq_true rfl) dX9_wrong_10 (w1 := [(y, .inr (9, [.int (zI (i 0)), .ref (q 0), .int (zI (i 1)), .int (zI (i 2)), .int (zI (i 3)), .int (zI (i 4)), .int (zI (i 5)), .int (zI (i 6)), .int (zI (i 7)), .int (zI (i 8)), .int (zI (i 9)), .int (zI (i 10)), .ref (q 1), .int (zI 1), .int (zI (i 12)), .ref (q 2), .ref (q 3), .ref (q 4), .ref (q 5), .ref (q 6), .ref (q 7), .ref (q 8), .ref (q 9), .ref (q 10), .ref (q 11), .ref (q 12), .ref (q 13), .ref (q 14), .ref (q 15), .ref (q 16), .int (zI (i 13)), .int (zI (i 14)), .int (zI (i 15)), .int (zI (i 16)), .int (zI (i 17)), .int (zI (i 18)), .ref (q 17), .ref (q 18), .ref (q 19), .ref (q 20)]))]) rfl (fun H locs hP hD hS => ?_)
    refine lv_aload_n hx hb dX9_wrong_13 rfl (lv_at hl 0 rfl) ?_
    refine lv_iload_n hx hb dX9_wrong_14 rfl (lv_at hl 1 rfl) ?_
    refine r_put F hK hP hD hS 0 9 rfl rfl in_X9 tyX9 tyX9_ok nmX9 (by decide) k_1172 rfl rfl rfl (Nat.le_of_ble_eq_true rfl) dX9_wrong_15 (w1 := [(y, .inr (9, [.int (zI (i 0)), .ref (q 0), .int (zI (i 1)), .int (zI (i 2)), .int (zI (i 3)), .int (zI (i 4)), .int (zI (i 5)), .int (zI (i 6)), .int (zI (i 7)), .int (zI x), .int (zI (i 9)), .int (zI (i 10)), .ref (q 1), .int (zI 1), .int (zI (i 12)), .ref (q 2), .ref (q 3), .ref (q 4), .ref (q 5), .ref (q 6), .ref (q 7), .ref (q 8), .ref (q 9), .ref (q 10), .ref (q 11), .ref (q 12), .ref (q 13), .ref (q 14), .ref (q 15), .ref (q 16), .int (zI (i 13)), .int (zI (i 14)), .int (zI (i 15)), .int (zI (i 16)), .int (zI (i 17)), .int (zI (i 18)), .ref (q 17), .ref (q 18), .ref (q 19), .ref (q 20)]))]) rfl (fun H locs hP hD hS => ?_)
    refine lv_aload_n hx hb dX9_wrong_18 rfl (lv_at hl 0 rfl) ?_
    refine lv_iload_n hx hb dX9_wrong_19 rfl (lv_at hl 2 rfl) ?_
    refine r_put F hK hP hD hS 0 10 rfl rfl in_X9 tyX9 tyX9_ok nmX9 (by decide) k_1173 rfl rfl rfl (Nat.le_of_ble_eq_true rfl) dX9_wrong_20 (w1 := [(y, .inr (9, [.int (zI (i 0)), .ref (q 0), .int (zI (i 1)), .int (zI (i 2)), .int (zI (i 3)), .int (zI (i 4)), .int (zI (i 5)), .int (zI (i 6)), .int (zI (i 7)), .int (zI x), .int (zI w), .int (zI (i 10)), .ref (q 1), .int (zI 1), .int (zI (i 12)), .ref (q 2), .ref (q 3), .ref (q 4), .ref (q 5), .ref (q 6), .ref (q 7), .ref (q 8), .ref (q 9), .ref (q 10), .ref (q 11), .ref (q 12), .ref (q 13), .ref (q 14), .ref (q 15), .ref (q 16), .int (zI (i 13)), .int (zI (i 14)), .int (zI (i 15)), .int (zI (i 16)), .int (zI (i 17)), .int (zI (i 18)), .ref (q 17), .ref (q 18), .ref (q 19), .ref (q 20)]))]) rfl (fun H locs hP hD hS => ?_)
    obtain ⟨i3, e_i3⟩ : ∃ i3 : Nat → Int, i3 = fun k => [(i 0), (i 1), (i 2), (i 3), (i 4), (i 5), (i 6), (i 7), x, w, (i 10), 1, (i 12), (i 13), (i 14), (i 15), (i 16), (i 17), (i 18)].getD k 0 := ⟨_, rfl⟩
    have e_i3_0 : i3 0 = (i 0) := by rw [e_i3]; rfl
    have e_i3_1 : i3 1 = (i 1) := by rw [e_i3]; rfl
    have e_i3_2 : i3 2 = (i 2) := by rw [e_i3]; rfl
    have e_i3_3 : i3 3 = (i 3) := by rw [e_i3]; rfl
    have e_i3_4 : i3 4 = (i 4) := by rw [e_i3]; rfl
    have e_i3_5 : i3 5 = (i 5) := by rw [e_i3]; rfl
    have e_i3_6 : i3 6 = (i 6) := by rw [e_i3]; rfl
    have e_i3_7 : i3 7 = (i 7) := by rw [e_i3]; rfl
    have e_i3_8 : i3 8 = x := by rw [e_i3]; rfl
    have e_i3_9 : i3 9 = w := by rw [e_i3]; rfl
    have e_i3_10 : i3 10 = (i 10) := by rw [e_i3]; rfl
    have e_i3_11 : i3 11 = 1 := by rw [e_i3]; rfl
    have e_i3_12 : i3 12 = (i 12) := by rw [e_i3]; rfl
    have e_i3_13 : i3 13 = (i 13) := by rw [e_i3]; rfl
    have e_i3_14 : i3 14 = (i 14) := by rw [e_i3]; rfl
    have e_i3_15 : i3 15 = (i 15) := by rw [e_i3]; rfl
    have e_i3_16 : i3 16 = (i 16) := by rw [e_i3]; rfl
    have e_i3_17 : i3 17 = (i 17) := by rw [e_i3]; rfl
    have e_i3_18 : i3 18 = (i 18) := by rw [e_i3]; rfl
    have hO4 : ModOk i3 := by have hold9 := hM.1; have hold8 : _ → _ := hM.2; refine ⟨⟨⟨?_, ?_, ?_, ?_, ?_⟩, ⟨?_, ?_, ?_, ?_, ?_, ?_⟩, ⟨?_, ?_, ?_, ?_⟩⟩, fun q5 => ?_⟩ <;> omega
    have hf5 := hO4.1
    have hP : va_P G vwCl [(y, .inr (9, [.int (zI (i3 0)), .ref (q 0), .int (zI (i3 1)), .int (zI (i3 2)), .int (zI (i3 3)), .int (zI (i3 4)), .int (zI (i3 5)), .int (zI (i3 6)), .int (zI (i3 7)), .int (zI (i3 8)), .int (zI (i3 9)), .int (zI (i3 10)), .ref (q 1), .int (zI (i3 11)), .int (zI (i3 12)), .ref (q 2), .ref (q 3), .ref (q 4), .ref (q 5), .ref (q 6), .ref (q 7), .ref (q 8), .ref (q 9), .ref (q 10), .ref (q 11), .ref (q 12), .ref (q 13), .ref (q 14), .ref (q 15), .ref (q 16), .int (zI (i3 13)), .int (zI (i3 14)), .int (zI (i3 15)), .int (zI (i3 16)), .int (zI (i3 17)), .int (zI (i3 18)), .ref (q 17), .ref (q 18), .ref (q 19), .ref (q 20)]))] H := by subst e_i3; exact hP
    have hD : va_D A [(y, .inr (9, [.int (zI (i3 0)), .ref (q 0), .int (zI (i3 1)), .int (zI (i3 2)), .int (zI (i3 3)), .int (zI (i3 4)), .int (zI (i3 5)), .int (zI (i3 6)), .int (zI (i3 7)), .int (zI (i3 8)), .int (zI (i3 9)), .int (zI (i3 10)), .ref (q 1), .int (zI (i3 11)), .int (zI (i3 12)), .ref (q 2), .ref (q 3), .ref (q 4), .ref (q 5), .ref (q 6), .ref (q 7), .ref (q 8), .ref (q 9), .ref (q 10), .ref (q 11), .ref (q 12), .ref (q 13), .ref (q 14), .ref (q 15), .ref (q 16), .int (zI (i3 13)), .int (zI (i3 14)), .int (zI (i3 15)), .int (zI (i3 16)), .int (zI (i3 17)), .int (zI (i3 18)), .ref (q 17), .ref (q 18), .ref (q 19), .ref (q 20)]))] := by subst e_i3; exact hD
    exact ret (fun k => [(i3, fun _ _ => 0)].getD k (fun _ => 0, fun _ _ => 0)) _ _ _ _ _ _ ⟨hO4, (show i3 11 = 1 ∧ i3 1 = i 1 ∧ i3 4 = i 4 ∧ i3 5 = i 5 ∧ i3 7 = i 7 ∧ i3 14 = i 14 ∧ i3 16 = i 16 ∧ i3 12 = i 12 ∧ i3 13 = i 13 ∧ i3 15 = i 15 ∧ i3 17 = i 17 from by omega)⟩ (bw_subP (isC := [0]) hP rfl) (hD.sub [0] (by decide) rfl) hS (Nat.le_of_ble_eq_true rfl) (Nat.le_of_ble_eq_true rfl) dX9_wrong_23
  · exact ret (fun k => [(i, fun _ _ => 0)].getD k (fun _ => 0, fun _ _ => 0)) _ _ _ _ _ _ ⟨hM, (show i 11 = 1 ∧ i 1 = i 1 ∧ i 4 = i 4 ∧ i 5 = i 5 ∧ i 7 = i 7 ∧ i 14 = i 14 ∧ i 16 = i 16 ∧ i 12 = i 12 ∧ i 13 = i 13 ∧ i 15 = i 15 ∧ i 17 = i 17 from by omega)⟩ (bw_subP (isC := [0]) hP rfl) (hD.sub [0] (by decide) rfl) hS (Nat.le_of_ble_eq_true rfl) (Nat.le_of_ble_eq_true rfl) dX9_wrong_7
theorem dX9_isWord_0 : decode cX9_isWord 0 = .ok (.aload_n 0, 1) := by decide +kernel
theorem dX9_isWord_1 : decode cX9_isWord 1 = .ok (.getfield 115, 3) := by decide +kernel
theorem dX9_isWord_4 : decode cX9_isWord 4 = .ok (.ifCond .ne 22, 3) := by decide +kernel
theorem dX9_isWord_26 : decode cX9_isWord 26 = .ok (.iconst 0, 1) := by decide +kernel
theorem dX9_isWord_27 : decode cX9_isWord 27 = .ok (.ireturn, 1) := by decide +kernel
theorem dX9_isWord_7 : decode cX9_isWord 7 = .ok (.aload_n 0, 1) := by decide +kernel
theorem dX9_isWord_8 : decode cX9_isWord 8 = .ok (.getfield 105, 3) := by decide +kernel
theorem dX9_isWord_11 : decode cX9_isWord 11 = .ok (.iconst 2, 1) := by decide +kernel
theorem dX9_isWord_12 : decode cX9_isWord 12 = .ok (.if_icmp .ne 14, 3) := by decide +kernel
theorem dX9_isWord_15 : decode cX9_isWord 15 = .ok (.aload_n 0, 1) := by decide +kernel
theorem dX9_isWord_16 : decode cX9_isWord 16 = .ok (.getfield 99, 3) := by decide +kernel
theorem dX9_isWord_19 : decode cX9_isWord 19 = .ok (.aload_n 1, 1) := by decide +kernel
theorem dX9_isWord_20 : decode cX9_isWord 20 = .ok (.invokevirtual 122, 3) := by decide +kernel
theorem kv_J0_length_8abf5 : bw_KV RJ0 yJ0_length_8abf5 (Cond.code yJ0_length_8abf5 cJ0_length_8abf5 1 (some .int)) := ⟨bw_m 213 (by decide +kernel) rfl, bw_m 214 (by decide +kernel) rfl, bw_m 98 (by decide +kernel) rfl, bw_m 215 (by decide +kernel) rfl⟩
theorem k_1326 : Cond.methodLink RX9 122 yJ0_length_8abf5 ∈ bw_T := bw_m 1326 (by decide +kernel) rfl
theorem dX9_isWord_23 : decode cX9_isWord 23 = .ok (.if_icmp .eq 5, 3) := by decide +kernel
theorem dX9_isWord_28 : decode cX9_isWord 28 = .ok (.iconst 1, 1) := by decide +kernel
theorem dX9_isWord_29 : decode cX9_isWord 29 = .ok (.istore_n 2, 1) := by decide +kernel
theorem dX9_isWord_30 : decode cX9_isWord 30 = .ok (.iconst 0, 1) := by decide +kernel
theorem dX9_isWord_31 : decode cX9_isWord 31 = .ok (.istore_n 3, 1) := by decide +kernel
theorem dX9_isWord_32 : decode cX9_isWord 32 = .ok (.iload_n 3, 1) := by decide +kernel
theorem dX9_isWord_33 : decode cX9_isWord 33 = .ok (.aload_n 0, 1) := by decide +kernel
theorem dX9_isWord_34 : decode cX9_isWord 34 = .ok (.getfield 99, 3) := by decide +kernel
theorem dX9_isWord_37 : decode cX9_isWord 37 = .ok (.if_icmp .ge 33, 3) := by decide +kernel
theorem dX9_isWord_70 : decode cX9_isWord 70 = .ok (.iload_n 2, 1) := by decide +kernel
theorem dX9_isWord_71 : decode cX9_isWord 71 = .ok (.ireturn, 1) := by decide +kernel
theorem dX9_isWord_40 : decode cX9_isWord 40 = .ok (.iload_n 2, 1) := by decide +kernel
theorem dX9_isWord_41 : decode cX9_isWord 41 = .ok (.ifCond .eq 21, 3) := by decide +kernel
theorem dX9_isWord_62 : decode cX9_isWord 62 = .ok (.iconst 0, 1) := by decide +kernel
theorem dX9_isWord_63 : decode cX9_isWord 63 = .ok (.istore_n 2, 1) := by decide +kernel
theorem dX9_isWord_64 : decode cX9_isWord 64 = .ok (.iinc 3 1, 3) := by decide +kernel
theorem dX9_isWord_67 : decode cX9_isWord 67 = .ok (.goto (-35), 3) := by decide +kernel
theorem dX9_isWord_44 : decode cX9_isWord 44 = .ok (.aload_n 0, 1) := by decide +kernel
theorem dX9_isWord_45 : decode cX9_isWord 45 = .ok (.getfield 17, 3) := by decide +kernel
theorem dX9_isWord_48 : decode cX9_isWord 48 = .ok (.iload_n 3, 1) := by decide +kernel
theorem dX9_isWord_49 : decode cX9_isWord 49 = .ok (.iaload, 1) := by decide +kernel
theorem dX9_isWord_50 : decode cX9_isWord 50 = .ok (.aload_n 1, 1) := by decide +kernel
theorem dX9_isWord_51 : decode cX9_isWord 51 = .ok (.iload_n 3, 1) := by decide +kernel
theorem dX9_isWord_52 : decode cX9_isWord 52 = .ok (.invokevirtual 128, 3) := by decide +kernel
theorem kv_J0_charAt_5068e : bw_KV RJ0 yJ0_charAt_5068e (Cond.code yJ0_charAt_5068e cJ0_charAt_5068e 2 (some .char)) := ⟨bw_m 223 (by decide +kernel) rfl, bw_m 224 (by decide +kernel) rfl, bw_m 98 (by decide +kernel) rfl, bw_m 225 (by decide +kernel) rfl⟩
theorem k_1327 : Cond.methodLink RX9 128 yJ0_charAt_5068e ∈ bw_T := bw_m 1327 (by decide +kernel) rfl
theorem dX9_isWord_55 : decode cX9_isWord 55 = .ok (.if_icmp .ne 7, 3) := by decide +kernel
theorem dX9_isWord_58 : decode cX9_isWord 58 = .ok (.iconst 1, 1) := by decide +kernel
theorem dX9_isWord_59 : decode cX9_isWord 59 = .ok (.goto 4, 3) := by decide +kernel
abbrev rm_X9_isWord : Room := { frames := 4, cells := 0, slots := 0, locals := 85 }
set_option maxRecDepth 100000 in
set_option maxHeartbeats 8000000 in
theorem c_X9_isWord {l : Launch} {E : (Nat → Prop) → State → Prop} (hO : bw_Ok E) {G : va_G} {cI cB cJ cN cW : ClassId} (y : Nat) (q : Nat → Nat) (i : Nat → Int) (hM : ModOk i) (g_letters : Nat → Int) (hr_letters : ∀ k, k < 8 → (-2147483648) ≤ g_letters k ∧ g_letters k ≤ 2147483647) {own9 : String} {ix9 : Nat} {tx9 : String} {sa va N : Nat} {fb : Nat → Int32} (hT : bw_Text E own9 ix9 tx9 sa va N fb)  : bw_Ci (S := zV) l yX9_isWord (bw_ws (Cond.code yX9_isWord cX9_isWord 4 (some .boolean))) rm_X9_isWord E G (bw_kt cI cB cJ cN cW) [.ref y, .ref sa] [(y, .inr (9, [.int (zI (i 0)), .ref (q 0), .int (zI (i 1)), .int (zI (i 2)), .int (zI (i 3)), .int (zI (i 4)), .int (zI (i 5)), .int (zI (i 6)), .int (zI (i 7)), .int (zI (i 8)), .int (zI (i 9)), .int (zI (i 10)), .ref (q 1), .int (zI (i 11)), .int (zI (i 12)), .ref (q 2), .ref (q 3), .ref (q 4), .ref (q 5), .ref (q 6), .ref (q 7), .ref (q 8), .ref (q 9), .ref (q 10), .ref (q 11), .ref (q 12), .ref (q 13), .ref (q 14), .ref (q 15), .ref (q 16), .int (zI (i 13)), .int (zI (i 14)), .int (zI (i 15)), .int (zI (i 16)), .int (zI (i 17)), .int (zI (i 18)), .ref (q 17), .ref (q 18), .ref (q 19), .ref (q 20)])), ((q 1), .inl (cI, 8, .inl (fun k => zI (g_letters k))))] (fun r u => ∃ z : Int, r = zI z ∧ ((0 ≤ z ∧ z ≤ 1) ∧ Imp (z = 1) (i 11 = 0 ∧ i 5 = 2))) (fun u => [(y, .inr (9, [.int (zI (i 0)), .ref (q 0), .int (zI (i 1)), .int (zI (i 2)), .int (zI (i 3)), .int (zI (i 4)), .int (zI (i 5)), .int (zI (i 6)), .int (zI (i 7)), .int (zI (i 8)), .int (zI (i 9)), .int (zI (i 10)), .ref (q 1), .int (zI (i 11)), .int (zI (i 12)), .ref (q 2), .ref (q 3), .ref (q 4), .ref (q 5), .ref (q 6), .ref (q 7), .ref (q 8), .ref (q 9), .ref (q 10), .ref (q 11), .ref (q 12), .ref (q 13), .ref (q 14), .ref (q 15), .ref (q 16), .int (zI (i 13)), .int (zI (i 14)), .int (zI (i 15)), .int (zI (i 16)), .int (zI (i 17)), .int (zI (i 18)), .ref (q 17), .ref (q 18), .ref (q 19), .ref (q 20)])), ((q 1), .inl (cI, 8, .inl (fun k => zI (g_letters k))))]) := by
  refine bw_Ci.of (cc := cX9_isWord) (maxL := 4) (ty := .boolean) (by decide) rfl (Nat.le_of_ble_eq_true rfl) ?_
  intro p e s m below meth c A Q hx hb hml hts hown hin hK hA hS hP hD hE ret ls hl
  have F : CallFix p m c cX9_isWord 4 s ([.ref y, .ref sa] : List Value).toArray bw_T RX9 := ⟨hx, hb, hml, hown, fun w h => hts w (List.mem_cons_of_mem _ h)⟩
  replace hl : lv_has ls 4 [(0, .ref y), (1, .ref sa)] := hl
  have hN9 := hT.1
  have hM2 : _ → _ := hM.2
  have hf1 := hM.1.1
  refine lv_aload_n hx hb dX9_isWord_0 rfl (lv_at hl 0 rfl) ?_
  refine r_get F hK hP 0 13 rfl rfl in_X9 (by decide) k_1176 rfl dX9_isWord_1 ?_
  refine rz_ifb_ne (tgt := 26) F (by omega) dX9_isWord_4 (by decide) (fun h4_1 => ?_) (fun h4_1 => ?_)
  · refine lv_iconst (v := zI 0) hx hb dX9_isWord_26 rfl ?_
    exact ret (zI 0) (fun k => [((fun _ => 0), fun _ _ => 0)].getD k (fun _ => 0, fun _ _ => 0)) _ _ _ _ _ _ rfl ⟨0, rfl, ⟨(show 0 ≤ (0 : Int) ∧ (0 : Int) ≤ 1 from by omega), (show Imp ((0 : Int) = 1) (i 11 = 0 ∧ i 5 = 2) from fun q9 => by omega)⟩⟩ (bw_subP (isC := [0, 1]) hP rfl) (hD.sub [0, 1] (by decide) rfl) hS (Nat.le_of_ble_eq_true rfl) (Nat.le_of_ble_eq_true rfl) dX9_isWord_27
  · refine lv_aload_n hx hb dX9_isWord_7 rfl (lv_at hl 0 rfl) ?_
    refine r_get F hK hP 0 6 rfl rfl in_X9 (by decide) k_1169 rfl dX9_isWord_8 ?_
    refine lv_iconst (v := zI 2) hx hb dX9_isWord_11 rfl ?_
    refine rz_icmp_ne (tgt := 26) F (by omega) (by omega) dX9_isWord_12 (by decide) (fun h12_2 => ?_) (fun h12_2 => ?_)
    · refine lv_iconst (v := zI 0) hx hb dX9_isWord_26 rfl ?_
      exact ret (zI 0) (fun k => [((fun _ => 0), fun _ _ => 0)].getD k (fun _ => 0, fun _ _ => 0)) _ _ _ _ _ _ rfl ⟨0, rfl, ⟨(show 0 ≤ (0 : Int) ∧ (0 : Int) ≤ 1 from by omega), (show Imp ((0 : Int) = 1) (i 11 = 0 ∧ i 5 = 2) from fun q9 => by omega)⟩⟩ (bw_subP (isC := [0, 1]) hP rfl) (hD.sub [0, 1] (by decide) rfl) hS (Nat.le_of_ble_eq_true rfl) (Nat.le_of_ble_eq_true rfl) dX9_isWord_27
    · refine lv_aload_n hx hb dX9_isWord_15 rfl (lv_at hl 0 rfl) ?_
      refine r_get F hK hP 0 8 rfl rfl in_X9 (by decide) k_1171 rfl dX9_isWord_16 ?_
      refine lv_aload_n hx hb dX9_isWord_19 rfl (lv_at hl 1 rfl) ?_
      refine r_callR (As := []) (rest := [.int (zI (i 7))]) F hK hP hD hS hA hO hE (c_J0_length hO hT) k_1326 kv_J0_length_8abf5 0 rfl (by decide +kernel) ⟨Nat.le_of_ble_eq_true rfl, Nat.le_of_ble_eq_true rfl⟩ [0, 1] rfl (by decide) (by obtain ⟨cell, h1, h2, h3, _⟩ := ((hT.2 _ _ hE).2.1.1).kept hS.2.1; exact ⟨cell, h1, h2, h3⟩) hl.1 rfl (Nat.le_of_ble_eq_true rfl) dX9_isWord_20 ⟨Nat.le_of_ble_eq_true rfl, Nat.le_of_ble_eq_true rfl⟩ (fun r4 u5 H locs hp6 hP hD hS => ?_)
      subst hp6
      refine rz_eq (z := (N : Int)) rfl ?_
      refine rz_icmp_eq (tgt := 28) F (by omega) (by omega) dX9_isWord_23 (by decide) (fun h23_6 => ?_) (fun h23_6 => ?_)
      · refine lv_iconst (v := zI 1) hx hb dX9_isWord_28 rfl ?_
        refine lv_istore_n (lv' := [(2, .int (zI 1)), (0, .ref y), (1, .ref sa)]) hx hb dX9_isWord_29 rfl hl (by decide) rfl (fun ls hl => ?_)
        refine lv_iconst (v := zI 0) hx hb dX9_isWord_30 rfl ?_
        refine lv_istore_n (lv' := [(3, .int (zI 0)), (2, .int (zI 1)), (0, .ref y), (1, .ref sa)]) hx hb dX9_isWord_31 rfl hl (by decide) rfl (fun ls hl => ?_)
        refine W.widen (k := 0) (n := 0) (Nat.le_of_ble_eq_true rfl) (Nat.le_of_ble_eq_true rfl) ?_
        refine (?_ : ∀ (n9_1 : Nat) (v2 : Int) (v3 : Int) (H : Heap) (locs : List Loc), (0 ≤ v3 ∧ v3 ≤ i 7 ∧ 0 ≤ v2 ∧ v2 ≤ 1) → (i 7 - v3 : Int).toNat < n9_1 → va_P G vwCl [(y, .inr (9, [.int (zI (i 0)), .ref (q 0), .int (zI (i 1)), .int (zI (i 2)), .int (zI (i 3)), .int (zI (i 4)), .int (zI (i 5)), .int (zI (i 6)), .int (zI (i 7)), .int (zI (i 8)), .int (zI (i 9)), .int (zI (i 10)), .ref (q 1), .int (zI (i 11)), .int (zI (i 12)), .ref (q 2), .ref (q 3), .ref (q 4), .ref (q 5), .ref (q 6), .ref (q 7), .ref (q 8), .ref (q 9), .ref (q 10), .ref (q 11), .ref (q 12), .ref (q 13), .ref (q 14), .ref (q 15), .ref (q 16), .int (zI (i 13)), .int (zI (i 14)), .int (zI (i 15)), .int (zI (i 16)), .int (zI (i 17)), .int (zI (i 18)), .ref (q 17), .ref (q 18), .ref (q 19), .ref (q 20)])), ((q 1), .inl (cI, 8, .inl (fun k => zI (g_letters k))))] H → va_D A [(y, .inr (9, [.int (zI (i 0)), .ref (q 0), .int (zI (i 1)), .int (zI (i 2)), .int (zI (i 3)), .int (zI (i 4)), .int (zI (i 5)), .int (zI (i 6)), .int (zI (i 7)), .int (zI (i 8)), .int (zI (i 9)), .int (zI (i 10)), .ref (q 1), .int (zI (i 11)), .int (zI (i 12)), .ref (q 2), .ref (q 3), .ref (q 4), .ref (q 5), .ref (q 6), .ref (q 7), .ref (q 8), .ref (q 9), .ref (q 10), .ref (q 11), .ref (q 12), .ref (q 13), .ref (q 14), .ref (q 15), .ref (q 16), .int (zI (i 13)), .int (zI (i 14)), .int (zI (i 15)), .int (zI (i 16)), .int (zI (i 17)), .int (zI (i 18)), .ref (q 17), .ref (q 18), .ref (q 19), .ref (q 20)])), ((q 1), .inl (cI, 8, .inl (fun k => zI (g_letters k))))] → va_S A s.heap H locs → ∀ ls : Array Slot, lv_has ls 4 [(3, .int (zI v3)), (2, .int (zI v2)), (0, .ref y), (1, .ref sa)] → W p l e rm_X9_isWord s m ([.ref y, .ref sa] : List Value).toArray below meth c H locs 0 0 Q (F0 m 32 ls [])) ((i 7 - 0 : Int).toNat + 1) 1 0 _ _ (by omega) (by omega) hP hD hS ls hl
        clear hP hD hS hl ls
        intro n9_1
        induction n9_1 with
        | zero =>
          intro v2 v3 H locs hI hM
          exact absurd hM (by omega)
        | succ n9_1 ih1 =>
          intro v2 v3 H locs hI1 hM1  hP hD hS ls hl
          refine lv_iload_n hx hb dX9_isWord_32 rfl (lv_at hl 0 rfl) ?_
          refine lv_aload_n hx hb dX9_isWord_33 rfl (lv_at hl 2 rfl) ?_
          refine r_get F hK hP 0 8 rfl rfl in_X9 (by decide) k_1171 rfl dX9_isWord_34 ?_
          refine rz_icmp_ge (tgt := 70) F (by omega) (by omega) dX9_isWord_37 (by decide) (fun h37_7 => ?_) (fun h37_7 => ?_)
          · refine lv_iload_n hx hb dX9_isWord_70 rfl (lv_at hl 1 rfl) ?_
            exact ret (zI v2) (fun k => [((fun _ => 0), fun _ _ => 0)].getD k (fun _ => 0, fun _ _ => 0)) _ _ _ _ _ _ (zI_nz (by omega)) ⟨v2, rfl, ⟨(show 0 ≤ (v2 : Int) ∧ (v2 : Int) ≤ 1 from by omega), (show Imp ((v2 : Int) = 1) (i 11 = 0 ∧ i 5 = 2) from fun q9 => by omega)⟩⟩ (bw_subP (isC := [0, 1]) hP rfl) (hD.sub [0, 1] (by decide) rfl) hS (Nat.le_of_ble_eq_true rfl) (Nat.le_of_ble_eq_true rfl) dX9_isWord_71
          · refine lv_iload_n hx hb dX9_isWord_40 rfl (lv_at hl 1 rfl) ?_
            refine rz_if_eq (tgt := 62) F (by omega) dX9_isWord_41 (by decide) (fun h41_8 => ?_) (fun h41_8 => ?_)
            · refine lv_iconst (v := zI 0) hx hb dX9_isWord_62 rfl ?_
              refine lv_istore_n (lv' := [(2, .int (zI 0)), (3, .int (zI v3)), (0, .ref y), (1, .ref sa)]) hx hb dX9_isWord_63 rfl hl (by decide) rfl (fun ls hl => ?_)
              refine lv_iinc (v := zI (v3 + 1)) (lv' := [(3, .int (zI (v3 + 1))), (2, .int (zI 0)), (0, .ref y), (1, .ref sa)]) hx hb dX9_isWord_64 hl (k := 1) rfl (zI_add _ _) (by decide) rfl (fun ls hl => ?_)
              refine lv_goto (tgt := 32) hx hb dX9_isWord_67 (by decide) ?_
              exact ih1 0 (v3 + 1) _ _ (by omega) (by omega) hP hD hS ls (lv_sub hl [0, 1, 2, 3] rfl)
            · refine lv_aload_n hx hb dX9_isWord_44 rfl (lv_at hl 2 rfl) ?_
              refine r_get F hK hP 0 12 rfl rfl in_X9 (by decide) k_1175 rfl dX9_isWord_45 ?_
              refine lv_iload_n hx hb dX9_isWord_48 rfl (lv_at hl 0 rfl) ?_
              refine rz_iald F hK hP 1 0 rfl rfl (by omega) (by omega) dX9_isWord_49 ?_
              have h_l49_9 := hr_letters (v3).toNat (by omega)
              refine lv_aload_n hx hb dX9_isWord_50 rfl (lv_at hl 3 rfl) ?_
              refine lv_iload_n hx hb dX9_isWord_51 rfl (lv_at hl 0 rfl) ?_
              refine r_callR (As := [.int (zI v3)]) (rest := [.int (zI (g_letters (v3).toNat))]) F hK hP hD hS hA hO hE (c_J0_charAt hO hT (zI v3) (zI_nn (by omega)) (zI_ltN (by omega) hT.1)) k_1327 kv_J0_charAt_5068e 1 rfl (by decide +kernel) ⟨Nat.le_of_ble_eq_true rfl, Nat.le_of_ble_eq_true rfl⟩ [0, 1] rfl (by decide) (by obtain ⟨cell, h1, h2, h3, _⟩ := ((hT.2 _ _ hE).2.1.1).kept hS.2.1; exact ⟨cell, h1, h2, h3⟩) hl.1 rfl (Nat.le_of_ble_eq_true rfl) dX9_isWord_52 ⟨Nat.le_of_ble_eq_true rfl, Nat.le_of_ble_eq_true rfl⟩ (fun r11 u12 H locs hp13 hP hD hS => ?_)
              refine rz_top (fun z14 h_z14 => ?_)
              refine rz_icmp_ne (tgt := 62) F (by omega) (by omega) dX9_isWord_55 (by decide) (fun h55_14 => ?_) (fun h55_14 => ?_)
              · refine lv_iconst (v := zI 0) hx hb dX9_isWord_62 rfl ?_
                refine lv_istore_n (lv' := [(2, .int (zI 0)), (3, .int (zI v3)), (0, .ref y), (1, .ref sa)]) hx hb dX9_isWord_63 rfl hl (by decide) rfl (fun ls hl => ?_)
                refine lv_iinc (v := zI (v3 + 1)) (lv' := [(3, .int (zI (v3 + 1))), (2, .int (zI 0)), (0, .ref y), (1, .ref sa)]) hx hb dX9_isWord_64 hl (k := 1) rfl (zI_add _ _) (by decide) rfl (fun ls hl => ?_)
                refine lv_goto (tgt := 32) hx hb dX9_isWord_67 (by decide) ?_
                exact ih1 0 (v3 + 1) _ _ (by omega) (by omega) hP hD hS ls (lv_sub hl [0, 1, 2, 3] rfl)
              · refine lv_iconst (v := zI 1) hx hb dX9_isWord_58 rfl ?_
                refine lv_goto (tgt := 63) hx hb dX9_isWord_59 (by decide) ?_
                refine lv_istore_n (lv' := [(2, .int (zI 1)), (3, .int (zI v3)), (0, .ref y), (1, .ref sa)]) hx hb dX9_isWord_63 rfl hl (by decide) rfl (fun ls hl => ?_)
                refine lv_iinc (v := zI (v3 + 1)) (lv' := [(3, .int (zI (v3 + 1))), (2, .int (zI 1)), (0, .ref y), (1, .ref sa)]) hx hb dX9_isWord_64 hl (k := 1) rfl (zI_add _ _) (by decide) rfl (fun ls hl => ?_)
                refine lv_goto (tgt := 32) hx hb dX9_isWord_67 (by decide) ?_
                exact ih1 1 (v3 + 1) _ _ (by omega) (by omega) hP hD hS ls (lv_sub hl [0, 1, 2, 3] rfl)
      · refine lv_iconst (v := zI 0) hx hb dX9_isWord_26 rfl ?_
        exact ret (zI 0) (fun k => [((fun _ => 0), fun _ _ => 0)].getD k (fun _ => 0, fun _ _ => 0)) _ _ _ _ _ _ rfl ⟨0, rfl, ⟨(show 0 ≤ (0 : Int) ∧ (0 : Int) ≤ 1 from by omega), (show Imp ((0 : Int) = 1) (i 11 = 0 ∧ i 5 = 2) from fun q9 => by omega)⟩⟩ (bw_subP (isC := [0, 1]) hP rfl) (hD.sub [0, 1] (by decide) rfl) hS (Nat.le_of_ble_eq_true rfl) (Nat.le_of_ble_eq_true rfl) dX9_isWord_27
theorem dX9_takes_0 : decode cX9_takes 0 = .ok (.aload_n 0, 1) := by decide +kernel
theorem dX9_takes_1 : decode cX9_takes 1 = .ok (.aload_n 1, 1) := by decide +kernel
theorem dX9_takes_2 : decode cX9_takes 2 = .ok (.invokevirtual 132, 3) := by decide +kernel
theorem k_1322 : Cond.methodLink RX9 132 yX9_isWord ∈ bw_T := bw_m 1322 (by decide +kernel) rfl
theorem kv_X9_isWord : bw_KV RX9 yX9_isWord (Cond.code yX9_isWord cX9_isWord 4 (some .boolean)) := ⟨bw_m 1324 (by decide +kernel) rfl, bw_m 49 (by decide +kernel) rfl, bw_m 107 (by decide +kernel) rfl, bw_m 1325 (by decide +kernel) rfl⟩
theorem dX9_takes_5 : decode cX9_takes 5 = .ok (.ifCond .ne 5, 3) := by decide +kernel
theorem dX9_takes_10 : decode cX9_takes 10 = .ok (.aload_n 0, 1) := by decide +kernel
theorem dX9_takes_11 : decode cX9_takes 11 = .ok (.invokevirtual 136, 3) := by decide +kernel
theorem k_1303 : Cond.methodLink RX9 136 yX9_next ∈ bw_T := bw_m 1303 (by decide +kernel) rfl
theorem kv_X9_next : bw_KV RX9 yX9_next (Cond.code yX9_next cX9_next 4 none) := ⟨bw_m 1305 (by decide +kernel) rfl, bw_m 46 (by decide +kernel) rfl, bw_m 107 (by decide +kernel) rfl, bw_m 1306 (by decide +kernel) rfl⟩
theorem dX9_takes_14 : decode cX9_takes 14 = .ok (.iconst 1, 1) := by decide +kernel
theorem dX9_takes_15 : decode cX9_takes 15 = .ok (.ireturn, 1) := by decide +kernel
theorem dX9_takes_8 : decode cX9_takes 8 = .ok (.iconst 0, 1) := by decide +kernel
theorem dX9_takes_9 : decode cX9_takes 9 = .ok (.ireturn, 1) := by decide +kernel
abbrev rm_X9_takes : Room := { frames := 5, cells := 0, slots := 0, locals := 108 }
set_option maxRecDepth 100000 in
set_option maxHeartbeats 8000000 in
theorem c_X9_takes {l : Launch} {E : (Nat → Prop) → State → Prop} (hO : bw_Ok E) {G : va_G} {cI cB cJ cN cW : ClassId} (y : Nat) (q : Nat → Nat) (i : Nat → Int) (hM : ModOk i) (g_tape : Nat → Int) (hr_tape : ∀ k, k < 900 → (-2147483648) ≤ g_tape k ∧ g_tape k ≤ 2147483647) (g_letters : Nat → Int) (hr_letters : ∀ k, k < 8 → (-2147483648) ≤ g_letters k ∧ g_letters k ≤ 2147483647) {own9 : String} {ix9 : Nat} {tx9 : String} {sa va N : Nat} {fb : Nat → Int32} (hT : bw_Text E own9 ix9 tx9 sa va N fb)  : bw_Ci (S := zV) l yX9_takes (bw_ws (Cond.code yX9_takes cX9_takes 2 (some .boolean))) rm_X9_takes E G (bw_kt cI cB cJ cN cW) [.ref y, .ref sa] [(y, .inr (9, [.int (zI (i 0)), .ref (q 0), .int (zI (i 1)), .int (zI (i 2)), .int (zI (i 3)), .int (zI (i 4)), .int (zI (i 5)), .int (zI (i 6)), .int (zI (i 7)), .int (zI (i 8)), .int (zI (i 9)), .int (zI (i 10)), .ref (q 1), .int (zI (i 11)), .int (zI (i 12)), .ref (q 2), .ref (q 3), .ref (q 4), .ref (q 5), .ref (q 6), .ref (q 7), .ref (q 8), .ref (q 9), .ref (q 10), .ref (q 11), .ref (q 12), .ref (q 13), .ref (q 14), .ref (q 15), .ref (q 16), .int (zI (i 13)), .int (zI (i 14)), .int (zI (i 15)), .int (zI (i 16)), .int (zI (i 17)), .int (zI (i 18)), .ref (q 17), .ref (q 18), .ref (q 19), .ref (q 20)])), ((q 0), .inl (cI, 900, .inl (fun k => zI (g_tape k)))), ((q 1), .inl (cI, 8, .inl (fun k => zI (g_letters k))))] (fun r u => ∃ z : Int, r = zI z ∧ (ModOk (u 0).1) ∧ (∀ k, k < 8 → (-2147483648) ≤ ((u 1).2 0) k ∧ ((u 1).2 0) k ≤ 2147483647) ∧ ((i 11 ≤ (u 0).1 11 ∧ i 4 ≤ (u 0).1 4 ∧ (u 0).1 1 = i 1 ∧ (u 0).1 14 = i 14 ∧ (u 0).1 16 = i 16) ∧ (0 ≤ z ∧ z ≤ 1) ∧ Imp (z = 1) (i 11 = 0 ∧ i 5 = 2))) (fun u => [(y, .inr (9, [.int (zI ((u 0).1 0)), .ref (q 0), .int (zI ((u 0).1 1)), .int (zI ((u 0).1 2)), .int (zI ((u 0).1 3)), .int (zI ((u 0).1 4)), .int (zI ((u 0).1 5)), .int (zI ((u 0).1 6)), .int (zI ((u 0).1 7)), .int (zI ((u 0).1 8)), .int (zI ((u 0).1 9)), .int (zI ((u 0).1 10)), .ref (q 1), .int (zI ((u 0).1 11)), .int (zI ((u 0).1 12)), .ref (q 2), .ref (q 3), .ref (q 4), .ref (q 5), .ref (q 6), .ref (q 7), .ref (q 8), .ref (q 9), .ref (q 10), .ref (q 11), .ref (q 12), .ref (q 13), .ref (q 14), .ref (q 15), .ref (q 16), .int (zI ((u 0).1 13)), .int (zI ((u 0).1 14)), .int (zI ((u 0).1 15)), .int (zI ((u 0).1 16)), .int (zI ((u 0).1 17)), .int (zI ((u 0).1 18)), .ref (q 17), .ref (q 18), .ref (q 19), .ref (q 20)])), ((q 0), .inl (cI, 900, .inl (fun k => zI (g_tape k)))), ((q 1), .inl (cI, 8, .inl (fun k => zI (((u 1).2 0) k))))]) := by
  refine bw_Ci.of (cc := cX9_takes) (maxL := 2) (ty := .boolean) (by decide) rfl (Nat.le_of_ble_eq_true rfl) ?_
  intro p e s m below meth c A Q hx hb hml hts hown hin hK hA hS hP hD hE ret ls hl
  have F : CallFix p m c cX9_takes 2 s ([.ref y, .ref sa] : List Value).toArray bw_T RX9 := ⟨hx, hb, hml, hown, fun w h => hts w (List.mem_cons_of_mem _ h)⟩
  replace hl : lv_has ls 2 [(0, .ref y), (1, .ref sa)] := hl
  have hf1 := hM.1.1
  refine lv_aload_n hx hb dX9_takes_0 rfl (lv_at hl 0 rfl) ?_
  refine lv_aload_n hx hb dX9_takes_1 rfl (lv_at hl 1 rfl) ?_
  refine r_callVi (As := [.ref sa]) (rest := []) (wr := [((q 0), .inl (cI, 900, .inl (fun k => zI (g_tape k))))]) F hK hP hD hS hA hO hE (c_X9_isWord hO y q i hM g_letters hr_letters hT) k_1322 kv_X9_isWord 1 rfl (by decide +kernel) ⟨Nat.le_of_ble_eq_true rfl, Nat.le_of_ble_eq_true rfl⟩ [0, 2] [1] rfl rfl (by decide) (by decide) (by decide) 0 9 rfl rfl rfl hl.1 rfl (Nat.le_of_ble_eq_true rfl) dX9_takes_2 ⟨Nat.le_of_ble_eq_true rfl, Nat.le_of_ble_eq_true rfl⟩ (w1 := fun u2 => [((q 0), .inl (cI, 900, .inl (fun k => zI (g_tape k)))), (y, .inr (9, [.int (zI (i 0)), .ref (q 0), .int (zI (i 1)), .int (zI (i 2)), .int (zI (i 3)), .int (zI (i 4)), .int (zI (i 5)), .int (zI (i 6)), .int (zI (i 7)), .int (zI (i 8)), .int (zI (i 9)), .int (zI (i 10)), .ref (q 1), .int (zI (i 11)), .int (zI (i 12)), .ref (q 2), .ref (q 3), .ref (q 4), .ref (q 5), .ref (q 6), .ref (q 7), .ref (q 8), .ref (q 9), .ref (q 10), .ref (q 11), .ref (q 12), .ref (q 13), .ref (q 14), .ref (q 15), .ref (q 16), .int (zI (i 13)), .int (zI (i 14)), .int (zI (i 15)), .int (zI (i 16)), .int (zI (i 17)), .int (zI (i 18)), .ref (q 17), .ref (q 18), .ref (q 19), .ref (q 20)])), ((q 1), .inl (cI, 8, .inl (fun k => zI (g_letters k))))]) (fun _ => rfl) (fun r3 u2 H locs hp4 hP hD hS => ?_)
  obtain ⟨z5, rfl, h_z5⟩ := hp4
  refine rz_ifb_ne (tgt := 10) F (by omega) dX9_takes_5 (by decide) (fun h5_5 => ?_) (fun h5_5 => ?_)
  · have hq7 := h_z5.2 (by omega)
    refine lv_aload_n hx hb dX9_takes_10 rfl (lv_at hl 0 rfl) ?_
    refine r_callVv (As := []) (rest := []) (wr := []) F hK hP hD hS hA hO hE (c_X9_next hO y q i hM.1 g_tape hr_tape g_letters hr_letters) k_1303 kv_X9_next 0 rfl (by decide +kernel) ⟨Nat.le_of_ble_eq_true rfl, Nat.le_of_ble_eq_true rfl⟩ [1, 0, 2] [] rfl rfl (by decide) (by decide) (by decide) 0 9 rfl rfl rfl hl.1 rfl (Nat.le_of_ble_eq_true rfl) dX9_takes_11 ⟨Nat.le_of_ble_eq_true rfl, Nat.le_of_ble_eq_true rfl⟩ (w1 := fun u8 => [(y, .inr (9, [.int (zI ((u8 0).1 0)), .ref (q 0), .int (zI ((u8 0).1 1)), .int (zI ((u8 0).1 2)), .int (zI ((u8 0).1 3)), .int (zI ((u8 0).1 4)), .int (zI ((u8 0).1 5)), .int (zI ((u8 0).1 6)), .int (zI ((u8 0).1 7)), .int (zI ((u8 0).1 8)), .int (zI ((u8 0).1 9)), .int (zI ((u8 0).1 10)), .ref (q 1), .int (zI ((u8 0).1 11)), .int (zI ((u8 0).1 12)), .ref (q 2), .ref (q 3), .ref (q 4), .ref (q 5), .ref (q 6), .ref (q 7), .ref (q 8), .ref (q 9), .ref (q 10), .ref (q 11), .ref (q 12), .ref (q 13), .ref (q 14), .ref (q 15), .ref (q 16), .int (zI ((u8 0).1 13)), .int (zI ((u8 0).1 14)), .int (zI ((u8 0).1 15)), .int (zI ((u8 0).1 16)), .int (zI ((u8 0).1 17)), .int (zI ((u8 0).1 18)), .ref (q 17), .ref (q 18), .ref (q 19), .ref (q 20)])), ((q 0), .inl (cI, 900, .inl (fun k => zI (g_tape k)))), ((q 1), .inl (cI, 8, .inl (fun k => zI (((u8 1).2 0) k))))]) (fun _ => rfl) (fun  u8 H locs hp9 hP hD hS => ?_)
    have hf10 := hp9.1.1.1
    refine lv_iconst (v := zI 1) hx hb dX9_takes_14 rfl ?_
    exact ret (zI 1) (fun k => [((u8 0).1, fun _ _ => 0), (fun _ => 0, fun _ => ((u8 1).2 0))].getD k (fun _ => 0, fun _ _ => 0)) _ _ _ _ _ _ rfl ⟨1, rfl, hp9.1, hp9.2.1, ⟨(show i 11 ≤ ((u8 0).1) 11 ∧ i 4 ≤ ((u8 0).1) 4 ∧ ((u8 0).1) 1 = i 1 ∧ ((u8 0).1) 14 = i 14 ∧ ((u8 0).1) 16 = i 16 from by omega), (show 0 ≤ (1 : Int) ∧ (1 : Int) ≤ 1 from by omega), (show Imp ((1 : Int) = 1) (i 11 = 0 ∧ i 5 = 2) from fun q9 => by omega)⟩⟩ (bw_subP (isC := [0, 1, 2]) hP rfl) (hD.sub [0, 1, 2] (by decide) rfl) hS (Nat.le_of_ble_eq_true rfl) (Nat.le_of_ble_eq_true rfl) dX9_takes_15
  · refine lv_iconst (v := zI 0) hx hb dX9_takes_8 rfl ?_
    exact ret (zI 0) (fun k => [(i, fun _ _ => 0), (fun _ => 0, fun _ => g_letters)].getD k (fun _ => 0, fun _ _ => 0)) _ _ _ _ _ _ rfl ⟨0, rfl, hM, hr_letters, ⟨(show i 11 ≤ i 11 ∧ i 4 ≤ i 4 ∧ i 1 = i 1 ∧ i 14 = i 14 ∧ i 16 = i 16 from by omega), (show 0 ≤ (0 : Int) ∧ (0 : Int) ≤ 1 from by omega), (show Imp ((0 : Int) = 1) (i 11 = 0 ∧ i 5 = 2) from fun q9 => by omega)⟩⟩ (bw_subP (isC := [1, 0, 2]) hP rfl) (hD.sub [1, 0, 2] (by decide) rfl) hS (Nat.le_of_ble_eq_true rfl) (Nat.le_of_ble_eq_true rfl) dX9_takes_9
theorem dX9_pass_0 : decode cX9_pass 0 = .ok (.aload_n 0, 1) := by decide +kernel
theorem dX9_pass_1 : decode cX9_pass 1 = .ok (.getfield 115, 3) := by decide +kernel
theorem dX9_pass_4 : decode cX9_pass 4 = .ok (.ifCond .ne 20, 3) := by decide +kernel
theorem dX9_pass_24 : decode cX9_pass 24 = .ok (.return_, 1) := by decide +kernel
theorem dX9_pass_7 : decode cX9_pass 7 = .ok (.aload_n 0, 1) := by decide +kernel
theorem dX9_pass_8 : decode cX9_pass 8 = .ok (.aload_n 1, 1) := by decide +kernel
theorem dX9_pass_9 : decode cX9_pass 9 = .ok (.invokevirtual 139, 3) := by decide +kernel
theorem k_1374 : Cond.methodLink RX9 139 yX9_takes ∈ bw_T := bw_m 1374 (by decide +kernel) rfl
theorem kv_X9_takes : bw_KV RX9 yX9_takes (Cond.code yX9_takes cX9_takes 2 (some .boolean)) := ⟨bw_m 1376 (by decide +kernel) rfl, bw_m 58 (by decide +kernel) rfl, bw_m 107 (by decide +kernel) rfl, bw_m 1377 (by decide +kernel) rfl⟩
theorem dX9_pass_12 : decode cX9_pass 12 = .ok (.ifCond .ne 12, 3) := by decide +kernel
theorem dX9_pass_15 : decode cX9_pass 15 = .ok (.aload_n 0, 1) := by decide +kernel
theorem dX9_pass_16 : decode cX9_pass 16 = .ok (.iconst 1, 1) := by decide +kernel
theorem dX9_pass_17 : decode cX9_pass 17 = .ok (.aload_n 0, 1) := by decide +kernel
theorem dX9_pass_18 : decode cX9_pass 18 = .ok (.getfield 96, 3) := by decide +kernel
theorem dX9_pass_21 : decode cX9_pass 21 = .ok (.invokevirtual 142, 3) := by decide +kernel
theorem k_1332 : Cond.methodLink RX9 142 yX9_wrong ∈ bw_T := bw_m 1332 (by decide +kernel) rfl
theorem kv_X9_wrong : bw_KV RX9 yX9_wrong (Cond.code yX9_wrong cX9_wrong 3 none) := ⟨bw_m 1334 (by decide +kernel) rfl, bw_m 51 (by decide +kernel) rfl, bw_m 107 (by decide +kernel) rfl, bw_m 1335 (by decide +kernel) rfl⟩
abbrev rm_X9_pass : Room := { frames := 6, cells := 0, slots := 0, locals := 129 }
set_option maxRecDepth 100000 in
set_option maxHeartbeats 8000000 in
theorem c_X9_pass {l : Launch} {E : (Nat → Prop) → State → Prop} (hO : bw_Ok E) {G : va_G} {cI cB cJ cN cW : ClassId} (y : Nat) (q : Nat → Nat) (i : Nat → Int) (hM : ModOk i) (g_tape : Nat → Int) (hr_tape : ∀ k, k < 900 → (-2147483648) ≤ g_tape k ∧ g_tape k ≤ 2147483647) (g_letters : Nat → Int) (hr_letters : ∀ k, k < 8 → (-2147483648) ≤ g_letters k ∧ g_letters k ≤ 2147483647) {own9 : String} {ix9 : Nat} {tx9 : String} {sa va N : Nat} {fb : Nat → Int32} (hT : bw_Text E own9 ix9 tx9 sa va N fb)  : bw_Cv (S := zV) l yX9_pass (bw_ws (Cond.code yX9_pass cX9_pass 2 none)) rm_X9_pass E G (bw_kt cI cB cJ cN cW) [.ref y, .ref sa] [(y, .inr (9, [.int (zI (i 0)), .ref (q 0), .int (zI (i 1)), .int (zI (i 2)), .int (zI (i 3)), .int (zI (i 4)), .int (zI (i 5)), .int (zI (i 6)), .int (zI (i 7)), .int (zI (i 8)), .int (zI (i 9)), .int (zI (i 10)), .ref (q 1), .int (zI (i 11)), .int (zI (i 12)), .ref (q 2), .ref (q 3), .ref (q 4), .ref (q 5), .ref (q 6), .ref (q 7), .ref (q 8), .ref (q 9), .ref (q 10), .ref (q 11), .ref (q 12), .ref (q 13), .ref (q 14), .ref (q 15), .ref (q 16), .int (zI (i 13)), .int (zI (i 14)), .int (zI (i 15)), .int (zI (i 16)), .int (zI (i 17)), .int (zI (i 18)), .ref (q 17), .ref (q 18), .ref (q 19), .ref (q 20)])), ((q 0), .inl (cI, 900, .inl (fun k => zI (g_tape k)))), ((q 1), .inl (cI, 8, .inl (fun k => zI (g_letters k))))] (fun u => (ModOk (u 0).1) ∧ (∀ k, k < 8 → (-2147483648) ≤ ((u 1).2 0) k ∧ ((u 1).2 0) k ≤ 2147483647) ∧ ((i 11 ≤ (u 0).1 11 ∧ i 4 ≤ (u 0).1 4 ∧ (u 0).1 1 = i 1 ∧ (u 0).1 14 = i 14 ∧ (u 0).1 16 = i 16))) (fun u => [(y, .inr (9, [.int (zI ((u 0).1 0)), .ref (q 0), .int (zI ((u 0).1 1)), .int (zI ((u 0).1 2)), .int (zI ((u 0).1 3)), .int (zI ((u 0).1 4)), .int (zI ((u 0).1 5)), .int (zI ((u 0).1 6)), .int (zI ((u 0).1 7)), .int (zI ((u 0).1 8)), .int (zI ((u 0).1 9)), .int (zI ((u 0).1 10)), .ref (q 1), .int (zI ((u 0).1 11)), .int (zI ((u 0).1 12)), .ref (q 2), .ref (q 3), .ref (q 4), .ref (q 5), .ref (q 6), .ref (q 7), .ref (q 8), .ref (q 9), .ref (q 10), .ref (q 11), .ref (q 12), .ref (q 13), .ref (q 14), .ref (q 15), .ref (q 16), .int (zI ((u 0).1 13)), .int (zI ((u 0).1 14)), .int (zI ((u 0).1 15)), .int (zI ((u 0).1 16)), .int (zI ((u 0).1 17)), .int (zI ((u 0).1 18)), .ref (q 17), .ref (q 18), .ref (q 19), .ref (q 20)])), ((q 0), .inl (cI, 900, .inl (fun k => zI (g_tape k)))), ((q 1), .inl (cI, 8, .inl (fun k => zI (((u 1).2 0) k))))]) := by
  refine bw_Cv.of (cc := cX9_pass) (maxL := 2) (by decide) rfl (Nat.le_of_ble_eq_true rfl) ?_
  intro p e s m below meth c A Q hx hb hml hts hown hin hK hA hS hP hD hE ret ls hl
  have F : CallFix p m c cX9_pass 2 s ([.ref y, .ref sa] : List Value).toArray bw_T RX9 := ⟨hx, hb, hml, hown, fun w h => hts w (List.mem_cons_of_mem _ h)⟩
  replace hl : lv_has ls 2 [(0, .ref y), (1, .ref sa)] := hl
  have hf1 := hM.1.1
  refine lv_aload_n hx hb dX9_pass_0 rfl (lv_at hl 0 rfl) ?_
  refine r_get F hK hP 0 13 rfl rfl in_X9 (by decide) k_1176 rfl dX9_pass_1 ?_
  refine rz_ifb_ne (tgt := 24) F (by omega) dX9_pass_4 (by decide) (fun h4_1 => ?_) (fun h4_1 => ?_)
  · exact ret (fun k => [(i, fun _ _ => 0), (fun _ => 0, fun _ => g_letters)].getD k (fun _ => 0, fun _ _ => 0)) _ _ _ _ _ _ ⟨hM, hr_letters, (show i 11 ≤ i 11 ∧ i 4 ≤ i 4 ∧ i 1 = i 1 ∧ i 14 = i 14 ∧ i 16 = i 16 from by omega)⟩ (bw_subP (isC := [0, 1, 2]) hP rfl) (hD.sub [0, 1, 2] (by decide) rfl) hS (Nat.le_of_ble_eq_true rfl) (Nat.le_of_ble_eq_true rfl) dX9_pass_24
  · refine lv_aload_n hx hb dX9_pass_7 rfl (lv_at hl 0 rfl) ?_
    refine lv_aload_n hx hb dX9_pass_8 rfl (lv_at hl 1 rfl) ?_
    refine r_callVi (As := [.ref sa]) (rest := []) (wr := []) F hK hP hD hS hA hO hE (c_X9_takes hO y q i hM g_tape hr_tape g_letters hr_letters hT) k_1374 kv_X9_takes 1 rfl (by decide +kernel) ⟨Nat.le_of_ble_eq_true rfl, Nat.le_of_ble_eq_true rfl⟩ [0, 1, 2] [] rfl rfl (by decide) (by decide) (by decide) 0 9 rfl rfl rfl hl.1 rfl (Nat.le_of_ble_eq_true rfl) dX9_pass_9 ⟨Nat.le_of_ble_eq_true rfl, Nat.le_of_ble_eq_true rfl⟩ (w1 := fun u3 => [(y, .inr (9, [.int (zI ((u3 0).1 0)), .ref (q 0), .int (zI ((u3 0).1 1)), .int (zI ((u3 0).1 2)), .int (zI ((u3 0).1 3)), .int (zI ((u3 0).1 4)), .int (zI ((u3 0).1 5)), .int (zI ((u3 0).1 6)), .int (zI ((u3 0).1 7)), .int (zI ((u3 0).1 8)), .int (zI ((u3 0).1 9)), .int (zI ((u3 0).1 10)), .ref (q 1), .int (zI ((u3 0).1 11)), .int (zI ((u3 0).1 12)), .ref (q 2), .ref (q 3), .ref (q 4), .ref (q 5), .ref (q 6), .ref (q 7), .ref (q 8), .ref (q 9), .ref (q 10), .ref (q 11), .ref (q 12), .ref (q 13), .ref (q 14), .ref (q 15), .ref (q 16), .int (zI ((u3 0).1 13)), .int (zI ((u3 0).1 14)), .int (zI ((u3 0).1 15)), .int (zI ((u3 0).1 16)), .int (zI ((u3 0).1 17)), .int (zI ((u3 0).1 18)), .ref (q 17), .ref (q 18), .ref (q 19), .ref (q 20)])), ((q 0), .inl (cI, 900, .inl (fun k => zI (g_tape k)))), ((q 1), .inl (cI, 8, .inl (fun k => zI (((u3 1).2 0) k))))]) (fun _ => rfl) (fun r4 u3 H locs hp5 hP hD hS => ?_)
    obtain ⟨z6, rfl, h_z6⟩ := hp5
    have hf7 := h_z6.1.1.1
    refine rz_ifb_ne (tgt := 24) F (by omega) dX9_pass_12 (by decide) (fun h12_7 => ?_) (fun h12_7 => ?_)
    · have hq9 := h_z6.2.2.2.2 (by omega)
      exact ret (fun k => [((u3 0).1, fun _ _ => 0), (fun _ => 0, fun _ => ((u3 1).2 0))].getD k (fun _ => 0, fun _ _ => 0)) _ _ _ _ _ _ ⟨h_z6.1, h_z6.2.1, (show i 11 ≤ ((u3 0).1) 11 ∧ i 4 ≤ ((u3 0).1) 4 ∧ ((u3 0).1) 1 = i 1 ∧ ((u3 0).1) 14 = i 14 ∧ ((u3 0).1) 16 = i 16 from by omega)⟩ (bw_subP (isC := [0, 1, 2]) hP rfl) (hD.sub [0, 1, 2] (by decide) rfl) hS (Nat.le_of_ble_eq_true rfl) (Nat.le_of_ble_eq_true rfl) dX9_pass_24
    · refine lv_aload_n hx hb dX9_pass_15 rfl (lv_at hl 0 rfl) ?_
      refine lv_iconst (v := zI 1) hx hb dX9_pass_16 rfl ?_
      refine lv_aload_n hx hb dX9_pass_17 rfl (lv_at hl 0 rfl) ?_
      refine r_get F hK hP 0 4 rfl rfl in_X9 (by decide) k_1167 rfl dX9_pass_18 ?_
      refine r_callVv (As := [.int (zI 1), .int (zI ((u3 0).1 3))]) (rest := []) (wr := [((q 0), .inl (cI, 900, .inl (fun k => zI (g_tape k)))), ((q 1), .inl (cI, 8, .inl (fun k => zI (((u3 1).2 0) k))))]) F hK hP hD hS hA hO hE (c_X9_wrong hO y q ((u3 0).1) h_z6.1 1 ((u3 0).1 3)) k_1332 kv_X9_wrong 2 rfl (by decide +kernel) ⟨Nat.le_of_ble_eq_true rfl, Nat.le_of_ble_eq_true rfl⟩ [0] [1, 2] rfl rfl (by decide) (by decide) (by decide) 0 9 rfl rfl rfl hl.1 rfl (Nat.le_of_ble_eq_true rfl) dX9_pass_21 ⟨Nat.le_of_ble_eq_true rfl, Nat.le_of_ble_eq_true rfl⟩ (w1 := fun u10 => [((q 0), .inl (cI, 900, .inl (fun k => zI (g_tape k)))), ((q 1), .inl (cI, 8, .inl (fun k => zI (((u3 1).2 0) k)))), (y, .inr (9, [.int (zI ((u10 0).1 0)), .ref (q 0), .int (zI ((u10 0).1 1)), .int (zI ((u10 0).1 2)), .int (zI ((u10 0).1 3)), .int (zI ((u10 0).1 4)), .int (zI ((u10 0).1 5)), .int (zI ((u10 0).1 6)), .int (zI ((u10 0).1 7)), .int (zI ((u10 0).1 8)), .int (zI ((u10 0).1 9)), .int (zI ((u10 0).1 10)), .ref (q 1), .int (zI ((u10 0).1 11)), .int (zI ((u10 0).1 12)), .ref (q 2), .ref (q 3), .ref (q 4), .ref (q 5), .ref (q 6), .ref (q 7), .ref (q 8), .ref (q 9), .ref (q 10), .ref (q 11), .ref (q 12), .ref (q 13), .ref (q 14), .ref (q 15), .ref (q 16), .int (zI ((u10 0).1 13)), .int (zI ((u10 0).1 14)), .int (zI ((u10 0).1 15)), .int (zI ((u10 0).1 16)), .int (zI ((u10 0).1 17)), .int (zI ((u10 0).1 18)), .ref (q 17), .ref (q 18), .ref (q 19), .ref (q 20)]))]) (fun _ => rfl) (fun  u10 H locs hp11 hP hD hS => ?_)
      have hf12 := hp11.1.1.1
      exact ret (fun k => [((u10 0).1, fun _ _ => 0), (fun _ => 0, fun _ => ((u3 1).2 0))].getD k (fun _ => 0, fun _ _ => 0)) _ _ _ _ _ _ ⟨hp11.1, h_z6.2.1, (show i 11 ≤ ((u10 0).1) 11 ∧ i 4 ≤ ((u10 0).1) 4 ∧ ((u10 0).1) 1 = i 1 ∧ ((u10 0).1) 14 = i 14 ∧ ((u10 0).1) 16 = i 16 from by omega)⟩ (bw_subP (isC := [2, 0, 1]) hP rfl) (hD.sub [2, 0, 1] (by decide) rfl) hS (Nat.le_of_ble_eq_true rfl) (Nat.le_of_ble_eq_true rfl) dX9_pass_24
theorem dX9_isCounter_0 : decode cX9_isCounter 0 = .ok (.aload_n 0, 1) := by decide +kernel
theorem dX9_isCounter_1 : decode cX9_isCounter 1 = .ok (.getfield 105, 3) := by decide +kernel
theorem dX9_isCounter_4 : decode cX9_isCounter 4 = .ok (.iconst 2, 1) := by decide +kernel
theorem dX9_isCounter_5 : decode cX9_isCounter 5 = .ok (.if_icmp .ne 31, 3) := by decide +kernel
theorem dX9_isCounter_36 : decode cX9_isCounter 36 = .ok (.iconst 0, 1) := by decide +kernel
theorem dX9_isCounter_37 : decode cX9_isCounter 37 = .ok (.ireturn, 1) := by decide +kernel
theorem dX9_isCounter_8 : decode cX9_isCounter 8 = .ok (.aload_n 0, 1) := by decide +kernel
theorem dX9_isCounter_9 : decode cX9_isCounter 9 = .ok (.getfield 99, 3) := by decide +kernel
theorem dX9_isCounter_12 : decode cX9_isCounter 12 = .ok (.iconst 1, 1) := by decide +kernel
theorem dX9_isCounter_13 : decode cX9_isCounter 13 = .ok (.if_icmp .ne 23, 3) := by decide +kernel
theorem dX9_isCounter_16 : decode cX9_isCounter 16 = .ok (.aload_n 0, 1) := by decide +kernel
theorem dX9_isCounter_17 : decode cX9_isCounter 17 = .ok (.getfield 17, 3) := by decide +kernel
theorem dX9_isCounter_20 : decode cX9_isCounter 20 = .ok (.iconst 0, 1) := by decide +kernel
theorem dX9_isCounter_21 : decode cX9_isCounter 21 = .ok (.iaload, 1) := by decide +kernel
theorem dX9_isCounter_22 : decode cX9_isCounter 22 = .ok (.bipush 97, 2) := by decide +kernel
theorem dX9_isCounter_24 : decode cX9_isCounter 24 = .ok (.bipush 100, 2) := by decide +kernel
theorem dX9_isCounter_26 : decode cX9_isCounter 26 = .ok (.invokestatic 146, 3) := by decide +kernel
theorem dX9_isCounter_29 : decode cX9_isCounter 29 = .ok (.ifCond .eq 7, 3) := by decide +kernel
theorem dX9_isCounter_32 : decode cX9_isCounter 32 = .ok (.iconst 1, 1) := by decide +kernel
theorem dX9_isCounter_33 : decode cX9_isCounter 33 = .ok (.goto 4, 3) := by decide +kernel
abbrev rm_X9_isCounter : Room := { frames := 1, cells := 0, slots := 0, locals := 22 }
set_option maxRecDepth 100000 in
set_option maxHeartbeats 8000000 in
theorem c_X9_isCounter {l : Launch} {E : (Nat → Prop) → State → Prop} (hO : bw_Ok E) {G : va_G} {cI cB cJ cN cW : ClassId} (y : Nat) (q : Nat → Nat) (i : Nat → Int) (hM : ModOk i) (g_letters : Nat → Int) (hr_letters : ∀ k, k < 8 → (-2147483648) ≤ g_letters k ∧ g_letters k ≤ 2147483647)  : bw_Ci (S := zV) l yX9_isCounter (bw_ws (Cond.code yX9_isCounter cX9_isCounter 1 (some .boolean))) rm_X9_isCounter E G (bw_kt cI cB cJ cN cW) [.ref y] [(y, .inr (9, [.int (zI (i 0)), .ref (q 0), .int (zI (i 1)), .int (zI (i 2)), .int (zI (i 3)), .int (zI (i 4)), .int (zI (i 5)), .int (zI (i 6)), .int (zI (i 7)), .int (zI (i 8)), .int (zI (i 9)), .int (zI (i 10)), .ref (q 1), .int (zI (i 11)), .int (zI (i 12)), .ref (q 2), .ref (q 3), .ref (q 4), .ref (q 5), .ref (q 6), .ref (q 7), .ref (q 8), .ref (q 9), .ref (q 10), .ref (q 11), .ref (q 12), .ref (q 13), .ref (q 14), .ref (q 15), .ref (q 16), .int (zI (i 13)), .int (zI (i 14)), .int (zI (i 15)), .int (zI (i 16)), .int (zI (i 17)), .int (zI (i 18)), .ref (q 17), .ref (q 18), .ref (q 19), .ref (q 20)])), ((q 1), .inl (cI, 8, .inl (fun k => zI (g_letters k))))] (fun r u => ∃ z : Int, r = zI z ∧ ((0 ≤ z ∧ z ≤ 1) ∧ Imp (z = 1) (i 5 = 2 ∧ 97 ≤ g_letters 0 ∧ g_letters 0 ≤ 100))) (fun u => [(y, .inr (9, [.int (zI (i 0)), .ref (q 0), .int (zI (i 1)), .int (zI (i 2)), .int (zI (i 3)), .int (zI (i 4)), .int (zI (i 5)), .int (zI (i 6)), .int (zI (i 7)), .int (zI (i 8)), .int (zI (i 9)), .int (zI (i 10)), .ref (q 1), .int (zI (i 11)), .int (zI (i 12)), .ref (q 2), .ref (q 3), .ref (q 4), .ref (q 5), .ref (q 6), .ref (q 7), .ref (q 8), .ref (q 9), .ref (q 10), .ref (q 11), .ref (q 12), .ref (q 13), .ref (q 14), .ref (q 15), .ref (q 16), .int (zI (i 13)), .int (zI (i 14)), .int (zI (i 15)), .int (zI (i 16)), .int (zI (i 17)), .int (zI (i 18)), .ref (q 17), .ref (q 18), .ref (q 19), .ref (q 20)])), ((q 1), .inl (cI, 8, .inl (fun k => zI (g_letters k))))]) := by
  refine bw_Ci.of (cc := cX9_isCounter) (maxL := 1) (ty := .boolean) (by decide) rfl (Nat.le_of_ble_eq_true rfl) ?_
  intro p e s m below meth c A Q hx hb hml hts hown hin hK hA hS hP hD hE ret ls hl
  have F : CallFix p m c cX9_isCounter 1 s ([.ref y] : List Value).toArray bw_T RX9 := ⟨hx, hb, hml, hown, fun w h => hts w (List.mem_cons_of_mem _ h)⟩
  replace hl : lv_has ls 1 [(0, .ref y)] := hl
  have hf1 := hM.1.1
  refine lv_aload_n hx hb dX9_isCounter_0 rfl (lv_at hl 0 rfl) ?_
  refine r_get F hK hP 0 6 rfl rfl in_X9 (by decide) k_1169 rfl dX9_isCounter_1 ?_
  refine lv_iconst (v := zI 2) hx hb dX9_isCounter_4 rfl ?_
  refine rz_icmp_ne (tgt := 36) F (by omega) (by omega) dX9_isCounter_5 (by decide) (fun h5_1 => ?_) (fun h5_1 => ?_)
  · refine lv_iconst (v := zI 0) hx hb dX9_isCounter_36 rfl ?_
    exact ret (zI 0) (fun k => [((fun _ => 0), fun _ _ => 0)].getD k (fun _ => 0, fun _ _ => 0)) _ _ _ _ _ _ rfl ⟨0, rfl, ⟨(show 0 ≤ (0 : Int) ∧ (0 : Int) ≤ 1 from by omega), (show Imp ((0 : Int) = 1) (i 5 = 2 ∧ 97 ≤ g_letters 0 ∧ g_letters 0 ≤ 100) from fun q9 => by omega)⟩⟩ (bw_subP (isC := [0, 1]) hP rfl) (hD.sub [0, 1] (by decide) rfl) hS (Nat.le_of_ble_eq_true rfl) (Nat.le_of_ble_eq_true rfl) dX9_isCounter_37
  · refine lv_aload_n hx hb dX9_isCounter_8 rfl (lv_at hl 0 rfl) ?_
    refine r_get F hK hP 0 8 rfl rfl in_X9 (by decide) k_1171 rfl dX9_isCounter_9 ?_
    refine lv_iconst (v := zI 1) hx hb dX9_isCounter_12 rfl ?_
    refine rz_icmp_ne (tgt := 36) F (by omega) (by omega) dX9_isCounter_13 (by decide) (fun h13_2 => ?_) (fun h13_2 => ?_)
    · refine lv_iconst (v := zI 0) hx hb dX9_isCounter_36 rfl ?_
      exact ret (zI 0) (fun k => [((fun _ => 0), fun _ _ => 0)].getD k (fun _ => 0, fun _ _ => 0)) _ _ _ _ _ _ rfl ⟨0, rfl, ⟨(show 0 ≤ (0 : Int) ∧ (0 : Int) ≤ 1 from by omega), (show Imp ((0 : Int) = 1) (i 5 = 2 ∧ 97 ≤ g_letters 0 ∧ g_letters 0 ≤ 100) from fun q9 => by omega)⟩⟩ (bw_subP (isC := [0, 1]) hP rfl) (hD.sub [0, 1] (by decide) rfl) hS (Nat.le_of_ble_eq_true rfl) (Nat.le_of_ble_eq_true rfl) dX9_isCounter_37
    · refine lv_aload_n hx hb dX9_isCounter_16 rfl (lv_at hl 0 rfl) ?_
      refine r_get F hK hP 0 12 rfl rfl in_X9 (by decide) k_1175 rfl dX9_isCounter_17 ?_
      refine lv_iconst (v := zI 0) hx hb dX9_isCounter_20 rfl ?_
      refine rz_ialdN F hK hP 1 0 rfl rfl (by omega) (by omega) dX9_isCounter_21 0 rfl ?_
      have h_l21_3 := hr_letters 0 (by omega)
      refine lv_bipush (v := zI 97) hx hb dX9_isCounter_22 (by decide) ?_
      refine lv_bipush (v := zI 100) hx hb dX9_isCounter_24 (by decide) ?_
      refine r_callSi (As := [.int (zI (g_letters 0)), .int (zI 97), .int (zI 100)]) (rest := []) (wr := [(y, .inr (9, [.int (zI (i 0)), .ref (q 0), .int (zI (i 1)), .int (zI (i 2)), .int (zI (i 3)), .int (zI (i 4)), .int (zI (i 5)), .int (zI (i 6)), .int (zI (i 7)), .int (zI (i 8)), .int (zI (i 9)), .int (zI (i 10)), .ref (q 1), .int (zI (i 11)), .int (zI (i 12)), .ref (q 2), .ref (q 3), .ref (q 4), .ref (q 5), .ref (q 6), .ref (q 7), .ref (q 8), .ref (q 9), .ref (q 10), .ref (q 11), .ref (q 12), .ref (q 13), .ref (q 14), .ref (q 15), .ref (q 16), .int (zI (i 13)), .int (zI (i 14)), .int (zI (i 15)), .int (zI (i 16)), .int (zI (i 17)), .int (zI (i 18)), .ref (q 17), .ref (q 18), .ref (q 19), .ref (q 20)])), ((q 1), .inl (cI, 8, .inl (fun k => zI (g_letters k))))]) F hK hP hD hS hA hO hE (c_X9_within hO (g_letters 0) 97 100 (by omega) (by omega) (by omega)) k_1296 ks_X9_within 3 rfl (by decide +kernel) ⟨Nat.le_of_ble_eq_true rfl, Nat.le_of_ble_eq_true rfl⟩ [] [0, 1] rfl rfl (by decide) (by decide) (by decide) hl.1 rfl (Nat.le_of_ble_eq_true rfl) dX9_isCounter_26 ⟨Nat.le_of_ble_eq_true rfl, Nat.le_of_ble_eq_true rfl⟩ (w1 := fun u5 => [(y, .inr (9, [.int (zI (i 0)), .ref (q 0), .int (zI (i 1)), .int (zI (i 2)), .int (zI (i 3)), .int (zI (i 4)), .int (zI (i 5)), .int (zI (i 6)), .int (zI (i 7)), .int (zI (i 8)), .int (zI (i 9)), .int (zI (i 10)), .ref (q 1), .int (zI (i 11)), .int (zI (i 12)), .ref (q 2), .ref (q 3), .ref (q 4), .ref (q 5), .ref (q 6), .ref (q 7), .ref (q 8), .ref (q 9), .ref (q 10), .ref (q 11), .ref (q 12), .ref (q 13), .ref (q 14), .ref (q 15), .ref (q 16), .int (zI (i 13)), .int (zI (i 14)), .int (zI (i 15)), .int (zI (i 16)), .int (zI (i 17)), .int (zI (i 18)), .ref (q 17), .ref (q 18), .ref (q 19), .ref (q 20)])), ((q 1), .inl (cI, 8, .inl (fun k => zI (g_letters k))))]) (fun _ => rfl) (fun r6 u5 H locs hp7 hP hD hS => ?_)
      obtain ⟨z8, rfl, h_z8⟩ := hp7
      refine rz_ifb_eq (tgt := 36) F (by omega) dX9_isCounter_29 (by decide) (fun h29_8 => ?_) (fun h29_8 => ?_)
      · have hq10 := h_z8.2.2 (by omega)
        refine lv_iconst (v := zI 0) hx hb dX9_isCounter_36 rfl ?_
        exact ret (zI 0) (fun k => [((fun _ => 0), fun _ _ => 0)].getD k (fun _ => 0, fun _ _ => 0)) _ _ _ _ _ _ rfl ⟨0, rfl, ⟨(show 0 ≤ (0 : Int) ∧ (0 : Int) ≤ 1 from by omega), (show Imp ((0 : Int) = 1) (i 5 = 2 ∧ 97 ≤ g_letters 0 ∧ g_letters 0 ≤ 100) from fun q9 => by omega)⟩⟩ (bw_subP (isC := [0, 1]) hP rfl) (hD.sub [0, 1] (by decide) rfl) hS (Nat.le_of_ble_eq_true rfl) (Nat.le_of_ble_eq_true rfl) dX9_isCounter_37
      · have hq11 := h_z8.2.1 (by omega)
        refine lv_iconst (v := zI 1) hx hb dX9_isCounter_32 rfl ?_
        refine lv_goto (tgt := 37) hx hb dX9_isCounter_33 (by decide) ?_
        exact ret (zI 1) (fun k => [((fun _ => 0), fun _ _ => 0)].getD k (fun _ => 0, fun _ _ => 0)) _ _ _ _ _ _ rfl ⟨1, rfl, ⟨(show 0 ≤ (1 : Int) ∧ (1 : Int) ≤ 1 from by omega), (show Imp ((1 : Int) = 1) (i 5 = 2 ∧ 97 ≤ g_letters 0 ∧ g_letters 0 ≤ 100) from fun q9 => by omega)⟩⟩ (bw_subP (isC := [0, 1]) hP rfl) (hD.sub [0, 1] (by decide) rfl) hS (Nat.le_of_ble_eq_true rfl) (Nat.le_of_ble_eq_true rfl) dX9_isCounter_37
theorem dX9_mustName_147 : decode cX9_mustName 147 = .ok (.istore_n 1, 1) := by decide +kernel
theorem dX9_mustName_148 : decode cX9_mustName 148 = .ok (.aload_n 0, 1) := by decide +kernel
theorem dX9_mustName_149 : decode cX9_mustName 149 = .ok (.getfield 105, 3) := by decide +kernel
theorem dX9_mustName_152 : decode cX9_mustName 152 = .ok (.iconst 2, 1) := by decide +kernel
theorem dX9_mustName_153 : decode cX9_mustName 153 = .ok (.if_icmp .ne 7, 3) := by decide +kernel
theorem dX9_mustName_160 : decode cX9_mustName 160 = .ok (.aload_n 0, 1) := by decide +kernel
theorem dX9_mustName_161 : decode cX9_mustName 161 = .ok (.iconst 1, 1) := by decide +kernel
theorem dX9_mustName_162 : decode cX9_mustName 162 = .ok (.aload_n 0, 1) := by decide +kernel
theorem dX9_mustName_163 : decode cX9_mustName 163 = .ok (.getfield 96, 3) := by decide +kernel
theorem dX9_mustName_166 : decode cX9_mustName 166 = .ok (.invokevirtual 142, 3) := by decide +kernel
theorem dX9_mustName_169 : decode cX9_mustName 169 = .ok (.return_, 1) := by decide +kernel
theorem dX9_mustName_156 : decode cX9_mustName 156 = .ok (.iload_n 1, 1) := by decide +kernel
theorem dX9_mustName_157 : decode cX9_mustName 157 = .ok (.ifCond .eq 12, 3) := by decide +kernel
theorem dX9_mustName_0 : decode cX9_mustName 0 = .ok (.aload_n 0, 1) := by decide +kernel
theorem dX9_mustName_1 : decode cX9_mustName 1 = .ok (.invokevirtual 150, 3) := by decide +kernel
theorem k_1340 : Cond.methodLink RX9 150 yX9_isCounter ∈ bw_T := bw_m 1340 (by decide +kernel) rfl
theorem kv_X9_isCounter : bw_KV RX9 yX9_isCounter (Cond.code yX9_isCounter cX9_isCounter 1 (some .boolean)) := ⟨bw_m 1342 (by decide +kernel) rfl, bw_m 53 (by decide +kernel) rfl, bw_m 107 (by decide +kernel) rfl, bw_m 1343 (by decide +kernel) rfl⟩
theorem dX9_mustName_4 : decode cX9_mustName 4 = .ok (.ifCond .ne 138, 3) := by decide +kernel
theorem dX9_mustName_142 : decode cX9_mustName 142 = .ok (.iconst 1, 1) := by decide +kernel
theorem dX9_mustName_143 : decode cX9_mustName 143 = .ok (.goto 4, 3) := by decide +kernel
theorem dX9_mustName_7 : decode cX9_mustName 7 = .ok (.aload_n 0, 1) := by decide +kernel
theorem dX9_mustName_8 : decode cX9_mustName 8 = .ok (.ldc 154, 2) := by decide +kernel
theorem dX9_mustName_10 : decode cX9_mustName 10 = .ok (.invokevirtual 132, 3) := by decide +kernel
theorem dX9_mustName_13 : decode cX9_mustName 13 = .ok (.ifCond .ne 129, 3) := by decide +kernel
theorem dX9_mustName_16 : decode cX9_mustName 16 = .ok (.aload_n 0, 1) := by decide +kernel
theorem dX9_mustName_17 : decode cX9_mustName 17 = .ok (.ldc 156, 2) := by decide +kernel
theorem dX9_mustName_19 : decode cX9_mustName 19 = .ok (.invokevirtual 132, 3) := by decide +kernel
theorem dX9_mustName_22 : decode cX9_mustName 22 = .ok (.ifCond .ne 120, 3) := by decide +kernel
theorem dX9_mustName_25 : decode cX9_mustName 25 = .ok (.aload_n 0, 1) := by decide +kernel
theorem dX9_mustName_26 : decode cX9_mustName 26 = .ok (.ldc 158, 2) := by decide +kernel
theorem dX9_mustName_28 : decode cX9_mustName 28 = .ok (.invokevirtual 132, 3) := by decide +kernel
theorem dX9_mustName_31 : decode cX9_mustName 31 = .ok (.ifCond .ne 111, 3) := by decide +kernel
theorem dX9_mustName_34 : decode cX9_mustName 34 = .ok (.aload_n 0, 1) := by decide +kernel
theorem dX9_mustName_35 : decode cX9_mustName 35 = .ok (.ldc 159, 2) := by decide +kernel
theorem dX9_mustName_37 : decode cX9_mustName 37 = .ok (.invokevirtual 132, 3) := by decide +kernel
theorem dX9_mustName_40 : decode cX9_mustName 40 = .ok (.ifCond .ne 102, 3) := by decide +kernel
theorem dX9_mustName_43 : decode cX9_mustName 43 = .ok (.aload_n 0, 1) := by decide +kernel
theorem dX9_mustName_44 : decode cX9_mustName 44 = .ok (.ldc 161, 2) := by decide +kernel
theorem dX9_mustName_46 : decode cX9_mustName 46 = .ok (.invokevirtual 132, 3) := by decide +kernel
theorem dX9_mustName_49 : decode cX9_mustName 49 = .ok (.ifCond .ne 93, 3) := by decide +kernel
theorem dX9_mustName_52 : decode cX9_mustName 52 = .ok (.aload_n 0, 1) := by decide +kernel
theorem dX9_mustName_53 : decode cX9_mustName 53 = .ok (.ldc 163, 2) := by decide +kernel
theorem dX9_mustName_55 : decode cX9_mustName 55 = .ok (.invokevirtual 132, 3) := by decide +kernel
theorem dX9_mustName_58 : decode cX9_mustName 58 = .ok (.ifCond .ne 84, 3) := by decide +kernel
theorem dX9_mustName_61 : decode cX9_mustName 61 = .ok (.aload_n 0, 1) := by decide +kernel
theorem dX9_mustName_62 : decode cX9_mustName 62 = .ok (.ldc 165, 2) := by decide +kernel
theorem dX9_mustName_64 : decode cX9_mustName 64 = .ok (.invokevirtual 132, 3) := by decide +kernel
theorem dX9_mustName_67 : decode cX9_mustName 67 = .ok (.ifCond .ne 75, 3) := by decide +kernel
theorem dX9_mustName_70 : decode cX9_mustName 70 = .ok (.aload_n 0, 1) := by decide +kernel
theorem dX9_mustName_71 : decode cX9_mustName 71 = .ok (.ldc 167, 2) := by decide +kernel
theorem dX9_mustName_73 : decode cX9_mustName 73 = .ok (.invokevirtual 132, 3) := by decide +kernel
theorem dX9_mustName_76 : decode cX9_mustName 76 = .ok (.ifCond .ne 66, 3) := by decide +kernel
theorem dX9_mustName_79 : decode cX9_mustName 79 = .ok (.aload_n 0, 1) := by decide +kernel
theorem dX9_mustName_80 : decode cX9_mustName 80 = .ok (.ldc 169, 2) := by decide +kernel
theorem dX9_mustName_82 : decode cX9_mustName 82 = .ok (.invokevirtual 132, 3) := by decide +kernel
theorem dX9_mustName_85 : decode cX9_mustName 85 = .ok (.ifCond .ne 57, 3) := by decide +kernel
theorem dX9_mustName_88 : decode cX9_mustName 88 = .ok (.aload_n 0, 1) := by decide +kernel
theorem dX9_mustName_89 : decode cX9_mustName 89 = .ok (.ldc 171, 2) := by decide +kernel
theorem dX9_mustName_91 : decode cX9_mustName 91 = .ok (.invokevirtual 132, 3) := by decide +kernel
theorem dX9_mustName_94 : decode cX9_mustName 94 = .ok (.ifCond .ne 48, 3) := by decide +kernel
theorem dX9_mustName_97 : decode cX9_mustName 97 = .ok (.aload_n 0, 1) := by decide +kernel
theorem dX9_mustName_98 : decode cX9_mustName 98 = .ok (.ldc 172, 2) := by decide +kernel
theorem dX9_mustName_100 : decode cX9_mustName 100 = .ok (.invokevirtual 132, 3) := by decide +kernel
theorem dX9_mustName_103 : decode cX9_mustName 103 = .ok (.ifCond .ne 39, 3) := by decide +kernel
theorem dX9_mustName_106 : decode cX9_mustName 106 = .ok (.aload_n 0, 1) := by decide +kernel
theorem dX9_mustName_107 : decode cX9_mustName 107 = .ok (.ldc 174, 2) := by decide +kernel
theorem dX9_mustName_109 : decode cX9_mustName 109 = .ok (.invokevirtual 132, 3) := by decide +kernel
theorem dX9_mustName_112 : decode cX9_mustName 112 = .ok (.ifCond .ne 30, 3) := by decide +kernel
theorem dX9_mustName_115 : decode cX9_mustName 115 = .ok (.aload_n 0, 1) := by decide +kernel
theorem dX9_mustName_116 : decode cX9_mustName 116 = .ok (.ldc 176, 2) := by decide +kernel
theorem dX9_mustName_118 : decode cX9_mustName 118 = .ok (.invokevirtual 132, 3) := by decide +kernel
theorem dX9_mustName_121 : decode cX9_mustName 121 = .ok (.ifCond .ne 21, 3) := by decide +kernel
theorem dX9_mustName_124 : decode cX9_mustName 124 = .ok (.aload_n 0, 1) := by decide +kernel
theorem dX9_mustName_125 : decode cX9_mustName 125 = .ok (.ldc 178, 2) := by decide +kernel
theorem dX9_mustName_127 : decode cX9_mustName 127 = .ok (.invokevirtual 132, 3) := by decide +kernel
theorem dX9_mustName_130 : decode cX9_mustName 130 = .ok (.ifCond .ne 12, 3) := by decide +kernel
theorem dX9_mustName_133 : decode cX9_mustName 133 = .ok (.aload_n 0, 1) := by decide +kernel
theorem dX9_mustName_134 : decode cX9_mustName 134 = .ok (.ldc 180, 2) := by decide +kernel
theorem dX9_mustName_136 : decode cX9_mustName 136 = .ok (.invokevirtual 132, 3) := by decide +kernel
theorem dX9_mustName_139 : decode cX9_mustName 139 = .ok (.ifCond .eq 7, 3) := by decide +kernel
theorem dX9_mustName_146 : decode cX9_mustName 146 = .ok (.iconst 0, 1) := by decide +kernel
abbrev rm_X9_mustName : Room := { frames := 5, cells := 0, slots := 0, locals := 108 }
set_option maxRecDepth 100000 in
set_option maxHeartbeats 8000000 in
theorem c_X9_mustName {l : Launch} {E : (Nat → Prop) → State → Prop} (hO : bw_Ok E) {G : va_G} {cI cB cJ cN cW : ClassId} (y : Nat) (q : Nat → Nat) (i : Nat → Int) (hM : ModOk i) (g_letters : Nat → Int) (hr_letters : ∀ k, k < 8 → (-2147483648) ≤ g_letters k ∧ g_letters k ≤ 2147483647) {sa va : Nat → Nat} {fb : Nat → Nat → Int32} (hWd : bw_Words E sa va fb)  : bw_Cv (S := zV) l yX9_mustName (bw_ws (Cond.code yX9_mustName cX9_mustName 2 none)) rm_X9_mustName E G (bw_kt cI cB cJ cN cW) [.ref y] [(y, .inr (9, [.int (zI (i 0)), .ref (q 0), .int (zI (i 1)), .int (zI (i 2)), .int (zI (i 3)), .int (zI (i 4)), .int (zI (i 5)), .int (zI (i 6)), .int (zI (i 7)), .int (zI (i 8)), .int (zI (i 9)), .int (zI (i 10)), .ref (q 1), .int (zI (i 11)), .int (zI (i 12)), .ref (q 2), .ref (q 3), .ref (q 4), .ref (q 5), .ref (q 6), .ref (q 7), .ref (q 8), .ref (q 9), .ref (q 10), .ref (q 11), .ref (q 12), .ref (q 13), .ref (q 14), .ref (q 15), .ref (q 16), .int (zI (i 13)), .int (zI (i 14)), .int (zI (i 15)), .int (zI (i 16)), .int (zI (i 17)), .int (zI (i 18)), .ref (q 17), .ref (q 18), .ref (q 19), .ref (q 20)])), ((q 1), .inl (cI, 8, .inl (fun k => zI (g_letters k))))] (fun u => (ModOk (u 0).1) ∧ ((i 11 ≤ (u 0).1 11 ∧ i 4 ≤ (u 0).1 4 ∧ (u 0).1 1 = i 1 ∧ (u 0).1 14 = i 14 ∧ (u 0).1 16 = i 16 ∧ (u 0).1 5 = i 5 ∧ (u 0).1 7 = i 7) ∧ Imp ((u 0).1 11 = 0) (i 11 = 0 ∧ i 5 = 2 ∧ i 7 ≤ 8))) (fun u => [(y, .inr (9, [.int (zI ((u 0).1 0)), .ref (q 0), .int (zI ((u 0).1 1)), .int (zI ((u 0).1 2)), .int (zI ((u 0).1 3)), .int (zI ((u 0).1 4)), .int (zI ((u 0).1 5)), .int (zI ((u 0).1 6)), .int (zI ((u 0).1 7)), .int (zI ((u 0).1 8)), .int (zI ((u 0).1 9)), .int (zI ((u 0).1 10)), .ref (q 1), .int (zI ((u 0).1 11)), .int (zI ((u 0).1 12)), .ref (q 2), .ref (q 3), .ref (q 4), .ref (q 5), .ref (q 6), .ref (q 7), .ref (q 8), .ref (q 9), .ref (q 10), .ref (q 11), .ref (q 12), .ref (q 13), .ref (q 14), .ref (q 15), .ref (q 16), .int (zI ((u 0).1 13)), .int (zI ((u 0).1 14)), .int (zI ((u 0).1 15)), .int (zI ((u 0).1 16)), .int (zI ((u 0).1 17)), .int (zI ((u 0).1 18)), .ref (q 17), .ref (q 18), .ref (q 19), .ref (q 20)])), ((q 1), .inl (cI, 8, .inl (fun k => zI (g_letters k))))]) := by
  refine bw_Cv.of (cc := cX9_mustName) (maxL := 2) (by decide) rfl (Nat.le_of_ble_eq_true rfl) ?_
  intro p e s m below meth c A Q hx hb hml hts hown hin hK hA hS hP hD hE ret ls hl
  have F : CallFix p m c cX9_mustName 2 s ([.ref y] : List Value).toArray bw_T RX9 := ⟨hx, hb, hml, hown, fun w h => hts w (List.mem_cons_of_mem _ h)⟩
  replace hl : lv_has ls 2 [(0, .ref y)] := hl
  have hM2 : _ → _ := hM.2
  have hf1 := hM.1.1
  have j_147 : ∀ (zj147_0 : Int) (H : Heap) (locs : List Loc), (0 ≤ zj147_0 ∧ zj147_0 ≤ 1) → va_P G vwCl [(y, .inr (9, [.int (zI (i 0)), .ref (q 0), .int (zI (i 1)), .int (zI (i 2)), .int (zI (i 3)), .int (zI (i 4)), .int (zI (i 5)), .int (zI (i 6)), .int (zI (i 7)), .int (zI (i 8)), .int (zI (i 9)), .int (zI (i 10)), .ref (q 1), .int (zI (i 11)), .int (zI (i 12)), .ref (q 2), .ref (q 3), .ref (q 4), .ref (q 5), .ref (q 6), .ref (q 7), .ref (q 8), .ref (q 9), .ref (q 10), .ref (q 11), .ref (q 12), .ref (q 13), .ref (q 14), .ref (q 15), .ref (q 16), .int (zI (i 13)), .int (zI (i 14)), .int (zI (i 15)), .int (zI (i 16)), .int (zI (i 17)), .int (zI (i 18)), .ref (q 17), .ref (q 18), .ref (q 19), .ref (q 20)])), ((q 1), .inl (cI, 8, .inl (fun k => zI (g_letters k))))] H → va_D A [(y, .inr (9, [.int (zI (i 0)), .ref (q 0), .int (zI (i 1)), .int (zI (i 2)), .int (zI (i 3)), .int (zI (i 4)), .int (zI (i 5)), .int (zI (i 6)), .int (zI (i 7)), .int (zI (i 8)), .int (zI (i 9)), .int (zI (i 10)), .ref (q 1), .int (zI (i 11)), .int (zI (i 12)), .ref (q 2), .ref (q 3), .ref (q 4), .ref (q 5), .ref (q 6), .ref (q 7), .ref (q 8), .ref (q 9), .ref (q 10), .ref (q 11), .ref (q 12), .ref (q 13), .ref (q 14), .ref (q 15), .ref (q 16), .int (zI (i 13)), .int (zI (i 14)), .int (zI (i 15)), .int (zI (i 16)), .int (zI (i 17)), .int (zI (i 18)), .ref (q 17), .ref (q 18), .ref (q 19), .ref (q 20)])), ((q 1), .inl (cI, 8, .inl (fun k => zI (g_letters k))))] → va_S A s.heap H locs → ∀ ls : Array Slot, lv_has ls 2 [(0, .ref y)] → W p l e rm_X9_mustName s m ([.ref y] : List Value).toArray below meth c H locs 0 0 Q (F0 m 147 ls [.int (zI zj147_0)]) := by
    intro zj147_0 H locs hJ147 hP hD hS ls hl
    refine lv_istore_n (lv' := [(1, .int (zI zj147_0)), (0, .ref y)]) hx hb dX9_mustName_147 rfl hl (by decide) rfl (fun ls hl => ?_)
    refine lv_aload_n hx hb dX9_mustName_148 rfl (lv_at hl 1 rfl) ?_
    refine r_get F hK hP 0 6 rfl rfl in_X9 (by decide) k_1169 rfl dX9_mustName_149 ?_
    refine lv_iconst (v := zI 2) hx hb dX9_mustName_152 rfl ?_
    refine rz_icmp_ne (tgt := 160) F (by omega) (by omega) dX9_mustName_153 (by decide) (fun h153_1 => ?_) (fun h153_1 => ?_)
    · refine lv_aload_n hx hb dX9_mustName_160 rfl (lv_at hl 1 rfl) ?_
      refine lv_iconst (v := zI 1) hx hb dX9_mustName_161 rfl ?_
      refine lv_aload_n hx hb dX9_mustName_162 rfl (lv_at hl 1 rfl) ?_
      refine r_get F hK hP 0 4 rfl rfl in_X9 (by decide) k_1167 rfl dX9_mustName_163 ?_
      refine r_callVv (As := [.int (zI 1), .int (zI (i 3))]) (rest := []) (wr := [((q 1), .inl (cI, 8, .inl (fun k => zI (g_letters k))))]) F hK hP hD hS hA hO hE (c_X9_wrong hO y q i hM 1 (i 3)) k_1332 kv_X9_wrong 2 rfl (by decide +kernel) ⟨Nat.le_of_ble_eq_true rfl, Nat.le_of_ble_eq_true rfl⟩ [0] [1] rfl rfl (by decide) (by decide) (by decide) 0 9 rfl rfl rfl hl.1 rfl (Nat.le_of_ble_eq_true rfl) dX9_mustName_166 ⟨Nat.le_of_ble_eq_true rfl, Nat.le_of_ble_eq_true rfl⟩ (w1 := fun u3 => [((q 1), .inl (cI, 8, .inl (fun k => zI (g_letters k)))), (y, .inr (9, [.int (zI ((u3 0).1 0)), .ref (q 0), .int (zI ((u3 0).1 1)), .int (zI ((u3 0).1 2)), .int (zI ((u3 0).1 3)), .int (zI ((u3 0).1 4)), .int (zI ((u3 0).1 5)), .int (zI ((u3 0).1 6)), .int (zI ((u3 0).1 7)), .int (zI ((u3 0).1 8)), .int (zI ((u3 0).1 9)), .int (zI ((u3 0).1 10)), .ref (q 1), .int (zI ((u3 0).1 11)), .int (zI ((u3 0).1 12)), .ref (q 2), .ref (q 3), .ref (q 4), .ref (q 5), .ref (q 6), .ref (q 7), .ref (q 8), .ref (q 9), .ref (q 10), .ref (q 11), .ref (q 12), .ref (q 13), .ref (q 14), .ref (q 15), .ref (q 16), .int (zI ((u3 0).1 13)), .int (zI ((u3 0).1 14)), .int (zI ((u3 0).1 15)), .int (zI ((u3 0).1 16)), .int (zI ((u3 0).1 17)), .int (zI ((u3 0).1 18)), .ref (q 17), .ref (q 18), .ref (q 19), .ref (q 20)]))]) (fun _ => rfl) (fun  u3 H locs hp4 hP hD hS => ?_)
      have hf5 := hp4.1.1.1
      exact ret (fun k => [((u3 0).1, fun _ _ => 0)].getD k (fun _ => 0, fun _ _ => 0)) _ _ _ _ _ _ ⟨hp4.1, ⟨(show i 11 ≤ ((u3 0).1) 11 ∧ i 4 ≤ ((u3 0).1) 4 ∧ ((u3 0).1) 1 = i 1 ∧ ((u3 0).1) 14 = i 14 ∧ ((u3 0).1) 16 = i 16 ∧ ((u3 0).1) 5 = i 5 ∧ ((u3 0).1) 7 = i 7 from by omega), (show Imp (((u3 0).1) 11 = 0) (i 11 = 0 ∧ i 5 = 2 ∧ i 7 ≤ 8) from fun q9 => by omega)⟩⟩ (bw_subP (isC := [1, 0]) hP rfl) (hD.sub [1, 0] (by decide) rfl) hS (Nat.le_of_ble_eq_true rfl) (Nat.le_of_ble_eq_true rfl) dX9_mustName_169
    · refine lv_iload_n hx hb dX9_mustName_156 rfl (lv_at hl 0 rfl) ?_
      refine rz_if_eq (tgt := 169) F (by omega) dX9_mustName_157 (by decide) (fun h157_5 => ?_) (fun h157_5 => ?_)
      · exact ret (fun k => [(i, fun _ _ => 0)].getD k (fun _ => 0, fun _ _ => 0)) _ _ _ _ _ _ ⟨hM, ⟨(show i 11 ≤ i 11 ∧ i 4 ≤ i 4 ∧ i 1 = i 1 ∧ i 14 = i 14 ∧ i 16 = i 16 ∧ i 5 = i 5 ∧ i 7 = i 7 from by omega), (show Imp (i 11 = 0) (i 11 = 0 ∧ i 5 = 2 ∧ i 7 ≤ 8) from fun q9 => by omega)⟩⟩ (bw_subP (isC := [0, 1]) hP rfl) (hD.sub [0, 1] (by decide) rfl) hS (Nat.le_of_ble_eq_true rfl) (Nat.le_of_ble_eq_true rfl) dX9_mustName_169
      · refine lv_aload_n hx hb dX9_mustName_160 rfl (lv_at hl 1 rfl) ?_
        refine lv_iconst (v := zI 1) hx hb dX9_mustName_161 rfl ?_
        refine lv_aload_n hx hb dX9_mustName_162 rfl (lv_at hl 1 rfl) ?_
        refine r_get F hK hP 0 4 rfl rfl in_X9 (by decide) k_1167 rfl dX9_mustName_163 ?_
        refine r_callVv (As := [.int (zI 1), .int (zI (i 3))]) (rest := []) (wr := [((q 1), .inl (cI, 8, .inl (fun k => zI (g_letters k))))]) F hK hP hD hS hA hO hE (c_X9_wrong hO y q i hM 1 (i 3)) k_1332 kv_X9_wrong 2 rfl (by decide +kernel) ⟨Nat.le_of_ble_eq_true rfl, Nat.le_of_ble_eq_true rfl⟩ [0] [1] rfl rfl (by decide) (by decide) (by decide) 0 9 rfl rfl rfl hl.1 rfl (Nat.le_of_ble_eq_true rfl) dX9_mustName_166 ⟨Nat.le_of_ble_eq_true rfl, Nat.le_of_ble_eq_true rfl⟩ (w1 := fun u7 => [((q 1), .inl (cI, 8, .inl (fun k => zI (g_letters k)))), (y, .inr (9, [.int (zI ((u7 0).1 0)), .ref (q 0), .int (zI ((u7 0).1 1)), .int (zI ((u7 0).1 2)), .int (zI ((u7 0).1 3)), .int (zI ((u7 0).1 4)), .int (zI ((u7 0).1 5)), .int (zI ((u7 0).1 6)), .int (zI ((u7 0).1 7)), .int (zI ((u7 0).1 8)), .int (zI ((u7 0).1 9)), .int (zI ((u7 0).1 10)), .ref (q 1), .int (zI ((u7 0).1 11)), .int (zI ((u7 0).1 12)), .ref (q 2), .ref (q 3), .ref (q 4), .ref (q 5), .ref (q 6), .ref (q 7), .ref (q 8), .ref (q 9), .ref (q 10), .ref (q 11), .ref (q 12), .ref (q 13), .ref (q 14), .ref (q 15), .ref (q 16), .int (zI ((u7 0).1 13)), .int (zI ((u7 0).1 14)), .int (zI ((u7 0).1 15)), .int (zI ((u7 0).1 16)), .int (zI ((u7 0).1 17)), .int (zI ((u7 0).1 18)), .ref (q 17), .ref (q 18), .ref (q 19), .ref (q 20)]))]) (fun _ => rfl) (fun  u7 H locs hp8 hP hD hS => ?_)
        have hf9 := hp8.1.1.1
        exact ret (fun k => [((u7 0).1, fun _ _ => 0)].getD k (fun _ => 0, fun _ _ => 0)) _ _ _ _ _ _ ⟨hp8.1, ⟨(show i 11 ≤ ((u7 0).1) 11 ∧ i 4 ≤ ((u7 0).1) 4 ∧ ((u7 0).1) 1 = i 1 ∧ ((u7 0).1) 14 = i 14 ∧ ((u7 0).1) 16 = i 16 ∧ ((u7 0).1) 5 = i 5 ∧ ((u7 0).1) 7 = i 7 from by omega), (show Imp (((u7 0).1) 11 = 0) (i 11 = 0 ∧ i 5 = 2 ∧ i 7 ≤ 8) from fun q9 => by omega)⟩⟩ (bw_subP (isC := [1, 0]) hP rfl) (hD.sub [1, 0] (by decide) rfl) hS (Nat.le_of_ble_eq_true rfl) (Nat.le_of_ble_eq_true rfl) dX9_mustName_169
  refine lv_aload_n hx hb dX9_mustName_0 rfl (lv_at hl 0 rfl) ?_
  refine r_callVi (As := []) (rest := []) (wr := []) F hK hP hD hS hA hO hE (c_X9_isCounter hO y q i hM g_letters hr_letters) k_1340 kv_X9_isCounter 0 rfl (by decide +kernel) ⟨Nat.le_of_ble_eq_true rfl, Nat.le_of_ble_eq_true rfl⟩ [0, 1] [] rfl rfl (by decide) (by decide) (by decide) 0 9 rfl rfl rfl hl.1 rfl (Nat.le_of_ble_eq_true rfl) dX9_mustName_1 ⟨Nat.le_of_ble_eq_true rfl, Nat.le_of_ble_eq_true rfl⟩ (w1 := fun u10 => [(y, .inr (9, [.int (zI (i 0)), .ref (q 0), .int (zI (i 1)), .int (zI (i 2)), .int (zI (i 3)), .int (zI (i 4)), .int (zI (i 5)), .int (zI (i 6)), .int (zI (i 7)), .int (zI (i 8)), .int (zI (i 9)), .int (zI (i 10)), .ref (q 1), .int (zI (i 11)), .int (zI (i 12)), .ref (q 2), .ref (q 3), .ref (q 4), .ref (q 5), .ref (q 6), .ref (q 7), .ref (q 8), .ref (q 9), .ref (q 10), .ref (q 11), .ref (q 12), .ref (q 13), .ref (q 14), .ref (q 15), .ref (q 16), .int (zI (i 13)), .int (zI (i 14)), .int (zI (i 15)), .int (zI (i 16)), .int (zI (i 17)), .int (zI (i 18)), .ref (q 17), .ref (q 18), .ref (q 19), .ref (q 20)])), ((q 1), .inl (cI, 8, .inl (fun k => zI (g_letters k))))]) (fun _ => rfl) (fun r11 u10 H locs hp12 hP hD hS => ?_)
  obtain ⟨z13, rfl, h_z13⟩ := hp12
  refine rz_ifb_ne (tgt := 142) F (by omega) dX9_mustName_4 (by decide) (fun h4_13 => ?_) (fun h4_13 => ?_)
  · have hq15 := h_z13.2 (by omega)
    refine lv_iconst (v := zI 1) hx hb dX9_mustName_142 rfl ?_
    refine lv_goto (tgt := 147) hx hb dX9_mustName_143 (by decide) ?_
    exact j_147 1 _ _ (by omega) hP hD hS ls (lv_sub hl [0] rfl)
  · refine lv_aload_n hx hb dX9_mustName_7 rfl (lv_at hl 0 rfl) ?_
    refine va_ldcS hx hb hown (hWd.1.2 _ _ hE).1 dX9_mustName_8 ?_
    refine r_callVi (As := [.ref (sa 0)]) (rest := []) (wr := []) F hK hP hD hS hA hO hE (c_X9_isWord hO y q i hM g_letters hr_letters hWd.1) k_1322 kv_X9_isWord 1 rfl (by decide +kernel) ⟨Nat.le_of_ble_eq_true rfl, Nat.le_of_ble_eq_true rfl⟩ [0, 1] [] rfl rfl (by decide) (by decide) (by decide) 0 9 rfl rfl rfl hl.1 rfl (Nat.le_of_ble_eq_true rfl) dX9_mustName_10 ⟨Nat.le_of_ble_eq_true rfl, Nat.le_of_ble_eq_true rfl⟩ (w1 := fun u16 => [(y, .inr (9, [.int (zI (i 0)), .ref (q 0), .int (zI (i 1)), .int (zI (i 2)), .int (zI (i 3)), .int (zI (i 4)), .int (zI (i 5)), .int (zI (i 6)), .int (zI (i 7)), .int (zI (i 8)), .int (zI (i 9)), .int (zI (i 10)), .ref (q 1), .int (zI (i 11)), .int (zI (i 12)), .ref (q 2), .ref (q 3), .ref (q 4), .ref (q 5), .ref (q 6), .ref (q 7), .ref (q 8), .ref (q 9), .ref (q 10), .ref (q 11), .ref (q 12), .ref (q 13), .ref (q 14), .ref (q 15), .ref (q 16), .int (zI (i 13)), .int (zI (i 14)), .int (zI (i 15)), .int (zI (i 16)), .int (zI (i 17)), .int (zI (i 18)), .ref (q 17), .ref (q 18), .ref (q 19), .ref (q 20)])), ((q 1), .inl (cI, 8, .inl (fun k => zI (g_letters k))))]) (fun _ => rfl) (fun r17 u16 H locs hp18 hP hD hS => ?_)
    obtain ⟨z19, rfl, h_z19⟩ := hp18
    refine rz_ifb_ne (tgt := 142) F (by omega) dX9_mustName_13 (by decide) (fun h13_19 => ?_) (fun h13_19 => ?_)
    · have hq21 := h_z19.2 (by omega)
      refine lv_iconst (v := zI 1) hx hb dX9_mustName_142 rfl ?_
      refine lv_goto (tgt := 147) hx hb dX9_mustName_143 (by decide) ?_
      exact j_147 1 _ _ (by omega) hP hD hS ls (lv_sub hl [0] rfl)
    · refine lv_aload_n hx hb dX9_mustName_16 rfl (lv_at hl 0 rfl) ?_
      refine va_ldcS hx hb hown (hWd.2.1.2 _ _ hE).1 dX9_mustName_17 ?_
      refine r_callVi (As := [.ref (sa 1)]) (rest := []) (wr := []) F hK hP hD hS hA hO hE (c_X9_isWord hO y q i hM g_letters hr_letters hWd.2.1) k_1322 kv_X9_isWord 1 rfl (by decide +kernel) ⟨Nat.le_of_ble_eq_true rfl, Nat.le_of_ble_eq_true rfl⟩ [0, 1] [] rfl rfl (by decide) (by decide) (by decide) 0 9 rfl rfl rfl hl.1 rfl (Nat.le_of_ble_eq_true rfl) dX9_mustName_19 ⟨Nat.le_of_ble_eq_true rfl, Nat.le_of_ble_eq_true rfl⟩ (w1 := fun u22 => [(y, .inr (9, [.int (zI (i 0)), .ref (q 0), .int (zI (i 1)), .int (zI (i 2)), .int (zI (i 3)), .int (zI (i 4)), .int (zI (i 5)), .int (zI (i 6)), .int (zI (i 7)), .int (zI (i 8)), .int (zI (i 9)), .int (zI (i 10)), .ref (q 1), .int (zI (i 11)), .int (zI (i 12)), .ref (q 2), .ref (q 3), .ref (q 4), .ref (q 5), .ref (q 6), .ref (q 7), .ref (q 8), .ref (q 9), .ref (q 10), .ref (q 11), .ref (q 12), .ref (q 13), .ref (q 14), .ref (q 15), .ref (q 16), .int (zI (i 13)), .int (zI (i 14)), .int (zI (i 15)), .int (zI (i 16)), .int (zI (i 17)), .int (zI (i 18)), .ref (q 17), .ref (q 18), .ref (q 19), .ref (q 20)])), ((q 1), .inl (cI, 8, .inl (fun k => zI (g_letters k))))]) (fun _ => rfl) (fun r23 u22 H locs hp24 hP hD hS => ?_)
      obtain ⟨z25, rfl, h_z25⟩ := hp24
      refine rz_ifb_ne (tgt := 142) F (by omega) dX9_mustName_22 (by decide) (fun h22_25 => ?_) (fun h22_25 => ?_)
      · have hq27 := h_z25.2 (by omega)
        refine lv_iconst (v := zI 1) hx hb dX9_mustName_142 rfl ?_
        refine lv_goto (tgt := 147) hx hb dX9_mustName_143 (by decide) ?_
        exact j_147 1 _ _ (by omega) hP hD hS ls (lv_sub hl [0] rfl)
      · refine lv_aload_n hx hb dX9_mustName_25 rfl (lv_at hl 0 rfl) ?_
        refine va_ldcS hx hb hown (hWd.2.2.1.2 _ _ hE).1 dX9_mustName_26 ?_
        refine r_callVi (As := [.ref (sa 2)]) (rest := []) (wr := []) F hK hP hD hS hA hO hE (c_X9_isWord hO y q i hM g_letters hr_letters hWd.2.2.1) k_1322 kv_X9_isWord 1 rfl (by decide +kernel) ⟨Nat.le_of_ble_eq_true rfl, Nat.le_of_ble_eq_true rfl⟩ [0, 1] [] rfl rfl (by decide) (by decide) (by decide) 0 9 rfl rfl rfl hl.1 rfl (Nat.le_of_ble_eq_true rfl) dX9_mustName_28 ⟨Nat.le_of_ble_eq_true rfl, Nat.le_of_ble_eq_true rfl⟩ (w1 := fun u28 => [(y, .inr (9, [.int (zI (i 0)), .ref (q 0), .int (zI (i 1)), .int (zI (i 2)), .int (zI (i 3)), .int (zI (i 4)), .int (zI (i 5)), .int (zI (i 6)), .int (zI (i 7)), .int (zI (i 8)), .int (zI (i 9)), .int (zI (i 10)), .ref (q 1), .int (zI (i 11)), .int (zI (i 12)), .ref (q 2), .ref (q 3), .ref (q 4), .ref (q 5), .ref (q 6), .ref (q 7), .ref (q 8), .ref (q 9), .ref (q 10), .ref (q 11), .ref (q 12), .ref (q 13), .ref (q 14), .ref (q 15), .ref (q 16), .int (zI (i 13)), .int (zI (i 14)), .int (zI (i 15)), .int (zI (i 16)), .int (zI (i 17)), .int (zI (i 18)), .ref (q 17), .ref (q 18), .ref (q 19), .ref (q 20)])), ((q 1), .inl (cI, 8, .inl (fun k => zI (g_letters k))))]) (fun _ => rfl) (fun r29 u28 H locs hp30 hP hD hS => ?_)
        obtain ⟨z31, rfl, h_z31⟩ := hp30
        refine rz_ifb_ne (tgt := 142) F (by omega) dX9_mustName_31 (by decide) (fun h31_31 => ?_) (fun h31_31 => ?_)
        · have hq33 := h_z31.2 (by omega)
          refine lv_iconst (v := zI 1) hx hb dX9_mustName_142 rfl ?_
          refine lv_goto (tgt := 147) hx hb dX9_mustName_143 (by decide) ?_
          exact j_147 1 _ _ (by omega) hP hD hS ls (lv_sub hl [0] rfl)
        · refine lv_aload_n hx hb dX9_mustName_34 rfl (lv_at hl 0 rfl) ?_
          refine va_ldcS hx hb hown (hWd.2.2.2.1.2 _ _ hE).1 dX9_mustName_35 ?_
          refine r_callVi (As := [.ref (sa 3)]) (rest := []) (wr := []) F hK hP hD hS hA hO hE (c_X9_isWord hO y q i hM g_letters hr_letters hWd.2.2.2.1) k_1322 kv_X9_isWord 1 rfl (by decide +kernel) ⟨Nat.le_of_ble_eq_true rfl, Nat.le_of_ble_eq_true rfl⟩ [0, 1] [] rfl rfl (by decide) (by decide) (by decide) 0 9 rfl rfl rfl hl.1 rfl (Nat.le_of_ble_eq_true rfl) dX9_mustName_37 ⟨Nat.le_of_ble_eq_true rfl, Nat.le_of_ble_eq_true rfl⟩ (w1 := fun u34 => [(y, .inr (9, [.int (zI (i 0)), .ref (q 0), .int (zI (i 1)), .int (zI (i 2)), .int (zI (i 3)), .int (zI (i 4)), .int (zI (i 5)), .int (zI (i 6)), .int (zI (i 7)), .int (zI (i 8)), .int (zI (i 9)), .int (zI (i 10)), .ref (q 1), .int (zI (i 11)), .int (zI (i 12)), .ref (q 2), .ref (q 3), .ref (q 4), .ref (q 5), .ref (q 6), .ref (q 7), .ref (q 8), .ref (q 9), .ref (q 10), .ref (q 11), .ref (q 12), .ref (q 13), .ref (q 14), .ref (q 15), .ref (q 16), .int (zI (i 13)), .int (zI (i 14)), .int (zI (i 15)), .int (zI (i 16)), .int (zI (i 17)), .int (zI (i 18)), .ref (q 17), .ref (q 18), .ref (q 19), .ref (q 20)])), ((q 1), .inl (cI, 8, .inl (fun k => zI (g_letters k))))]) (fun _ => rfl) (fun r35 u34 H locs hp36 hP hD hS => ?_)
          obtain ⟨z37, rfl, h_z37⟩ := hp36
          refine rz_ifb_ne (tgt := 142) F (by omega) dX9_mustName_40 (by decide) (fun h40_37 => ?_) (fun h40_37 => ?_)
          · have hq39 := h_z37.2 (by omega)
            refine lv_iconst (v := zI 1) hx hb dX9_mustName_142 rfl ?_
            refine lv_goto (tgt := 147) hx hb dX9_mustName_143 (by decide) ?_
            exact j_147 1 _ _ (by omega) hP hD hS ls (lv_sub hl [0] rfl)
          · refine lv_aload_n hx hb dX9_mustName_43 rfl (lv_at hl 0 rfl) ?_
            refine va_ldcS hx hb hown (hWd.2.2.2.2.1.2 _ _ hE).1 dX9_mustName_44 ?_
            refine r_callVi (As := [.ref (sa 4)]) (rest := []) (wr := []) F hK hP hD hS hA hO hE (c_X9_isWord hO y q i hM g_letters hr_letters hWd.2.2.2.2.1) k_1322 kv_X9_isWord 1 rfl (by decide +kernel) ⟨Nat.le_of_ble_eq_true rfl, Nat.le_of_ble_eq_true rfl⟩ [0, 1] [] rfl rfl (by decide) (by decide) (by decide) 0 9 rfl rfl rfl hl.1 rfl (Nat.le_of_ble_eq_true rfl) dX9_mustName_46 ⟨Nat.le_of_ble_eq_true rfl, Nat.le_of_ble_eq_true rfl⟩ (w1 := fun u40 => [(y, .inr (9, [.int (zI (i 0)), .ref (q 0), .int (zI (i 1)), .int (zI (i 2)), .int (zI (i 3)), .int (zI (i 4)), .int (zI (i 5)), .int (zI (i 6)), .int (zI (i 7)), .int (zI (i 8)), .int (zI (i 9)), .int (zI (i 10)), .ref (q 1), .int (zI (i 11)), .int (zI (i 12)), .ref (q 2), .ref (q 3), .ref (q 4), .ref (q 5), .ref (q 6), .ref (q 7), .ref (q 8), .ref (q 9), .ref (q 10), .ref (q 11), .ref (q 12), .ref (q 13), .ref (q 14), .ref (q 15), .ref (q 16), .int (zI (i 13)), .int (zI (i 14)), .int (zI (i 15)), .int (zI (i 16)), .int (zI (i 17)), .int (zI (i 18)), .ref (q 17), .ref (q 18), .ref (q 19), .ref (q 20)])), ((q 1), .inl (cI, 8, .inl (fun k => zI (g_letters k))))]) (fun _ => rfl) (fun r41 u40 H locs hp42 hP hD hS => ?_)
            obtain ⟨z43, rfl, h_z43⟩ := hp42
            refine rz_ifb_ne (tgt := 142) F (by omega) dX9_mustName_49 (by decide) (fun h49_43 => ?_) (fun h49_43 => ?_)
            · have hq45 := h_z43.2 (by omega)
              refine lv_iconst (v := zI 1) hx hb dX9_mustName_142 rfl ?_
              refine lv_goto (tgt := 147) hx hb dX9_mustName_143 (by decide) ?_
              exact j_147 1 _ _ (by omega) hP hD hS ls (lv_sub hl [0] rfl)
            · refine lv_aload_n hx hb dX9_mustName_52 rfl (lv_at hl 0 rfl) ?_
              refine va_ldcS hx hb hown (hWd.2.2.2.2.2.1.2 _ _ hE).1 dX9_mustName_53 ?_
              refine r_callVi (As := [.ref (sa 5)]) (rest := []) (wr := []) F hK hP hD hS hA hO hE (c_X9_isWord hO y q i hM g_letters hr_letters hWd.2.2.2.2.2.1) k_1322 kv_X9_isWord 1 rfl (by decide +kernel) ⟨Nat.le_of_ble_eq_true rfl, Nat.le_of_ble_eq_true rfl⟩ [0, 1] [] rfl rfl (by decide) (by decide) (by decide) 0 9 rfl rfl rfl hl.1 rfl (Nat.le_of_ble_eq_true rfl) dX9_mustName_55 ⟨Nat.le_of_ble_eq_true rfl, Nat.le_of_ble_eq_true rfl⟩ (w1 := fun u46 => [(y, .inr (9, [.int (zI (i 0)), .ref (q 0), .int (zI (i 1)), .int (zI (i 2)), .int (zI (i 3)), .int (zI (i 4)), .int (zI (i 5)), .int (zI (i 6)), .int (zI (i 7)), .int (zI (i 8)), .int (zI (i 9)), .int (zI (i 10)), .ref (q 1), .int (zI (i 11)), .int (zI (i 12)), .ref (q 2), .ref (q 3), .ref (q 4), .ref (q 5), .ref (q 6), .ref (q 7), .ref (q 8), .ref (q 9), .ref (q 10), .ref (q 11), .ref (q 12), .ref (q 13), .ref (q 14), .ref (q 15), .ref (q 16), .int (zI (i 13)), .int (zI (i 14)), .int (zI (i 15)), .int (zI (i 16)), .int (zI (i 17)), .int (zI (i 18)), .ref (q 17), .ref (q 18), .ref (q 19), .ref (q 20)])), ((q 1), .inl (cI, 8, .inl (fun k => zI (g_letters k))))]) (fun _ => rfl) (fun r47 u46 H locs hp48 hP hD hS => ?_)
              obtain ⟨z49, rfl, h_z49⟩ := hp48
              refine rz_ifb_ne (tgt := 142) F (by omega) dX9_mustName_58 (by decide) (fun h58_49 => ?_) (fun h58_49 => ?_)
              · have hq51 := h_z49.2 (by omega)
                refine lv_iconst (v := zI 1) hx hb dX9_mustName_142 rfl ?_
                refine lv_goto (tgt := 147) hx hb dX9_mustName_143 (by decide) ?_
                exact j_147 1 _ _ (by omega) hP hD hS ls (lv_sub hl [0] rfl)
              · refine lv_aload_n hx hb dX9_mustName_61 rfl (lv_at hl 0 rfl) ?_
                refine va_ldcS hx hb hown (hWd.2.2.2.2.2.2.1.2 _ _ hE).1 dX9_mustName_62 ?_
                refine r_callVi (As := [.ref (sa 6)]) (rest := []) (wr := []) F hK hP hD hS hA hO hE (c_X9_isWord hO y q i hM g_letters hr_letters hWd.2.2.2.2.2.2.1) k_1322 kv_X9_isWord 1 rfl (by decide +kernel) ⟨Nat.le_of_ble_eq_true rfl, Nat.le_of_ble_eq_true rfl⟩ [0, 1] [] rfl rfl (by decide) (by decide) (by decide) 0 9 rfl rfl rfl hl.1 rfl (Nat.le_of_ble_eq_true rfl) dX9_mustName_64 ⟨Nat.le_of_ble_eq_true rfl, Nat.le_of_ble_eq_true rfl⟩ (w1 := fun u52 => [(y, .inr (9, [.int (zI (i 0)), .ref (q 0), .int (zI (i 1)), .int (zI (i 2)), .int (zI (i 3)), .int (zI (i 4)), .int (zI (i 5)), .int (zI (i 6)), .int (zI (i 7)), .int (zI (i 8)), .int (zI (i 9)), .int (zI (i 10)), .ref (q 1), .int (zI (i 11)), .int (zI (i 12)), .ref (q 2), .ref (q 3), .ref (q 4), .ref (q 5), .ref (q 6), .ref (q 7), .ref (q 8), .ref (q 9), .ref (q 10), .ref (q 11), .ref (q 12), .ref (q 13), .ref (q 14), .ref (q 15), .ref (q 16), .int (zI (i 13)), .int (zI (i 14)), .int (zI (i 15)), .int (zI (i 16)), .int (zI (i 17)), .int (zI (i 18)), .ref (q 17), .ref (q 18), .ref (q 19), .ref (q 20)])), ((q 1), .inl (cI, 8, .inl (fun k => zI (g_letters k))))]) (fun _ => rfl) (fun r53 u52 H locs hp54 hP hD hS => ?_)
                obtain ⟨z55, rfl, h_z55⟩ := hp54
                refine rz_ifb_ne (tgt := 142) F (by omega) dX9_mustName_67 (by decide) (fun h67_55 => ?_) (fun h67_55 => ?_)
                · have hq57 := h_z55.2 (by omega)
                  refine lv_iconst (v := zI 1) hx hb dX9_mustName_142 rfl ?_
                  refine lv_goto (tgt := 147) hx hb dX9_mustName_143 (by decide) ?_
                  exact j_147 1 _ _ (by omega) hP hD hS ls (lv_sub hl [0] rfl)
                · refine lv_aload_n hx hb dX9_mustName_70 rfl (lv_at hl 0 rfl) ?_
                  refine va_ldcS hx hb hown (hWd.2.2.2.2.2.2.2.1.2 _ _ hE).1 dX9_mustName_71 ?_
                  refine r_callVi (As := [.ref (sa 7)]) (rest := []) (wr := []) F hK hP hD hS hA hO hE (c_X9_isWord hO y q i hM g_letters hr_letters hWd.2.2.2.2.2.2.2.1) k_1322 kv_X9_isWord 1 rfl (by decide +kernel) ⟨Nat.le_of_ble_eq_true rfl, Nat.le_of_ble_eq_true rfl⟩ [0, 1] [] rfl rfl (by decide) (by decide) (by decide) 0 9 rfl rfl rfl hl.1 rfl (Nat.le_of_ble_eq_true rfl) dX9_mustName_73 ⟨Nat.le_of_ble_eq_true rfl, Nat.le_of_ble_eq_true rfl⟩ (w1 := fun u58 => [(y, .inr (9, [.int (zI (i 0)), .ref (q 0), .int (zI (i 1)), .int (zI (i 2)), .int (zI (i 3)), .int (zI (i 4)), .int (zI (i 5)), .int (zI (i 6)), .int (zI (i 7)), .int (zI (i 8)), .int (zI (i 9)), .int (zI (i 10)), .ref (q 1), .int (zI (i 11)), .int (zI (i 12)), .ref (q 2), .ref (q 3), .ref (q 4), .ref (q 5), .ref (q 6), .ref (q 7), .ref (q 8), .ref (q 9), .ref (q 10), .ref (q 11), .ref (q 12), .ref (q 13), .ref (q 14), .ref (q 15), .ref (q 16), .int (zI (i 13)), .int (zI (i 14)), .int (zI (i 15)), .int (zI (i 16)), .int (zI (i 17)), .int (zI (i 18)), .ref (q 17), .ref (q 18), .ref (q 19), .ref (q 20)])), ((q 1), .inl (cI, 8, .inl (fun k => zI (g_letters k))))]) (fun _ => rfl) (fun r59 u58 H locs hp60 hP hD hS => ?_)
                  obtain ⟨z61, rfl, h_z61⟩ := hp60
                  refine rz_ifb_ne (tgt := 142) F (by omega) dX9_mustName_76 (by decide) (fun h76_61 => ?_) (fun h76_61 => ?_)
                  · have hq63 := h_z61.2 (by omega)
                    refine lv_iconst (v := zI 1) hx hb dX9_mustName_142 rfl ?_
                    refine lv_goto (tgt := 147) hx hb dX9_mustName_143 (by decide) ?_
                    exact j_147 1 _ _ (by omega) hP hD hS ls (lv_sub hl [0] rfl)
                  · refine lv_aload_n hx hb dX9_mustName_79 rfl (lv_at hl 0 rfl) ?_
                    refine va_ldcS hx hb hown (hWd.2.2.2.2.2.2.2.2.1.2 _ _ hE).1 dX9_mustName_80 ?_
                    refine r_callVi (As := [.ref (sa 8)]) (rest := []) (wr := []) F hK hP hD hS hA hO hE (c_X9_isWord hO y q i hM g_letters hr_letters hWd.2.2.2.2.2.2.2.2.1) k_1322 kv_X9_isWord 1 rfl (by decide +kernel) ⟨Nat.le_of_ble_eq_true rfl, Nat.le_of_ble_eq_true rfl⟩ [0, 1] [] rfl rfl (by decide) (by decide) (by decide) 0 9 rfl rfl rfl hl.1 rfl (Nat.le_of_ble_eq_true rfl) dX9_mustName_82 ⟨Nat.le_of_ble_eq_true rfl, Nat.le_of_ble_eq_true rfl⟩ (w1 := fun u64 => [(y, .inr (9, [.int (zI (i 0)), .ref (q 0), .int (zI (i 1)), .int (zI (i 2)), .int (zI (i 3)), .int (zI (i 4)), .int (zI (i 5)), .int (zI (i 6)), .int (zI (i 7)), .int (zI (i 8)), .int (zI (i 9)), .int (zI (i 10)), .ref (q 1), .int (zI (i 11)), .int (zI (i 12)), .ref (q 2), .ref (q 3), .ref (q 4), .ref (q 5), .ref (q 6), .ref (q 7), .ref (q 8), .ref (q 9), .ref (q 10), .ref (q 11), .ref (q 12), .ref (q 13), .ref (q 14), .ref (q 15), .ref (q 16), .int (zI (i 13)), .int (zI (i 14)), .int (zI (i 15)), .int (zI (i 16)), .int (zI (i 17)), .int (zI (i 18)), .ref (q 17), .ref (q 18), .ref (q 19), .ref (q 20)])), ((q 1), .inl (cI, 8, .inl (fun k => zI (g_letters k))))]) (fun _ => rfl) (fun r65 u64 H locs hp66 hP hD hS => ?_)
                    obtain ⟨z67, rfl, h_z67⟩ := hp66
                    refine rz_ifb_ne (tgt := 142) F (by omega) dX9_mustName_85 (by decide) (fun h85_67 => ?_) (fun h85_67 => ?_)
                    · have hq69 := h_z67.2 (by omega)
                      refine lv_iconst (v := zI 1) hx hb dX9_mustName_142 rfl ?_
                      refine lv_goto (tgt := 147) hx hb dX9_mustName_143 (by decide) ?_
                      exact j_147 1 _ _ (by omega) hP hD hS ls (lv_sub hl [0] rfl)
                    · refine lv_aload_n hx hb dX9_mustName_88 rfl (lv_at hl 0 rfl) ?_
                      refine va_ldcS hx hb hown (hWd.2.2.2.2.2.2.2.2.2.1.2 _ _ hE).1 dX9_mustName_89 ?_
                      refine r_callVi (As := [.ref (sa 9)]) (rest := []) (wr := []) F hK hP hD hS hA hO hE (c_X9_isWord hO y q i hM g_letters hr_letters hWd.2.2.2.2.2.2.2.2.2.1) k_1322 kv_X9_isWord 1 rfl (by decide +kernel) ⟨Nat.le_of_ble_eq_true rfl, Nat.le_of_ble_eq_true rfl⟩ [0, 1] [] rfl rfl (by decide) (by decide) (by decide) 0 9 rfl rfl rfl hl.1 rfl (Nat.le_of_ble_eq_true rfl) dX9_mustName_91 ⟨Nat.le_of_ble_eq_true rfl, Nat.le_of_ble_eq_true rfl⟩ (w1 := fun u70 => [(y, .inr (9, [.int (zI (i 0)), .ref (q 0), .int (zI (i 1)), .int (zI (i 2)), .int (zI (i 3)), .int (zI (i 4)), .int (zI (i 5)), .int (zI (i 6)), .int (zI (i 7)), .int (zI (i 8)), .int (zI (i 9)), .int (zI (i 10)), .ref (q 1), .int (zI (i 11)), .int (zI (i 12)), .ref (q 2), .ref (q 3), .ref (q 4), .ref (q 5), .ref (q 6), .ref (q 7), .ref (q 8), .ref (q 9), .ref (q 10), .ref (q 11), .ref (q 12), .ref (q 13), .ref (q 14), .ref (q 15), .ref (q 16), .int (zI (i 13)), .int (zI (i 14)), .int (zI (i 15)), .int (zI (i 16)), .int (zI (i 17)), .int (zI (i 18)), .ref (q 17), .ref (q 18), .ref (q 19), .ref (q 20)])), ((q 1), .inl (cI, 8, .inl (fun k => zI (g_letters k))))]) (fun _ => rfl) (fun r71 u70 H locs hp72 hP hD hS => ?_)
                      obtain ⟨z73, rfl, h_z73⟩ := hp72
                      refine rz_ifb_ne (tgt := 142) F (by omega) dX9_mustName_94 (by decide) (fun h94_73 => ?_) (fun h94_73 => ?_)
                      · have hq75 := h_z73.2 (by omega)
                        refine lv_iconst (v := zI 1) hx hb dX9_mustName_142 rfl ?_
                        refine lv_goto (tgt := 147) hx hb dX9_mustName_143 (by decide) ?_
                        exact j_147 1 _ _ (by omega) hP hD hS ls (lv_sub hl [0] rfl)
                      · refine lv_aload_n hx hb dX9_mustName_97 rfl (lv_at hl 0 rfl) ?_
                        refine va_ldcS hx hb hown (hWd.2.2.2.2.2.2.2.2.2.2.1.2 _ _ hE).1 dX9_mustName_98 ?_
                        refine r_callVi (As := [.ref (sa 10)]) (rest := []) (wr := []) F hK hP hD hS hA hO hE (c_X9_isWord hO y q i hM g_letters hr_letters hWd.2.2.2.2.2.2.2.2.2.2.1) k_1322 kv_X9_isWord 1 rfl (by decide +kernel) ⟨Nat.le_of_ble_eq_true rfl, Nat.le_of_ble_eq_true rfl⟩ [0, 1] [] rfl rfl (by decide) (by decide) (by decide) 0 9 rfl rfl rfl hl.1 rfl (Nat.le_of_ble_eq_true rfl) dX9_mustName_100 ⟨Nat.le_of_ble_eq_true rfl, Nat.le_of_ble_eq_true rfl⟩ (w1 := fun u76 => [(y, .inr (9, [.int (zI (i 0)), .ref (q 0), .int (zI (i 1)), .int (zI (i 2)), .int (zI (i 3)), .int (zI (i 4)), .int (zI (i 5)), .int (zI (i 6)), .int (zI (i 7)), .int (zI (i 8)), .int (zI (i 9)), .int (zI (i 10)), .ref (q 1), .int (zI (i 11)), .int (zI (i 12)), .ref (q 2), .ref (q 3), .ref (q 4), .ref (q 5), .ref (q 6), .ref (q 7), .ref (q 8), .ref (q 9), .ref (q 10), .ref (q 11), .ref (q 12), .ref (q 13), .ref (q 14), .ref (q 15), .ref (q 16), .int (zI (i 13)), .int (zI (i 14)), .int (zI (i 15)), .int (zI (i 16)), .int (zI (i 17)), .int (zI (i 18)), .ref (q 17), .ref (q 18), .ref (q 19), .ref (q 20)])), ((q 1), .inl (cI, 8, .inl (fun k => zI (g_letters k))))]) (fun _ => rfl) (fun r77 u76 H locs hp78 hP hD hS => ?_)
                        obtain ⟨z79, rfl, h_z79⟩ := hp78
                        refine rz_ifb_ne (tgt := 142) F (by omega) dX9_mustName_103 (by decide) (fun h103_79 => ?_) (fun h103_79 => ?_)
                        · have hq81 := h_z79.2 (by omega)
                          refine lv_iconst (v := zI 1) hx hb dX9_mustName_142 rfl ?_
                          refine lv_goto (tgt := 147) hx hb dX9_mustName_143 (by decide) ?_
                          exact j_147 1 _ _ (by omega) hP hD hS ls (lv_sub hl [0] rfl)
                        · refine lv_aload_n hx hb dX9_mustName_106 rfl (lv_at hl 0 rfl) ?_
                          refine va_ldcS hx hb hown (hWd.2.2.2.2.2.2.2.2.2.2.2.1.2 _ _ hE).1 dX9_mustName_107 ?_
                          refine r_callVi (As := [.ref (sa 11)]) (rest := []) (wr := []) F hK hP hD hS hA hO hE (c_X9_isWord hO y q i hM g_letters hr_letters hWd.2.2.2.2.2.2.2.2.2.2.2.1) k_1322 kv_X9_isWord 1 rfl (by decide +kernel) ⟨Nat.le_of_ble_eq_true rfl, Nat.le_of_ble_eq_true rfl⟩ [0, 1] [] rfl rfl (by decide) (by decide) (by decide) 0 9 rfl rfl rfl hl.1 rfl (Nat.le_of_ble_eq_true rfl) dX9_mustName_109 ⟨Nat.le_of_ble_eq_true rfl, Nat.le_of_ble_eq_true rfl⟩ (w1 := fun u82 => [(y, .inr (9, [.int (zI (i 0)), .ref (q 0), .int (zI (i 1)), .int (zI (i 2)), .int (zI (i 3)), .int (zI (i 4)), .int (zI (i 5)), .int (zI (i 6)), .int (zI (i 7)), .int (zI (i 8)), .int (zI (i 9)), .int (zI (i 10)), .ref (q 1), .int (zI (i 11)), .int (zI (i 12)), .ref (q 2), .ref (q 3), .ref (q 4), .ref (q 5), .ref (q 6), .ref (q 7), .ref (q 8), .ref (q 9), .ref (q 10), .ref (q 11), .ref (q 12), .ref (q 13), .ref (q 14), .ref (q 15), .ref (q 16), .int (zI (i 13)), .int (zI (i 14)), .int (zI (i 15)), .int (zI (i 16)), .int (zI (i 17)), .int (zI (i 18)), .ref (q 17), .ref (q 18), .ref (q 19), .ref (q 20)])), ((q 1), .inl (cI, 8, .inl (fun k => zI (g_letters k))))]) (fun _ => rfl) (fun r83 u82 H locs hp84 hP hD hS => ?_)
                          obtain ⟨z85, rfl, h_z85⟩ := hp84
                          refine rz_ifb_ne (tgt := 142) F (by omega) dX9_mustName_112 (by decide) (fun h112_85 => ?_) (fun h112_85 => ?_)
                          · have hq87 := h_z85.2 (by omega)
                            refine lv_iconst (v := zI 1) hx hb dX9_mustName_142 rfl ?_
                            refine lv_goto (tgt := 147) hx hb dX9_mustName_143 (by decide) ?_
                            exact j_147 1 _ _ (by omega) hP hD hS ls (lv_sub hl [0] rfl)
                          · refine lv_aload_n hx hb dX9_mustName_115 rfl (lv_at hl 0 rfl) ?_
                            refine va_ldcS hx hb hown (hWd.2.2.2.2.2.2.2.2.2.2.2.2.1.2 _ _ hE).1 dX9_mustName_116 ?_
                            refine r_callVi (As := [.ref (sa 12)]) (rest := []) (wr := []) F hK hP hD hS hA hO hE (c_X9_isWord hO y q i hM g_letters hr_letters hWd.2.2.2.2.2.2.2.2.2.2.2.2.1) k_1322 kv_X9_isWord 1 rfl (by decide +kernel) ⟨Nat.le_of_ble_eq_true rfl, Nat.le_of_ble_eq_true rfl⟩ [0, 1] [] rfl rfl (by decide) (by decide) (by decide) 0 9 rfl rfl rfl hl.1 rfl (Nat.le_of_ble_eq_true rfl) dX9_mustName_118 ⟨Nat.le_of_ble_eq_true rfl, Nat.le_of_ble_eq_true rfl⟩ (w1 := fun u88 => [(y, .inr (9, [.int (zI (i 0)), .ref (q 0), .int (zI (i 1)), .int (zI (i 2)), .int (zI (i 3)), .int (zI (i 4)), .int (zI (i 5)), .int (zI (i 6)), .int (zI (i 7)), .int (zI (i 8)), .int (zI (i 9)), .int (zI (i 10)), .ref (q 1), .int (zI (i 11)), .int (zI (i 12)), .ref (q 2), .ref (q 3), .ref (q 4), .ref (q 5), .ref (q 6), .ref (q 7), .ref (q 8), .ref (q 9), .ref (q 10), .ref (q 11), .ref (q 12), .ref (q 13), .ref (q 14), .ref (q 15), .ref (q 16), .int (zI (i 13)), .int (zI (i 14)), .int (zI (i 15)), .int (zI (i 16)), .int (zI (i 17)), .int (zI (i 18)), .ref (q 17), .ref (q 18), .ref (q 19), .ref (q 20)])), ((q 1), .inl (cI, 8, .inl (fun k => zI (g_letters k))))]) (fun _ => rfl) (fun r89 u88 H locs hp90 hP hD hS => ?_)
                            obtain ⟨z91, rfl, h_z91⟩ := hp90
                            refine rz_ifb_ne (tgt := 142) F (by omega) dX9_mustName_121 (by decide) (fun h121_91 => ?_) (fun h121_91 => ?_)
                            · have hq93 := h_z91.2 (by omega)
                              refine lv_iconst (v := zI 1) hx hb dX9_mustName_142 rfl ?_
                              refine lv_goto (tgt := 147) hx hb dX9_mustName_143 (by decide) ?_
                              exact j_147 1 _ _ (by omega) hP hD hS ls (lv_sub hl [0] rfl)
                            · refine lv_aload_n hx hb dX9_mustName_124 rfl (lv_at hl 0 rfl) ?_
                              refine va_ldcS hx hb hown (hWd.2.2.2.2.2.2.2.2.2.2.2.2.2.1.2 _ _ hE).1 dX9_mustName_125 ?_
                              refine r_callVi (As := [.ref (sa 13)]) (rest := []) (wr := []) F hK hP hD hS hA hO hE (c_X9_isWord hO y q i hM g_letters hr_letters hWd.2.2.2.2.2.2.2.2.2.2.2.2.2.1) k_1322 kv_X9_isWord 1 rfl (by decide +kernel) ⟨Nat.le_of_ble_eq_true rfl, Nat.le_of_ble_eq_true rfl⟩ [0, 1] [] rfl rfl (by decide) (by decide) (by decide) 0 9 rfl rfl rfl hl.1 rfl (Nat.le_of_ble_eq_true rfl) dX9_mustName_127 ⟨Nat.le_of_ble_eq_true rfl, Nat.le_of_ble_eq_true rfl⟩ (w1 := fun u94 => [(y, .inr (9, [.int (zI (i 0)), .ref (q 0), .int (zI (i 1)), .int (zI (i 2)), .int (zI (i 3)), .int (zI (i 4)), .int (zI (i 5)), .int (zI (i 6)), .int (zI (i 7)), .int (zI (i 8)), .int (zI (i 9)), .int (zI (i 10)), .ref (q 1), .int (zI (i 11)), .int (zI (i 12)), .ref (q 2), .ref (q 3), .ref (q 4), .ref (q 5), .ref (q 6), .ref (q 7), .ref (q 8), .ref (q 9), .ref (q 10), .ref (q 11), .ref (q 12), .ref (q 13), .ref (q 14), .ref (q 15), .ref (q 16), .int (zI (i 13)), .int (zI (i 14)), .int (zI (i 15)), .int (zI (i 16)), .int (zI (i 17)), .int (zI (i 18)), .ref (q 17), .ref (q 18), .ref (q 19), .ref (q 20)])), ((q 1), .inl (cI, 8, .inl (fun k => zI (g_letters k))))]) (fun _ => rfl) (fun r95 u94 H locs hp96 hP hD hS => ?_)
                              obtain ⟨z97, rfl, h_z97⟩ := hp96
                              refine rz_ifb_ne (tgt := 142) F (by omega) dX9_mustName_130 (by decide) (fun h130_97 => ?_) (fun h130_97 => ?_)
                              · have hq99 := h_z97.2 (by omega)
                                refine lv_iconst (v := zI 1) hx hb dX9_mustName_142 rfl ?_
                                refine lv_goto (tgt := 147) hx hb dX9_mustName_143 (by decide) ?_
                                exact j_147 1 _ _ (by omega) hP hD hS ls (lv_sub hl [0] rfl)
                              · refine lv_aload_n hx hb dX9_mustName_133 rfl (lv_at hl 0 rfl) ?_
                                refine va_ldcS hx hb hown (hWd.2.2.2.2.2.2.2.2.2.2.2.2.2.2.2 _ _ hE).1 dX9_mustName_134 ?_
                                refine r_callVi (As := [.ref (sa 14)]) (rest := []) (wr := []) F hK hP hD hS hA hO hE (c_X9_isWord hO y q i hM g_letters hr_letters hWd.2.2.2.2.2.2.2.2.2.2.2.2.2.2) k_1322 kv_X9_isWord 1 rfl (by decide +kernel) ⟨Nat.le_of_ble_eq_true rfl, Nat.le_of_ble_eq_true rfl⟩ [0, 1] [] rfl rfl (by decide) (by decide) (by decide) 0 9 rfl rfl rfl hl.1 rfl (Nat.le_of_ble_eq_true rfl) dX9_mustName_136 ⟨Nat.le_of_ble_eq_true rfl, Nat.le_of_ble_eq_true rfl⟩ (w1 := fun u100 => [(y, .inr (9, [.int (zI (i 0)), .ref (q 0), .int (zI (i 1)), .int (zI (i 2)), .int (zI (i 3)), .int (zI (i 4)), .int (zI (i 5)), .int (zI (i 6)), .int (zI (i 7)), .int (zI (i 8)), .int (zI (i 9)), .int (zI (i 10)), .ref (q 1), .int (zI (i 11)), .int (zI (i 12)), .ref (q 2), .ref (q 3), .ref (q 4), .ref (q 5), .ref (q 6), .ref (q 7), .ref (q 8), .ref (q 9), .ref (q 10), .ref (q 11), .ref (q 12), .ref (q 13), .ref (q 14), .ref (q 15), .ref (q 16), .int (zI (i 13)), .int (zI (i 14)), .int (zI (i 15)), .int (zI (i 16)), .int (zI (i 17)), .int (zI (i 18)), .ref (q 17), .ref (q 18), .ref (q 19), .ref (q 20)])), ((q 1), .inl (cI, 8, .inl (fun k => zI (g_letters k))))]) (fun _ => rfl) (fun r101 u100 H locs hp102 hP hD hS => ?_)
                                obtain ⟨z103, rfl, h_z103⟩ := hp102
                                refine rz_ifb_eq (tgt := 146) F (by omega) dX9_mustName_139 (by decide) (fun h139_103 => ?_) (fun h139_103 => ?_)
                                · refine lv_iconst (v := zI 0) hx hb dX9_mustName_146 rfl ?_
                                  exact j_147 0 _ _ (by omega) hP hD hS ls (lv_sub hl [0] rfl)
                                · have hq105 := h_z103.2 (by omega)
                                  refine lv_iconst (v := zI 1) hx hb dX9_mustName_142 rfl ?_
                                  refine lv_goto (tgt := 147) hx hb dX9_mustName_143 (by decide) ?_
                                  exact j_147 1 _ _ (by omega) hP hD hS ls (lv_sub hl [0] rfl)
theorem dX9_find_0 : decode cX9_find 0 = .ok (.iconst 0, 1) := by decide +kernel
theorem dX9_find_1 : decode cX9_find 1 = .ok (.istore_n 1, 1) := by decide +kernel
theorem dX9_find_2 : decode cX9_find 2 = .ok (.iload_n 1, 1) := by decide +kernel
theorem dX9_find_3 : decode cX9_find 3 = .ok (.aload_n 0, 1) := by decide +kernel
theorem dX9_find_4 : decode cX9_find 4 = .ok (.getfield 182, 3) := by decide +kernel
theorem k_1194 : Cond.fieldLink RX9 182 "BurntWaysModel" "newLines" "I" ∈ bw_T := bw_m 1194 (by decide +kernel) rfl
theorem dX9_find_7 : decode cX9_find 7 = .ok (.if_icmp .ge 80, 3) := by decide +kernel
theorem dX9_find_87 : decode cX9_find 87 = .ok (.iconst (-1), 1) := by decide +kernel
theorem dX9_find_88 : decode cX9_find 88 = .ok (.ireturn, 1) := by decide +kernel
theorem dX9_find_10 : decode cX9_find 10 = .ok (.aload_n 0, 1) := by decide +kernel
theorem dX9_find_11 : decode cX9_find 11 = .ok (.getfield 44, 3) := by decide +kernel
theorem k_1186 : Cond.fieldLink RX9 44 "BurntWaysModel" "newSizes" "[I" ∈ bw_T := bw_m 1186 (by decide +kernel) rfl
theorem dX9_find_14 : decode cX9_find 14 = .ok (.iload_n 1, 1) := by decide +kernel
theorem dX9_find_15 : decode cX9_find 15 = .ok (.iaload, 1) := by decide +kernel
theorem dX9_find_16 : decode cX9_find 16 = .ok (.aload_n 0, 1) := by decide +kernel
theorem dX9_find_17 : decode cX9_find 17 = .ok (.getfield 99, 3) := by decide +kernel
theorem dX9_find_20 : decode cX9_find 20 = .ok (.if_icmp .ne 7, 3) := by decide +kernel
theorem dX9_find_27 : decode cX9_find 27 = .ok (.iconst 0, 1) := by decide +kernel
theorem dX9_find_28 : decode cX9_find 28 = .ok (.istore_n 2, 1) := by decide +kernel
theorem dX9_find_29 : decode cX9_find 29 = .ok (.iconst 0, 1) := by decide +kernel
theorem dX9_find_30 : decode cX9_find 30 = .ok (.istore_n 3, 1) := by decide +kernel
theorem dX9_find_31 : decode cX9_find 31 = .ok (.iload_n 3, 1) := by decide +kernel
theorem dX9_find_32 : decode cX9_find 32 = .ok (.aload_n 0, 1) := by decide +kernel
theorem dX9_find_33 : decode cX9_find 33 = .ok (.getfield 99, 3) := by decide +kernel
theorem dX9_find_36 : decode cX9_find 36 = .ok (.if_icmp .ge 39, 3) := by decide +kernel
theorem dX9_find_75 : decode cX9_find 75 = .ok (.iload_n 2, 1) := by decide +kernel
theorem dX9_find_76 : decode cX9_find 76 = .ok (.ifCond .eq 5, 3) := by decide +kernel
theorem dX9_find_81 : decode cX9_find 81 = .ok (.iinc 1 1, 3) := by decide +kernel
theorem dX9_find_84 : decode cX9_find 84 = .ok (.goto (-82), 3) := by decide +kernel
theorem dX9_find_79 : decode cX9_find 79 = .ok (.iload_n 1, 1) := by decide +kernel
theorem dX9_find_80 : decode cX9_find 80 = .ok (.ireturn, 1) := by decide +kernel
theorem dX9_find_39 : decode cX9_find 39 = .ok (.iload_n 2, 1) := by decide +kernel
theorem dX9_find_40 : decode cX9_find 40 = .ok (.ifCond .eq 35, 3) := by decide +kernel
theorem dX9_find_43 : decode cX9_find 43 = .ok (.aload_n 0, 1) := by decide +kernel
theorem dX9_find_44 : decode cX9_find 44 = .ok (.getfield 41, 3) := by decide +kernel
theorem k_1185 : Cond.fieldLink RX9 41 "BurntWaysModel" "newNames" "[I" ∈ bw_T := bw_m 1185 (by decide +kernel) rfl
theorem dX9_find_47 : decode cX9_find 47 = .ok (.bipush 8, 2) := by decide +kernel
theorem dX9_find_49 : decode cX9_find 49 = .ok (.iload_n 1, 1) := by decide +kernel
theorem dX9_find_50 : decode cX9_find 50 = .ok (.imul, 1) := by decide +kernel
theorem dX9_find_51 : decode cX9_find 51 = .ok (.iload_n 3, 1) := by decide +kernel
theorem dX9_find_52 : decode cX9_find 52 = .ok (.iadd, 1) := by decide +kernel
theorem dX9_find_53 : decode cX9_find 53 = .ok (.iaload, 1) := by decide +kernel
theorem dX9_find_54 : decode cX9_find 54 = .ok (.aload_n 0, 1) := by decide +kernel
theorem dX9_find_55 : decode cX9_find 55 = .ok (.getfield 17, 3) := by decide +kernel
theorem dX9_find_58 : decode cX9_find 58 = .ok (.iload_n 3, 1) := by decide +kernel
theorem dX9_find_59 : decode cX9_find 59 = .ok (.iaload, 1) := by decide +kernel
theorem dX9_find_60 : decode cX9_find 60 = .ok (.if_icmp .ne 7, 3) := by decide +kernel
theorem dX9_find_67 : decode cX9_find 67 = .ok (.iconst 0, 1) := by decide +kernel
theorem dX9_find_68 : decode cX9_find 68 = .ok (.istore_n 2, 1) := by decide +kernel
theorem dX9_find_69 : decode cX9_find 69 = .ok (.iinc 3 1, 3) := by decide +kernel
theorem dX9_find_72 : decode cX9_find 72 = .ok (.goto (-41), 3) := by decide +kernel
theorem dX9_find_63 : decode cX9_find 63 = .ok (.iconst 1, 1) := by decide +kernel
theorem dX9_find_64 : decode cX9_find 64 = .ok (.goto 4, 3) := by decide +kernel
theorem dX9_find_23 : decode cX9_find 23 = .ok (.iconst 1, 1) := by decide +kernel
theorem dX9_find_24 : decode cX9_find 24 = .ok (.goto 4, 3) := by decide +kernel
abbrev rm_X9_find : Room := { frames := 0, cells := 0, slots := 0, locals := 0 }
set_option maxRecDepth 100000 in
set_option maxHeartbeats 8000000 in
theorem c_X9_find {l : Launch} {E : (Nat → Prop) → State → Prop} (hO : bw_Ok E) {G : va_G} {cI cB cJ cN cW : ClassId} (y : Nat) (q : Nat → Nat) (i : Nat → Int) (hM : ModOk i) (g_letters : Nat → Int) (hr_letters : ∀ k, k < 8 → (-2147483648) ≤ g_letters k ∧ g_letters k ≤ 2147483647) (g_newNames : Nat → Int) (g_newSizes : Nat → Int) (hn9 : i 7 ≤ 8) : bw_Ci (S := zV) l yX9_find (bw_ws (Cond.code yX9_find cX9_find 4 (some .int))) rm_X9_find E G (bw_kt cI cB cJ cN cW) [.ref y] [(y, .inr (9, [.int (zI (i 0)), .ref (q 0), .int (zI (i 1)), .int (zI (i 2)), .int (zI (i 3)), .int (zI (i 4)), .int (zI (i 5)), .int (zI (i 6)), .int (zI (i 7)), .int (zI (i 8)), .int (zI (i 9)), .int (zI (i 10)), .ref (q 1), .int (zI (i 11)), .int (zI (i 12)), .ref (q 2), .ref (q 3), .ref (q 4), .ref (q 5), .ref (q 6), .ref (q 7), .ref (q 8), .ref (q 9), .ref (q 10), .ref (q 11), .ref (q 12), .ref (q 13), .ref (q 14), .ref (q 15), .ref (q 16), .int (zI (i 13)), .int (zI (i 14)), .int (zI (i 15)), .int (zI (i 16)), .int (zI (i 17)), .int (zI (i 18)), .ref (q 17), .ref (q 18), .ref (q 19), .ref (q 20)])), ((q 1), .inl (cI, 8, .inl (fun k => zI (g_letters k)))), ((q 9), .inl (cI, 80, .inl (fun k => zI (g_newNames k)))), ((q 10), .inl (cI, 10, .inl (fun k => zI (g_newSizes k))))] (fun r u => ∃ z : Int, r = zI z ∧ ((-1 ≤ z ∧ z < i 14))) (fun u => [(y, .inr (9, [.int (zI (i 0)), .ref (q 0), .int (zI (i 1)), .int (zI (i 2)), .int (zI (i 3)), .int (zI (i 4)), .int (zI (i 5)), .int (zI (i 6)), .int (zI (i 7)), .int (zI (i 8)), .int (zI (i 9)), .int (zI (i 10)), .ref (q 1), .int (zI (i 11)), .int (zI (i 12)), .ref (q 2), .ref (q 3), .ref (q 4), .ref (q 5), .ref (q 6), .ref (q 7), .ref (q 8), .ref (q 9), .ref (q 10), .ref (q 11), .ref (q 12), .ref (q 13), .ref (q 14), .ref (q 15), .ref (q 16), .int (zI (i 13)), .int (zI (i 14)), .int (zI (i 15)), .int (zI (i 16)), .int (zI (i 17)), .int (zI (i 18)), .ref (q 17), .ref (q 18), .ref (q 19), .ref (q 20)])), ((q 1), .inl (cI, 8, .inl (fun k => zI (g_letters k)))), ((q 9), .inl (cI, 80, .inl (fun k => zI (g_newNames k)))), ((q 10), .inl (cI, 10, .inl (fun k => zI (g_newSizes k))))]) := by
  refine bw_Ci.of (cc := cX9_find) (maxL := 4) (ty := .int) (by decide) rfl (Nat.le_of_ble_eq_true rfl) ?_
  intro p e s m below meth c A Q hx hb hml hts hown hin hK hA hS hP hD hE ret ls hl
  have F : CallFix p m c cX9_find 4 s ([.ref y] : List Value).toArray bw_T RX9 := ⟨hx, hb, hml, hown, fun w h => hts w (List.mem_cons_of_mem _ h)⟩
  replace hl : lv_has ls 4 [(0, .ref y)] := hl
  have hf1 := hM.1.1
  refine lv_iconst (v := zI 0) hx hb dX9_find_0 rfl ?_
  refine lv_istore_n (lv' := [(1, .int (zI 0)), (0, .ref y)]) hx hb dX9_find_1 rfl hl (by decide) rfl (fun ls hl => ?_)
  refine W.widen (k := 0) (n := 0) (Nat.le_of_ble_eq_true rfl) (Nat.le_of_ble_eq_true rfl) ?_
  refine (?_ : ∀ (n9_1 : Nat) (v1 : Int) (H : Heap) (locs : List Loc), (0 ≤ v1 ∧ v1 ≤ i 14) → (i 14 - v1 : Int).toNat < n9_1 → va_P G vwCl [(y, .inr (9, [.int (zI (i 0)), .ref (q 0), .int (zI (i 1)), .int (zI (i 2)), .int (zI (i 3)), .int (zI (i 4)), .int (zI (i 5)), .int (zI (i 6)), .int (zI (i 7)), .int (zI (i 8)), .int (zI (i 9)), .int (zI (i 10)), .ref (q 1), .int (zI (i 11)), .int (zI (i 12)), .ref (q 2), .ref (q 3), .ref (q 4), .ref (q 5), .ref (q 6), .ref (q 7), .ref (q 8), .ref (q 9), .ref (q 10), .ref (q 11), .ref (q 12), .ref (q 13), .ref (q 14), .ref (q 15), .ref (q 16), .int (zI (i 13)), .int (zI (i 14)), .int (zI (i 15)), .int (zI (i 16)), .int (zI (i 17)), .int (zI (i 18)), .ref (q 17), .ref (q 18), .ref (q 19), .ref (q 20)])), ((q 1), .inl (cI, 8, .inl (fun k => zI (g_letters k)))), ((q 9), .inl (cI, 80, .inl (fun k => zI (g_newNames k)))), ((q 10), .inl (cI, 10, .inl (fun k => zI (g_newSizes k))))] H → va_D A [(y, .inr (9, [.int (zI (i 0)), .ref (q 0), .int (zI (i 1)), .int (zI (i 2)), .int (zI (i 3)), .int (zI (i 4)), .int (zI (i 5)), .int (zI (i 6)), .int (zI (i 7)), .int (zI (i 8)), .int (zI (i 9)), .int (zI (i 10)), .ref (q 1), .int (zI (i 11)), .int (zI (i 12)), .ref (q 2), .ref (q 3), .ref (q 4), .ref (q 5), .ref (q 6), .ref (q 7), .ref (q 8), .ref (q 9), .ref (q 10), .ref (q 11), .ref (q 12), .ref (q 13), .ref (q 14), .ref (q 15), .ref (q 16), .int (zI (i 13)), .int (zI (i 14)), .int (zI (i 15)), .int (zI (i 16)), .int (zI (i 17)), .int (zI (i 18)), .ref (q 17), .ref (q 18), .ref (q 19), .ref (q 20)])), ((q 1), .inl (cI, 8, .inl (fun k => zI (g_letters k)))), ((q 9), .inl (cI, 80, .inl (fun k => zI (g_newNames k)))), ((q 10), .inl (cI, 10, .inl (fun k => zI (g_newSizes k))))] → va_S A s.heap H locs → ∀ ls : Array Slot, lv_has ls 4 [(1, .int (zI v1)), (0, .ref y)] → W p l e rm_X9_find s m ([.ref y] : List Value).toArray below meth c H locs 0 0 Q (F0 m 2 ls [])) ((i 14 - 0 : Int).toNat + 1) 0 _ _ (by omega) (by omega) hP hD hS ls hl
  clear hP hD hS hl ls
  intro n9_1
  induction n9_1 with
  | zero =>
    intro v1 H locs hI hM
    exact absurd hM (by omega)
  | succ n9_1 ih1 =>
    intro v1 H locs hI1 hM1  hP hD hS ls hl
    refine lv_iload_n hx hb dX9_find_2 rfl (lv_at hl 0 rfl) ?_
    refine lv_aload_n hx hb dX9_find_3 rfl (lv_at hl 1 rfl) ?_
    refine r_get F hK hP 0 31 rfl rfl in_X9 (by decide) k_1194 rfl dX9_find_4 ?_
    refine rz_icmp_ge (tgt := 87) F (by omega) (by omega) dX9_find_7 (by decide) (fun h7_1 => ?_) (fun h7_1 => ?_)
    · refine lv_iconst (v := zI (-1)) hx hb dX9_find_87 rfl ?_
      exact ret (zI (-1)) (fun k => [((fun _ => 0), fun _ _ => 0)].getD k (fun _ => 0, fun _ _ => 0)) _ _ _ _ _ _ rfl ⟨(-1), rfl, (show -1 ≤ ((-1) : Int) ∧ ((-1) : Int) < i 14 from by omega)⟩ (bw_subP (isC := [0, 1, 2, 3]) hP rfl) (hD.sub [0, 1, 2, 3] (by decide) rfl) hS (Nat.le_of_ble_eq_true rfl) (Nat.le_of_ble_eq_true rfl) dX9_find_88
    · refine lv_aload_n hx hb dX9_find_10 rfl (lv_at hl 1 rfl) ?_
      refine r_get F hK hP 0 23 rfl rfl in_X9 (by decide) k_1186 rfl dX9_find_11 ?_
      refine lv_iload_n hx hb dX9_find_14 rfl (lv_at hl 0 rfl) ?_
      refine rz_iald F hK hP 3 0 rfl rfl (by omega) (by omega) dX9_find_15 ?_
      refine rz_top (fun z3 h_z3 => ?_)
      refine lv_aload_n hx hb dX9_find_16 rfl (lv_at hl 1 rfl) ?_
      refine r_get F hK hP 0 8 rfl rfl in_X9 (by decide) k_1171 rfl dX9_find_17 ?_
      refine rz_icmp_ne (tgt := 27) F (by omega) (by omega) dX9_find_20 (by decide) (fun h20_3 => ?_) (fun h20_3 => ?_)
      · refine lv_iconst (v := zI 0) hx hb dX9_find_27 rfl ?_
        refine lv_istore_n (lv' := [(2, .int (zI 0)), (1, .int (zI v1)), (0, .ref y)]) hx hb dX9_find_28 rfl hl (by decide) rfl (fun ls hl => ?_)
        refine lv_iconst (v := zI 0) hx hb dX9_find_29 rfl ?_
        refine lv_istore_n (lv' := [(3, .int (zI 0)), (2, .int (zI 0)), (1, .int (zI v1)), (0, .ref y)]) hx hb dX9_find_30 rfl hl (by decide) rfl (fun ls hl => ?_)
        refine W.widen (k := 0) (n := 0) (Nat.le_of_ble_eq_true rfl) (Nat.le_of_ble_eq_true rfl) ?_
        refine (?_ : ∀ (n9_2 : Nat) (v2 : Int) (v3 : Int) (H : Heap) (locs : List Loc), (0 ≤ v3 ∧ v3 ≤ 8 ∧ 0 ≤ v2 ∧ v2 ≤ 1) → (8 - v3 : Int).toNat < n9_2 → va_P G vwCl [(y, .inr (9, [.int (zI (i 0)), .ref (q 0), .int (zI (i 1)), .int (zI (i 2)), .int (zI (i 3)), .int (zI (i 4)), .int (zI (i 5)), .int (zI (i 6)), .int (zI (i 7)), .int (zI (i 8)), .int (zI (i 9)), .int (zI (i 10)), .ref (q 1), .int (zI (i 11)), .int (zI (i 12)), .ref (q 2), .ref (q 3), .ref (q 4), .ref (q 5), .ref (q 6), .ref (q 7), .ref (q 8), .ref (q 9), .ref (q 10), .ref (q 11), .ref (q 12), .ref (q 13), .ref (q 14), .ref (q 15), .ref (q 16), .int (zI (i 13)), .int (zI (i 14)), .int (zI (i 15)), .int (zI (i 16)), .int (zI (i 17)), .int (zI (i 18)), .ref (q 17), .ref (q 18), .ref (q 19), .ref (q 20)])), ((q 1), .inl (cI, 8, .inl (fun k => zI (g_letters k)))), ((q 9), .inl (cI, 80, .inl (fun k => zI (g_newNames k)))), ((q 10), .inl (cI, 10, .inl (fun k => zI (g_newSizes k))))] H → va_D A [(y, .inr (9, [.int (zI (i 0)), .ref (q 0), .int (zI (i 1)), .int (zI (i 2)), .int (zI (i 3)), .int (zI (i 4)), .int (zI (i 5)), .int (zI (i 6)), .int (zI (i 7)), .int (zI (i 8)), .int (zI (i 9)), .int (zI (i 10)), .ref (q 1), .int (zI (i 11)), .int (zI (i 12)), .ref (q 2), .ref (q 3), .ref (q 4), .ref (q 5), .ref (q 6), .ref (q 7), .ref (q 8), .ref (q 9), .ref (q 10), .ref (q 11), .ref (q 12), .ref (q 13), .ref (q 14), .ref (q 15), .ref (q 16), .int (zI (i 13)), .int (zI (i 14)), .int (zI (i 15)), .int (zI (i 16)), .int (zI (i 17)), .int (zI (i 18)), .ref (q 17), .ref (q 18), .ref (q 19), .ref (q 20)])), ((q 1), .inl (cI, 8, .inl (fun k => zI (g_letters k)))), ((q 9), .inl (cI, 80, .inl (fun k => zI (g_newNames k)))), ((q 10), .inl (cI, 10, .inl (fun k => zI (g_newSizes k))))] → va_S A s.heap H locs → ∀ ls : Array Slot, lv_has ls 4 [(3, .int (zI v3)), (2, .int (zI v2)), (1, .int (zI v1)), (0, .ref y)] → W p l e rm_X9_find s m ([.ref y] : List Value).toArray below meth c H locs 0 0 Q (F0 m 31 ls [])) ((8 - 0 : Int).toNat + 1) 0 0 _ _ (by omega) (by omega) hP hD hS ls hl
        clear hP hD hS hl ls
        intro n9_2
        induction n9_2 with
        | zero =>
          intro v2 v3 H locs hI hM
          exact absurd hM (by omega)
        | succ n9_2 ih2 =>
          intro v2 v3 H locs hI2 hM2  hP hD hS ls hl
          refine lv_iload_n hx hb dX9_find_31 rfl (lv_at hl 0 rfl) ?_
          refine lv_aload_n hx hb dX9_find_32 rfl (lv_at hl 3 rfl) ?_
          refine r_get F hK hP 0 8 rfl rfl in_X9 (by decide) k_1171 rfl dX9_find_33 ?_
          refine rz_icmp_ge (tgt := 75) F (by omega) (by omega) dX9_find_36 (by decide) (fun h36_4 => ?_) (fun h36_4 => ?_)
          · refine lv_iload_n hx hb dX9_find_75 rfl (lv_at hl 1 rfl) ?_
            refine rz_if_eq (tgt := 81) F (by omega) dX9_find_76 (by decide) (fun h76_5 => ?_) (fun h76_5 => ?_)
            · refine lv_iinc (v := zI (v1 + 1)) (lv' := [(1, .int (zI (v1 + 1))), (3, .int (zI v3)), (2, .int (zI v2)), (0, .ref y)]) hx hb dX9_find_81 hl (k := 2) rfl (zI_add _ _) (by decide) rfl (fun ls hl => ?_)
              refine lv_goto (tgt := 2) hx hb dX9_find_84 (by decide) ?_
              exact ih1 (v1 + 1) _ _ (by omega) (by omega) hP hD hS ls (lv_sub hl [0, 3] rfl)
            · refine lv_iload_n hx hb dX9_find_79 rfl (lv_at hl 2 rfl) ?_
              exact ret (zI v1) (fun k => [((fun _ => 0), fun _ _ => 0)].getD k (fun _ => 0, fun _ _ => 0)) _ _ _ _ _ _ rfl ⟨v1, rfl, (show -1 ≤ (v1 : Int) ∧ (v1 : Int) < i 14 from by omega)⟩ (bw_subP (isC := [0, 1, 2, 3]) hP rfl) (hD.sub [0, 1, 2, 3] (by decide) rfl) hS (Nat.le_of_ble_eq_true rfl) (Nat.le_of_ble_eq_true rfl) dX9_find_80
          · refine lv_iload_n hx hb dX9_find_39 rfl (lv_at hl 1 rfl) ?_
            refine rz_if_eq (tgt := 75) F (by omega) dX9_find_40 (by decide) (fun h40_6 => ?_) (fun h40_6 => ?_)
            · refine lv_iload_n hx hb dX9_find_75 rfl (lv_at hl 1 rfl) ?_
              refine rz_if_eq (tgt := 81) F (by omega) dX9_find_76 (by decide) (fun h76_7 => ?_) (fun h76_7 => by omega)
              refine lv_iinc (v := zI (v1 + 1)) (lv' := [(1, .int (zI (v1 + 1))), (3, .int (zI v3)), (2, .int (zI v2)), (0, .ref y)]) hx hb dX9_find_81 hl (k := 2) rfl (zI_add _ _) (by decide) rfl (fun ls hl => ?_)
              refine lv_goto (tgt := 2) hx hb dX9_find_84 (by decide) ?_
              exact ih1 (v1 + 1) _ _ (by omega) (by omega) hP hD hS ls (lv_sub hl [0, 3] rfl)
            · refine lv_aload_n hx hb dX9_find_43 rfl (lv_at hl 3 rfl) ?_
              refine r_get F hK hP 0 22 rfl rfl in_X9 (by decide) k_1185 rfl dX9_find_44 ?_
              refine lv_bipush (v := zI 8) hx hb dX9_find_47 (by decide) ?_
              refine lv_iload_n hx hb dX9_find_49 rfl (lv_at hl 2 rfl) ?_
              refine r_imul (v := zI (8 * v1)) F dX9_find_50 (zI_mul _ _) ?_
              refine lv_iload_n hx hb dX9_find_51 rfl (lv_at hl 0 rfl) ?_
              refine r_iadd (v := zI ((8 * v1) + v3)) F dX9_find_52 (zI_add _ _) ?_
              refine rz_iald F hK hP 2 0 rfl rfl (by omega) (by omega) dX9_find_53 ?_
              refine rz_top (fun z9 h_z9 => ?_)
              refine lv_aload_n hx hb dX9_find_54 rfl (lv_at hl 3 rfl) ?_
              refine r_get F hK hP 0 12 rfl rfl in_X9 (by decide) k_1175 rfl dX9_find_55 ?_
              refine lv_iload_n hx hb dX9_find_58 rfl (lv_at hl 0 rfl) ?_
              refine rz_iald F hK hP 1 0 rfl rfl (by omega) (by omega) dX9_find_59 ?_
              have h_l59_9 := hr_letters (v3).toNat (by omega)
              refine rz_icmp_ne (tgt := 67) F (by omega) (by omega) dX9_find_60 (by decide) (fun h60_10 => ?_) (fun h60_10 => ?_)
              · refine lv_iconst (v := zI 0) hx hb dX9_find_67 rfl ?_
                refine lv_istore_n (lv' := [(2, .int (zI 0)), (3, .int (zI v3)), (1, .int (zI v1)), (0, .ref y)]) hx hb dX9_find_68 rfl hl (by decide) rfl (fun ls hl => ?_)
                refine lv_iinc (v := zI (v3 + 1)) (lv' := [(3, .int (zI (v3 + 1))), (2, .int (zI 0)), (1, .int (zI v1)), (0, .ref y)]) hx hb dX9_find_69 hl (k := 1) rfl (zI_add _ _) (by decide) rfl (fun ls hl => ?_)
                refine lv_goto (tgt := 31) hx hb dX9_find_72 (by decide) ?_
                exact ih2 0 (v3 + 1) _ _ (by omega) (by omega) hP hD hS ls (lv_sub hl [0, 1, 2, 3] rfl)
              · refine lv_iconst (v := zI 1) hx hb dX9_find_63 rfl ?_
                refine lv_goto (tgt := 68) hx hb dX9_find_64 (by decide) ?_
                refine lv_istore_n (lv' := [(2, .int (zI 1)), (3, .int (zI v3)), (1, .int (zI v1)), (0, .ref y)]) hx hb dX9_find_68 rfl hl (by decide) rfl (fun ls hl => ?_)
                refine lv_iinc (v := zI (v3 + 1)) (lv' := [(3, .int (zI (v3 + 1))), (2, .int (zI 1)), (1, .int (zI v1)), (0, .ref y)]) hx hb dX9_find_69 hl (k := 1) rfl (zI_add _ _) (by decide) rfl (fun ls hl => ?_)
                refine lv_goto (tgt := 31) hx hb dX9_find_72 (by decide) ?_
                exact ih2 1 (v3 + 1) _ _ (by omega) (by omega) hP hD hS ls (lv_sub hl [0, 1, 2, 3] rfl)
      · refine lv_iconst (v := zI 1) hx hb dX9_find_23 rfl ?_
        refine lv_goto (tgt := 28) hx hb dX9_find_24 (by decide) ?_
        refine lv_istore_n (lv' := [(2, .int (zI 1)), (1, .int (zI v1)), (0, .ref y)]) hx hb dX9_find_28 rfl hl (by decide) rfl (fun ls hl => ?_)
        refine lv_iconst (v := zI 0) hx hb dX9_find_29 rfl ?_
        refine lv_istore_n (lv' := [(3, .int (zI 0)), (2, .int (zI 1)), (1, .int (zI v1)), (0, .ref y)]) hx hb dX9_find_30 rfl hl (by decide) rfl (fun ls hl => ?_)
        refine W.widen (k := 0) (n := 0) (Nat.le_of_ble_eq_true rfl) (Nat.le_of_ble_eq_true rfl) ?_
        refine (?_ : ∀ (n9_2 : Nat) (v2 : Int) (v3 : Int) (H : Heap) (locs : List Loc), (0 ≤ v3 ∧ v3 ≤ 8 ∧ 0 ≤ v2 ∧ v2 ≤ 1) → (8 - v3 : Int).toNat < n9_2 → va_P G vwCl [(y, .inr (9, [.int (zI (i 0)), .ref (q 0), .int (zI (i 1)), .int (zI (i 2)), .int (zI (i 3)), .int (zI (i 4)), .int (zI (i 5)), .int (zI (i 6)), .int (zI (i 7)), .int (zI (i 8)), .int (zI (i 9)), .int (zI (i 10)), .ref (q 1), .int (zI (i 11)), .int (zI (i 12)), .ref (q 2), .ref (q 3), .ref (q 4), .ref (q 5), .ref (q 6), .ref (q 7), .ref (q 8), .ref (q 9), .ref (q 10), .ref (q 11), .ref (q 12), .ref (q 13), .ref (q 14), .ref (q 15), .ref (q 16), .int (zI (i 13)), .int (zI (i 14)), .int (zI (i 15)), .int (zI (i 16)), .int (zI (i 17)), .int (zI (i 18)), .ref (q 17), .ref (q 18), .ref (q 19), .ref (q 20)])), ((q 1), .inl (cI, 8, .inl (fun k => zI (g_letters k)))), ((q 9), .inl (cI, 80, .inl (fun k => zI (g_newNames k)))), ((q 10), .inl (cI, 10, .inl (fun k => zI (g_newSizes k))))] H → va_D A [(y, .inr (9, [.int (zI (i 0)), .ref (q 0), .int (zI (i 1)), .int (zI (i 2)), .int (zI (i 3)), .int (zI (i 4)), .int (zI (i 5)), .int (zI (i 6)), .int (zI (i 7)), .int (zI (i 8)), .int (zI (i 9)), .int (zI (i 10)), .ref (q 1), .int (zI (i 11)), .int (zI (i 12)), .ref (q 2), .ref (q 3), .ref (q 4), .ref (q 5), .ref (q 6), .ref (q 7), .ref (q 8), .ref (q 9), .ref (q 10), .ref (q 11), .ref (q 12), .ref (q 13), .ref (q 14), .ref (q 15), .ref (q 16), .int (zI (i 13)), .int (zI (i 14)), .int (zI (i 15)), .int (zI (i 16)), .int (zI (i 17)), .int (zI (i 18)), .ref (q 17), .ref (q 18), .ref (q 19), .ref (q 20)])), ((q 1), .inl (cI, 8, .inl (fun k => zI (g_letters k)))), ((q 9), .inl (cI, 80, .inl (fun k => zI (g_newNames k)))), ((q 10), .inl (cI, 10, .inl (fun k => zI (g_newSizes k))))] → va_S A s.heap H locs → ∀ ls : Array Slot, lv_has ls 4 [(3, .int (zI v3)), (2, .int (zI v2)), (1, .int (zI v1)), (0, .ref y)] → W p l e rm_X9_find s m ([.ref y] : List Value).toArray below meth c H locs 0 0 Q (F0 m 31 ls [])) ((8 - 0 : Int).toNat + 1) 1 0 _ _ (by omega) (by omega) hP hD hS ls hl
        clear hP hD hS hl ls
        intro n9_2
        induction n9_2 with
        | zero =>
          intro v2 v3 H locs hI hM
          exact absurd hM (by omega)
        | succ n9_2 ih2 =>
          intro v2 v3 H locs hI2 hM2  hP hD hS ls hl
          refine lv_iload_n hx hb dX9_find_31 rfl (lv_at hl 0 rfl) ?_
          refine lv_aload_n hx hb dX9_find_32 rfl (lv_at hl 3 rfl) ?_
          refine r_get F hK hP 0 8 rfl rfl in_X9 (by decide) k_1171 rfl dX9_find_33 ?_
          refine rz_icmp_ge (tgt := 75) F (by omega) (by omega) dX9_find_36 (by decide) (fun h36_11 => ?_) (fun h36_11 => ?_)
          · refine lv_iload_n hx hb dX9_find_75 rfl (lv_at hl 1 rfl) ?_
            refine rz_if_eq (tgt := 81) F (by omega) dX9_find_76 (by decide) (fun h76_12 => ?_) (fun h76_12 => ?_)
            · refine lv_iinc (v := zI (v1 + 1)) (lv' := [(1, .int (zI (v1 + 1))), (3, .int (zI v3)), (2, .int (zI v2)), (0, .ref y)]) hx hb dX9_find_81 hl (k := 2) rfl (zI_add _ _) (by decide) rfl (fun ls hl => ?_)
              refine lv_goto (tgt := 2) hx hb dX9_find_84 (by decide) ?_
              exact ih1 (v1 + 1) _ _ (by omega) (by omega) hP hD hS ls (lv_sub hl [0, 3] rfl)
            · refine lv_iload_n hx hb dX9_find_79 rfl (lv_at hl 2 rfl) ?_
              exact ret (zI v1) (fun k => [((fun _ => 0), fun _ _ => 0)].getD k (fun _ => 0, fun _ _ => 0)) _ _ _ _ _ _ rfl ⟨v1, rfl, (show -1 ≤ (v1 : Int) ∧ (v1 : Int) < i 14 from by omega)⟩ (bw_subP (isC := [0, 1, 2, 3]) hP rfl) (hD.sub [0, 1, 2, 3] (by decide) rfl) hS (Nat.le_of_ble_eq_true rfl) (Nat.le_of_ble_eq_true rfl) dX9_find_80
          · refine lv_iload_n hx hb dX9_find_39 rfl (lv_at hl 1 rfl) ?_
            refine rz_if_eq (tgt := 75) F (by omega) dX9_find_40 (by decide) (fun h40_13 => ?_) (fun h40_13 => ?_)
            · refine lv_iload_n hx hb dX9_find_75 rfl (lv_at hl 1 rfl) ?_
              refine rz_if_eq (tgt := 81) F (by omega) dX9_find_76 (by decide) (fun h76_14 => ?_) (fun h76_14 => by omega)
              refine lv_iinc (v := zI (v1 + 1)) (lv' := [(1, .int (zI (v1 + 1))), (3, .int (zI v3)), (2, .int (zI v2)), (0, .ref y)]) hx hb dX9_find_81 hl (k := 2) rfl (zI_add _ _) (by decide) rfl (fun ls hl => ?_)
              refine lv_goto (tgt := 2) hx hb dX9_find_84 (by decide) ?_
              exact ih1 (v1 + 1) _ _ (by omega) (by omega) hP hD hS ls (lv_sub hl [0, 3] rfl)
            · refine lv_aload_n hx hb dX9_find_43 rfl (lv_at hl 3 rfl) ?_
              refine r_get F hK hP 0 22 rfl rfl in_X9 (by decide) k_1185 rfl dX9_find_44 ?_
              refine lv_bipush (v := zI 8) hx hb dX9_find_47 (by decide) ?_
              refine lv_iload_n hx hb dX9_find_49 rfl (lv_at hl 2 rfl) ?_
              refine r_imul (v := zI (8 * v1)) F dX9_find_50 (zI_mul _ _) ?_
              refine lv_iload_n hx hb dX9_find_51 rfl (lv_at hl 0 rfl) ?_
              refine r_iadd (v := zI ((8 * v1) + v3)) F dX9_find_52 (zI_add _ _) ?_
              refine rz_iald F hK hP 2 0 rfl rfl (by omega) (by omega) dX9_find_53 ?_
              refine rz_top (fun z16 h_z16 => ?_)
              refine lv_aload_n hx hb dX9_find_54 rfl (lv_at hl 3 rfl) ?_
              refine r_get F hK hP 0 12 rfl rfl in_X9 (by decide) k_1175 rfl dX9_find_55 ?_
              refine lv_iload_n hx hb dX9_find_58 rfl (lv_at hl 0 rfl) ?_
              refine rz_iald F hK hP 1 0 rfl rfl (by omega) (by omega) dX9_find_59 ?_
              have h_l59_16 := hr_letters (v3).toNat (by omega)
              refine rz_icmp_ne (tgt := 67) F (by omega) (by omega) dX9_find_60 (by decide) (fun h60_17 => ?_) (fun h60_17 => ?_)
              · refine lv_iconst (v := zI 0) hx hb dX9_find_67 rfl ?_
                refine lv_istore_n (lv' := [(2, .int (zI 0)), (3, .int (zI v3)), (1, .int (zI v1)), (0, .ref y)]) hx hb dX9_find_68 rfl hl (by decide) rfl (fun ls hl => ?_)
                refine lv_iinc (v := zI (v3 + 1)) (lv' := [(3, .int (zI (v3 + 1))), (2, .int (zI 0)), (1, .int (zI v1)), (0, .ref y)]) hx hb dX9_find_69 hl (k := 1) rfl (zI_add _ _) (by decide) rfl (fun ls hl => ?_)
                refine lv_goto (tgt := 31) hx hb dX9_find_72 (by decide) ?_
                exact ih2 0 (v3 + 1) _ _ (by omega) (by omega) hP hD hS ls (lv_sub hl [0, 1, 2, 3] rfl)
              · refine lv_iconst (v := zI 1) hx hb dX9_find_63 rfl ?_
                refine lv_goto (tgt := 68) hx hb dX9_find_64 (by decide) ?_
                refine lv_istore_n (lv' := [(2, .int (zI 1)), (3, .int (zI v3)), (1, .int (zI v1)), (0, .ref y)]) hx hb dX9_find_68 rfl hl (by decide) rfl (fun ls hl => ?_)
                refine lv_iinc (v := zI (v3 + 1)) (lv' := [(3, .int (zI (v3 + 1))), (2, .int (zI 1)), (1, .int (zI v1)), (0, .ref y)]) hx hb dX9_find_69 hl (k := 1) rfl (zI_add _ _) (by decide) rfl (fun ls hl => ?_)
                refine lv_goto (tgt := 31) hx hb dX9_find_72 (by decide) ?_
                exact ih2 1 (v3 + 1) _ _ (by omega) (by omega) hP hD hS ls (lv_sub hl [0, 1, 2, 3] rfl)
