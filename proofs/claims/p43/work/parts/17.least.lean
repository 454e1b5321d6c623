def LeastOk (g : Nat → Nat → Int) : Prop := (∀ k, k < 3 → (-1) ≤ g 2 k ∧ g 2 k ≤ 52) ∧ (∀ k, k < 3 → (-1) ≤ g 4 k ∧ g 4 k ≤ 2) ∧ (∀ k, k < 3 → (-1) ≤ g 5 k ∧ g 5 k ≤ 2)
theorem LeastOk.zero : LeastOk (fun _ _ => 0) := ⟨fun k hk => by simp, fun k hk => by simp, fun k hk => by simp⟩
theorem dX0_goalsOf_0 : decode cX0_goalsOf 0 = .ok (.iconst 1, 1) := bo_4 (by decide +kernel)
theorem dX0_goalsOf_1 : decode cX0_goalsOf 1 = .ok (.iload_n 0, 1) := bo_26 (by decide +kernel)
theorem dX0_goalsOf_2 : decode cX0_goalsOf 2 = .ok (.iadd, 1) := bo_96 (by decide +kernel)
theorem dX0_goalsOf_3 : decode cX0_goalsOf 3 = .ok (.iload_n 0, 1) := bo_26 (by decide +kernel)
theorem dX0_goalsOf_4 : decode cX0_goalsOf 4 = .ok (.iload_n 0, 1) := bo_26 (by decide +kernel)
theorem dX0_goalsOf_5 : decode cX0_goalsOf 5 = .ok (.imul, 1) := bo_104 (by decide +kernel)
theorem dX0_goalsOf_6 : decode cX0_goalsOf 6 = .ok (.iadd, 1) := bo_96 (by decide +kernel)
theorem dX0_goalsOf_7 : decode cX0_goalsOf 7 = .ok (.ireturn, 1) := bo_172 (by decide +kernel)
abbrev rm_X0_goalsOf : Room := { frames := 0, cells := 0, slots := 0, locals := 0 }
set_option maxRecDepth 100000 in
set_option maxHeartbeats 8000000 in
theorem c_X0_goalsOf {l : Launch} {E : (Nat → Prop) → State → Prop} (hO : bw_Ok E) {G : va_G} {cI cB cJ cN cW : ClassId} (x : Int) : bw_Ci (S := zU) l yX0_goalsOf (bw_ws (Cond.code yX0_goalsOf cX0_goalsOf 1 (some .int))) rm_X0_goalsOf E G (bw_kt cI cB cJ cN cW) [.int (zI x)] [] (fun r _ => ∃ z : Int, r = zI z ∧ z = 1 + x + x * x) (fun _ => []) := by
  refine bw_Ci.of (cc := cX0_goalsOf) (maxL := 1) (ty := .int) (by decide) rfl (Nat.le_of_ble_eq_true rfl) ?_
  intro p e s m below meth c A Q hx hb hml hts hown hin hK hA hS hP hD hE ret ls hl
  have F : CallFix p m c cX0_goalsOf 1 s ([.int (zI x)] : List Value).toArray bw_T RX0 := ⟨hx, hb, hml, hown, fun w h => hts w (List.mem_cons_of_mem _ h)⟩
  replace hl : lv_has ls 1 [(0, .int (zI x))] := hl
  refine lv_iconst (v := zI 1) hx hb dX0_goalsOf_0 rfl ?_
  refine lv_iload_n hx hb dX0_goalsOf_1 rfl (lv_at hl 0 rfl) ?_
  refine r_iadd (v := zI (1 + x)) F dX0_goalsOf_2 (zI_add _ _) ?_
  refine lv_iload_n hx hb dX0_goalsOf_3 rfl (lv_at hl 0 rfl) ?_
  refine lv_iload_n hx hb dX0_goalsOf_4 rfl (lv_at hl 0 rfl) ?_
  refine r_imul (v := zI (x * x)) F dX0_goalsOf_5 (zI_mul _ _) ?_
  refine r_iadd (v := zI ((1 + x) + (x * x))) F dX0_goalsOf_6 (zI_add _ _) ?_
  exact ret (zI ((1 + x) + (x * x))) (fun _ => 0, fun _ _ => 0) _ _ _ _ _ _ rfl ⟨_, rfl, rfl⟩ (bw_subP (isC := []) hP rfl) (hD.sub [] (by decide) rfl) hS (Nat.le_of_ble_eq_true rfl) (Nat.le_of_ble_eq_true rfl) dX0_goalsOf_7
theorem dX0_forget_0 : decode cX0_forget 0 = .ok (.aload_n 0, 1) := bo_42 (by decide +kernel)
theorem dX0_forget_1 : decode cX0_forget 1 = .ok (.getfield 9, 3) := bo_180 0 9 (by decide +kernel)
theorem k_448 : Cond.fieldLink RX0 9 "BurntWays$Least" "lineCounts" "[I" ∈ bw_T := bw_m 448 (by decide +kernel) rfl
theorem in_X0 : ∀ w ∈ wsX00, w ∈ bw_T := bw_ms _ [455, 457, 459, 461, 463, 465, 467] (by decide +kernel) (by decide +kernel)
theorem dX0_forget_4 : decode cX0_forget 4 = .ok (.iconst 0, 1) := bo_3 (by decide +kernel)
theorem dX0_forget_5 : decode cX0_forget 5 = .ok (.invokestatic 33, 3) := bo_184 0 33 (by decide +kernel)
theorem k_651 : Cond.methodLink RX0 33 yJ7_fill_53178 ∈ bw_T := bw_m 651 (by decide +kernel) rfl
theorem dX0_forget_8 : decode cX0_forget 8 = .ok (.return_, 1) := bo_177 (by decide +kernel)
abbrev rm_X0_forget : Room := { frames := 1, cells := 0, slots := 0, locals := 23 }
set_option maxRecDepth 100000 in
set_option maxHeartbeats 8000000 in
theorem c_X0_forget {l : Launch} {E : (Nat → Prop) → State → Prop} (hO : bw_Ok E) {G : va_G} {cI cB cJ cN cW : ClassId} (b : Nat) (q : Nat → Nat) (g : Nat → Nat → Int) (hY : LeastOk g)  : bw_Cv (S := zU) l yX0_forget (bw_ws (Cond.code yX0_forget cX0_forget 1 none)) rm_X0_forget E G (bw_kt cI cB cJ cN cW) [.ref b] [(b, .inr (0, [.ref (q 0), .ref (q 1), .ref (q 2), .ref (q 3), .ref (q 4), .ref (q 5), .ref (q 6)])), ((q 0), .inl (cI, 10, .inl (fun k => zI ((g 0) k)))), ((q 1), .inl (cI, 30, .inl (fun k => zI ((g 1) k)))), ((q 2), .inl (cI, 3, .inl (fun k => zI ((g 2) k)))), ((q 3), .inl (cI, 3, .inl (fun k => zI ((g 3) k)))), ((q 4), .inl (cI, 3, .inl (fun k => zI ((g 4) k)))), ((q 5), .inl (cI, 3, .inl (fun k => zI ((g 5) k)))), ((q 6), .inl (cI, 6, .inl (fun k => zI ((g 6) k))))] (fun u => LeastOk u.2 ∧ (True)) (fun u => [(b, .inr (0, [.ref (q 0), .ref (q 1), .ref (q 2), .ref (q 3), .ref (q 4), .ref (q 5), .ref (q 6)])), ((q 0), .inl (cI, 10, .inl (fun k => zI ((u.2 0) k)))), ((q 1), .inl (cI, 30, .inl (fun k => zI ((u.2 1) k)))), ((q 2), .inl (cI, 3, .inl (fun k => zI ((u.2 2) k)))), ((q 3), .inl (cI, 3, .inl (fun k => zI ((u.2 3) k)))), ((q 4), .inl (cI, 3, .inl (fun k => zI ((u.2 4) k)))), ((q 5), .inl (cI, 3, .inl (fun k => zI ((u.2 5) k)))), ((q 6), .inl (cI, 6, .inl (fun k => zI ((u.2 6) k))))]) := by
  refine bw_Cv.of (cc := cX0_forget) (maxL := 1) (by decide) rfl (Nat.le_of_ble_eq_true rfl) ?_
  intro p e s m below meth c A Q hx hb hml hts hown hin hK hA hS hP hD hE ret ls hl
  have F : CallFix p m c cX0_forget 1 s ([.ref b] : List Value).toArray bw_T RX0 := ⟨hx, hb, hml, hown, fun w h => hts w (List.mem_cons_of_mem _ h)⟩
  replace hl : lv_has ls 1 [(0, .ref b)] := hl
  refine lv_aload_n hx hb dX0_forget_0 rfl (lv_at hl 0 rfl) ?_
  refine r_get F hK hP 0 0 rfl rfl in_X0 (by decide) k_448 rfl dX0_forget_1 ?_
  refine lv_iconst (v := zI 0) hx hb dX0_forget_4 rfl ?_
  refine r_callZv (As := [.ref (q 0), .int (zI 0)]) (rest := []) (wr := [(b, .inr (0, [.ref (q 0), .ref (q 1), .ref (q 2), .ref (q 3), .ref (q 4), .ref (q 5), .ref (q 6)])), ((q 1), .inl (cI, 30, .inl (fun k => zI ((g 1) k)))), ((q 2), .inl (cI, 3, .inl (fun k => zI ((g 2) k)))), ((q 3), .inl (cI, 3, .inl (fun k => zI ((g 3) k)))), ((q 4), .inl (cI, 3, .inl (fun k => zI ((g 4) k)))), ((q 5), .inl (cI, 3, .inl (fun k => zI ((g 5) k)))), ((q 6), .inl (cI, 6, .inl (fun k => zI ((g 6) k))))]) F hK hP hD hS hA hO hE (c_J7_fill hO (q 0) 10 (by decide) (g 0) 0) k_651 ks_J7_fill_53178 2 rfl (by decide +kernel) ⟨Nat.le_of_ble_eq_true rfl, Nat.le_of_ble_eq_true rfl⟩ [1] [0, 2, 3, 4, 5, 6, 7] rfl rfl (by decide) (by decide) (by decide) hl.1 rfl (Nat.le_of_ble_eq_true rfl) dX0_forget_5 ⟨Nat.le_of_ble_eq_true rfl, Nat.le_of_ble_eq_true rfl⟩ (w1 := fun u1 => [(b, .inr (0, [.ref (q 0), .ref (q 1), .ref (q 2), .ref (q 3), .ref (q 4), .ref (q 5), .ref (q 6)])), ((q 1), .inl (cI, 30, .inl (fun k => zI ((g 1) k)))), ((q 2), .inl (cI, 3, .inl (fun k => zI ((g 2) k)))), ((q 3), .inl (cI, 3, .inl (fun k => zI ((g 3) k)))), ((q 4), .inl (cI, 3, .inl (fun k => zI ((g 4) k)))), ((q 5), .inl (cI, 3, .inl (fun k => zI ((g 5) k)))), ((q 6), .inl (cI, 6, .inl (fun k => zI ((g 6) k)))), ((q 0), .inl (cI, 10, .inl (fun k => zI ((u1.2 0) k))))]) (fun _ => rfl) (fun  u1 H locs hp2 hP hD hS => ?_)
  obtain ⟨i3, e_i3⟩ : ∃ i3 : Nat → Int, i3 = fun k => [].getD k 0 := ⟨_, rfl⟩
  obtain ⟨gg4, e_gg4⟩ : ∃ gg4 : Nat → Nat → Int, gg4 = fun k => [(u1.2 0), (g 1), (g 2), (g 3), (g 4), (g 5), (g 6)].getD k (fun _ => 0) := ⟨_, rfl⟩
  have hO5 : LeastOk gg4 := by rw [e_gg4]; exact ⟨hY.1, hY.2.1, hY.2.2⟩
  have hP : va_P G vwCl [(b, .inr (0, [.ref (q 0), .ref (q 1), .ref (q 2), .ref (q 3), .ref (q 4), .ref (q 5), .ref (q 6)])), ((q 1), .inl (cI, 30, .inl (fun k => zI ((gg4 1) k)))), ((q 2), .inl (cI, 3, .inl (fun k => zI ((gg4 2) k)))), ((q 3), .inl (cI, 3, .inl (fun k => zI ((gg4 3) k)))), ((q 4), .inl (cI, 3, .inl (fun k => zI ((gg4 4) k)))), ((q 5), .inl (cI, 3, .inl (fun k => zI ((gg4 5) k)))), ((q 6), .inl (cI, 6, .inl (fun k => zI ((gg4 6) k)))), ((q 0), .inl (cI, 10, .inl (fun k => zI ((gg4 0) k))))] H := by subst e_i3 e_gg4; exact hP
  have hD : va_D A [(b, .inr (0, [.ref (q 0), .ref (q 1), .ref (q 2), .ref (q 3), .ref (q 4), .ref (q 5), .ref (q 6)])), ((q 1), .inl (cI, 30, .inl (fun k => zI ((gg4 1) k)))), ((q 2), .inl (cI, 3, .inl (fun k => zI ((gg4 2) k)))), ((q 3), .inl (cI, 3, .inl (fun k => zI ((gg4 3) k)))), ((q 4), .inl (cI, 3, .inl (fun k => zI ((gg4 4) k)))), ((q 5), .inl (cI, 3, .inl (fun k => zI ((gg4 5) k)))), ((q 6), .inl (cI, 6, .inl (fun k => zI ((gg4 6) k)))), ((q 0), .inl (cI, 10, .inl (fun k => zI ((gg4 0) k))))] := by subst e_i3 e_gg4; exact hD
  exact ret (fun _ => 0, gg4) _ _ _ _ _ _ ⟨hO5, trivial⟩ (bw_subP (isC := [0, 7, 1, 2, 3, 4, 5, 6]) hP rfl) (hD.sub [0, 7, 1, 2, 3, 4, 5, 6] (by decide) rfl) hS (Nat.le_of_ble_eq_true rfl) (Nat.le_of_ble_eq_true rfl) dX0_forget_8
theorem dX0_numberOf_0 : decode cX0_numberOf 0 = .ok (.aload_n 0, 1) := bo_42 (by decide +kernel)
theorem dX0_numberOf_1 : decode cX0_numberOf 1 = .ok (.getfield 15, 3) := bo_180 0 15 (by decide +kernel)
theorem k_449 : Cond.fieldLink RX0 15 "BurntWays$Least" "found" "[I" ∈ bw_T := bw_m 449 (by decide +kernel) rfl
theorem dX0_numberOf_4 : decode cX0_numberOf 4 = .ok (.iload_n 1, 1) := bo_27 (by decide +kernel)
theorem dX0_numberOf_5 : decode cX0_numberOf 5 = .ok (.iconst 3, 1) := bo_6 (by decide +kernel)
theorem dX0_numberOf_6 : decode cX0_numberOf 6 = .ok (.imul, 1) := bo_104 (by decide +kernel)
theorem dX0_numberOf_7 : decode cX0_numberOf 7 = .ok (.iload_n 2, 1) := bo_28 (by decide +kernel)
theorem dX0_numberOf_8 : decode cX0_numberOf 8 = .ok (.iadd, 1) := bo_96 (by decide +kernel)
theorem dX0_numberOf_9 : decode cX0_numberOf 9 = .ok (.iaload, 1) := bo_46 (by decide +kernel)
theorem dX0_numberOf_10 : decode cX0_numberOf 10 = .ok (.ireturn, 1) := bo_172 (by decide +kernel)
abbrev rm_X0_numberOf : Room := { frames := 0, cells := 0, slots := 0, locals := 0 }
set_option maxRecDepth 100000 in
set_option maxHeartbeats 8000000 in
theorem c_X0_numberOf {l : Launch} {E : (Nat → Prop) → State → Prop} (hO : bw_Ok E) {G : va_G} {cI cB cJ cN cW : ClassId} (b : Nat) (q : Nat → Nat) (g : Nat → Nat → Int) (hY : LeastOk g) (x y : Int) (hx9 : 1 ≤ x ∧ x ≤ 9) (hy9 : 0 ≤ y ∧ y < 3) : bw_Ci (S := zU) l yX0_numberOf (bw_ws (Cond.code yX0_numberOf cX0_numberOf 3 (some .int))) rm_X0_numberOf E G (bw_kt cI cB cJ cN cW) [.ref b, .int (zI x), .int (zI y)] [(b, .inr (0, [.ref (q 0), .ref (q 1), .ref (q 2), .ref (q 3), .ref (q 4), .ref (q 5), .ref (q 6)])), ((q 0), .inl (cI, 10, .inl (fun k => zI ((g 0) k)))), ((q 1), .inl (cI, 30, .inl (fun k => zI ((g 1) k)))), ((q 2), .inl (cI, 3, .inl (fun k => zI ((g 2) k)))), ((q 3), .inl (cI, 3, .inl (fun k => zI ((g 3) k)))), ((q 4), .inl (cI, 3, .inl (fun k => zI ((g 4) k)))), ((q 5), .inl (cI, 3, .inl (fun k => zI ((g 5) k)))), ((q 6), .inl (cI, 6, .inl (fun k => zI ((g 6) k))))] (fun r u => ∃ z : Int, r = zI z ∧ LeastOk u.2 ∧ (True)) (fun u => [(b, .inr (0, [.ref (q 0), .ref (q 1), .ref (q 2), .ref (q 3), .ref (q 4), .ref (q 5), .ref (q 6)])), ((q 0), .inl (cI, 10, .inl (fun k => zI ((u.2 0) k)))), ((q 1), .inl (cI, 30, .inl (fun k => zI ((u.2 1) k)))), ((q 2), .inl (cI, 3, .inl (fun k => zI ((u.2 2) k)))), ((q 3), .inl (cI, 3, .inl (fun k => zI ((u.2 3) k)))), ((q 4), .inl (cI, 3, .inl (fun k => zI ((u.2 4) k)))), ((q 5), .inl (cI, 3, .inl (fun k => zI ((u.2 5) k)))), ((q 6), .inl (cI, 6, .inl (fun k => zI ((u.2 6) k))))]) := by
  refine bw_Ci.of (cc := cX0_numberOf) (maxL := 3) (ty := .int) (by decide) rfl (Nat.le_of_ble_eq_true rfl) ?_
  intro p e s m below meth c A Q hx hb hml hts hown hin hK hA hS hP hD hE ret ls hl
  have F : CallFix p m c cX0_numberOf 3 s ([.ref b, .int (zI x), .int (zI y)] : List Value).toArray bw_T RX0 := ⟨hx, hb, hml, hown, fun w h => hts w (List.mem_cons_of_mem _ h)⟩
  replace hl : lv_has ls 3 [(0, .ref b), (1, .int (zI x)), (2, .int (zI y))] := hl
  refine lv_aload_n hx hb dX0_numberOf_0 rfl (lv_at hl 0 rfl) ?_
  refine r_get F hK hP 0 1 rfl rfl in_X0 (by decide) k_449 rfl dX0_numberOf_1 ?_
  refine lv_iload_n hx hb dX0_numberOf_4 rfl (lv_at hl 1 rfl) ?_
  refine lv_iconst (v := zI 3) hx hb dX0_numberOf_5 rfl ?_
  refine r_imul (v := zI (x * 3)) F dX0_numberOf_6 (zI_mul _ _) ?_
  refine lv_iload_n hx hb dX0_numberOf_7 rfl (lv_at hl 2 rfl) ?_
  refine r_iadd (v := zI ((x * 3) + y)) F dX0_numberOf_8 (zI_add _ _) ?_
  refine rz_iald F hK hP 2 0 rfl rfl (by omega) (by omega) dX0_numberOf_9 ?_
  refine rz_top (fun z1 h_z1 => ?_)
  exact ret (zI z1) (fun _ => 0, g) _ _ _ _ _ _ rfl ⟨z1, rfl, hY, trivial⟩ (bw_subP (isC := [0, 1, 2, 3, 4, 5, 6, 7]) hP rfl) (hD.sub [0, 1, 2, 3, 4, 5, 6, 7] (by decide) rfl) hS (Nat.le_of_ble_eq_true rfl) (Nat.le_of_ble_eq_true rfl) dX0_numberOf_10
theorem dX0_tell_0 : decode cX0_tell 0 = .ok (.iload_n 2, 1) := bo_28 (by decide +kernel)
theorem dX0_tell_1 : decode cX0_tell 1 = .ok (.invokestatic 53, 3) := bo_184 0 53 (by decide +kernel)
theorem k_1021 : Cond.methodLink RX0 53 yX0_goalsOf ∈ bw_T := bw_m 1021 (by decide +kernel) rfl
theorem ks_X0_goalsOf : bw_KS RX0 yX0_goalsOf (Cond.code yX0_goalsOf cX0_goalsOf 1 (some .int)) := ⟨bw_m 1022 (by decide +kernel) rfl, bw_m 105 (by decide +kernel) rfl, bw_m 1023 (by decide +kernel) rfl⟩
theorem dX0_tell_4 : decode cX0_tell 4 = .ok (.istore_n 3, 1) := bo_62 (by decide +kernel)
theorem dX0_tell_5 : decode cX0_tell 5 = .ok (.aload_n 0, 1) := bo_42 (by decide +kernel)
theorem dX0_tell_6 : decode cX0_tell 6 = .ok (.getfield 18, 3) := bo_180 0 18 (by decide +kernel)
theorem k_450 : Cond.fieldLink RX0 18 "BurntWays$Least" "numbers" "[I" ∈ bw_T := bw_m 450 (by decide +kernel) rfl
theorem dX0_tell_9 : decode cX0_tell 9 = .ok (.iload_n 1, 1) := bo_27 (by decide +kernel)
theorem dX0_tell_10 : decode cX0_tell 10 = .ok (.iaload, 1) := bo_46 (by decide +kernel)
theorem dX0_tell_11 : decode cX0_tell 11 = .ok (.iload_n 3, 1) := bo_29 (by decide +kernel)
theorem dX0_tell_12 : decode cX0_tell 12 = .ok (.irem, 1) := bo_112 (by decide +kernel)
theorem dX0_tell_13 : decode cX0_tell 13 = .ok (.istore 4, 2) := bo_54 (by decide +kernel)
theorem dX0_tell_15 : decode cX0_tell 15 = .ok (.aload_n 0, 1) := bo_42 (by decide +kernel)
theorem dX0_tell_16 : decode cX0_tell 16 = .ok (.getfield 21, 3) := bo_180 0 21 (by decide +kernel)
theorem k_451 : Cond.fieldLink RX0 21 "BurntWays$Least" "acts" "[I" ∈ bw_T := bw_m 451 (by decide +kernel) rfl
theorem dX0_tell_19 : decode cX0_tell 19 = .ok (.iload_n 1, 1) := bo_27 (by decide +kernel)
theorem dX0_tell_20 : decode cX0_tell 20 = .ok (.aload_n 0, 1) := bo_42 (by decide +kernel)
theorem dX0_tell_21 : decode cX0_tell 21 = .ok (.getfield 18, 3) := bo_180 0 18 (by decide +kernel)
theorem dX0_tell_24 : decode cX0_tell 24 = .ok (.iload_n 1, 1) := bo_27 (by decide +kernel)
theorem dX0_tell_25 : decode cX0_tell 25 = .ok (.iaload, 1) := bo_46 (by decide +kernel)
theorem dX0_tell_26 : decode cX0_tell 26 = .ok (.iload_n 3, 1) := bo_29 (by decide +kernel)
theorem dX0_tell_27 : decode cX0_tell 27 = .ok (.idiv, 1) := bo_108 (by decide +kernel)
theorem dX0_tell_28 : decode cX0_tell 28 = .ok (.iastore, 1) := bo_79 (by decide +kernel)
theorem dX0_tell_29 : decode cX0_tell 29 = .ok (.aload_n 0, 1) := bo_42 (by decide +kernel)
theorem dX0_tell_30 : decode cX0_tell 30 = .ok (.getfield 24, 3) := bo_180 0 24 (by decide +kernel)
theorem k_452 : Cond.fieldLink RX0 24 "BurntWays$Least" "toLines" "[I" ∈ bw_T := bw_m 452 (by decide +kernel) rfl
theorem dX0_tell_33 : decode cX0_tell 33 = .ok (.iload_n 1, 1) := bo_27 (by decide +kernel)
theorem dX0_tell_34 : decode cX0_tell 34 = .ok (.iconst (-1), 1) := bo_2 (by decide +kernel)
theorem dX0_tell_35 : decode cX0_tell 35 = .ok (.iastore, 1) := bo_79 (by decide +kernel)
theorem dX0_tell_36 : decode cX0_tell 36 = .ok (.aload_n 0, 1) := bo_42 (by decide +kernel)
theorem dX0_tell_37 : decode cX0_tell 37 = .ok (.getfield 27, 3) := bo_180 0 27 (by decide +kernel)
theorem k_453 : Cond.fieldLink RX0 27 "BurntWays$Least" "elseLines" "[I" ∈ bw_T := bw_m 453 (by decide +kernel) rfl
theorem dX0_tell_40 : decode cX0_tell 40 = .ok (.iload_n 1, 1) := bo_27 (by decide +kernel)
theorem dX0_tell_41 : decode cX0_tell 41 = .ok (.iconst (-1), 1) := bo_2 (by decide +kernel)
theorem dX0_tell_42 : decode cX0_tell 42 = .ok (.iastore, 1) := bo_79 (by decide +kernel)
theorem dX0_tell_43 : decode cX0_tell 43 = .ok (.iload 4, 2) := bo_21 (by decide +kernel)
theorem dX0_tell_45 : decode cX0_tell 45 = .ok (.iload_n 2, 1) := bo_28 (by decide +kernel)
theorem dX0_tell_46 : decode cX0_tell 46 = .ok (.if_icmp .le 34, 3) := bo_164 0 34 (by decide +kernel)
theorem dX0_tell_80 : decode cX0_tell 80 = .ok (.iload 4, 2) := bo_21 (by decide +kernel)
theorem dX0_tell_82 : decode cX0_tell 82 = .ok (.ifCond .le 13, 3) := bo_158 0 13 (by decide +kernel)
theorem dX0_tell_95 : decode cX0_tell 95 = .ok (.return_, 1) := bo_177 (by decide +kernel)
theorem dX0_tell_85 : decode cX0_tell 85 = .ok (.aload_n 0, 1) := bo_42 (by decide +kernel)
theorem dX0_tell_86 : decode cX0_tell 86 = .ok (.getfield 24, 3) := bo_180 0 24 (by decide +kernel)
theorem dX0_tell_89 : decode cX0_tell 89 = .ok (.iload_n 1, 1) := bo_27 (by decide +kernel)
theorem dX0_tell_90 : decode cX0_tell 90 = .ok (.iload 4, 2) := bo_21 (by decide +kernel)
theorem dX0_tell_92 : decode cX0_tell 92 = .ok (.iconst 1, 1) := bo_4 (by decide +kernel)
theorem dX0_tell_93 : decode cX0_tell 93 = .ok (.isub, 1) := bo_100 (by decide +kernel)
theorem dX0_tell_94 : decode cX0_tell 94 = .ok (.iastore, 1) := bo_79 (by decide +kernel)
theorem dX0_tell_49 : decode cX0_tell 49 = .ok (.aload_n 0, 1) := bo_42 (by decide +kernel)
theorem dX0_tell_50 : decode cX0_tell 50 = .ok (.getfield 24, 3) := bo_180 0 24 (by decide +kernel)
theorem dX0_tell_53 : decode cX0_tell 53 = .ok (.iload_n 1, 1) := bo_27 (by decide +kernel)
theorem dX0_tell_54 : decode cX0_tell 54 = .ok (.iload 4, 2) := bo_21 (by decide +kernel)
theorem dX0_tell_56 : decode cX0_tell 56 = .ok (.iconst 1, 1) := bo_4 (by decide +kernel)
theorem dX0_tell_57 : decode cX0_tell 57 = .ok (.isub, 1) := bo_100 (by decide +kernel)
theorem dX0_tell_58 : decode cX0_tell 58 = .ok (.iload_n 2, 1) := bo_28 (by decide +kernel)
theorem dX0_tell_59 : decode cX0_tell 59 = .ok (.isub, 1) := bo_100 (by decide +kernel)
theorem dX0_tell_60 : decode cX0_tell 60 = .ok (.iload_n 2, 1) := bo_28 (by decide +kernel)
theorem dX0_tell_61 : decode cX0_tell 61 = .ok (.idiv, 1) := bo_108 (by decide +kernel)
theorem dX0_tell_62 : decode cX0_tell 62 = .ok (.iastore, 1) := bo_79 (by decide +kernel)
theorem dX0_tell_63 : decode cX0_tell 63 = .ok (.aload_n 0, 1) := bo_42 (by decide +kernel)
theorem dX0_tell_64 : decode cX0_tell 64 = .ok (.getfield 27, 3) := bo_180 0 27 (by decide +kernel)
theorem dX0_tell_67 : decode cX0_tell 67 = .ok (.iload_n 1, 1) := bo_27 (by decide +kernel)
theorem dX0_tell_68 : decode cX0_tell 68 = .ok (.iload 4, 2) := bo_21 (by decide +kernel)
theorem dX0_tell_70 : decode cX0_tell 70 = .ok (.iconst 1, 1) := bo_4 (by decide +kernel)
theorem dX0_tell_71 : decode cX0_tell 71 = .ok (.isub, 1) := bo_100 (by decide +kernel)
theorem dX0_tell_72 : decode cX0_tell 72 = .ok (.iload_n 2, 1) := bo_28 (by decide +kernel)
theorem dX0_tell_73 : decode cX0_tell 73 = .ok (.isub, 1) := bo_100 (by decide +kernel)
theorem dX0_tell_74 : decode cX0_tell 74 = .ok (.iload_n 2, 1) := bo_28 (by decide +kernel)
theorem dX0_tell_75 : decode cX0_tell 75 = .ok (.irem, 1) := bo_112 (by decide +kernel)
theorem dX0_tell_76 : decode cX0_tell 76 = .ok (.iastore, 1) := bo_79 (by decide +kernel)
theorem dX0_tell_77 : decode cX0_tell 77 = .ok (.goto 18, 3) := bo_167 0 18 (by decide +kernel)
abbrev rm_X0_tell : Room := { frames := 1, cells := 0, slots := 0, locals := 20 }
set_option maxRecDepth 100000 in
set_option maxHeartbeats 8000000 in
theorem c_X0_tell {l : Launch} {E : (Nat → Prop) → State → Prop} (hO : bw_Ok E) {G : va_G} {cI cB cJ cN cW : ClassId} (b : Nat) (q : Nat → Nat) (g : Nat → Nat → Int) (hY : LeastOk g) (x n : Int) (hx9 : 0 ≤ x ∧ x < 3) (hn9 : n = 1 ∨ n = 2 ∨ n = 3) (hv9 : 0 ≤ g 2 x.toNat) : bw_Cv (S := zU) l yX0_tell (bw_ws (Cond.code yX0_tell cX0_tell 5 none)) rm_X0_tell E G (bw_kt cI cB cJ cN cW) [.ref b, .int (zI x), .int (zI n)] [(b, .inr (0, [.ref (q 0), .ref (q 1), .ref (q 2), .ref (q 3), .ref (q 4), .ref (q 5), .ref (q 6)])), ((q 0), .inl (cI, 10, .inl (fun k => zI ((g 0) k)))), ((q 1), .inl (cI, 30, .inl (fun k => zI ((g 1) k)))), ((q 2), .inl (cI, 3, .inl (fun k => zI ((g 2) k)))), ((q 3), .inl (cI, 3, .inl (fun k => zI ((g 3) k)))), ((q 4), .inl (cI, 3, .inl (fun k => zI ((g 4) k)))), ((q 5), .inl (cI, 3, .inl (fun k => zI ((g 5) k)))), ((q 6), .inl (cI, 6, .inl (fun k => zI ((g 6) k))))] (fun u => LeastOk u.2 ∧ (u.2 2 = g 2)) (fun u => [(b, .inr (0, [.ref (q 0), .ref (q 1), .ref (q 2), .ref (q 3), .ref (q 4), .ref (q 5), .ref (q 6)])), ((q 0), .inl (cI, 10, .inl (fun k => zI ((u.2 0) k)))), ((q 1), .inl (cI, 30, .inl (fun k => zI ((u.2 1) k)))), ((q 2), .inl (cI, 3, .inl (fun k => zI ((u.2 2) k)))), ((q 3), .inl (cI, 3, .inl (fun k => zI ((u.2 3) k)))), ((q 4), .inl (cI, 3, .inl (fun k => zI ((u.2 4) k)))), ((q 5), .inl (cI, 3, .inl (fun k => zI ((u.2 5) k)))), ((q 6), .inl (cI, 6, .inl (fun k => zI ((u.2 6) k))))]) := by
  refine bw_Cv.of (cc := cX0_tell) (maxL := 5) (by decide) rfl (Nat.le_of_ble_eq_true rfl) ?_
  intro p e s m below meth c A Q hx hb hml hts hown hin hK hA hS hP hD hE ret ls hl
  have F : CallFix p m c cX0_tell 5 s ([.ref b, .int (zI x), .int (zI n)] : List Value).toArray bw_T RX0 := ⟨hx, hb, hml, hown, fun w h => hts w (List.mem_cons_of_mem _ h)⟩
  replace hl : lv_has ls 5 [(0, .ref b), (1, .int (zI x)), (2, .int (zI n))] := hl
  refine lv_iload_n hx hb dX0_tell_0 rfl (lv_at hl 2 rfl) ?_
  refine r_callSi (As := [.int (zI n)]) (rest := []) (wr := [(b, .inr (0, [.ref (q 0), .ref (q 1), .ref (q 2), .ref (q 3), .ref (q 4), .ref (q 5), .ref (q 6)])), ((q 0), .inl (cI, 10, .inl (fun k => zI ((g 0) k)))), ((q 1), .inl (cI, 30, .inl (fun k => zI ((g 1) k)))), ((q 2), .inl (cI, 3, .inl (fun k => zI ((g 2) k)))), ((q 3), .inl (cI, 3, .inl (fun k => zI ((g 3) k)))), ((q 4), .inl (cI, 3, .inl (fun k => zI ((g 4) k)))), ((q 5), .inl (cI, 3, .inl (fun k => zI ((g 5) k)))), ((q 6), .inl (cI, 6, .inl (fun k => zI ((g 6) k))))]) F hK hP hD hS hA hO hE (c_X0_goalsOf hO n) k_1021 ks_X0_goalsOf 1 rfl (by decide +kernel) ⟨Nat.le_of_ble_eq_true rfl, Nat.le_of_ble_eq_true rfl⟩ [] [0, 1, 2, 3, 4, 5, 6, 7] rfl rfl (by decide) (by decide) (by decide) hl.1 rfl (Nat.le_of_ble_eq_true rfl) dX0_tell_1 ⟨Nat.le_of_ble_eq_true rfl, Nat.le_of_ble_eq_true rfl⟩ (w1 := fun u1 => [(b, .inr (0, [.ref (q 0), .ref (q 1), .ref (q 2), .ref (q 3), .ref (q 4), .ref (q 5), .ref (q 6)])), ((q 0), .inl (cI, 10, .inl (fun k => zI ((g 0) k)))), ((q 1), .inl (cI, 30, .inl (fun k => zI ((g 1) k)))), ((q 2), .inl (cI, 3, .inl (fun k => zI ((g 2) k)))), ((q 3), .inl (cI, 3, .inl (fun k => zI ((g 3) k)))), ((q 4), .inl (cI, 3, .inl (fun k => zI ((g 4) k)))), ((q 5), .inl (cI, 3, .inl (fun k => zI ((g 5) k)))), ((q 6), .inl (cI, 6, .inl (fun k => zI ((g 6) k))))]) (fun _ => rfl) (fun r2 u1 H locs hp3 hP hD hS => ?_)
  obtain ⟨z4, rfl, h_z4⟩ := hp3
  have hgo : 3 ≤ z4 ∧ z4 ≤ 13 := by rcases hn9 with rfl | rfl | rfl <;> omega
  refine lv_istore_n (lv' := [(3, .int (zI z4)), (0, .ref b), (1, .int (zI x)), (2, .int (zI n))]) hx hb dX0_tell_4 rfl hl (by decide) rfl (fun ls hl => ?_)
  refine lv_aload_n hx hb dX0_tell_5 rfl (lv_at hl 1 rfl) ?_
  refine r_get F hK hP 0 2 rfl rfl in_X0 (by decide) k_450 rfl dX0_tell_6 ?_
  refine lv_iload_n hx hb dX0_tell_9 rfl (lv_at hl 2 rfl) ?_
  refine rz_iald F hK hP 3 0 rfl rfl (by omega) (by omega) dX0_tell_10 ?_
  have h_l10_4 := hY.1 (x).toNat (by omega)
  refine lv_iload_n hx hb dX0_tell_11 rfl (lv_at hl 0 rfl) ?_
  refine rz_irem F (by omega) (by omega) dX0_tell_12 (fun z6 h_z6 => ?_)
  refine lv_istore (lv' := [(4, .int (zI z6)), (3, .int (zI z4)), (0, .ref b), (1, .int (zI x)), (2, .int (zI n))]) hx hb dX0_tell_13 hl (by decide) rfl (fun ls hl => ?_)
  refine lv_aload_n hx hb dX0_tell_15 rfl (lv_at hl 2 rfl) ?_
  refine r_get F hK hP 0 3 rfl rfl in_X0 (by decide) k_451 rfl dX0_tell_16 ?_
  refine lv_iload_n hx hb dX0_tell_19 rfl (lv_at hl 3 rfl) ?_
  refine lv_aload_n hx hb dX0_tell_20 rfl (lv_at hl 2 rfl) ?_
  refine r_get F hK hP 0 2 rfl rfl in_X0 (by decide) k_450 rfl dX0_tell_21 ?_
  refine lv_iload_n hx hb dX0_tell_24 rfl (lv_at hl 3 rfl) ?_
  refine rz_iald F hK hP 3 0 rfl rfl (by omega) (by omega) dX0_tell_25 ?_
  have h_l25_6 := hY.1 (x).toNat (by omega)
  refine lv_iload_n hx hb dX0_tell_26 rfl (lv_at hl 1 rfl) ?_
  refine rz_idiv F (by omega) (by omega) dX0_tell_27 (fun z8 h_z8 => ?_)
  refine rz_iastG F hK hP hD hS 4 0 rfl rfl (by omega) (by omega) dX0_tell_28 (w1 := fun g9 => [(b, .inr (0, [.ref (q 0), .ref (q 1), .ref (q 2), .ref (q 3), .ref (q 4), .ref (q 5), .ref (q 6)])), ((q 0), .inl (cI, 10, .inl (fun k => zI ((g 0) k)))), ((q 1), .inl (cI, 30, .inl (fun k => zI ((g 1) k)))), ((q 2), .inl (cI, 3, .inl (fun k => zI ((g 2) k)))), ((q 3), .inl (cI, 3, .inl (fun k => zI (g9 k)))), ((q 4), .inl (cI, 3, .inl (fun k => zI ((g 4) k)))), ((q 5), .inl (cI, 3, .inl (fun k => zI ((g 5) k)))), ((q 6), .inl (cI, 6, .inl (fun k => zI ((g 6) k))))]) (fun _ => rfl) (fun g9 e_g9 H locs hP hD hS => ?_)
  refine lv_aload_n hx hb dX0_tell_29 rfl (lv_at hl 2 rfl) ?_
  refine r_get F hK hP 0 4 rfl rfl in_X0 (by decide) k_452 rfl dX0_tell_30 ?_
  refine lv_iload_n hx hb dX0_tell_33 rfl (lv_at hl 3 rfl) ?_
  refine lv_iconst (v := zI (-1)) hx hb dX0_tell_34 rfl ?_
  refine rz_iastG F hK hP hD hS 5 0 rfl rfl (by omega) (by omega) dX0_tell_35 (w1 := fun g10 => [(b, .inr (0, [.ref (q 0), .ref (q 1), .ref (q 2), .ref (q 3), .ref (q 4), .ref (q 5), .ref (q 6)])), ((q 0), .inl (cI, 10, .inl (fun k => zI ((g 0) k)))), ((q 1), .inl (cI, 30, .inl (fun k => zI ((g 1) k)))), ((q 2), .inl (cI, 3, .inl (fun k => zI ((g 2) k)))), ((q 3), .inl (cI, 3, .inl (fun k => zI (g9 k)))), ((q 4), .inl (cI, 3, .inl (fun k => zI (g10 k)))), ((q 5), .inl (cI, 3, .inl (fun k => zI ((g 5) k)))), ((q 6), .inl (cI, 6, .inl (fun k => zI ((g 6) k))))]) (fun _ => rfl) (fun g10 e_g10 H locs hP hD hS => ?_)
  have h_g10 : ∀ k, k < 3 → (-1) ≤ g10 k ∧ g10 k ≤ 2 := by rw [e_g10]; exact uZ_all (P := fun _ y9 => (-1) ≤ y9 ∧ y9 ≤ 2) hY.2.1 (fun _ => by omega)
  refine lv_aload_n hx hb dX0_tell_36 rfl (lv_at hl 2 rfl) ?_
  refine r_get F hK hP 0 5 rfl rfl in_X0 (by decide) k_453 rfl dX0_tell_37 ?_
  refine lv_iload_n hx hb dX0_tell_40 rfl (lv_at hl 3 rfl) ?_
  refine lv_iconst (v := zI (-1)) hx hb dX0_tell_41 rfl ?_
  refine rz_iastG F hK hP hD hS 6 0 rfl rfl (by omega) (by omega) dX0_tell_42 (w1 := fun g11 => [(b, .inr (0, [.ref (q 0), .ref (q 1), .ref (q 2), .ref (q 3), .ref (q 4), .ref (q 5), .ref (q 6)])), ((q 0), .inl (cI, 10, .inl (fun k => zI ((g 0) k)))), ((q 1), .inl (cI, 30, .inl (fun k => zI ((g 1) k)))), ((q 2), .inl (cI, 3, .inl (fun k => zI ((g 2) k)))), ((q 3), .inl (cI, 3, .inl (fun k => zI (g9 k)))), ((q 4), .inl (cI, 3, .inl (fun k => zI (g10 k)))), ((q 5), .inl (cI, 3, .inl (fun k => zI (g11 k)))), ((q 6), .inl (cI, 6, .inl (fun k => zI ((g 6) k))))]) (fun _ => rfl) (fun g11 e_g11 H locs hP hD hS => ?_)
  have h_g11 : ∀ k, k < 3 → (-1) ≤ g11 k ∧ g11 k ≤ 2 := by rw [e_g11]; exact uZ_all (P := fun _ y9 => (-1) ≤ y9 ∧ y9 ≤ 2) hY.2.2 (fun _ => by omega)
  refine lv_iload hx hb dX0_tell_43 (lv_at hl 0 rfl) ?_
  refine lv_iload_n hx hb dX0_tell_45 rfl (lv_at hl 4 rfl) ?_
  refine rz_icmp_le (tgt := 80) F (by omega) (by omega) dX0_tell_46 (by decide) (fun h46_11 => ?_) (fun h46_11 => ?_)
  · refine lv_iload hx hb dX0_tell_80 (lv_at hl 0 rfl) ?_
    refine rz_if_le (tgt := 95) F (by omega) dX0_tell_82 (by decide) (fun h82_12 => ?_) (fun h82_12 => ?_)
    · obtain ⟨i14, e_i14⟩ : ∃ i14 : Nat → Int, i14 = fun k => [].getD k 0 := ⟨_, rfl⟩
      obtain ⟨gg15, e_gg15⟩ : ∃ gg15 : Nat → Nat → Int, gg15 = fun k => [(g 0), (g 1), (g 2), g9, g10, g11, (g 6)].getD k (fun _ => 0) := ⟨_, rfl⟩
      have hO16 : LeastOk gg15 := by rw [e_gg15]; exact ⟨hY.1, h_g10, h_g11⟩
      have hP : va_P G vwCl [(b, .inr (0, [.ref (q 0), .ref (q 1), .ref (q 2), .ref (q 3), .ref (q 4), .ref (q 5), .ref (q 6)])), ((q 0), .inl (cI, 10, .inl (fun k => zI ((gg15 0) k)))), ((q 1), .inl (cI, 30, .inl (fun k => zI ((gg15 1) k)))), ((q 2), .inl (cI, 3, .inl (fun k => zI ((gg15 2) k)))), ((q 3), .inl (cI, 3, .inl (fun k => zI ((gg15 3) k)))), ((q 4), .inl (cI, 3, .inl (fun k => zI ((gg15 4) k)))), ((q 5), .inl (cI, 3, .inl (fun k => zI ((gg15 5) k)))), ((q 6), .inl (cI, 6, .inl (fun k => zI ((gg15 6) k))))] H := by subst e_i14 e_gg15; exact hP
      have hD : va_D A [(b, .inr (0, [.ref (q 0), .ref (q 1), .ref (q 2), .ref (q 3), .ref (q 4), .ref (q 5), .ref (q 6)])), ((q 0), .inl (cI, 10, .inl (fun k => zI ((gg15 0) k)))), ((q 1), .inl (cI, 30, .inl (fun k => zI ((gg15 1) k)))), ((q 2), .inl (cI, 3, .inl (fun k => zI ((gg15 2) k)))), ((q 3), .inl (cI, 3, .inl (fun k => zI ((gg15 3) k)))), ((q 4), .inl (cI, 3, .inl (fun k => zI ((gg15 4) k)))), ((q 5), .inl (cI, 3, .inl (fun k => zI ((gg15 5) k)))), ((q 6), .inl (cI, 6, .inl (fun k => zI ((gg15 6) k))))] := by subst e_i14 e_gg15; exact hD
      exact ret (fun _ => 0, gg15) _ _ _ _ _ _ ⟨hO16, by subst e_gg15; rfl⟩ (bw_subP (isC := [0, 1, 2, 3, 4, 5, 6, 7]) hP rfl) (hD.sub [0, 1, 2, 3, 4, 5, 6, 7] (by decide) rfl) hS (Nat.le_of_ble_eq_true rfl) (Nat.le_of_ble_eq_true rfl) dX0_tell_95
    · refine lv_aload_n hx hb dX0_tell_85 rfl (lv_at hl 2 rfl) ?_
      refine r_get F hK hP 0 4 rfl rfl in_X0 (by decide) k_452 rfl dX0_tell_86 ?_
      refine lv_iload_n hx hb dX0_tell_89 rfl (lv_at hl 3 rfl) ?_
      refine lv_iload hx hb dX0_tell_90 (lv_at hl 0 rfl) ?_
      refine lv_iconst (v := zI 1) hx hb dX0_tell_92 rfl ?_
      refine r_isub (v := zI (z6 - 1)) F dX0_tell_93 (zI_sub _ _) ?_
      refine rz_iastG F hK hP hD hS 5 0 rfl rfl (by omega) (by omega) dX0_tell_94 (w1 := fun g17 => [(b, .inr (0, [.ref (q 0), .ref (q 1), .ref (q 2), .ref (q 3), .ref (q 4), .ref (q 5), .ref (q 6)])), ((q 0), .inl (cI, 10, .inl (fun k => zI ((g 0) k)))), ((q 1), .inl (cI, 30, .inl (fun k => zI ((g 1) k)))), ((q 2), .inl (cI, 3, .inl (fun k => zI ((g 2) k)))), ((q 3), .inl (cI, 3, .inl (fun k => zI (g9 k)))), ((q 4), .inl (cI, 3, .inl (fun k => zI (g17 k)))), ((q 5), .inl (cI, 3, .inl (fun k => zI (g11 k)))), ((q 6), .inl (cI, 6, .inl (fun k => zI ((g 6) k))))]) (fun _ => rfl) (fun g17 e_g17 H locs hP hD hS => ?_)
      have h_g17 : ∀ k, k < 3 → (-1) ≤ g17 k ∧ g17 k ≤ 2 := by rw [e_g17]; exact uZ_all (P := fun _ y9 => (-1) ≤ y9 ∧ y9 ≤ 2) h_g10 (fun _ => by omega)
      obtain ⟨i18, e_i18⟩ : ∃ i18 : Nat → Int, i18 = fun k => [].getD k 0 := ⟨_, rfl⟩
      obtain ⟨gg19, e_gg19⟩ : ∃ gg19 : Nat → Nat → Int, gg19 = fun k => [(g 0), (g 1), (g 2), g9, g17, g11, (g 6)].getD k (fun _ => 0) := ⟨_, rfl⟩
      have hO20 : LeastOk gg19 := by rw [e_gg19]; exact ⟨hY.1, h_g17, h_g11⟩
      have hP : va_P G vwCl [(b, .inr (0, [.ref (q 0), .ref (q 1), .ref (q 2), .ref (q 3), .ref (q 4), .ref (q 5), .ref (q 6)])), ((q 0), .inl (cI, 10, .inl (fun k => zI ((gg19 0) k)))), ((q 1), .inl (cI, 30, .inl (fun k => zI ((gg19 1) k)))), ((q 2), .inl (cI, 3, .inl (fun k => zI ((gg19 2) k)))), ((q 3), .inl (cI, 3, .inl (fun k => zI ((gg19 3) k)))), ((q 4), .inl (cI, 3, .inl (fun k => zI ((gg19 4) k)))), ((q 5), .inl (cI, 3, .inl (fun k => zI ((gg19 5) k)))), ((q 6), .inl (cI, 6, .inl (fun k => zI ((gg19 6) k))))] H := by subst e_i18 e_gg19; exact hP
      have hD : va_D A [(b, .inr (0, [.ref (q 0), .ref (q 1), .ref (q 2), .ref (q 3), .ref (q 4), .ref (q 5), .ref (q 6)])), ((q 0), .inl (cI, 10, .inl (fun k => zI ((gg19 0) k)))), ((q 1), .inl (cI, 30, .inl (fun k => zI ((gg19 1) k)))), ((q 2), .inl (cI, 3, .inl (fun k => zI ((gg19 2) k)))), ((q 3), .inl (cI, 3, .inl (fun k => zI ((gg19 3) k)))), ((q 4), .inl (cI, 3, .inl (fun k => zI ((gg19 4) k)))), ((q 5), .inl (cI, 3, .inl (fun k => zI ((gg19 5) k)))), ((q 6), .inl (cI, 6, .inl (fun k => zI ((gg19 6) k))))] := by subst e_i18 e_gg19; exact hD
      exact ret (fun _ => 0, gg19) _ _ _ _ _ _ ⟨hO20, by subst e_gg19; rfl⟩ (bw_subP (isC := [0, 1, 2, 3, 4, 5, 6, 7]) hP rfl) (hD.sub [0, 1, 2, 3, 4, 5, 6, 7] (by decide) rfl) hS (Nat.le_of_ble_eq_true rfl) (Nat.le_of_ble_eq_true rfl) dX0_tell_95
  · refine lv_aload_n hx hb dX0_tell_49 rfl (lv_at hl 2 rfl) ?_
    refine r_get F hK hP 0 4 rfl rfl in_X0 (by decide) k_452 rfl dX0_tell_50 ?_
    refine lv_iload_n hx hb dX0_tell_53 rfl (lv_at hl 3 rfl) ?_
    refine lv_iload hx hb dX0_tell_54 (lv_at hl 0 rfl) ?_
    refine lv_iconst (v := zI 1) hx hb dX0_tell_56 rfl ?_
    refine r_isub (v := zI (z6 - 1)) F dX0_tell_57 (zI_sub _ _) ?_
    refine lv_iload_n hx hb dX0_tell_58 rfl (lv_at hl 4 rfl) ?_
    refine r_isub (v := zI ((z6 - 1) - n)) F dX0_tell_59 (zI_sub _ _) ?_
    refine lv_iload_n hx hb dX0_tell_60 rfl (lv_at hl 4 rfl) ?_
    refine rz_idiv F (by omega) (by omega) dX0_tell_61 (fun z21 h_z21 => ?_)
    have hd_z21 : 0 ≤ z21 ∧ z21 ≤ 2 := by rcases hn9 with rfl | rfl | rfl <;> omega
    refine rz_iastG F hK hP hD hS 5 0 rfl rfl (by omega) (by omega) dX0_tell_62 (w1 := fun g22 => [(b, .inr (0, [.ref (q 0), .ref (q 1), .ref (q 2), .ref (q 3), .ref (q 4), .ref (q 5), .ref (q 6)])), ((q 0), .inl (cI, 10, .inl (fun k => zI ((g 0) k)))), ((q 1), .inl (cI, 30, .inl (fun k => zI ((g 1) k)))), ((q 2), .inl (cI, 3, .inl (fun k => zI ((g 2) k)))), ((q 3), .inl (cI, 3, .inl (fun k => zI (g9 k)))), ((q 4), .inl (cI, 3, .inl (fun k => zI (g22 k)))), ((q 5), .inl (cI, 3, .inl (fun k => zI (g11 k)))), ((q 6), .inl (cI, 6, .inl (fun k => zI ((g 6) k))))]) (fun _ => rfl) (fun g22 e_g22 H locs hP hD hS => ?_)
    have h_g22 : ∀ k, k < 3 → (-1) ≤ g22 k ∧ g22 k ≤ 2 := by rw [e_g22]; exact uZ_all (P := fun _ y9 => (-1) ≤ y9 ∧ y9 ≤ 2) h_g10 (fun _ => by omega)
    refine lv_aload_n hx hb dX0_tell_63 rfl (lv_at hl 2 rfl) ?_
    refine r_get F hK hP 0 5 rfl rfl in_X0 (by decide) k_453 rfl dX0_tell_64 ?_
    refine lv_iload_n hx hb dX0_tell_67 rfl (lv_at hl 3 rfl) ?_
    refine lv_iload hx hb dX0_tell_68 (lv_at hl 0 rfl) ?_
    refine lv_iconst (v := zI 1) hx hb dX0_tell_70 rfl ?_
    refine r_isub (v := zI (z6 - 1)) F dX0_tell_71 (zI_sub _ _) ?_
    refine lv_iload_n hx hb dX0_tell_72 rfl (lv_at hl 4 rfl) ?_
    refine r_isub (v := zI ((z6 - 1) - n)) F dX0_tell_73 (zI_sub _ _) ?_
    refine lv_iload_n hx hb dX0_tell_74 rfl (lv_at hl 4 rfl) ?_
    refine rz_irem F (by omega) (by omega) dX0_tell_75 (fun z23 h_z23 => ?_)
    have hd_z23 : 0 ≤ z23 ∧ z23 ≤ 2 := by rcases hn9 with rfl | rfl | rfl <;> omega
    refine rz_iastG F hK hP hD hS 6 0 rfl rfl (by omega) (by omega) dX0_tell_76 (w1 := fun g24 => [(b, .inr (0, [.ref (q 0), .ref (q 1), .ref (q 2), .ref (q 3), .ref (q 4), .ref (q 5), .ref (q 6)])), ((q 0), .inl (cI, 10, .inl (fun k => zI ((g 0) k)))), ((q 1), .inl (cI, 30, .inl (fun k => zI ((g 1) k)))), ((q 2), .inl (cI, 3, .inl (fun k => zI ((g 2) k)))), ((q 3), .inl (cI, 3, .inl (fun k => zI (g9 k)))), ((q 4), .inl (cI, 3, .inl (fun k => zI (g22 k)))), ((q 5), .inl (cI, 3, .inl (fun k => zI (g24 k)))), ((q 6), .inl (cI, 6, .inl (fun k => zI ((g 6) k))))]) (fun _ => rfl) (fun g24 e_g24 H locs hP hD hS => ?_)
    have h_g24 : ∀ k, k < 3 → (-1) ≤ g24 k ∧ g24 k ≤ 2 := by rw [e_g24]; exact uZ_all (P := fun _ y9 => (-1) ≤ y9 ∧ y9 ≤ 2) h_g11 (fun _ => by omega)
    refine lv_goto (tgt := 95) hx hb dX0_tell_77 (by decide) ?_
    obtain ⟨i25, e_i25⟩ : ∃ i25 : Nat → Int, i25 = fun k => [].getD k 0 := ⟨_, rfl⟩
    obtain ⟨gg26, e_gg26⟩ : ∃ gg26 : Nat → Nat → Int, gg26 = fun k => [(g 0), (g 1), (g 2), g9, g22, g24, (g 6)].getD k (fun _ => 0) := ⟨_, rfl⟩
    have hO27 : LeastOk gg26 := by rw [e_gg26]; exact ⟨hY.1, h_g22, h_g24⟩
    have hP : va_P G vwCl [(b, .inr (0, [.ref (q 0), .ref (q 1), .ref (q 2), .ref (q 3), .ref (q 4), .ref (q 5), .ref (q 6)])), ((q 0), .inl (cI, 10, .inl (fun k => zI ((gg26 0) k)))), ((q 1), .inl (cI, 30, .inl (fun k => zI ((gg26 1) k)))), ((q 2), .inl (cI, 3, .inl (fun k => zI ((gg26 2) k)))), ((q 3), .inl (cI, 3, .inl (fun k => zI ((gg26 3) k)))), ((q 4), .inl (cI, 3, .inl (fun k => zI ((gg26 4) k)))), ((q 5), .inl (cI, 3, .inl (fun k => zI ((gg26 5) k)))), ((q 6), .inl (cI, 6, .inl (fun k => zI ((gg26 6) k))))] H := by subst e_i25 e_gg26; exact hP
    have hD : va_D A [(b, .inr (0, [.ref (q 0), .ref (q 1), .ref (q 2), .ref (q 3), .ref (q 4), .ref (q 5), .ref (q 6)])), ((q 0), .inl (cI, 10, .inl (fun k => zI ((gg26 0) k)))), ((q 1), .inl (cI, 30, .inl (fun k => zI ((gg26 1) k)))), ((q 2), .inl (cI, 3, .inl (fun k => zI ((gg26 2) k)))), ((q 3), .inl (cI, 3, .inl (fun k => zI ((gg26 3) k)))), ((q 4), .inl (cI, 3, .inl (fun k => zI ((gg26 4) k)))), ((q 5), .inl (cI, 3, .inl (fun k => zI ((gg26 5) k)))), ((q 6), .inl (cI, 6, .inl (fun k => zI ((gg26 6) k))))] := by subst e_i25 e_gg26; exact hD
    exact ret (fun _ => 0, gg26) _ _ _ _ _ _ ⟨hO27, by subst e_gg26; rfl⟩ (bw_subP (isC := [0, 1, 2, 3, 4, 5, 6, 7]) hP rfl) (hD.sub [0, 1, 2, 3, 4, 5, 6, 7] (by decide) rfl) hS (Nat.le_of_ble_eq_true rfl) (Nat.le_of_ble_eq_true rfl) dX0_tell_95
theorem dX0_mayAnswerOne_0 : decode cX0_mayAnswerOne 0 = .ok (.aload_n 1, 1) := bo_43 (by decide +kernel)
theorem dX0_mayAnswerOne_1 : decode cX0_mayAnswerOne 1 = .ok (.iload_n 2, 1) := bo_28 (by decide +kernel)
theorem dX0_mayAnswerOne_2 : decode cX0_mayAnswerOne 2 = .ok (.iconst 0, 1) := bo_3 (by decide +kernel)
theorem dX0_mayAnswerOne_3 : decode cX0_mayAnswerOne 3 = .ok (.invokevirtual 76, 3) := bo_182 0 76 (by decide +kernel)
theorem k_1037 : Cond.methodLink RX0 76 yX7_part ∈ bw_T := bw_m 1037 (by decide +kernel) rfl
theorem kv_X7_part : bw_KV RX7 yX7_part (Cond.code yX7_part cX7_part 3 (some .int)) := ⟨bw_m 848 (by decide +kernel) rfl, bw_m 849 (by decide +kernel) rfl, bw_m 97 (by decide +kernel) rfl, bw_m 850 (by decide +kernel) rfl⟩
theorem dX0_mayAnswerOne_6 : decode cX0_mayAnswerOne 6 = .ok (.istore 5, 2) := bo_54 (by decide +kernel)
theorem dX0_mayAnswerOne_8 : decode cX0_mayAnswerOne 8 = .ok (.aload_n 1, 1) := bo_43 (by decide +kernel)
theorem dX0_mayAnswerOne_9 : decode cX0_mayAnswerOne 9 = .ok (.iload_n 2, 1) := bo_28 (by decide +kernel)
theorem dX0_mayAnswerOne_10 : decode cX0_mayAnswerOne 10 = .ok (.iconst 1, 1) := bo_4 (by decide +kernel)
theorem dX0_mayAnswerOne_11 : decode cX0_mayAnswerOne 11 = .ok (.invokevirtual 76, 3) := bo_182 0 76 (by decide +kernel)
theorem dX0_mayAnswerOne_14 : decode cX0_mayAnswerOne 14 = .ok (.istore 6, 2) := bo_54 (by decide +kernel)
theorem dX0_mayAnswerOne_16 : decode cX0_mayAnswerOne 16 = .ok (.iconst 0, 1) := bo_3 (by decide +kernel)
theorem dX0_mayAnswerOne_17 : decode cX0_mayAnswerOne 17 = .ok (.istore 7, 2) := bo_54 (by decide +kernel)
theorem dX0_mayAnswerOne_19 : decode cX0_mayAnswerOne 19 = .ok (.aload_n 0, 1) := bo_42 (by decide +kernel)
theorem dX0_mayAnswerOne_20 : decode cX0_mayAnswerOne 20 = .ok (.getfield 30, 3) := bo_180 0 30 (by decide +kernel)
theorem k_454 : Cond.fieldLink RX0 30 "BurntWays$Least" "taken" "[I" ∈ bw_T := bw_m 454 (by decide +kernel) rfl
theorem dX0_mayAnswerOne_23 : decode cX0_mayAnswerOne 23 = .ok (.iconst 0, 1) := bo_3 (by decide +kernel)
theorem dX0_mayAnswerOne_24 : decode cX0_mayAnswerOne 24 = .ok (.invokestatic 33, 3) := bo_184 0 33 (by decide +kernel)
theorem dX0_mayAnswerOne_27 : decode cX0_mayAnswerOne 27 = .ok (.iconst 0, 1) := bo_3 (by decide +kernel)
theorem dX0_mayAnswerOne_28 : decode cX0_mayAnswerOne 28 = .ok (.istore 8, 2) := bo_54 (by decide +kernel)
theorem dX0_mayAnswerOne_30 : decode cX0_mayAnswerOne 30 = .ok (.iload 8, 2) := bo_21 (by decide +kernel)
theorem dX0_mayAnswerOne_32 : decode cX0_mayAnswerOne 32 = .ok (.sipush 1000, 3) := bo_17 3 232 (by decide +kernel)
theorem dX0_mayAnswerOne_35 : decode cX0_mayAnswerOne 35 = .ok (.if_icmp .ge 194, 3) := bo_162 0 194 (by decide +kernel)
theorem dX0_mayAnswerOne_229 : decode cX0_mayAnswerOne 229 = .ok (.iconst 1, 1) := bo_4 (by decide +kernel)
theorem dX0_mayAnswerOne_230 : decode cX0_mayAnswerOne 230 = .ok (.ireturn, 1) := bo_172 (by decide +kernel)
theorem dX0_mayAnswerOne_38 : decode cX0_mayAnswerOne 38 = .ok (.iload 7, 2) := bo_21 (by decide +kernel)
theorem dX0_mayAnswerOne_40 : decode cX0_mayAnswerOne 40 = .ok (.iload 4, 2) := bo_21 (by decide +kernel)
theorem dX0_mayAnswerOne_42 : decode cX0_mayAnswerOne 42 = .ok (.if_icmp .ge 187, 3) := bo_162 0 187 (by decide +kernel)
theorem dX0_mayAnswerOne_45 : decode cX0_mayAnswerOne 45 = .ok (.aload_n 0, 1) := bo_42 (by decide +kernel)
theorem dX0_mayAnswerOne_46 : decode cX0_mayAnswerOne 46 = .ok (.getfield 21, 3) := bo_180 0 21 (by decide +kernel)
theorem dX0_mayAnswerOne_49 : decode cX0_mayAnswerOne 49 = .ok (.iload 7, 2) := bo_21 (by decide +kernel)
theorem dX0_mayAnswerOne_51 : decode cX0_mayAnswerOne 51 = .ok (.iaload, 1) := bo_46 (by decide +kernel)
theorem dX0_mayAnswerOne_52 : decode cX0_mayAnswerOne 52 = .ok (.istore 9, 2) := bo_54 (by decide +kernel)
theorem dX0_mayAnswerOne_104 : decode cX0_mayAnswerOne 104 = .ok (.aload_n 0, 1) := bo_42 (by decide +kernel)
theorem dX0_mayAnswerOne_105 : decode cX0_mayAnswerOne 105 = .ok (.getfield 24, 3) := bo_180 0 24 (by decide +kernel)
theorem dX0_mayAnswerOne_108 : decode cX0_mayAnswerOne 108 = .ok (.iload 7, 2) := bo_21 (by decide +kernel)
theorem dX0_mayAnswerOne_110 : decode cX0_mayAnswerOne 110 = .ok (.iaload, 1) := bo_46 (by decide +kernel)
theorem dX0_mayAnswerOne_111 : decode cX0_mayAnswerOne 111 = .ok (.iconst (-1), 1) := bo_2 (by decide +kernel)
theorem dX0_mayAnswerOne_112 : decode cX0_mayAnswerOne 112 = .ok (.if_icmp .ne 20, 3) := bo_160 0 20 (by decide +kernel)
theorem dX0_mayAnswerOne_132 : decode cX0_mayAnswerOne 132 = .ok (.aload_n 0, 1) := bo_42 (by decide +kernel)
theorem dX0_mayAnswerOne_133 : decode cX0_mayAnswerOne 133 = .ok (.getfield 27, 3) := bo_180 0 27 (by decide +kernel)
theorem dX0_mayAnswerOne_136 : decode cX0_mayAnswerOne 136 = .ok (.iload 7, 2) := bo_21 (by decide +kernel)
theorem dX0_mayAnswerOne_138 : decode cX0_mayAnswerOne 138 = .ok (.iaload, 1) := bo_46 (by decide +kernel)
theorem dX0_mayAnswerOne_139 : decode cX0_mayAnswerOne 139 = .ok (.iconst (-1), 1) := bo_2 (by decide +kernel)
theorem dX0_mayAnswerOne_140 : decode cX0_mayAnswerOne 140 = .ok (.if_icmp .eq 12, 3) := bo_159 0 12 (by decide +kernel)
theorem dX0_mayAnswerOne_152 : decode cX0_mayAnswerOne 152 = .ok (.iconst 0, 1) := bo_3 (by decide +kernel)
theorem dX0_mayAnswerOne_153 : decode cX0_mayAnswerOne 153 = .ok (.istore 10, 2) := bo_54 (by decide +kernel)
theorem dX0_mayAnswerOne_155 : decode cX0_mayAnswerOne 155 = .ok (.iload 10, 2) := bo_21 (by decide +kernel)
theorem dX0_mayAnswerOne_157 : decode cX0_mayAnswerOne 157 = .ok (.ifCond .eq 12, 3) := bo_153 0 12 (by decide +kernel)
theorem dX0_mayAnswerOne_169 : decode cX0_mayAnswerOne 169 = .ok (.iconst 2, 1) := bo_5 (by decide +kernel)
theorem dX0_mayAnswerOne_170 : decode cX0_mayAnswerOne 170 = .ok (.iload 7, 2) := bo_21 (by decide +kernel)
theorem dX0_mayAnswerOne_172 : decode cX0_mayAnswerOne 172 = .ok (.imul, 1) := bo_104 (by decide +kernel)
theorem dX0_mayAnswerOne_173 : decode cX0_mayAnswerOne 173 = .ok (.istore 11, 2) := bo_54 (by decide +kernel)
theorem dX0_mayAnswerOne_175 : decode cX0_mayAnswerOne 175 = .ok (.aload_n 0, 1) := bo_42 (by decide +kernel)
theorem dX0_mayAnswerOne_176 : decode cX0_mayAnswerOne 176 = .ok (.getfield 30, 3) := bo_180 0 30 (by decide +kernel)
theorem dX0_mayAnswerOne_179 : decode cX0_mayAnswerOne 179 = .ok (.iload 11, 2) := bo_21 (by decide +kernel)
theorem dX0_mayAnswerOne_181 : decode cX0_mayAnswerOne 181 = .ok (.iaload, 1) := bo_46 (by decide +kernel)
theorem dX0_mayAnswerOne_182 : decode cX0_mayAnswerOne 182 = .ok (.iload_n 3, 1) := bo_29 (by decide +kernel)
theorem dX0_mayAnswerOne_183 : decode cX0_mayAnswerOne 183 = .ok (.if_icmp .lt 5, 3) := bo_161 0 5 (by decide +kernel)
theorem dX0_mayAnswerOne_188 : decode cX0_mayAnswerOne 188 = .ok (.aload_n 0, 1) := bo_42 (by decide +kernel)
theorem dX0_mayAnswerOne_189 : decode cX0_mayAnswerOne 189 = .ok (.getfield 30, 3) := bo_180 0 30 (by decide +kernel)
theorem dX0_mayAnswerOne_192 : decode cX0_mayAnswerOne 192 = .ok (.iload 11, 2) := bo_21 (by decide +kernel)
theorem dX0_mayAnswerOne_194 : decode cX0_mayAnswerOne 194 = .ok (.dup2, 1) := bo_92 (by decide +kernel)
theorem dX0_mayAnswerOne_195 : decode cX0_mayAnswerOne 195 = .ok (.iaload, 1) := bo_46 (by decide +kernel)
theorem dX0_mayAnswerOne_196 : decode cX0_mayAnswerOne 196 = .ok (.iconst 1, 1) := bo_4 (by decide +kernel)
theorem dX0_mayAnswerOne_197 : decode cX0_mayAnswerOne 197 = .ok (.iadd, 1) := bo_96 (by decide +kernel)
theorem dX0_mayAnswerOne_198 : decode cX0_mayAnswerOne 198 = .ok (.iastore, 1) := bo_79 (by decide +kernel)
theorem dX0_mayAnswerOne_199 : decode cX0_mayAnswerOne 199 = .ok (.iload 10, 2) := bo_21 (by decide +kernel)
theorem dX0_mayAnswerOne_201 : decode cX0_mayAnswerOne 201 = .ok (.ifCond .eq 13, 3) := bo_153 0 13 (by decide +kernel)
theorem dX0_mayAnswerOne_214 : decode cX0_mayAnswerOne 214 = .ok (.aload_n 0, 1) := bo_42 (by decide +kernel)
theorem dX0_mayAnswerOne_215 : decode cX0_mayAnswerOne 215 = .ok (.getfield 24, 3) := bo_180 0 24 (by decide +kernel)
theorem dX0_mayAnswerOne_218 : decode cX0_mayAnswerOne 218 = .ok (.iload 7, 2) := bo_21 (by decide +kernel)
theorem dX0_mayAnswerOne_220 : decode cX0_mayAnswerOne 220 = .ok (.iaload, 1) := bo_46 (by decide +kernel)
theorem dX0_mayAnswerOne_221 : decode cX0_mayAnswerOne 221 = .ok (.istore 7, 2) := bo_54 (by decide +kernel)
theorem dX0_mayAnswerOne_223 : decode cX0_mayAnswerOne 223 = .ok (.iinc 8 1, 3) := bo_132 8 1 (by decide +kernel)
theorem dX0_mayAnswerOne_226 : decode cX0_mayAnswerOne 226 = .ok (.goto (-196), 3) := bo_167 255 60 (by decide +kernel)
theorem dX0_mayAnswerOne_186 : decode cX0_mayAnswerOne 186 = .ok (.iconst 0, 1) := bo_3 (by decide +kernel)
theorem dX0_mayAnswerOne_187 : decode cX0_mayAnswerOne 187 = .ok (.ireturn, 1) := bo_172 (by decide +kernel)
theorem dX0_mayAnswerOne_143 : decode cX0_mayAnswerOne 143 = .ok (.iload 6, 2) := bo_21 (by decide +kernel)
theorem dX0_mayAnswerOne_145 : decode cX0_mayAnswerOne 145 = .ok (.ifCond .ne 7, 3) := bo_154 0 7 (by decide +kernel)
theorem dX0_mayAnswerOne_148 : decode cX0_mayAnswerOne 148 = .ok (.iconst 1, 1) := bo_4 (by decide +kernel)
theorem dX0_mayAnswerOne_149 : decode cX0_mayAnswerOne 149 = .ok (.goto 4, 3) := bo_167 0 4 (by decide +kernel)
theorem dX0_mayAnswerOne_160 : decode cX0_mayAnswerOne 160 = .ok (.iconst 2, 1) := bo_5 (by decide +kernel)
theorem dX0_mayAnswerOne_161 : decode cX0_mayAnswerOne 161 = .ok (.iload 7, 2) := bo_21 (by decide +kernel)
theorem dX0_mayAnswerOne_163 : decode cX0_mayAnswerOne 163 = .ok (.imul, 1) := bo_104 (by decide +kernel)
theorem dX0_mayAnswerOne_164 : decode cX0_mayAnswerOne 164 = .ok (.iconst 1, 1) := bo_4 (by decide +kernel)
theorem dX0_mayAnswerOne_165 : decode cX0_mayAnswerOne 165 = .ok (.iadd, 1) := bo_96 (by decide +kernel)
theorem dX0_mayAnswerOne_166 : decode cX0_mayAnswerOne 166 = .ok (.goto 7, 3) := bo_167 0 7 (by decide +kernel)
theorem dX0_mayAnswerOne_204 : decode cX0_mayAnswerOne 204 = .ok (.aload_n 0, 1) := bo_42 (by decide +kernel)
theorem dX0_mayAnswerOne_205 : decode cX0_mayAnswerOne 205 = .ok (.getfield 27, 3) := bo_180 0 27 (by decide +kernel)
theorem dX0_mayAnswerOne_208 : decode cX0_mayAnswerOne 208 = .ok (.iload 7, 2) := bo_21 (by decide +kernel)
theorem dX0_mayAnswerOne_210 : decode cX0_mayAnswerOne 210 = .ok (.iaload, 1) := bo_46 (by decide +kernel)
theorem dX0_mayAnswerOne_211 : decode cX0_mayAnswerOne 211 = .ok (.goto 10, 3) := bo_167 0 10 (by decide +kernel)
theorem dX0_mayAnswerOne_115 : decode cX0_mayAnswerOne 115 = .ok (.iload 5, 2) := bo_21 (by decide +kernel)
theorem dX0_mayAnswerOne_117 : decode cX0_mayAnswerOne 117 = .ok (.aload_n 1, 1) := bo_43 (by decide +kernel)
theorem dX0_mayAnswerOne_118 : decode cX0_mayAnswerOne 118 = .ok (.iload_n 2, 1) := bo_28 (by decide +kernel)
theorem dX0_mayAnswerOne_119 : decode cX0_mayAnswerOne 119 = .ok (.iconst 4, 1) := bo_7 (by decide +kernel)
theorem dX0_mayAnswerOne_120 : decode cX0_mayAnswerOne 120 = .ok (.invokevirtual 76, 3) := bo_182 0 76 (by decide +kernel)
theorem dX0_mayAnswerOne_123 : decode cX0_mayAnswerOne 123 = .ok (.if_icmp .ne 7, 3) := bo_160 0 7 (by decide +kernel)
theorem dX0_mayAnswerOne_130 : decode cX0_mayAnswerOne 130 = .ok (.iconst 0, 1) := bo_3 (by decide +kernel)
theorem dX0_mayAnswerOne_131 : decode cX0_mayAnswerOne 131 = .ok (.ireturn, 1) := bo_172 (by decide +kernel)
theorem dX0_mayAnswerOne_126 : decode cX0_mayAnswerOne 126 = .ok (.iconst 1, 1) := bo_4 (by decide +kernel)
theorem dX0_mayAnswerOne_127 : decode cX0_mayAnswerOne 127 = .ok (.goto 4, 3) := bo_167 0 4 (by decide +kernel)
theorem dX0_mayAnswerOne_54 : decode cX0_mayAnswerOne 54 = .ok (.iload 9, 2) := bo_21 (by decide +kernel)
theorem dX0_mayAnswerOne_56 : decode cX0_mayAnswerOne 56 = .ok (.iconst 1, 1) := bo_4 (by decide +kernel)
theorem dX0_mayAnswerOne_57 : decode cX0_mayAnswerOne 57 = .ok (.if_icmp .ne 16, 3) := bo_160 0 16 (by decide +kernel)
theorem dX0_mayAnswerOne_73 : decode cX0_mayAnswerOne 73 = .ok (.iload 9, 2) := bo_21 (by decide +kernel)
theorem dX0_mayAnswerOne_75 : decode cX0_mayAnswerOne 75 = .ok (.iconst 2, 1) := bo_5 (by decide +kernel)
theorem dX0_mayAnswerOne_76 : decode cX0_mayAnswerOne 76 = .ok (.if_icmp .ne 14, 3) := bo_160 0 14 (by decide +kernel)
theorem dX0_mayAnswerOne_90 : decode cX0_mayAnswerOne 90 = .ok (.iload 9, 2) := bo_21 (by decide +kernel)
theorem dX0_mayAnswerOne_92 : decode cX0_mayAnswerOne 92 = .ok (.iconst 3, 1) := bo_6 (by decide +kernel)
theorem dX0_mayAnswerOne_93 : decode cX0_mayAnswerOne 93 = .ok (.if_icmp .ne 11, 3) := bo_160 0 11 (by decide +kernel)
theorem dX0_mayAnswerOne_96 : decode cX0_mayAnswerOne 96 = .ok (.iload 6, 2) := bo_21 (by decide +kernel)
theorem dX0_mayAnswerOne_98 : decode cX0_mayAnswerOne 98 = .ok (.ifCond .le 6, 3) := bo_158 0 6 (by decide +kernel)
theorem dX0_mayAnswerOne_101 : decode cX0_mayAnswerOne 101 = .ok (.iinc 6 (-1), 3) := bo_132 6 255 (by decide +kernel)
theorem dX0_mayAnswerOne_79 : decode cX0_mayAnswerOne 79 = .ok (.iload 5, 2) := bo_21 (by decide +kernel)
theorem dX0_mayAnswerOne_81 : decode cX0_mayAnswerOne 81 = .ok (.ifCond .le 9, 3) := bo_158 0 9 (by decide +kernel)
theorem dX0_mayAnswerOne_84 : decode cX0_mayAnswerOne 84 = .ok (.iinc 5 (-1), 3) := bo_132 5 255 (by decide +kernel)
theorem dX0_mayAnswerOne_87 : decode cX0_mayAnswerOne 87 = .ok (.goto 17, 3) := bo_167 0 17 (by decide +kernel)
theorem dX0_mayAnswerOne_60 : decode cX0_mayAnswerOne 60 = .ok (.iload 5, 2) := bo_21 (by decide +kernel)
theorem dX0_mayAnswerOne_62 : decode cX0_mayAnswerOne 62 = .ok (.bipush 99, 2) := bo_16 99 (by decide +kernel)
theorem dX0_mayAnswerOne_64 : decode cX0_mayAnswerOne 64 = .ok (.if_icmp .ge 9, 3) := bo_162 0 9 (by decide +kernel)
theorem dX0_mayAnswerOne_67 : decode cX0_mayAnswerOne 67 = .ok (.iinc 5 1, 3) := bo_132 5 1 (by decide +kernel)
theorem dX0_mayAnswerOne_70 : decode cX0_mayAnswerOne 70 = .ok (.goto 34, 3) := bo_167 0 34 (by decide +kernel)
abbrev rm_X0_mayAnswerOne : Room := { frames := 1, cells := 0, slots := 0, locals := 23 }
set_option maxRecDepth 100000 in
set_option maxHeartbeats 8000000 in
theorem c_X0_mayAnswerOne {l : Launch} {E : (Nat → Prop) → State → Prop} (hO : bw_Ok E) {G : va_G} {cI cB cJ cN cW : ClassId} (b : Nat) (q : Nat → Nat) (g : Nat → Nat → Int) (hY : LeastOk g) (o : Nat) (qo : Nat → Nat) (no : Int) (go : Nat → Nat → Int) (hM : WantsOk no) (x y n : Int) (hx9 : 0 ≤ x ∧ x < 6) (hy9 : zR y) (hn9 : 0 ≤ n ∧ n ≤ 3) : bw_Ci (S := zU) l yX0_mayAnswerOne (bw_ws (Cond.code yX0_mayAnswerOne cX0_mayAnswerOne 12 (some .boolean))) rm_X0_mayAnswerOne E G (bw_kt cI cB cJ cN cW) [.ref b, .ref o, .int (zI x), .int (zI y), .int (zI n)] [(b, .inr (0, [.ref (q 0), .ref (q 1), .ref (q 2), .ref (q 3), .ref (q 4), .ref (q 5), .ref (q 6)])), ((q 0), .inl (cI, 10, .inl (fun k => zI ((g 0) k)))), ((q 1), .inl (cI, 30, .inl (fun k => zI ((g 1) k)))), ((q 2), .inl (cI, 3, .inl (fun k => zI ((g 2) k)))), ((q 3), .inl (cI, 3, .inl (fun k => zI ((g 3) k)))), ((q 4), .inl (cI, 3, .inl (fun k => zI ((g 4) k)))), ((q 5), .inl (cI, 3, .inl (fun k => zI ((g 5) k)))), ((q 6), .inl (cI, 6, .inl (fun k => zI ((g 6) k)))), (o, .inr (7, [.int (zI no), .ref (qo 0)])), ((qo 0), .inl (cI, 30, .inl (fun k => zI ((go 0) k))))] (fun r u => ∃ z : Int, r = zI z ∧ LeastOk u.2 ∧ ((z = 0 ∨ z = 1) ∧ u.2 2 = g 2)) (fun u => [(b, .inr (0, [.ref (q 0), .ref (q 1), .ref (q 2), .ref (q 3), .ref (q 4), .ref (q 5), .ref (q 6)])), ((q 0), .inl (cI, 10, .inl (fun k => zI ((u.2 0) k)))), ((q 1), .inl (cI, 30, .inl (fun k => zI ((u.2 1) k)))), ((q 2), .inl (cI, 3, .inl (fun k => zI ((u.2 2) k)))), ((q 3), .inl (cI, 3, .inl (fun k => zI ((u.2 3) k)))), ((q 4), .inl (cI, 3, .inl (fun k => zI ((u.2 4) k)))), ((q 5), .inl (cI, 3, .inl (fun k => zI ((u.2 5) k)))), ((q 6), .inl (cI, 6, .inl (fun k => zI ((u.2 6) k)))), (o, .inr (7, [.int (zI no), .ref (qo 0)])), ((qo 0), .inl (cI, 30, .inl (fun k => zI ((go 0) k))))]) := by
  refine bw_Ci.of (cc := cX0_mayAnswerOne) (maxL := 12) (ty := .boolean) (by decide) rfl (Nat.le_of_ble_eq_true rfl) ?_
  intro p e s m below meth c A Q hx hb hml hts hown hin hK hA hS hP hD hE ret ls hl
  have F : CallFix p m c cX0_mayAnswerOne 12 s ([.ref b, .ref o, .int (zI x), .int (zI y), .int (zI n)] : List Value).toArray bw_T RX0 := ⟨hx, hb, hml, hown, fun w h => hts w (List.mem_cons_of_mem _ h)⟩
  replace hl : lv_has ls 12 [(0, .ref b), (1, .ref o), (2, .int (zI x)), (3, .int (zI y)), (4, .int (zI n))] := hl
  refine lv_aload_n hx hb dX0_mayAnswerOne_0 rfl (lv_at hl 1 rfl) ?_
  refine lv_iload_n hx hb dX0_mayAnswerOne_1 rfl (lv_at hl 2 rfl) ?_
  refine lv_iconst (v := zI 0) hx hb dX0_mayAnswerOne_2 rfl ?_
  refine r_callVi (As := [.int (zI x), .int (zI 0)]) (rest := []) (wr := [(b, .inr (0, [.ref (q 0), .ref (q 1), .ref (q 2), .ref (q 3), .ref (q 4), .ref (q 5), .ref (q 6)])), ((q 0), .inl (cI, 10, .inl (fun k => zI ((g 0) k)))), ((q 1), .inl (cI, 30, .inl (fun k => zI ((g 1) k)))), ((q 2), .inl (cI, 3, .inl (fun k => zI ((g 2) k)))), ((q 3), .inl (cI, 3, .inl (fun k => zI ((g 3) k)))), ((q 4), .inl (cI, 3, .inl (fun k => zI ((g 4) k)))), ((q 5), .inl (cI, 3, .inl (fun k => zI ((g 5) k)))), ((q 6), .inl (cI, 6, .inl (fun k => zI ((g 6) k))))]) F hK hP hD hS hA hO hE (c_X7_part hO o qo no go hM x 0 (by omega) (by omega)) k_1037 kv_X7_part 2 rfl (by decide +kernel) ⟨Nat.le_of_ble_eq_true rfl, Nat.le_of_ble_eq_true rfl⟩ [8, 9] [0, 1, 2, 3, 4, 5, 6, 7] rfl rfl (by decide) (by decide) (by decide) 0 7 rfl rfl rfl hl.1 rfl (Nat.le_of_ble_eq_true rfl) dX0_mayAnswerOne_3 ⟨Nat.le_of_ble_eq_true rfl, Nat.le_of_ble_eq_true rfl⟩ (w1 := fun u1 => [(b, .inr (0, [.ref (q 0), .ref (q 1), .ref (q 2), .ref (q 3), .ref (q 4), .ref (q 5), .ref (q 6)])), ((q 0), .inl (cI, 10, .inl (fun k => zI ((g 0) k)))), ((q 1), .inl (cI, 30, .inl (fun k => zI ((g 1) k)))), ((q 2), .inl (cI, 3, .inl (fun k => zI ((g 2) k)))), ((q 3), .inl (cI, 3, .inl (fun k => zI ((g 3) k)))), ((q 4), .inl (cI, 3, .inl (fun k => zI ((g 4) k)))), ((q 5), .inl (cI, 3, .inl (fun k => zI ((g 5) k)))), ((q 6), .inl (cI, 6, .inl (fun k => zI ((g 6) k)))), (o, .inr (7, [.int (zI no), .ref (qo 0)])), ((qo 0), .inl (cI, 30, .inl (fun k => zI ((go 0) k))))]) (fun _ => rfl) (fun r2 u1 H locs hp3 hP hD hS => ?_)
  obtain ⟨z4, rfl, h_z4⟩ := hp3
  refine lv_istore (lv' := [(5, .int (zI z4)), (0, .ref b), (1, .ref o), (2, .int (zI x)), (3, .int (zI y)), (4, .int (zI n))]) hx hb dX0_mayAnswerOne_6 hl (by decide) rfl (fun ls hl => ?_)
  refine lv_aload_n hx hb dX0_mayAnswerOne_8 rfl (lv_at hl 2 rfl) ?_
  refine lv_iload_n hx hb dX0_mayAnswerOne_9 rfl (lv_at hl 3 rfl) ?_
  refine lv_iconst (v := zI 1) hx hb dX0_mayAnswerOne_10 rfl ?_
  refine r_callVi (As := [.int (zI x), .int (zI 1)]) (rest := []) (wr := [(b, .inr (0, [.ref (q 0), .ref (q 1), .ref (q 2), .ref (q 3), .ref (q 4), .ref (q 5), .ref (q 6)])), ((q 0), .inl (cI, 10, .inl (fun k => zI ((g 0) k)))), ((q 1), .inl (cI, 30, .inl (fun k => zI ((g 1) k)))), ((q 2), .inl (cI, 3, .inl (fun k => zI ((g 2) k)))), ((q 3), .inl (cI, 3, .inl (fun k => zI ((g 3) k)))), ((q 4), .inl (cI, 3, .inl (fun k => zI ((g 4) k)))), ((q 5), .inl (cI, 3, .inl (fun k => zI ((g 5) k)))), ((q 6), .inl (cI, 6, .inl (fun k => zI ((g 6) k))))]) F hK hP hD hS hA hO hE (c_X7_part hO o qo no go hM x 1 (by omega) (by omega)) k_1037 kv_X7_part 2 rfl (by decide +kernel) ⟨Nat.le_of_ble_eq_true rfl, Nat.le_of_ble_eq_true rfl⟩ [8, 9] [0, 1, 2, 3, 4, 5, 6, 7] rfl rfl (by decide) (by decide) (by decide) 0 7 rfl rfl rfl hl.1 rfl (Nat.le_of_ble_eq_true rfl) dX0_mayAnswerOne_11 ⟨Nat.le_of_ble_eq_true rfl, Nat.le_of_ble_eq_true rfl⟩ (w1 := fun u5 => [(b, .inr (0, [.ref (q 0), .ref (q 1), .ref (q 2), .ref (q 3), .ref (q 4), .ref (q 5), .ref (q 6)])), ((q 0), .inl (cI, 10, .inl (fun k => zI ((g 0) k)))), ((q 1), .inl (cI, 30, .inl (fun k => zI ((g 1) k)))), ((q 2), .inl (cI, 3, .inl (fun k => zI ((g 2) k)))), ((q 3), .inl (cI, 3, .inl (fun k => zI ((g 3) k)))), ((q 4), .inl (cI, 3, .inl (fun k => zI ((g 4) k)))), ((q 5), .inl (cI, 3, .inl (fun k => zI ((g 5) k)))), ((q 6), .inl (cI, 6, .inl (fun k => zI ((g 6) k)))), (o, .inr (7, [.int (zI no), .ref (qo 0)])), ((qo 0), .inl (cI, 30, .inl (fun k => zI ((go 0) k))))]) (fun _ => rfl) (fun r6 u5 H locs hp7 hP hD hS => ?_)
  obtain ⟨z8, rfl, h_z8⟩ := hp7
  refine lv_istore (lv' := [(6, .int (zI z8)), (5, .int (zI z4)), (0, .ref b), (1, .ref o), (2, .int (zI x)), (3, .int (zI y)), (4, .int (zI n))]) hx hb dX0_mayAnswerOne_14 hl (by decide) rfl (fun ls hl => ?_)
  refine lv_iconst (v := zI 0) hx hb dX0_mayAnswerOne_16 rfl ?_
  refine lv_istore (lv' := [(7, .int (zI 0)), (6, .int (zI z8)), (5, .int (zI z4)), (0, .ref b), (1, .ref o), (2, .int (zI x)), (3, .int (zI y)), (4, .int (zI n))]) hx hb dX0_mayAnswerOne_17 hl (by decide) rfl (fun ls hl => ?_)
  refine lv_aload_n hx hb dX0_mayAnswerOne_19 rfl (lv_at hl 3 rfl) ?_
  refine r_get F hK hP 0 6 rfl rfl in_X0 (by decide) k_454 rfl dX0_mayAnswerOne_20 ?_
  refine lv_iconst (v := zI 0) hx hb dX0_mayAnswerOne_23 rfl ?_
  refine r_callZv (As := [.ref (q 6), .int (zI 0)]) (rest := []) (wr := [(b, .inr (0, [.ref (q 0), .ref (q 1), .ref (q 2), .ref (q 3), .ref (q 4), .ref (q 5), .ref (q 6)])), ((q 0), .inl (cI, 10, .inl (fun k => zI ((g 0) k)))), ((q 1), .inl (cI, 30, .inl (fun k => zI ((g 1) k)))), ((q 2), .inl (cI, 3, .inl (fun k => zI ((g 2) k)))), ((q 3), .inl (cI, 3, .inl (fun k => zI ((g 3) k)))), ((q 4), .inl (cI, 3, .inl (fun k => zI ((g 4) k)))), ((q 5), .inl (cI, 3, .inl (fun k => zI ((g 5) k)))), (o, .inr (7, [.int (zI no), .ref (qo 0)])), ((qo 0), .inl (cI, 30, .inl (fun k => zI ((go 0) k))))]) F hK hP hD hS hA hO hE (c_J7_fill hO (q 6) 6 (by decide) (g 6) 0) k_651 ks_J7_fill_53178 2 rfl (by decide +kernel) ⟨Nat.le_of_ble_eq_true rfl, Nat.le_of_ble_eq_true rfl⟩ [7] [0, 1, 2, 3, 4, 5, 6, 8, 9] rfl rfl (by decide) (by decide) (by decide) hl.1 rfl (Nat.le_of_ble_eq_true rfl) dX0_mayAnswerOne_24 ⟨Nat.le_of_ble_eq_true rfl, Nat.le_of_ble_eq_true rfl⟩ (w1 := fun u9 => [(b, .inr (0, [.ref (q 0), .ref (q 1), .ref (q 2), .ref (q 3), .ref (q 4), .ref (q 5), .ref (q 6)])), ((q 0), .inl (cI, 10, .inl (fun k => zI ((g 0) k)))), ((q 1), .inl (cI, 30, .inl (fun k => zI ((g 1) k)))), ((q 2), .inl (cI, 3, .inl (fun k => zI ((g 2) k)))), ((q 3), .inl (cI, 3, .inl (fun k => zI ((g 3) k)))), ((q 4), .inl (cI, 3, .inl (fun k => zI ((g 4) k)))), ((q 5), .inl (cI, 3, .inl (fun k => zI ((g 5) k)))), (o, .inr (7, [.int (zI no), .ref (qo 0)])), ((qo 0), .inl (cI, 30, .inl (fun k => zI ((go 0) k)))), ((q 6), .inl (cI, 6, .inl (fun k => zI ((u9.2 0) k))))]) (fun _ => rfl) (fun  u9 H locs hp10 hP hD hS => ?_)
  refine lv_iconst (v := zI 0) hx hb dX0_mayAnswerOne_27 rfl ?_
  refine lv_istore (lv' := [(8, .int (zI 0)), (7, .int (zI 0)), (6, .int (zI z8)), (5, .int (zI z4)), (0, .ref b), (1, .ref o), (2, .int (zI x)), (3, .int (zI y)), (4, .int (zI n))]) hx hb dX0_mayAnswerOne_28 hl (by decide) rfl (fun ls hl => ?_)
  obtain ⟨i11, e_i11⟩ : ∃ i11 : Nat → Int, i11 = fun k => [].getD k 0 := ⟨_, rfl⟩
  obtain ⟨gg12, e_gg12⟩ : ∃ gg12 : Nat → Nat → Int, gg12 = fun k => [(g 0), (g 1), (g 2), (g 3), (g 4), (g 5), (u9.2 0)].getD k (fun _ => 0) := ⟨_, rfl⟩
  have hO13 : LeastOk gg12 := by rw [e_gg12]; exact ⟨hY.1, hY.2.1, hY.2.2⟩
  have hP : va_P G vwCl [(b, .inr (0, [.ref (q 0), .ref (q 1), .ref (q 2), .ref (q 3), .ref (q 4), .ref (q 5), .ref (q 6)])), ((q 0), .inl (cI, 10, .inl (fun k => zI ((gg12 0) k)))), ((q 1), .inl (cI, 30, .inl (fun k => zI ((gg12 1) k)))), ((q 2), .inl (cI, 3, .inl (fun k => zI ((gg12 2) k)))), ((q 3), .inl (cI, 3, .inl (fun k => zI ((gg12 3) k)))), ((q 4), .inl (cI, 3, .inl (fun k => zI ((gg12 4) k)))), ((q 5), .inl (cI, 3, .inl (fun k => zI ((gg12 5) k)))), (o, .inr (7, [.int (zI no), .ref (qo 0)])), ((qo 0), .inl (cI, 30, .inl (fun k => zI ((go 0) k)))), ((q 6), .inl (cI, 6, .inl (fun k => zI ((gg12 6) k))))] H := by subst e_i11 e_gg12; exact hP
  have hD : va_D A [(b, .inr (0, [.ref (q 0), .ref (q 1), .ref (q 2), .ref (q 3), .ref (q 4), .ref (q 5), .ref (q 6)])), ((q 0), .inl (cI, 10, .inl (fun k => zI ((gg12 0) k)))), ((q 1), .inl (cI, 30, .inl (fun k => zI ((gg12 1) k)))), ((q 2), .inl (cI, 3, .inl (fun k => zI ((gg12 2) k)))), ((q 3), .inl (cI, 3, .inl (fun k => zI ((gg12 3) k)))), ((q 4), .inl (cI, 3, .inl (fun k => zI ((gg12 4) k)))), ((q 5), .inl (cI, 3, .inl (fun k => zI ((gg12 5) k)))), (o, .inr (7, [.int (zI no), .ref (qo 0)])), ((qo 0), .inl (cI, 30, .inl (fun k => zI ((go 0) k)))), ((q 6), .inl (cI, 6, .inl (fun k => zI ((gg12 6) k))))] := by subst e_i11 e_gg12; exact hD
  refine W.widen (k := 0) (n := 0) (Nat.le_of_ble_eq_true rfl) (Nat.le_of_ble_eq_true rfl) ?_
  refine (?_ : ∀ (n9_1 : Nat) (v5 : Int) (v6 : Int) (v7 : Int) (v8 : Int) (gg : Nat → Nat → Int) (H : Heap) (locs : List Loc), (zR v5 ∧ zR v6 ∧ 0 ≤ v7 ∧ v7 ≤ 2 ∧ 0 ≤ v8 ∧ v8 ≤ 1000) → (1000 - v8 : Int).toNat < n9_1 → (LeastOk gg) → (gg 2 = g 2) → va_P G vwCl [(b, .inr (0, [.ref (q 0), .ref (q 1), .ref (q 2), .ref (q 3), .ref (q 4), .ref (q 5), .ref (q 6)])), ((q 0), .inl (cI, 10, .inl (fun k => zI ((gg 0) k)))), ((q 1), .inl (cI, 30, .inl (fun k => zI ((gg 1) k)))), ((q 2), .inl (cI, 3, .inl (fun k => zI ((gg 2) k)))), ((q 3), .inl (cI, 3, .inl (fun k => zI ((gg 3) k)))), ((q 4), .inl (cI, 3, .inl (fun k => zI ((gg 4) k)))), ((q 5), .inl (cI, 3, .inl (fun k => zI ((gg 5) k)))), (o, .inr (7, [.int (zI no), .ref (qo 0)])), ((qo 0), .inl (cI, 30, .inl (fun k => zI ((go 0) k)))), ((q 6), .inl (cI, 6, .inl (fun k => zI ((gg 6) k))))] H → va_D A [(b, .inr (0, [.ref (q 0), .ref (q 1), .ref (q 2), .ref (q 3), .ref (q 4), .ref (q 5), .ref (q 6)])), ((q 0), .inl (cI, 10, .inl (fun k => zI ((gg 0) k)))), ((q 1), .inl (cI, 30, .inl (fun k => zI ((gg 1) k)))), ((q 2), .inl (cI, 3, .inl (fun k => zI ((gg 2) k)))), ((q 3), .inl (cI, 3, .inl (fun k => zI ((gg 3) k)))), ((q 4), .inl (cI, 3, .inl (fun k => zI ((gg 4) k)))), ((q 5), .inl (cI, 3, .inl (fun k => zI ((gg 5) k)))), (o, .inr (7, [.int (zI no), .ref (qo 0)])), ((qo 0), .inl (cI, 30, .inl (fun k => zI ((go 0) k)))), ((q 6), .inl (cI, 6, .inl (fun k => zI ((gg 6) k))))] → va_S A s.heap H locs → ∀ ls : Array Slot, lv_has ls 12 [(8, .int (zI v8)), (7, .int (zI v7)), (6, .int (zI v6)), (5, .int (zI v5)), (0, .ref b), (1, .ref o), (2, .int (zI x)), (3, .int (zI y)), (4, .int (zI n))] → W p l e rm_X0_mayAnswerOne s m ([.ref b, .ref o, .int (zI x), .int (zI y), .int (zI n)] : List Value).toArray below meth c H locs 0 0 Q (F0 m 30 ls [])) ((1000 - 0 : Int).toNat + 1) z4 z8 0 0 gg12 _ _ (by omega) (by omega) hO13 (by subst e_gg12; rfl) hP hD hS ls hl
  clear hP hD hS hl ls
  intro n9_1
  induction n9_1 with
  | zero =>
    intro v5 v6 v7 v8 gg H locs hI hM
    exact absurd hM (by omega)
  | succ n9_1 ih1 =>
    intro v5 v6 v7 v8 gg H locs hI1 hM1 hG hn2 hP hD hS ls hl
    refine lv_iload hx hb dX0_mayAnswerOne_30 (lv_at hl 0 rfl) ?_
    refine lv_sipush (v := zI 1000) hx hb dX0_mayAnswerOne_32 (by decide) ?_
    refine rz_icmp_ge (tgt := 229) F (by omega) (by omega) dX0_mayAnswerOne_35 (by decide) (fun h35_13 => ?_) (fun h35_13 => ?_)
    · refine lv_iconst (v := zI 1) hx hb dX0_mayAnswerOne_229 rfl ?_
      exact ret (zI 1) (fun _ => 0, gg) _ _ _ _ _ _ rfl ⟨1, rfl, hG, ⟨by omega, hn2⟩⟩ (bw_subP (isC := [0, 1, 2, 3, 4, 5, 6, 9, 7, 8]) hP rfl) (hD.sub [0, 1, 2, 3, 4, 5, 6, 9, 7, 8] (by decide) rfl) hS (Nat.le_of_ble_eq_true rfl) (Nat.le_of_ble_eq_true rfl) dX0_mayAnswerOne_230
    · refine lv_iload hx hb dX0_mayAnswerOne_38 (lv_at hl 1 rfl) ?_
      refine lv_iload hx hb dX0_mayAnswerOne_40 (lv_at hl 8 rfl) ?_
      refine rz_icmp_ge (tgt := 229) F (by omega) (by omega) dX0_mayAnswerOne_42 (by decide) (fun h42_14 => ?_) (fun h42_14 => ?_)
      · refine lv_iconst (v := zI 1) hx hb dX0_mayAnswerOne_229 rfl ?_
        exact ret (zI 1) (fun _ => 0, gg) _ _ _ _ _ _ rfl ⟨1, rfl, hG, ⟨by omega, hn2⟩⟩ (bw_subP (isC := [0, 1, 2, 3, 4, 5, 6, 9, 7, 8]) hP rfl) (hD.sub [0, 1, 2, 3, 4, 5, 6, 9, 7, 8] (by decide) rfl) hS (Nat.le_of_ble_eq_true rfl) (Nat.le_of_ble_eq_true rfl) dX0_mayAnswerOne_230
      · refine lv_aload_n hx hb dX0_mayAnswerOne_45 rfl (lv_at hl 4 rfl) ?_
        refine r_get F hK hP 0 3 rfl rfl in_X0 (by decide) k_451 rfl dX0_mayAnswerOne_46 ?_
        refine lv_iload hx hb dX0_mayAnswerOne_49 (lv_at hl 1 rfl) ?_
        refine rz_iald F hK hP 4 0 rfl rfl (by omega) (by omega) dX0_mayAnswerOne_51 ?_
        refine rz_top (fun z16 h_z16 => ?_)
        refine lv_istore (lv' := [(9, .int (zI z16)), (8, .int (zI v8)), (7, .int (zI v7)), (6, .int (zI v6)), (5, .int (zI v5)), (0, .ref b), (1, .ref o), (2, .int (zI x)), (3, .int (zI y)), (4, .int (zI n))]) hx hb dX0_mayAnswerOne_52 hl (by decide) rfl (fun ls hl => ?_)
        have j_104 : ∀ (j5 : Int) (j6 : Int) (H : Heap) (locs : List Loc), (zR j5 ∧ zR j6) → va_P G vwCl [(b, .inr (0, [.ref (q 0), .ref (q 1), .ref (q 2), .ref (q 3), .ref (q 4), .ref (q 5), .ref (q 6)])), ((q 0), .inl (cI, 10, .inl (fun k => zI ((gg 0) k)))), ((q 1), .inl (cI, 30, .inl (fun k => zI ((gg 1) k)))), ((q 2), .inl (cI, 3, .inl (fun k => zI ((gg 2) k)))), ((q 3), .inl (cI, 3, .inl (fun k => zI ((gg 3) k)))), ((q 4), .inl (cI, 3, .inl (fun k => zI ((gg 4) k)))), ((q 5), .inl (cI, 3, .inl (fun k => zI ((gg 5) k)))), (o, .inr (7, [.int (zI no), .ref (qo 0)])), ((qo 0), .inl (cI, 30, .inl (fun k => zI ((go 0) k)))), ((q 6), .inl (cI, 6, .inl (fun k => zI ((gg 6) k))))] H → va_D A [(b, .inr (0, [.ref (q 0), .ref (q 1), .ref (q 2), .ref (q 3), .ref (q 4), .ref (q 5), .ref (q 6)])), ((q 0), .inl (cI, 10, .inl (fun k => zI ((gg 0) k)))), ((q 1), .inl (cI, 30, .inl (fun k => zI ((gg 1) k)))), ((q 2), .inl (cI, 3, .inl (fun k => zI ((gg 2) k)))), ((q 3), .inl (cI, 3, .inl (fun k => zI ((gg 3) k)))), ((q 4), .inl (cI, 3, .inl (fun k => zI ((gg 4) k)))), ((q 5), .inl (cI, 3, .inl (fun k => zI ((gg 5) k)))), (o, .inr (7, [.int (zI no), .ref (qo 0)])), ((qo 0), .inl (cI, 30, .inl (fun k => zI ((go 0) k)))), ((q 6), .inl (cI, 6, .inl (fun k => zI ((gg 6) k))))] → va_S A s.heap H locs → ∀ ls : Array Slot, lv_has ls 12 [(6, .int (zI j6)), (5, .int (zI j5)), (9, .int (zI z16)), (8, .int (zI v8)), (7, .int (zI v7)), (0, .ref b), (1, .ref o), (2, .int (zI x)), (3, .int (zI y)), (4, .int (zI n))] → W p l e rm_X0_mayAnswerOne s m ([.ref b, .ref o, .int (zI x), .int (zI y), .int (zI n)] : List Value).toArray below meth c H locs 0 0 Q (F0 m 104 ls []) := by
          intro j5 j6 H locs hJ104  hP hD hS ls hl
          refine lv_aload_n hx hb dX0_mayAnswerOne_104 rfl (lv_at hl 5 rfl) ?_
          refine r_get F hK hP 0 4 rfl rfl in_X0 (by decide) k_452 rfl dX0_mayAnswerOne_105 ?_
          refine lv_iload hx hb dX0_mayAnswerOne_108 (lv_at hl 4 rfl) ?_
          refine rz_iald F hK hP 5 0 rfl rfl (by omega) (by omega) dX0_mayAnswerOne_110 ?_
          have h_l110_16 := hG.2.1 (v7).toNat (by omega)
          refine lv_iconst (v := zI (-1)) hx hb dX0_mayAnswerOne_111 rfl ?_
          refine rz_icmp_ne (tgt := 132) F (by omega) (by omega) dX0_mayAnswerOne_112 (by decide) (fun h112_17 => ?_) (fun h112_17 => ?_)
          · refine lv_aload_n hx hb dX0_mayAnswerOne_132 rfl (lv_at hl 5 rfl) ?_
            refine r_get F hK hP 0 5 rfl rfl in_X0 (by decide) k_453 rfl dX0_mayAnswerOne_133 ?_
            refine lv_iload hx hb dX0_mayAnswerOne_136 (lv_at hl 4 rfl) ?_
            refine rz_iald F hK hP 6 0 rfl rfl (by omega) (by omega) dX0_mayAnswerOne_138 ?_
            have h_l138_18 := hG.2.2 (v7).toNat (by omega)
            refine lv_iconst (v := zI (-1)) hx hb dX0_mayAnswerOne_139 rfl ?_
            refine rz_icmp_eq (tgt := 152) F (by omega) (by omega) dX0_mayAnswerOne_140 (by decide) (fun h140_19 => ?_) (fun h140_19 => ?_)
            · refine lv_iconst (v := zI 0) hx hb dX0_mayAnswerOne_152 rfl ?_
              refine lv_istore (lv' := [(10, .int (zI 0)), (6, .int (zI j6)), (5, .int (zI j5)), (9, .int (zI z16)), (8, .int (zI v8)), (7, .int (zI v7)), (0, .ref b), (1, .ref o), (2, .int (zI x)), (3, .int (zI y)), (4, .int (zI n))]) hx hb dX0_mayAnswerOne_153 hl (by decide) rfl (fun ls hl => ?_)
              refine lv_iload hx hb dX0_mayAnswerOne_155 (lv_at hl 0 rfl) ?_
              refine rz_if_eq (tgt := 169) F (by omega) dX0_mayAnswerOne_157 (by decide) (fun h157_20 => ?_) (fun h157_20 => by omega)
              refine lv_iconst (v := zI 2) hx hb dX0_mayAnswerOne_169 rfl ?_
              refine lv_iload hx hb dX0_mayAnswerOne_170 (lv_at hl 5 rfl) ?_
              refine r_imul (v := zI (2 * v7)) F dX0_mayAnswerOne_172 (zI_mul _ _) ?_
              refine lv_istore (lv' := [(11, .int (zI (2 * v7))), (10, .int (zI 0)), (6, .int (zI j6)), (5, .int (zI j5)), (9, .int (zI z16)), (8, .int (zI v8)), (7, .int (zI v7)), (0, .ref b), (1, .ref o), (2, .int (zI x)), (3, .int (zI y)), (4, .int (zI n))]) hx hb dX0_mayAnswerOne_173 hl (by decide) rfl (fun ls hl => ?_)
              refine lv_aload_n hx hb dX0_mayAnswerOne_175 rfl (lv_at hl 7 rfl) ?_
              refine r_get F hK hP 0 6 rfl rfl in_X0 (by decide) k_454 rfl dX0_mayAnswerOne_176 ?_
              refine lv_iload hx hb dX0_mayAnswerOne_179 (lv_at hl 0 rfl) ?_
              refine rz_iald F hK hP 9 0 rfl rfl (by omega) (by omega) dX0_mayAnswerOne_181 ?_
              refine rz_top (fun z22 h_z22 => ?_)
              refine lv_iload_n hx hb dX0_mayAnswerOne_182 rfl (lv_at hl 10 rfl) ?_
              refine rz_icmp_lt (tgt := 188) F (by omega) (by omega) dX0_mayAnswerOne_183 (by decide) (fun h183_22 => ?_) (fun h183_22 => ?_)
              · refine lv_aload_n hx hb dX0_mayAnswerOne_188 rfl (lv_at hl 7 rfl) ?_
                refine r_get F hK hP 0 6 rfl rfl in_X0 (by decide) k_454 rfl dX0_mayAnswerOne_189 ?_
                refine lv_iload hx hb dX0_mayAnswerOne_192 (lv_at hl 0 rfl) ?_
                refine lv_dup2_11 hx hb dX0_mayAnswerOne_194 rfl rfl ?_
                refine rz_iald F hK hP 9 0 rfl rfl (by omega) (by omega) dX0_mayAnswerOne_195 ?_
                refine rz_top (fun z24 h_z24 => ?_)
                refine lv_iconst (v := zI 1) hx hb dX0_mayAnswerOne_196 rfl ?_
                refine r_iadd (v := zI (z24 + 1)) F dX0_mayAnswerOne_197 (zI_add _ _) ?_
                refine rz_iastG F hK hP hD hS 9 0 rfl rfl (by omega) (by omega) dX0_mayAnswerOne_198 (w1 := fun g25 => [(b, .inr (0, [.ref (q 0), .ref (q 1), .ref (q 2), .ref (q 3), .ref (q 4), .ref (q 5), .ref (q 6)])), ((q 0), .inl (cI, 10, .inl (fun k => zI ((gg 0) k)))), ((q 1), .inl (cI, 30, .inl (fun k => zI ((gg 1) k)))), ((q 2), .inl (cI, 3, .inl (fun k => zI ((gg 2) k)))), ((q 3), .inl (cI, 3, .inl (fun k => zI ((gg 3) k)))), ((q 4), .inl (cI, 3, .inl (fun k => zI ((gg 4) k)))), ((q 5), .inl (cI, 3, .inl (fun k => zI ((gg 5) k)))), (o, .inr (7, [.int (zI no), .ref (qo 0)])), ((qo 0), .inl (cI, 30, .inl (fun k => zI ((go 0) k)))), ((q 6), .inl (cI, 6, .inl (fun k => zI (g25 k))))]) (fun _ => rfl) (fun g25 e_g25 H locs hP hD hS => ?_)
                refine lv_iload hx hb dX0_mayAnswerOne_199 (lv_at hl 1 rfl) ?_
                refine rz_if_eq (tgt := 214) F (by omega) dX0_mayAnswerOne_201 (by decide) (fun h201_25 => ?_) (fun h201_25 => by omega)
                refine lv_aload_n hx hb dX0_mayAnswerOne_214 rfl (lv_at hl 7 rfl) ?_
                refine r_get F hK hP 0 4 rfl rfl in_X0 (by decide) k_452 rfl dX0_mayAnswerOne_215 ?_
                refine lv_iload hx hb dX0_mayAnswerOne_218 (lv_at hl 6 rfl) ?_
                refine rz_iald F hK hP 5 0 rfl rfl (by omega) (by omega) dX0_mayAnswerOne_220 ?_
                have h_l220_26 := hG.2.1 (v7).toNat (by omega)
                refine lv_istore (lv' := [(7, .int (zI ((gg 4) (v7).toNat))), (11, .int (zI (2 * v7))), (10, .int (zI 0)), (6, .int (zI j6)), (5, .int (zI j5)), (9, .int (zI z16)), (8, .int (zI v8)), (0, .ref b), (1, .ref o), (2, .int (zI x)), (3, .int (zI y)), (4, .int (zI n))]) hx hb dX0_mayAnswerOne_221 hl (by decide) rfl (fun ls hl => ?_)
                refine lv_iinc (v := zI (v8 + 1)) (lv' := [(8, .int (zI (v8 + 1))), (7, .int (zI ((gg 4) (v7).toNat))), (11, .int (zI (2 * v7))), (10, .int (zI 0)), (6, .int (zI j6)), (5, .int (zI j5)), (9, .int (zI z16)), (0, .ref b), (1, .ref o), (2, .int (zI x)), (3, .int (zI y)), (4, .int (zI n))]) hx hb dX0_mayAnswerOne_223 hl (k := 6) rfl (zI_add _ _) (by decide) rfl (fun ls hl => ?_)
                refine lv_goto (tgt := 30) hx hb dX0_mayAnswerOne_226 (by decide) ?_
                obtain ⟨i28, e_i28⟩ : ∃ i28 : Nat → Int, i28 = fun k => [].getD k 0 := ⟨_, rfl⟩
                obtain ⟨gg29, e_gg29⟩ : ∃ gg29 : Nat → Nat → Int, gg29 = fun k => [(gg 0), (gg 1), (gg 2), (gg 3), (gg 4), (gg 5), g25].getD k (fun _ => 0) := ⟨_, rfl⟩
                have hO30 : LeastOk gg29 := by rw [e_gg29]; exact ⟨hG.1, hG.2.1, hG.2.2⟩
                have hP : va_P G vwCl [(b, .inr (0, [.ref (q 0), .ref (q 1), .ref (q 2), .ref (q 3), .ref (q 4), .ref (q 5), .ref (q 6)])), ((q 0), .inl (cI, 10, .inl (fun k => zI ((gg29 0) k)))), ((q 1), .inl (cI, 30, .inl (fun k => zI ((gg29 1) k)))), ((q 2), .inl (cI, 3, .inl (fun k => zI ((gg29 2) k)))), ((q 3), .inl (cI, 3, .inl (fun k => zI ((gg29 3) k)))), ((q 4), .inl (cI, 3, .inl (fun k => zI ((gg29 4) k)))), ((q 5), .inl (cI, 3, .inl (fun k => zI ((gg29 5) k)))), (o, .inr (7, [.int (zI no), .ref (qo 0)])), ((qo 0), .inl (cI, 30, .inl (fun k => zI ((go 0) k)))), ((q 6), .inl (cI, 6, .inl (fun k => zI ((gg29 6) k))))] H := by subst e_i28 e_gg29; exact hP
                have hD : va_D A [(b, .inr (0, [.ref (q 0), .ref (q 1), .ref (q 2), .ref (q 3), .ref (q 4), .ref (q 5), .ref (q 6)])), ((q 0), .inl (cI, 10, .inl (fun k => zI ((gg29 0) k)))), ((q 1), .inl (cI, 30, .inl (fun k => zI ((gg29 1) k)))), ((q 2), .inl (cI, 3, .inl (fun k => zI ((gg29 2) k)))), ((q 3), .inl (cI, 3, .inl (fun k => zI ((gg29 3) k)))), ((q 4), .inl (cI, 3, .inl (fun k => zI ((gg29 4) k)))), ((q 5), .inl (cI, 3, .inl (fun k => zI ((gg29 5) k)))), (o, .inr (7, [.int (zI no), .ref (qo 0)])), ((qo 0), .inl (cI, 30, .inl (fun k => zI ((go 0) k)))), ((q 6), .inl (cI, 6, .inl (fun k => zI ((gg29 6) k))))] := by subst e_i28 e_gg29; exact hD
                exact ih1 j5 j6 ((gg 4) (v7).toNat) (v8 + 1) gg29 _ _ (by omega) (by omega) hO30 (by subst e_gg29; exact hn2) hP hD hS ls (lv_sub hl [0, 1, 4, 5, 7, 8, 9, 10, 11] rfl)
              · refine lv_iconst (v := zI 0) hx hb dX0_mayAnswerOne_186 rfl ?_
                exact ret (zI 0) (fun _ => 0, gg) _ _ _ _ _ _ rfl ⟨0, rfl, hG, ⟨by omega, hn2⟩⟩ (bw_subP (isC := [0, 1, 2, 3, 4, 5, 6, 9, 7, 8]) hP rfl) (hD.sub [0, 1, 2, 3, 4, 5, 6, 9, 7, 8] (by decide) rfl) hS (Nat.le_of_ble_eq_true rfl) (Nat.le_of_ble_eq_true rfl) dX0_mayAnswerOne_187
            · refine lv_iload hx hb dX0_mayAnswerOne_143 (lv_at hl 0 rfl) ?_
              refine rz_if_ne (tgt := 152) F (by omega) dX0_mayAnswerOne_145 (by decide) (fun h145_30 => ?_) (fun h145_30 => ?_)
              · refine lv_iconst (v := zI 0) hx hb dX0_mayAnswerOne_152 rfl ?_
                refine lv_istore (lv' := [(10, .int (zI 0)), (6, .int (zI j6)), (5, .int (zI j5)), (9, .int (zI z16)), (8, .int (zI v8)), (7, .int (zI v7)), (0, .ref b), (1, .ref o), (2, .int (zI x)), (3, .int (zI y)), (4, .int (zI n))]) hx hb dX0_mayAnswerOne_153 hl (by decide) rfl (fun ls hl => ?_)
                refine lv_iload hx hb dX0_mayAnswerOne_155 (lv_at hl 0 rfl) ?_
                refine rz_if_eq (tgt := 169) F (by omega) dX0_mayAnswerOne_157 (by decide) (fun h157_31 => ?_) (fun h157_31 => by omega)
                refine lv_iconst (v := zI 2) hx hb dX0_mayAnswerOne_169 rfl ?_
                refine lv_iload hx hb dX0_mayAnswerOne_170 (lv_at hl 5 rfl) ?_
                refine r_imul (v := zI (2 * v7)) F dX0_mayAnswerOne_172 (zI_mul _ _) ?_
                refine lv_istore (lv' := [(11, .int (zI (2 * v7))), (10, .int (zI 0)), (6, .int (zI j6)), (5, .int (zI j5)), (9, .int (zI z16)), (8, .int (zI v8)), (7, .int (zI v7)), (0, .ref b), (1, .ref o), (2, .int (zI x)), (3, .int (zI y)), (4, .int (zI n))]) hx hb dX0_mayAnswerOne_173 hl (by decide) rfl (fun ls hl => ?_)
                refine lv_aload_n hx hb dX0_mayAnswerOne_175 rfl (lv_at hl 7 rfl) ?_
                refine r_get F hK hP 0 6 rfl rfl in_X0 (by decide) k_454 rfl dX0_mayAnswerOne_176 ?_
                refine lv_iload hx hb dX0_mayAnswerOne_179 (lv_at hl 0 rfl) ?_
                refine rz_iald F hK hP 9 0 rfl rfl (by omega) (by omega) dX0_mayAnswerOne_181 ?_
                refine rz_top (fun z33 h_z33 => ?_)
                refine lv_iload_n hx hb dX0_mayAnswerOne_182 rfl (lv_at hl 10 rfl) ?_
                refine rz_icmp_lt (tgt := 188) F (by omega) (by omega) dX0_mayAnswerOne_183 (by decide) (fun h183_33 => ?_) (fun h183_33 => ?_)
                · refine lv_aload_n hx hb dX0_mayAnswerOne_188 rfl (lv_at hl 7 rfl) ?_
                  refine r_get F hK hP 0 6 rfl rfl in_X0 (by decide) k_454 rfl dX0_mayAnswerOne_189 ?_
                  refine lv_iload hx hb dX0_mayAnswerOne_192 (lv_at hl 0 rfl) ?_
                  refine lv_dup2_11 hx hb dX0_mayAnswerOne_194 rfl rfl ?_
                  refine rz_iald F hK hP 9 0 rfl rfl (by omega) (by omega) dX0_mayAnswerOne_195 ?_
                  refine rz_top (fun z35 h_z35 => ?_)
                  refine lv_iconst (v := zI 1) hx hb dX0_mayAnswerOne_196 rfl ?_
                  refine r_iadd (v := zI (z35 + 1)) F dX0_mayAnswerOne_197 (zI_add _ _) ?_
                  refine rz_iastG F hK hP hD hS 9 0 rfl rfl (by omega) (by omega) dX0_mayAnswerOne_198 (w1 := fun g36 => [(b, .inr (0, [.ref (q 0), .ref (q 1), .ref (q 2), .ref (q 3), .ref (q 4), .ref (q 5), .ref (q 6)])), ((q 0), .inl (cI, 10, .inl (fun k => zI ((gg 0) k)))), ((q 1), .inl (cI, 30, .inl (fun k => zI ((gg 1) k)))), ((q 2), .inl (cI, 3, .inl (fun k => zI ((gg 2) k)))), ((q 3), .inl (cI, 3, .inl (fun k => zI ((gg 3) k)))), ((q 4), .inl (cI, 3, .inl (fun k => zI ((gg 4) k)))), ((q 5), .inl (cI, 3, .inl (fun k => zI ((gg 5) k)))), (o, .inr (7, [.int (zI no), .ref (qo 0)])), ((qo 0), .inl (cI, 30, .inl (fun k => zI ((go 0) k)))), ((q 6), .inl (cI, 6, .inl (fun k => zI (g36 k))))]) (fun _ => rfl) (fun g36 e_g36 H locs hP hD hS => ?_)
                  refine lv_iload hx hb dX0_mayAnswerOne_199 (lv_at hl 1 rfl) ?_
                  refine rz_if_eq (tgt := 214) F (by omega) dX0_mayAnswerOne_201 (by decide) (fun h201_36 => ?_) (fun h201_36 => by omega)
                  refine lv_aload_n hx hb dX0_mayAnswerOne_214 rfl (lv_at hl 7 rfl) ?_
                  refine r_get F hK hP 0 4 rfl rfl in_X0 (by decide) k_452 rfl dX0_mayAnswerOne_215 ?_
                  refine lv_iload hx hb dX0_mayAnswerOne_218 (lv_at hl 6 rfl) ?_
                  refine rz_iald F hK hP 5 0 rfl rfl (by omega) (by omega) dX0_mayAnswerOne_220 ?_
                  have h_l220_37 := hG.2.1 (v7).toNat (by omega)
                  refine lv_istore (lv' := [(7, .int (zI ((gg 4) (v7).toNat))), (11, .int (zI (2 * v7))), (10, .int (zI 0)), (6, .int (zI j6)), (5, .int (zI j5)), (9, .int (zI z16)), (8, .int (zI v8)), (0, .ref b), (1, .ref o), (2, .int (zI x)), (3, .int (zI y)), (4, .int (zI n))]) hx hb dX0_mayAnswerOne_221 hl (by decide) rfl (fun ls hl => ?_)
                  refine lv_iinc (v := zI (v8 + 1)) (lv' := [(8, .int (zI (v8 + 1))), (7, .int (zI ((gg 4) (v7).toNat))), (11, .int (zI (2 * v7))), (10, .int (zI 0)), (6, .int (zI j6)), (5, .int (zI j5)), (9, .int (zI z16)), (0, .ref b), (1, .ref o), (2, .int (zI x)), (3, .int (zI y)), (4, .int (zI n))]) hx hb dX0_mayAnswerOne_223 hl (k := 6) rfl (zI_add _ _) (by decide) rfl (fun ls hl => ?_)
                  refine lv_goto (tgt := 30) hx hb dX0_mayAnswerOne_226 (by decide) ?_
                  obtain ⟨i39, e_i39⟩ : ∃ i39 : Nat → Int, i39 = fun k => [].getD k 0 := ⟨_, rfl⟩
                  obtain ⟨gg40, e_gg40⟩ : ∃ gg40 : Nat → Nat → Int, gg40 = fun k => [(gg 0), (gg 1), (gg 2), (gg 3), (gg 4), (gg 5), g36].getD k (fun _ => 0) := ⟨_, rfl⟩
                  have hO41 : LeastOk gg40 := by rw [e_gg40]; exact ⟨hG.1, hG.2.1, hG.2.2⟩
                  have hP : va_P G vwCl [(b, .inr (0, [.ref (q 0), .ref (q 1), .ref (q 2), .ref (q 3), .ref (q 4), .ref (q 5), .ref (q 6)])), ((q 0), .inl (cI, 10, .inl (fun k => zI ((gg40 0) k)))), ((q 1), .inl (cI, 30, .inl (fun k => zI ((gg40 1) k)))), ((q 2), .inl (cI, 3, .inl (fun k => zI ((gg40 2) k)))), ((q 3), .inl (cI, 3, .inl (fun k => zI ((gg40 3) k)))), ((q 4), .inl (cI, 3, .inl (fun k => zI ((gg40 4) k)))), ((q 5), .inl (cI, 3, .inl (fun k => zI ((gg40 5) k)))), (o, .inr (7, [.int (zI no), .ref (qo 0)])), ((qo 0), .inl (cI, 30, .inl (fun k => zI ((go 0) k)))), ((q 6), .inl (cI, 6, .inl (fun k => zI ((gg40 6) k))))] H := by subst e_i39 e_gg40; exact hP
                  have hD : va_D A [(b, .inr (0, [.ref (q 0), .ref (q 1), .ref (q 2), .ref (q 3), .ref (q 4), .ref (q 5), .ref (q 6)])), ((q 0), .inl (cI, 10, .inl (fun k => zI ((gg40 0) k)))), ((q 1), .inl (cI, 30, .inl (fun k => zI ((gg40 1) k)))), ((q 2), .inl (cI, 3, .inl (fun k => zI ((gg40 2) k)))), ((q 3), .inl (cI, 3, .inl (fun k => zI ((gg40 3) k)))), ((q 4), .inl (cI, 3, .inl (fun k => zI ((gg40 4) k)))), ((q 5), .inl (cI, 3, .inl (fun k => zI ((gg40 5) k)))), (o, .inr (7, [.int (zI no), .ref (qo 0)])), ((qo 0), .inl (cI, 30, .inl (fun k => zI ((go 0) k)))), ((q 6), .inl (cI, 6, .inl (fun k => zI ((gg40 6) k))))] := by subst e_i39 e_gg40; exact hD
                  exact ih1 j5 j6 ((gg 4) (v7).toNat) (v8 + 1) gg40 _ _ (by omega) (by omega) hO41 (by subst e_gg40; exact hn2) hP hD hS ls (lv_sub hl [0, 1, 4, 5, 7, 8, 9, 10, 11] rfl)
                · refine lv_iconst (v := zI 0) hx hb dX0_mayAnswerOne_186 rfl ?_
                  exact ret (zI 0) (fun _ => 0, gg) _ _ _ _ _ _ rfl ⟨0, rfl, hG, ⟨by omega, hn2⟩⟩ (bw_subP (isC := [0, 1, 2, 3, 4, 5, 6, 9, 7, 8]) hP rfl) (hD.sub [0, 1, 2, 3, 4, 5, 6, 9, 7, 8] (by decide) rfl) hS (Nat.le_of_ble_eq_true rfl) (Nat.le_of_ble_eq_true rfl) dX0_mayAnswerOne_187
              · refine lv_iconst (v := zI 1) hx hb dX0_mayAnswerOne_148 rfl ?_
                refine lv_goto (tgt := 153) hx hb dX0_mayAnswerOne_149 (by decide) ?_
                refine lv_istore (lv' := [(10, .int (zI 1)), (6, .int (zI j6)), (5, .int (zI j5)), (9, .int (zI z16)), (8, .int (zI v8)), (7, .int (zI v7)), (0, .ref b), (1, .ref o), (2, .int (zI x)), (3, .int (zI y)), (4, .int (zI n))]) hx hb dX0_mayAnswerOne_153 hl (by decide) rfl (fun ls hl => ?_)
                refine lv_iload hx hb dX0_mayAnswerOne_155 (lv_at hl 0 rfl) ?_
                refine rz_if_eq (tgt := 169) F (by omega) dX0_mayAnswerOne_157 (by decide) (fun h157_41 => by omega) (fun h157_41 => ?_)
                refine lv_iconst (v := zI 2) hx hb dX0_mayAnswerOne_160 rfl ?_
                refine lv_iload hx hb dX0_mayAnswerOne_161 (lv_at hl 5 rfl) ?_
                refine r_imul (v := zI (2 * v7)) F dX0_mayAnswerOne_163 (zI_mul _ _) ?_
                refine lv_iconst (v := zI 1) hx hb dX0_mayAnswerOne_164 rfl ?_
                refine r_iadd (v := zI ((2 * v7) + 1)) F dX0_mayAnswerOne_165 (zI_add _ _) ?_
                refine lv_goto (tgt := 173) hx hb dX0_mayAnswerOne_166 (by decide) ?_
                refine lv_istore (lv' := [(11, .int (zI ((2 * v7) + 1))), (10, .int (zI 1)), (6, .int (zI j6)), (5, .int (zI j5)), (9, .int (zI z16)), (8, .int (zI v8)), (7, .int (zI v7)), (0, .ref b), (1, .ref o), (2, .int (zI x)), (3, .int (zI y)), (4, .int (zI n))]) hx hb dX0_mayAnswerOne_173 hl (by decide) rfl (fun ls hl => ?_)
                refine lv_aload_n hx hb dX0_mayAnswerOne_175 rfl (lv_at hl 7 rfl) ?_
                refine r_get F hK hP 0 6 rfl rfl in_X0 (by decide) k_454 rfl dX0_mayAnswerOne_176 ?_
                refine lv_iload hx hb dX0_mayAnswerOne_179 (lv_at hl 0 rfl) ?_
                refine rz_iald F hK hP 9 0 rfl rfl (by omega) (by omega) dX0_mayAnswerOne_181 ?_
                refine rz_top (fun z43 h_z43 => ?_)
                refine lv_iload_n hx hb dX0_mayAnswerOne_182 rfl (lv_at hl 10 rfl) ?_
                refine rz_icmp_lt (tgt := 188) F (by omega) (by omega) dX0_mayAnswerOne_183 (by decide) (fun h183_43 => ?_) (fun h183_43 => ?_)
                · refine lv_aload_n hx hb dX0_mayAnswerOne_188 rfl (lv_at hl 7 rfl) ?_
                  refine r_get F hK hP 0 6 rfl rfl in_X0 (by decide) k_454 rfl dX0_mayAnswerOne_189 ?_
                  refine lv_iload hx hb dX0_mayAnswerOne_192 (lv_at hl 0 rfl) ?_
                  refine lv_dup2_11 hx hb dX0_mayAnswerOne_194 rfl rfl ?_
                  refine rz_iald F hK hP 9 0 rfl rfl (by omega) (by omega) dX0_mayAnswerOne_195 ?_
                  refine rz_top (fun z45 h_z45 => ?_)
                  refine lv_iconst (v := zI 1) hx hb dX0_mayAnswerOne_196 rfl ?_
                  refine r_iadd (v := zI (z45 + 1)) F dX0_mayAnswerOne_197 (zI_add _ _) ?_
                  refine rz_iastG F hK hP hD hS 9 0 rfl rfl (by omega) (by omega) dX0_mayAnswerOne_198 (w1 := fun g46 => [(b, .inr (0, [.ref (q 0), .ref (q 1), .ref (q 2), .ref (q 3), .ref (q 4), .ref (q 5), .ref (q 6)])), ((q 0), .inl (cI, 10, .inl (fun k => zI ((gg 0) k)))), ((q 1), .inl (cI, 30, .inl (fun k => zI ((gg 1) k)))), ((q 2), .inl (cI, 3, .inl (fun k => zI ((gg 2) k)))), ((q 3), .inl (cI, 3, .inl (fun k => zI ((gg 3) k)))), ((q 4), .inl (cI, 3, .inl (fun k => zI ((gg 4) k)))), ((q 5), .inl (cI, 3, .inl (fun k => zI ((gg 5) k)))), (o, .inr (7, [.int (zI no), .ref (qo 0)])), ((qo 0), .inl (cI, 30, .inl (fun k => zI ((go 0) k)))), ((q 6), .inl (cI, 6, .inl (fun k => zI (g46 k))))]) (fun _ => rfl) (fun g46 e_g46 H locs hP hD hS => ?_)
                  refine lv_iload hx hb dX0_mayAnswerOne_199 (lv_at hl 1 rfl) ?_
                  refine rz_if_eq (tgt := 214) F (by omega) dX0_mayAnswerOne_201 (by decide) (fun h201_46 => by omega) (fun h201_46 => ?_)
                  refine lv_aload_n hx hb dX0_mayAnswerOne_204 rfl (lv_at hl 7 rfl) ?_
                  refine r_get F hK hP 0 5 rfl rfl in_X0 (by decide) k_453 rfl dX0_mayAnswerOne_205 ?_
                  refine lv_iload hx hb dX0_mayAnswerOne_208 (lv_at hl 6 rfl) ?_
                  refine rz_iald F hK hP 6 0 rfl rfl (by omega) (by omega) dX0_mayAnswerOne_210 ?_
                  have h_l210_47 := hG.2.2 (v7).toNat (by omega)
                  refine lv_goto (tgt := 221) hx hb dX0_mayAnswerOne_211 (by decide) ?_
                  refine lv_istore (lv' := [(7, .int (zI ((gg 5) (v7).toNat))), (11, .int (zI ((2 * v7) + 1))), (10, .int (zI 1)), (6, .int (zI j6)), (5, .int (zI j5)), (9, .int (zI z16)), (8, .int (zI v8)), (0, .ref b), (1, .ref o), (2, .int (zI x)), (3, .int (zI y)), (4, .int (zI n))]) hx hb dX0_mayAnswerOne_221 hl (by decide) rfl (fun ls hl => ?_)
                  refine lv_iinc (v := zI (v8 + 1)) (lv' := [(8, .int (zI (v8 + 1))), (7, .int (zI ((gg 5) (v7).toNat))), (11, .int (zI ((2 * v7) + 1))), (10, .int (zI 1)), (6, .int (zI j6)), (5, .int (zI j5)), (9, .int (zI z16)), (0, .ref b), (1, .ref o), (2, .int (zI x)), (3, .int (zI y)), (4, .int (zI n))]) hx hb dX0_mayAnswerOne_223 hl (k := 6) rfl (zI_add _ _) (by decide) rfl (fun ls hl => ?_)
                  refine lv_goto (tgt := 30) hx hb dX0_mayAnswerOne_226 (by decide) ?_
                  obtain ⟨i49, e_i49⟩ : ∃ i49 : Nat → Int, i49 = fun k => [].getD k 0 := ⟨_, rfl⟩
                  obtain ⟨gg50, e_gg50⟩ : ∃ gg50 : Nat → Nat → Int, gg50 = fun k => [(gg 0), (gg 1), (gg 2), (gg 3), (gg 4), (gg 5), g46].getD k (fun _ => 0) := ⟨_, rfl⟩
                  have hO51 : LeastOk gg50 := by rw [e_gg50]; exact ⟨hG.1, hG.2.1, hG.2.2⟩
                  have hP : va_P G vwCl [(b, .inr (0, [.ref (q 0), .ref (q 1), .ref (q 2), .ref (q 3), .ref (q 4), .ref (q 5), .ref (q 6)])), ((q 0), .inl (cI, 10, .inl (fun k => zI ((gg50 0) k)))), ((q 1), .inl (cI, 30, .inl (fun k => zI ((gg50 1) k)))), ((q 2), .inl (cI, 3, .inl (fun k => zI ((gg50 2) k)))), ((q 3), .inl (cI, 3, .inl (fun k => zI ((gg50 3) k)))), ((q 4), .inl (cI, 3, .inl (fun k => zI ((gg50 4) k)))), ((q 5), .inl (cI, 3, .inl (fun k => zI ((gg50 5) k)))), (o, .inr (7, [.int (zI no), .ref (qo 0)])), ((qo 0), .inl (cI, 30, .inl (fun k => zI ((go 0) k)))), ((q 6), .inl (cI, 6, .inl (fun k => zI ((gg50 6) k))))] H := by subst e_i49 e_gg50; exact hP
                  have hD : va_D A [(b, .inr (0, [.ref (q 0), .ref (q 1), .ref (q 2), .ref (q 3), .ref (q 4), .ref (q 5), .ref (q 6)])), ((q 0), .inl (cI, 10, .inl (fun k => zI ((gg50 0) k)))), ((q 1), .inl (cI, 30, .inl (fun k => zI ((gg50 1) k)))), ((q 2), .inl (cI, 3, .inl (fun k => zI ((gg50 2) k)))), ((q 3), .inl (cI, 3, .inl (fun k => zI ((gg50 3) k)))), ((q 4), .inl (cI, 3, .inl (fun k => zI ((gg50 4) k)))), ((q 5), .inl (cI, 3, .inl (fun k => zI ((gg50 5) k)))), (o, .inr (7, [.int (zI no), .ref (qo 0)])), ((qo 0), .inl (cI, 30, .inl (fun k => zI ((go 0) k)))), ((q 6), .inl (cI, 6, .inl (fun k => zI ((gg50 6) k))))] := by subst e_i49 e_gg50; exact hD
                  exact ih1 j5 j6 ((gg 5) (v7).toNat) (v8 + 1) gg50 _ _ (by omega) (by omega) hO51 (by subst e_gg50; exact hn2) hP hD hS ls (lv_sub hl [0, 1, 4, 5, 7, 8, 9, 10, 11] rfl)
                · refine lv_iconst (v := zI 0) hx hb dX0_mayAnswerOne_186 rfl ?_
                  exact ret (zI 0) (fun _ => 0, gg) _ _ _ _ _ _ rfl ⟨0, rfl, hG, ⟨by omega, hn2⟩⟩ (bw_subP (isC := [0, 1, 2, 3, 4, 5, 6, 9, 7, 8]) hP rfl) (hD.sub [0, 1, 2, 3, 4, 5, 6, 9, 7, 8] (by decide) rfl) hS (Nat.le_of_ble_eq_true rfl) (Nat.le_of_ble_eq_true rfl) dX0_mayAnswerOne_187
          · refine lv_iload hx hb dX0_mayAnswerOne_115 (lv_at hl 1 rfl) ?_
            refine lv_aload_n hx hb dX0_mayAnswerOne_117 rfl (lv_at hl 6 rfl) ?_
            refine lv_iload_n hx hb dX0_mayAnswerOne_118 rfl (lv_at hl 7 rfl) ?_
            refine lv_iconst (v := zI 4) hx hb dX0_mayAnswerOne_119 rfl ?_
            refine r_callVi (As := [.int (zI x), .int (zI 4)]) (rest := [.int (zI j5)]) (wr := [(b, .inr (0, [.ref (q 0), .ref (q 1), .ref (q 2), .ref (q 3), .ref (q 4), .ref (q 5), .ref (q 6)])), ((q 0), .inl (cI, 10, .inl (fun k => zI ((gg 0) k)))), ((q 1), .inl (cI, 30, .inl (fun k => zI ((gg 1) k)))), ((q 2), .inl (cI, 3, .inl (fun k => zI ((gg 2) k)))), ((q 3), .inl (cI, 3, .inl (fun k => zI ((gg 3) k)))), ((q 4), .inl (cI, 3, .inl (fun k => zI ((gg 4) k)))), ((q 5), .inl (cI, 3, .inl (fun k => zI ((gg 5) k)))), ((q 6), .inl (cI, 6, .inl (fun k => zI ((gg 6) k))))]) F hK hP hD hS hA hO hE (c_X7_part hO o qo no go hM x 4 (by omega) (by omega)) k_1037 kv_X7_part 2 rfl (by decide +kernel) ⟨Nat.le_of_ble_eq_true rfl, Nat.le_of_ble_eq_true rfl⟩ [7, 8] [0, 1, 2, 3, 4, 5, 6, 9] rfl rfl (by decide) (by decide) (by decide) 0 7 rfl rfl rfl hl.1 rfl (Nat.le_of_ble_eq_true rfl) dX0_mayAnswerOne_120 ⟨Nat.le_of_ble_eq_true rfl, Nat.le_of_ble_eq_true rfl⟩ (w1 := fun u52 => [(b, .inr (0, [.ref (q 0), .ref (q 1), .ref (q 2), .ref (q 3), .ref (q 4), .ref (q 5), .ref (q 6)])), ((q 0), .inl (cI, 10, .inl (fun k => zI ((gg 0) k)))), ((q 1), .inl (cI, 30, .inl (fun k => zI ((gg 1) k)))), ((q 2), .inl (cI, 3, .inl (fun k => zI ((gg 2) k)))), ((q 3), .inl (cI, 3, .inl (fun k => zI ((gg 3) k)))), ((q 4), .inl (cI, 3, .inl (fun k => zI ((gg 4) k)))), ((q 5), .inl (cI, 3, .inl (fun k => zI ((gg 5) k)))), ((q 6), .inl (cI, 6, .inl (fun k => zI ((gg 6) k)))), (o, .inr (7, [.int (zI no), .ref (qo 0)])), ((qo 0), .inl (cI, 30, .inl (fun k => zI ((go 0) k))))]) (fun _ => rfl) (fun r53 u52 H locs hp54 hP hD hS => ?_)
            obtain ⟨z55, rfl, h_z55⟩ := hp54
            refine rz_icmp_ne (tgt := 130) F (by omega) (by omega) dX0_mayAnswerOne_123 (by decide) (fun h123_55 => ?_) (fun h123_55 => ?_)
            · refine lv_iconst (v := zI 0) hx hb dX0_mayAnswerOne_130 rfl ?_
              exact ret (zI 0) (fun _ => 0, gg) _ _ _ _ _ _ rfl ⟨0, rfl, hG, ⟨by omega, hn2⟩⟩ (bw_subP (isC := [0, 1, 2, 3, 4, 5, 6, 7, 8, 9]) hP rfl) (hD.sub [0, 1, 2, 3, 4, 5, 6, 7, 8, 9] (by decide) rfl) hS (Nat.le_of_ble_eq_true rfl) (Nat.le_of_ble_eq_true rfl) dX0_mayAnswerOne_131
            · refine lv_iconst (v := zI 1) hx hb dX0_mayAnswerOne_126 rfl ?_
              refine lv_goto (tgt := 131) hx hb dX0_mayAnswerOne_127 (by decide) ?_
              exact ret (zI 1) (fun _ => 0, gg) _ _ _ _ _ _ rfl ⟨1, rfl, hG, ⟨by omega, hn2⟩⟩ (bw_subP (isC := [0, 1, 2, 3, 4, 5, 6, 7, 8, 9]) hP rfl) (hD.sub [0, 1, 2, 3, 4, 5, 6, 7, 8, 9] (by decide) rfl) hS (Nat.le_of_ble_eq_true rfl) (Nat.le_of_ble_eq_true rfl) dX0_mayAnswerOne_131
        refine lv_iload hx hb dX0_mayAnswerOne_54 (lv_at hl 0 rfl) ?_
        refine lv_iconst (v := zI 1) hx hb dX0_mayAnswerOne_56 rfl ?_
        refine rz_icmp_ne (tgt := 73) F (by omega) (by omega) dX0_mayAnswerOne_57 (by decide) (fun h57_56 => ?_) (fun h57_56 => ?_)
        · refine lv_iload hx hb dX0_mayAnswerOne_73 (lv_at hl 0 rfl) ?_
          refine lv_iconst (v := zI 2) hx hb dX0_mayAnswerOne_75 rfl ?_
          refine rz_icmp_ne (tgt := 90) F (by omega) (by omega) dX0_mayAnswerOne_76 (by decide) (fun h76_57 => ?_) (fun h76_57 => ?_)
          · refine lv_iload hx hb dX0_mayAnswerOne_90 (lv_at hl 0 rfl) ?_
            refine lv_iconst (v := zI 3) hx hb dX0_mayAnswerOne_92 rfl ?_
            refine rz_icmp_ne (tgt := 104) F (by omega) (by omega) dX0_mayAnswerOne_93 (by decide) (fun h93_58 => ?_) (fun h93_58 => ?_)
            · exact j_104 v5 v6 _ _ (by omega) hP hD hS ls (lv_sub hl [3, 4, 0, 1, 2, 5, 6, 7, 8, 9] rfl)
            · refine lv_iload hx hb dX0_mayAnswerOne_96 (lv_at hl 3 rfl) ?_
              refine rz_if_le (tgt := 104) F (by omega) dX0_mayAnswerOne_98 (by decide) (fun h98_59 => ?_) (fun h98_59 => ?_)
              · exact j_104 v5 v6 _ _ (by omega) hP hD hS ls (lv_sub hl [3, 4, 0, 1, 2, 5, 6, 7, 8, 9] rfl)
              · refine lv_iinc (v := zI (v6 + (-1))) (lv' := [(6, .int (zI (v6 + (-1)))), (9, .int (zI z16)), (8, .int (zI v8)), (7, .int (zI v7)), (5, .int (zI v5)), (0, .ref b), (1, .ref o), (2, .int (zI x)), (3, .int (zI y)), (4, .int (zI n))]) hx hb dX0_mayAnswerOne_101 hl (k := 3) rfl (zI_add _ _) (by decide) rfl (fun ls hl => ?_)
                exact j_104 v5 (v6 + (-1)) _ _ (by omega) hP hD hS ls (lv_sub hl [0, 4, 1, 2, 3, 5, 6, 7, 8, 9] rfl)
          · refine lv_iload hx hb dX0_mayAnswerOne_79 (lv_at hl 4 rfl) ?_
            refine rz_if_le (tgt := 90) F (by omega) dX0_mayAnswerOne_81 (by decide) (fun h81_60 => ?_) (fun h81_60 => ?_)
            · refine lv_iload hx hb dX0_mayAnswerOne_90 (lv_at hl 0 rfl) ?_
              refine lv_iconst (v := zI 3) hx hb dX0_mayAnswerOne_92 rfl ?_
              refine rz_icmp_ne (tgt := 104) F (by omega) (by omega) dX0_mayAnswerOne_93 (by decide) (fun h93_61 => ?_) (fun h93_61 => ?_)
              · exact j_104 v5 v6 _ _ (by omega) hP hD hS ls (lv_sub hl [3, 4, 0, 1, 2, 5, 6, 7, 8, 9] rfl)
              · refine lv_iload hx hb dX0_mayAnswerOne_96 (lv_at hl 3 rfl) ?_
                refine rz_if_le (tgt := 104) F (by omega) dX0_mayAnswerOne_98 (by decide) (fun h98_62 => ?_) (fun h98_62 => ?_)
                · exact j_104 v5 v6 _ _ (by omega) hP hD hS ls (lv_sub hl [3, 4, 0, 1, 2, 5, 6, 7, 8, 9] rfl)
                · refine lv_iinc (v := zI (v6 + (-1))) (lv' := [(6, .int (zI (v6 + (-1)))), (9, .int (zI z16)), (8, .int (zI v8)), (7, .int (zI v7)), (5, .int (zI v5)), (0, .ref b), (1, .ref o), (2, .int (zI x)), (3, .int (zI y)), (4, .int (zI n))]) hx hb dX0_mayAnswerOne_101 hl (k := 3) rfl (zI_add _ _) (by decide) rfl (fun ls hl => ?_)
                  exact j_104 v5 (v6 + (-1)) _ _ (by omega) hP hD hS ls (lv_sub hl [0, 4, 1, 2, 3, 5, 6, 7, 8, 9] rfl)
            · refine lv_iinc (v := zI (v5 + (-1))) (lv' := [(5, .int (zI (v5 + (-1)))), (9, .int (zI z16)), (8, .int (zI v8)), (7, .int (zI v7)), (6, .int (zI v6)), (0, .ref b), (1, .ref o), (2, .int (zI x)), (3, .int (zI y)), (4, .int (zI n))]) hx hb dX0_mayAnswerOne_84 hl (k := 4) rfl (zI_add _ _) (by decide) rfl (fun ls hl => ?_)
              refine lv_goto (tgt := 104) hx hb dX0_mayAnswerOne_87 (by decide) ?_
              exact j_104 (v5 + (-1)) v6 _ _ (by omega) hP hD hS ls (lv_sub hl [4, 0, 1, 2, 3, 5, 6, 7, 8, 9] rfl)
        · refine lv_iload hx hb dX0_mayAnswerOne_60 (lv_at hl 4 rfl) ?_
          refine lv_bipush (v := zI 99) hx hb dX0_mayAnswerOne_62 (by decide) ?_
          refine rz_icmp_ge (tgt := 73) F (by omega) (by omega) dX0_mayAnswerOne_64 (by decide) (fun h64_63 => ?_) (fun h64_63 => ?_)
          · refine lv_iload hx hb dX0_mayAnswerOne_73 (lv_at hl 0 rfl) ?_
            refine lv_iconst (v := zI 2) hx hb dX0_mayAnswerOne_75 rfl ?_
            refine rz_icmp_ne (tgt := 90) F (by omega) (by omega) dX0_mayAnswerOne_76 (by decide) (fun h76_64 => ?_) (fun h76_64 => ?_)
            · refine lv_iload hx hb dX0_mayAnswerOne_90 (lv_at hl 0 rfl) ?_
              refine lv_iconst (v := zI 3) hx hb dX0_mayAnswerOne_92 rfl ?_
              refine rz_icmp_ne (tgt := 104) F (by omega) (by omega) dX0_mayAnswerOne_93 (by decide) (fun h93_65 => ?_) (fun h93_65 => ?_)
              · exact j_104 v5 v6 _ _ (by omega) hP hD hS ls (lv_sub hl [3, 4, 0, 1, 2, 5, 6, 7, 8, 9] rfl)
              · refine lv_iload hx hb dX0_mayAnswerOne_96 (lv_at hl 3 rfl) ?_
                refine rz_if_le (tgt := 104) F (by omega) dX0_mayAnswerOne_98 (by decide) (fun h98_66 => ?_) (fun h98_66 => ?_)
                · exact j_104 v5 v6 _ _ (by omega) hP hD hS ls (lv_sub hl [3, 4, 0, 1, 2, 5, 6, 7, 8, 9] rfl)
                · refine lv_iinc (v := zI (v6 + (-1))) (lv' := [(6, .int (zI (v6 + (-1)))), (9, .int (zI z16)), (8, .int (zI v8)), (7, .int (zI v7)), (5, .int (zI v5)), (0, .ref b), (1, .ref o), (2, .int (zI x)), (3, .int (zI y)), (4, .int (zI n))]) hx hb dX0_mayAnswerOne_101 hl (k := 3) rfl (zI_add _ _) (by decide) rfl (fun ls hl => ?_)
                  exact j_104 v5 (v6 + (-1)) _ _ (by omega) hP hD hS ls (lv_sub hl [0, 4, 1, 2, 3, 5, 6, 7, 8, 9] rfl)
            · refine lv_iload hx hb dX0_mayAnswerOne_79 (lv_at hl 4 rfl) ?_
              refine rz_if_le (tgt := 90) F (by omega) dX0_mayAnswerOne_81 (by decide) (fun h81_67 => ?_) (fun h81_67 => ?_)
              · refine lv_iload hx hb dX0_mayAnswerOne_90 (lv_at hl 0 rfl) ?_
                refine lv_iconst (v := zI 3) hx hb dX0_mayAnswerOne_92 rfl ?_
                refine rz_icmp_ne (tgt := 104) F (by omega) (by omega) dX0_mayAnswerOne_93 (by decide) (fun h93_68 => ?_) (fun h93_68 => ?_)
                · exact j_104 v5 v6 _ _ (by omega) hP hD hS ls (lv_sub hl [3, 4, 0, 1, 2, 5, 6, 7, 8, 9] rfl)
                · refine lv_iload hx hb dX0_mayAnswerOne_96 (lv_at hl 3 rfl) ?_
                  refine rz_if_le (tgt := 104) F (by omega) dX0_mayAnswerOne_98 (by decide) (fun h98_69 => ?_) (fun h98_69 => ?_)
                  · exact j_104 v5 v6 _ _ (by omega) hP hD hS ls (lv_sub hl [3, 4, 0, 1, 2, 5, 6, 7, 8, 9] rfl)
                  · refine lv_iinc (v := zI (v6 + (-1))) (lv' := [(6, .int (zI (v6 + (-1)))), (9, .int (zI z16)), (8, .int (zI v8)), (7, .int (zI v7)), (5, .int (zI v5)), (0, .ref b), (1, .ref o), (2, .int (zI x)), (3, .int (zI y)), (4, .int (zI n))]) hx hb dX0_mayAnswerOne_101 hl (k := 3) rfl (zI_add _ _) (by decide) rfl (fun ls hl => ?_)
                    exact j_104 v5 (v6 + (-1)) _ _ (by omega) hP hD hS ls (lv_sub hl [0, 4, 1, 2, 3, 5, 6, 7, 8, 9] rfl)
              · refine lv_iinc (v := zI (v5 + (-1))) (lv' := [(5, .int (zI (v5 + (-1)))), (9, .int (zI z16)), (8, .int (zI v8)), (7, .int (zI v7)), (6, .int (zI v6)), (0, .ref b), (1, .ref o), (2, .int (zI x)), (3, .int (zI y)), (4, .int (zI n))]) hx hb dX0_mayAnswerOne_84 hl (k := 4) rfl (zI_add _ _) (by decide) rfl (fun ls hl => ?_)
                refine lv_goto (tgt := 104) hx hb dX0_mayAnswerOne_87 (by decide) ?_
                exact j_104 (v5 + (-1)) v6 _ _ (by omega) hP hD hS ls (lv_sub hl [4, 0, 1, 2, 3, 5, 6, 7, 8, 9] rfl)
          · refine lv_iinc (v := zI (v5 + 1)) (lv' := [(5, .int (zI (v5 + 1))), (9, .int (zI z16)), (8, .int (zI v8)), (7, .int (zI v7)), (6, .int (zI v6)), (0, .ref b), (1, .ref o), (2, .int (zI x)), (3, .int (zI y)), (4, .int (zI n))]) hx hb dX0_mayAnswerOne_67 hl (k := 4) rfl (zI_add _ _) (by decide) rfl (fun ls hl => ?_)
            refine lv_goto (tgt := 104) hx hb dX0_mayAnswerOne_70 (by decide) ?_
            exact j_104 (v5 + 1) v6 _ _ (by omega) hP hD hS ls (lv_sub hl [4, 0, 1, 2, 3, 5, 6, 7, 8, 9] rfl)
