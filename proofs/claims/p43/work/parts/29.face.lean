theorem dX8_refuse_0 : decode cX8_refuse 0 = .ok (.aload_n 0, 1) := bo_42 (by decide +kernel)
theorem dX8_refuse_1 : decode cX8_refuse 1 = .ok (.iload_n 1, 1) := bo_27 (by decide +kernel)
theorem dX8_refuse_2 : decode cX8_refuse 2 = .ok (.putfield 9, 3) := bo_181 0 9 (by decide +kernel)
theorem k_495 : Cond.fieldLink RX8 9 "BurntWays" "latestTrouble" "I" ∈ bw_T := bw_m 495 (by decide +kernel) rfl
theorem in_X8 : ∀ w ∈ wsX80, w ∈ bw_T := bw_ms _ [509, 511, 513, 515, 517, 519, 521, 523, 525, 527, 529, 531, 533, 535] (by decide +kernel) (by decide +kernel)
theorem dX8_refuse_5 : decode cX8_refuse 5 = .ok (.iconst (-1), 1) := bo_2 (by decide +kernel)
theorem dX8_refuse_6 : decode cX8_refuse 6 = .ok (.ireturn, 1) := bo_172 (by decide +kernel)
abbrev rm_X8_refuse : Room := { frames := 0, cells := 0, slots := 0, locals := 0 }
set_option maxRecDepth 100000 in
set_option maxHeartbeats 8000000 in
theorem c_X8_refuse {l : Launch} {E : (Nat → Prop) → State → Prop} (hO : bw_Ok E) {G : va_G} {cI cB cJ cN cW : ClassId} (b : Nat) (q : Nat → Nat) (t ld : Int) (hL : ld = 0 ∨ ld = 1) (x : Int) : bw_Ci (S := zU) l yX8_refuse (bw_ws (Cond.code yX8_refuse cX8_refuse 2 (some .int))) rm_X8_refuse E G (bw_kt cI cB cJ cN cW) [.ref b, .int (zI x)] [(b, .inr (8, [.int (zI t), .int (zI ld), .ref (q 0), .ref (q 1), .ref (q 2), .ref (q 3), .ref (q 4), .ref (q 5), .ref (q 6), .ref (q 7), .ref (q 8), .ref (q 9), .ref (q 10), .ref (q 11)]))] (fun r _ => ∃ z : Int, r = zI z ∧ z = -1) (fun _ => [(b, .inr (8, [.int (zI x), .int (zI ld), .ref (q 0), .ref (q 1), .ref (q 2), .ref (q 3), .ref (q 4), .ref (q 5), .ref (q 6), .ref (q 7), .ref (q 8), .ref (q 9), .ref (q 10), .ref (q 11)]))]) := by
  refine bw_Ci.of (cc := cX8_refuse) (maxL := 2) (ty := .int) (by decide) rfl (Nat.le_of_ble_eq_true rfl) ?_
  intro p e s m below meth c A Q hx hb hml hts hown hin hK hA hS hP hD hE ret ls hl
  have F : CallFix p m c cX8_refuse 2 s ([.ref b, .int (zI x)] : List Value).toArray bw_T RX8 := ⟨hx, hb, hml, hown, fun w h => hts w (List.mem_cons_of_mem _ h)⟩
  replace hl : lv_has ls 2 [(0, .ref b), (1, .int (zI x))] := hl
  refine lv_aload_n hx hb dX8_refuse_0 rfl (lv_at hl 0 rfl) ?_
  refine lv_iload_n hx hb dX8_refuse_1 rfl (lv_at hl 1 rfl) ?_
  refine r_put F hK hP hD hS 0 0 rfl rfl in_X8 tyX8 tyX8_ok nmX8 (by decide) k_495 rfl rfl rfl (Nat.le_of_ble_eq_true rfl) dX8_refuse_2 (w1 := [(b, .inr (8, [.int (zI x), .int (zI ld), .ref (q 0), .ref (q 1), .ref (q 2), .ref (q 3), .ref (q 4), .ref (q 5), .ref (q 6), .ref (q 7), .ref (q 8), .ref (q 9), .ref (q 10), .ref (q 11)]))]) rfl (fun H locs hP hD hS => ?_)
  refine lv_iconst (v := zI (-1)) hx hb dX8_refuse_5 rfl ?_
  exact ret (zI (-1)) (fun _ => 0, fun _ _ => 0) _ _ _ _ _ _ rfl ⟨_, rfl, rfl⟩ (bw_subP (isC := [0]) hP rfl) (hD.sub [0] (by decide) rfl) hS (Nat.le_of_ble_eq_true rfl) (Nat.le_of_ble_eq_true rfl) dX8_refuse_6
theorem dX8_grant_0 : decode cX8_grant 0 = .ok (.aload_n 0, 1) := bo_42 (by decide +kernel)
theorem dX8_grant_1 : decode cX8_grant 1 = .ok (.iconst 0, 1) := bo_3 (by decide +kernel)
theorem dX8_grant_2 : decode cX8_grant 2 = .ok (.putfield 9, 3) := bo_181 0 9 (by decide +kernel)
theorem dX8_grant_5 : decode cX8_grant 5 = .ok (.iload_n 1, 1) := bo_27 (by decide +kernel)
theorem dX8_grant_6 : decode cX8_grant 6 = .ok (.ireturn, 1) := bo_172 (by decide +kernel)
abbrev rm_X8_grant : Room := { frames := 0, cells := 0, slots := 0, locals := 0 }
set_option maxRecDepth 100000 in
set_option maxHeartbeats 8000000 in
theorem c_X8_grant {l : Launch} {E : (Nat → Prop) → State → Prop} (hO : bw_Ok E) {G : va_G} {cI cB cJ cN cW : ClassId} (b : Nat) (q : Nat → Nat) (t ld : Int) (hL : ld = 0 ∨ ld = 1) (x : Int) : bw_Ci (S := zU) l yX8_grant (bw_ws (Cond.code yX8_grant cX8_grant 2 (some .int))) rm_X8_grant E G (bw_kt cI cB cJ cN cW) [.ref b, .int (zI x)] [(b, .inr (8, [.int (zI t), .int (zI ld), .ref (q 0), .ref (q 1), .ref (q 2), .ref (q 3), .ref (q 4), .ref (q 5), .ref (q 6), .ref (q 7), .ref (q 8), .ref (q 9), .ref (q 10), .ref (q 11)]))] (fun r _ => ∃ z : Int, r = zI z ∧ z = x) (fun _ => [(b, .inr (8, [.int (zI 0), .int (zI ld), .ref (q 0), .ref (q 1), .ref (q 2), .ref (q 3), .ref (q 4), .ref (q 5), .ref (q 6), .ref (q 7), .ref (q 8), .ref (q 9), .ref (q 10), .ref (q 11)]))]) := by
  refine bw_Ci.of (cc := cX8_grant) (maxL := 2) (ty := .int) (by decide) rfl (Nat.le_of_ble_eq_true rfl) ?_
  intro p e s m below meth c A Q hx hb hml hts hown hin hK hA hS hP hD hE ret ls hl
  have F : CallFix p m c cX8_grant 2 s ([.ref b, .int (zI x)] : List Value).toArray bw_T RX8 := ⟨hx, hb, hml, hown, fun w h => hts w (List.mem_cons_of_mem _ h)⟩
  replace hl : lv_has ls 2 [(0, .ref b), (1, .int (zI x))] := hl
  refine lv_aload_n hx hb dX8_grant_0 rfl (lv_at hl 0 rfl) ?_
  refine lv_iconst (v := zI 0) hx hb dX8_grant_1 rfl ?_
  refine r_put F hK hP hD hS 0 0 rfl rfl in_X8 tyX8 tyX8_ok nmX8 (by decide) k_495 rfl rfl rfl (Nat.le_of_ble_eq_true rfl) dX8_grant_2 (w1 := [(b, .inr (8, [.int (zI 0), .int (zI ld), .ref (q 0), .ref (q 1), .ref (q 2), .ref (q 3), .ref (q 4), .ref (q 5), .ref (q 6), .ref (q 7), .ref (q 8), .ref (q 9), .ref (q 10), .ref (q 11)]))]) rfl (fun H locs hP hD hS => ?_)
  refine lv_iload_n hx hb dX8_grant_5 rfl (lv_at hl 1 rfl) ?_
  exact ret (zI x) (fun _ => 0, fun _ _ => 0) _ _ _ _ _ _ rfl ⟨_, rfl, rfl⟩ (bw_subP (isC := [0]) hP rfl) (hD.sub [0] (by decide) rfl) hS (Nat.le_of_ble_eq_true rfl) (Nat.le_of_ble_eq_true rfl) dX8_grant_6
theorem dX8_isLoaded_0 : decode cX8_isLoaded 0 = .ok (.aload_n 0, 1) := bo_42 (by decide +kernel)
theorem dX8_isLoaded_1 : decode cX8_isLoaded 1 = .ok (.aload_n 0, 1) := bo_42 (by decide +kernel)
theorem dX8_isLoaded_2 : decode cX8_isLoaded 2 = .ok (.getfield 13, 3) := bo_180 0 13 (by decide +kernel)
theorem k_496 : Cond.fieldLink RX8 13 "BurntWays" "loaded" "Z" ∈ bw_T := bw_m 496 (by decide +kernel) rfl
theorem dX8_isLoaded_5 : decode cX8_isLoaded 5 = .ok (.ifCond .eq 7, 3) := bo_153 0 7 (by decide +kernel)
theorem dX8_isLoaded_12 : decode cX8_isLoaded 12 = .ok (.iconst 1, 1) := bo_4 (by decide +kernel)
theorem dX8_isLoaded_13 : decode cX8_isLoaded 13 = .ok (.putfield 9, 3) := bo_181 0 9 (by decide +kernel)
theorem dX8_isLoaded_16 : decode cX8_isLoaded 16 = .ok (.aload_n 0, 1) := bo_42 (by decide +kernel)
theorem dX8_isLoaded_17 : decode cX8_isLoaded 17 = .ok (.getfield 13, 3) := bo_180 0 13 (by decide +kernel)
theorem dX8_isLoaded_20 : decode cX8_isLoaded 20 = .ok (.ireturn, 1) := bo_172 (by decide +kernel)
theorem dX8_isLoaded_8 : decode cX8_isLoaded 8 = .ok (.iconst 0, 1) := bo_3 (by decide +kernel)
theorem dX8_isLoaded_9 : decode cX8_isLoaded 9 = .ok (.goto 4, 3) := bo_167 0 4 (by decide +kernel)
abbrev rm_X8_isLoaded : Room := { frames := 0, cells := 0, slots := 0, locals := 0 }
set_option maxRecDepth 100000 in
set_option maxHeartbeats 8000000 in
theorem c_X8_isLoaded {l : Launch} {E : (Nat → Prop) → State → Prop} (hO : bw_Ok E) {G : va_G} {cI cB cJ cN cW : ClassId} (b : Nat) (q : Nat → Nat) (t ld : Int) (hL : ld = 0 ∨ ld = 1) : bw_Ci (S := zU) l yX8_isLoaded (bw_ws (Cond.code yX8_isLoaded cX8_isLoaded 1 (some .boolean))) rm_X8_isLoaded E G (bw_kt cI cB cJ cN cW) [.ref b] [(b, .inr (8, [.int (zI t), .int (zI ld), .ref (q 0), .ref (q 1), .ref (q 2), .ref (q 3), .ref (q 4), .ref (q 5), .ref (q 6), .ref (q 7), .ref (q 8), .ref (q 9), .ref (q 10), .ref (q 11)]))] (fun r u => ∃ z : Int, r = zI z ∧ z = ld ∧ (0 ≤ u.1 0 ∧ u.1 0 ≤ 1)) (fun u => [(b, .inr (8, [.int (zI (u.1 0)), .int (zI ld), .ref (q 0), .ref (q 1), .ref (q 2), .ref (q 3), .ref (q 4), .ref (q 5), .ref (q 6), .ref (q 7), .ref (q 8), .ref (q 9), .ref (q 10), .ref (q 11)]))]) := by
  refine bw_Ci.of (cc := cX8_isLoaded) (maxL := 1) (ty := .boolean) (by decide) rfl (Nat.le_of_ble_eq_true rfl) ?_
  intro p e s m below meth c A Q hx hb hml hts hown hin hK hA hS hP hD hE ret ls hl
  have F : CallFix p m c cX8_isLoaded 1 s ([.ref b] : List Value).toArray bw_T RX8 := ⟨hx, hb, hml, hown, fun w h => hts w (List.mem_cons_of_mem _ h)⟩
  replace hl : lv_has ls 1 [(0, .ref b)] := hl
  refine lv_aload_n hx hb dX8_isLoaded_0 rfl (lv_at hl 0 rfl) ?_
  refine lv_aload_n hx hb dX8_isLoaded_1 rfl (lv_at hl 0 rfl) ?_
  refine r_get F hK hP 0 1 rfl rfl in_X8 (by decide) k_496 rfl dX8_isLoaded_2 ?_
  refine rz_if_eq (tgt := 12) F (by omega) dX8_isLoaded_5 (by decide) (fun h5_0 => ?_) (fun h5_0 => ?_)
  · refine lv_iconst (v := zI 1) hx hb dX8_isLoaded_12 rfl ?_
    refine r_put F hK hP hD hS 0 0 rfl rfl in_X8 tyX8 tyX8_ok nmX8 (by decide) k_495 rfl rfl rfl (Nat.le_of_ble_eq_true rfl) dX8_isLoaded_13 (w1 := [(b, .inr (8, [.int (zI 1), .int (zI ld), .ref (q 0), .ref (q 1), .ref (q 2), .ref (q 3), .ref (q 4), .ref (q 5), .ref (q 6), .ref (q 7), .ref (q 8), .ref (q 9), .ref (q 10), .ref (q 11)]))]) rfl (fun H locs hP hD hS => ?_)
    refine lv_aload_n hx hb dX8_isLoaded_16 rfl (lv_at hl 0 rfl) ?_
    refine r_get F hK hP 0 1 rfl rfl in_X8 (by decide) k_496 rfl dX8_isLoaded_17 ?_
    exact ret (zI ld) (fun _ => 1, fun _ _ => 0) _ _ _ _ _ _ (zI_nz (by omega)) ⟨ld, rfl, rfl, (show 0 ≤ (1 : Int) ∧ (1 : Int) ≤ 1 from by omega)⟩ (bw_subP (isC := [0]) hP rfl) (hD.sub [0] (by decide) rfl) hS (Nat.le_of_ble_eq_true rfl) (Nat.le_of_ble_eq_true rfl) dX8_isLoaded_20
  · refine lv_iconst (v := zI 0) hx hb dX8_isLoaded_8 rfl ?_
    refine lv_goto (tgt := 13) hx hb dX8_isLoaded_9 (by decide) ?_
    refine r_put F hK hP hD hS 0 0 rfl rfl in_X8 tyX8 tyX8_ok nmX8 (by decide) k_495 rfl rfl rfl (Nat.le_of_ble_eq_true rfl) dX8_isLoaded_13 (w1 := [(b, .inr (8, [.int (zI 0), .int (zI ld), .ref (q 0), .ref (q 1), .ref (q 2), .ref (q 3), .ref (q 4), .ref (q 5), .ref (q 6), .ref (q 7), .ref (q 8), .ref (q 9), .ref (q 10), .ref (q 11)]))]) rfl (fun H locs hP hD hS => ?_)
    refine lv_aload_n hx hb dX8_isLoaded_16 rfl (lv_at hl 0 rfl) ?_
    refine r_get F hK hP 0 1 rfl rfl in_X8 (by decide) k_496 rfl dX8_isLoaded_17 ?_
    exact ret (zI ld) (fun _ => 0, fun _ _ => 0) _ _ _ _ _ _ (zI_nz (by omega)) ⟨ld, rfl, rfl, (show 0 ≤ (0 : Int) ∧ (0 : Int) ≤ 1 from by omega)⟩ (bw_subP (isC := [0]) hP rfl) (hD.sub [0] (by decide) rfl) hS (Nat.le_of_ble_eq_true rfl) (Nat.le_of_ble_eq_true rfl) dX8_isLoaded_20
theorem dX8_isCount_0 : decode cX8_isCount 0 = .ok (.iload_n 0, 1) := bo_26 (by decide +kernel)
theorem dX8_isCount_1 : decode cX8_isCount 1 = .ok (.ifCond .lt 13, 3) := bo_155 0 13 (by decide +kernel)
theorem dX8_isCount_14 : decode cX8_isCount 14 = .ok (.iconst 0, 1) := bo_3 (by decide +kernel)
theorem dX8_isCount_15 : decode cX8_isCount 15 = .ok (.ireturn, 1) := bo_172 (by decide +kernel)
theorem dX8_isCount_4 : decode cX8_isCount 4 = .ok (.iload_n 0, 1) := bo_26 (by decide +kernel)
theorem dX8_isCount_5 : decode cX8_isCount 5 = .ok (.bipush 99, 2) := bo_16 99 (by decide +kernel)
theorem dX8_isCount_7 : decode cX8_isCount 7 = .ok (.if_icmp .gt 7, 3) := bo_163 0 7 (by decide +kernel)
theorem dX8_isCount_10 : decode cX8_isCount 10 = .ok (.iconst 1, 1) := bo_4 (by decide +kernel)
theorem dX8_isCount_11 : decode cX8_isCount 11 = .ok (.goto 4, 3) := bo_167 0 4 (by decide +kernel)
abbrev rm_X8_isCount : Room := { frames := 0, cells := 0, slots := 0, locals := 0 }
set_option maxRecDepth 100000 in
set_option maxHeartbeats 8000000 in
theorem c_X8_isCount {l : Launch} {E : (Nat → Prop) → State → Prop} (hO : bw_Ok E) {G : va_G} {cI cB cJ cN cW : ClassId} (x : Int) (hx9 : zR x) : bw_Ci (S := zU) l yX8_isCount (bw_ws (Cond.code yX8_isCount cX8_isCount 1 (some .boolean))) rm_X8_isCount E G (bw_kt cI cB cJ cN cW) [.int (zI x)] [] (fun r _ => ∃ z : Int, r = zI z ∧ (z = 0 ∨ z = 1) ∧ (z = 1 → 0 ≤ x ∧ x ≤ 99) ∧ (z = 0 → x < 0 ∨ 99 < x)) (fun _ => []) := by
  refine bw_Ci.of (cc := cX8_isCount) (maxL := 1) (ty := .boolean) (by decide) rfl (Nat.le_of_ble_eq_true rfl) ?_
  intro p e s m below meth c A Q hx hb hml hts hown hin hK hA hS hP hD hE ret ls hl
  have F : CallFix p m c cX8_isCount 1 s ([.int (zI x)] : List Value).toArray bw_T RX8 := ⟨hx, hb, hml, hown, fun w h => hts w (List.mem_cons_of_mem _ h)⟩
  replace hl : lv_has ls 1 [(0, .int (zI x))] := hl
  refine lv_iload_n hx hb dX8_isCount_0 rfl (lv_at hl 0 rfl) ?_
  refine rz_if_lt (tgt := 14) F (by omega) dX8_isCount_1 (by decide) (fun h1_0 => ?_) (fun h1_0 => ?_)
  · refine lv_iconst (v := zI 0) hx hb dX8_isCount_14 rfl ?_
    exact ret (zI 0) (fun _ => 0, fun _ _ => 0) _ _ _ _ _ _ rfl ⟨0, rfl, by omega, fun _ => by omega, fun _ => by omega⟩ (bw_subP (isC := []) hP rfl) (hD.sub [] (by decide) rfl) hS (Nat.le_of_ble_eq_true rfl) (Nat.le_of_ble_eq_true rfl) dX8_isCount_15
  · refine lv_iload_n hx hb dX8_isCount_4 rfl (lv_at hl 0 rfl) ?_
    refine lv_bipush (v := zI 99) hx hb dX8_isCount_5 (by decide) ?_
    refine rz_icmp_gt (tgt := 14) F (by omega) (by omega) dX8_isCount_7 (by decide) (fun h7_1 => ?_) (fun h7_1 => ?_)
    · refine lv_iconst (v := zI 0) hx hb dX8_isCount_14 rfl ?_
      exact ret (zI 0) (fun _ => 0, fun _ _ => 0) _ _ _ _ _ _ rfl ⟨0, rfl, by omega, fun _ => by omega, fun _ => by omega⟩ (bw_subP (isC := []) hP rfl) (hD.sub [] (by decide) rfl) hS (Nat.le_of_ble_eq_true rfl) (Nat.le_of_ble_eq_true rfl) dX8_isCount_15
    · refine lv_iconst (v := zI 1) hx hb dX8_isCount_10 rfl ?_
      refine lv_goto (tgt := 15) hx hb dX8_isCount_11 (by decide) ?_
      exact ret (zI 1) (fun _ => 0, fun _ _ => 0) _ _ _ _ _ _ rfl ⟨1, rfl, by omega, fun _ => by omega, fun _ => by omega⟩ (bw_subP (isC := []) hP rfl) (hD.sub [] (by decide) rfl) hS (Nat.le_of_ble_eq_true rfl) (Nat.le_of_ble_eq_true rfl) dX8_isCount_15
theorem dX8_isInput_0 : decode cX8_isInput 0 = .ok (.iload_n 0, 1) := bo_26 (by decide +kernel)
theorem dX8_isInput_1 : decode cX8_isInput 1 = .ok (.ifCond .lt 14, 3) := bo_155 0 14 (by decide +kernel)
theorem dX8_isInput_15 : decode cX8_isInput 15 = .ok (.iconst 0, 1) := bo_3 (by decide +kernel)
theorem dX8_isInput_16 : decode cX8_isInput 16 = .ok (.ireturn, 1) := bo_172 (by decide +kernel)
theorem dX8_isInput_4 : decode cX8_isInput 4 = .ok (.iload_n 0, 1) := bo_26 (by decide +kernel)
theorem dX8_isInput_5 : decode cX8_isInput 5 = .ok (.sipush 256, 3) := bo_17 1 0 (by decide +kernel)
theorem dX8_isInput_8 : decode cX8_isInput 8 = .ok (.if_icmp .ge 7, 3) := bo_162 0 7 (by decide +kernel)
theorem dX8_isInput_11 : decode cX8_isInput 11 = .ok (.iconst 1, 1) := bo_4 (by decide +kernel)
theorem dX8_isInput_12 : decode cX8_isInput 12 = .ok (.goto 4, 3) := bo_167 0 4 (by decide +kernel)
abbrev rm_X8_isInput : Room := { frames := 0, cells := 0, slots := 0, locals := 0 }
set_option maxRecDepth 100000 in
set_option maxHeartbeats 8000000 in
theorem c_X8_isInput {l : Launch} {E : (Nat → Prop) → State → Prop} (hO : bw_Ok E) {G : va_G} {cI cB cJ cN cW : ClassId} (x : Int) (hx9 : zR x) : bw_Ci (S := zU) l yX8_isInput (bw_ws (Cond.code yX8_isInput cX8_isInput 1 (some .boolean))) rm_X8_isInput E G (bw_kt cI cB cJ cN cW) [.int (zI x)] [] (fun r _ => ∃ z : Int, r = zI z ∧ (z = 0 ∨ z = 1) ∧ (z = 1 → 0 ≤ x ∧ x ≤ 255) ∧ (z = 0 → x < 0 ∨ 255 < x)) (fun _ => []) := by
  refine bw_Ci.of (cc := cX8_isInput) (maxL := 1) (ty := .boolean) (by decide) rfl (Nat.le_of_ble_eq_true rfl) ?_
  intro p e s m below meth c A Q hx hb hml hts hown hin hK hA hS hP hD hE ret ls hl
  have F : CallFix p m c cX8_isInput 1 s ([.int (zI x)] : List Value).toArray bw_T RX8 := ⟨hx, hb, hml, hown, fun w h => hts w (List.mem_cons_of_mem _ h)⟩
  replace hl : lv_has ls 1 [(0, .int (zI x))] := hl
  refine lv_iload_n hx hb dX8_isInput_0 rfl (lv_at hl 0 rfl) ?_
  refine rz_if_lt (tgt := 15) F (by omega) dX8_isInput_1 (by decide) (fun h1_0 => ?_) (fun h1_0 => ?_)
  · refine lv_iconst (v := zI 0) hx hb dX8_isInput_15 rfl ?_
    exact ret (zI 0) (fun _ => 0, fun _ _ => 0) _ _ _ _ _ _ rfl ⟨0, rfl, by omega, fun _ => by omega, fun _ => by omega⟩ (bw_subP (isC := []) hP rfl) (hD.sub [] (by decide) rfl) hS (Nat.le_of_ble_eq_true rfl) (Nat.le_of_ble_eq_true rfl) dX8_isInput_16
  · refine lv_iload_n hx hb dX8_isInput_4 rfl (lv_at hl 0 rfl) ?_
    refine lv_sipush (v := zI 256) hx hb dX8_isInput_5 (by decide) ?_
    refine rz_icmp_ge (tgt := 15) F (by omega) (by omega) dX8_isInput_8 (by decide) (fun h8_1 => ?_) (fun h8_1 => ?_)
    · refine lv_iconst (v := zI 0) hx hb dX8_isInput_15 rfl ?_
      exact ret (zI 0) (fun _ => 0, fun _ _ => 0) _ _ _ _ _ _ rfl ⟨0, rfl, by omega, fun _ => by omega, fun _ => by omega⟩ (bw_subP (isC := []) hP rfl) (hD.sub [] (by decide) rfl) hS (Nat.le_of_ble_eq_true rfl) (Nat.le_of_ble_eq_true rfl) dX8_isInput_16
    · refine lv_iconst (v := zI 1) hx hb dX8_isInput_11 rfl ?_
      refine lv_goto (tgt := 16) hx hb dX8_isInput_12 (by decide) ?_
      exact ret (zI 1) (fun _ => 0, fun _ _ => 0) _ _ _ _ _ _ rfl ⟨1, rfl, by omega, fun _ => by omega, fun _ => by omega⟩ (bw_subP (isC := []) hP rfl) (hD.sub [] (by decide) rfl) hS (Nat.le_of_ble_eq_true rfl) (Nat.le_of_ble_eq_true rfl) dX8_isInput_16
theorem dX8_isLaying_0 : decode cX8_isLaying 0 = .ok (.iload_n 0, 1) := bo_26 (by decide +kernel)
theorem dX8_isLaying_1 : decode cX8_isLaying 1 = .ok (.iconst 1, 1) := bo_4 (by decide +kernel)
theorem dX8_isLaying_2 : decode cX8_isLaying 2 = .ok (.if_icmp .lt 13, 3) := bo_161 0 13 (by decide +kernel)
theorem dX8_isLaying_15 : decode cX8_isLaying 15 = .ok (.iconst 0, 1) := bo_3 (by decide +kernel)
theorem dX8_isLaying_16 : decode cX8_isLaying 16 = .ok (.ireturn, 1) := bo_172 (by decide +kernel)
theorem dX8_isLaying_5 : decode cX8_isLaying 5 = .ok (.iload_n 0, 1) := bo_26 (by decide +kernel)
theorem dX8_isLaying_6 : decode cX8_isLaying 6 = .ok (.bipush 9, 2) := bo_16 9 (by decide +kernel)
theorem dX8_isLaying_8 : decode cX8_isLaying 8 = .ok (.if_icmp .gt 7, 3) := bo_163 0 7 (by decide +kernel)
theorem dX8_isLaying_11 : decode cX8_isLaying 11 = .ok (.iconst 1, 1) := bo_4 (by decide +kernel)
theorem dX8_isLaying_12 : decode cX8_isLaying 12 = .ok (.goto 4, 3) := bo_167 0 4 (by decide +kernel)
abbrev rm_X8_isLaying : Room := { frames := 0, cells := 0, slots := 0, locals := 0 }
set_option maxRecDepth 100000 in
set_option maxHeartbeats 8000000 in
theorem c_X8_isLaying {l : Launch} {E : (Nat → Prop) → State → Prop} (hO : bw_Ok E) {G : va_G} {cI cB cJ cN cW : ClassId} (x : Int) (hx9 : zR x) : bw_Ci (S := zU) l yX8_isLaying (bw_ws (Cond.code yX8_isLaying cX8_isLaying 1 (some .boolean))) rm_X8_isLaying E G (bw_kt cI cB cJ cN cW) [.int (zI x)] [] (fun r _ => ∃ z : Int, r = zI z ∧ (z = 0 ∨ z = 1) ∧ (z = 1 → 1 ≤ x ∧ x ≤ 9) ∧ (z = 0 → x < 1 ∨ 9 < x)) (fun _ => []) := by
  refine bw_Ci.of (cc := cX8_isLaying) (maxL := 1) (ty := .boolean) (by decide) rfl (Nat.le_of_ble_eq_true rfl) ?_
  intro p e s m below meth c A Q hx hb hml hts hown hin hK hA hS hP hD hE ret ls hl
  have F : CallFix p m c cX8_isLaying 1 s ([.int (zI x)] : List Value).toArray bw_T RX8 := ⟨hx, hb, hml, hown, fun w h => hts w (List.mem_cons_of_mem _ h)⟩
  replace hl : lv_has ls 1 [(0, .int (zI x))] := hl
  refine lv_iload_n hx hb dX8_isLaying_0 rfl (lv_at hl 0 rfl) ?_
  refine lv_iconst (v := zI 1) hx hb dX8_isLaying_1 rfl ?_
  refine rz_icmp_lt (tgt := 15) F (by omega) (by omega) dX8_isLaying_2 (by decide) (fun h2_0 => ?_) (fun h2_0 => ?_)
  · refine lv_iconst (v := zI 0) hx hb dX8_isLaying_15 rfl ?_
    exact ret (zI 0) (fun _ => 0, fun _ _ => 0) _ _ _ _ _ _ rfl ⟨0, rfl, by omega, fun _ => by omega, fun _ => by omega⟩ (bw_subP (isC := []) hP rfl) (hD.sub [] (by decide) rfl) hS (Nat.le_of_ble_eq_true rfl) (Nat.le_of_ble_eq_true rfl) dX8_isLaying_16
  · refine lv_iload_n hx hb dX8_isLaying_5 rfl (lv_at hl 0 rfl) ?_
    refine lv_bipush (v := zI 9) hx hb dX8_isLaying_6 (by decide) ?_
    refine rz_icmp_gt (tgt := 15) F (by omega) (by omega) dX8_isLaying_8 (by decide) (fun h8_1 => ?_) (fun h8_1 => ?_)
    · refine lv_iconst (v := zI 0) hx hb dX8_isLaying_15 rfl ?_
      exact ret (zI 0) (fun _ => 0, fun _ _ => 0) _ _ _ _ _ _ rfl ⟨0, rfl, by omega, fun _ => by omega, fun _ => by omega⟩ (bw_subP (isC := []) hP rfl) (hD.sub [] (by decide) rfl) hS (Nat.le_of_ble_eq_true rfl) (Nat.le_of_ble_eq_true rfl) dX8_isLaying_16
    · refine lv_iconst (v := zI 1) hx hb dX8_isLaying_11 rfl ?_
      refine lv_goto (tgt := 16) hx hb dX8_isLaying_12 (by decide) ?_
      exact ret (zI 1) (fun _ => 0, fun _ _ => 0) _ _ _ _ _ _ rfl ⟨1, rfl, by omega, fun _ => by omega, fun _ => by omega⟩ (bw_subP (isC := []) hP rfl) (hD.sub [] (by decide) rfl) hS (Nat.le_of_ble_eq_true rfl) (Nat.le_of_ble_eq_true rfl) dX8_isLaying_16
