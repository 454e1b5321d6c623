def NetOk (n : Int) (g : Nat → Nat → Int) : Prop := (0 ≤ n ∧ n ≤ 10) ∧ (∀ k, k < 10 → -1 ≤ g 0 k ∧ g 0 k ≤ 2) ∧ (∀ k, k < 10 → -2 ≤ g 1 k ∧ g 1 k ≤ 3 ∧ (g 0 k = 2 → 0 ≤ g 1 k)) ∧ (∀ k, k < 10 → 0 ≤ g 2 k ∧ g 2 k ≤ 4) ∧ (∀ k, k < 40 → 0 ≤ g 3 k ∧ g 3 k ≤ 3) ∧ (∀ k, k < 40 → 0 ≤ g 4 k ∧ g 4 k ≤ 9 ∧ (g 3 k ≠ 3 → g 4 k ≤ 3)) ∧ (∀ k, k < 40 → 0 ≤ g 5 k ∧ g 5 k ≤ 9) ∧ (∀ k, k < 20 → -2 ≤ g 6 k ∧ g 6 k ≤ 9 ∧ (0 < g 7 k → 0 ≤ g 6 k)) ∧ (∀ k, k < 20 → 0 ≤ g 7 k ∧ g 7 k ≤ 9)
theorem zI_any (z : Int) : ∃ y : Int, zI z = zI y ∧ zR y := by
  obtain ⟨y, h, e⟩ := zI_of (zI z)
  exact ⟨y, e, h⟩
theorem dX2_hasLine_0 : decode cX2_hasLine 0 = .ok (.iload_n 1, 1) := by decide +kernel
theorem dX2_hasLine_1 : decode cX2_hasLine 1 = .ok (.ifCond .lt 15, 3) := by decide +kernel
theorem dX2_hasLine_16 : decode cX2_hasLine 16 = .ok (.iconst 0, 1) := by decide +kernel
theorem dX2_hasLine_17 : decode cX2_hasLine 17 = .ok (.ireturn, 1) := by decide +kernel
theorem dX2_hasLine_4 : decode cX2_hasLine 4 = .ok (.iload_n 1, 1) := by decide +kernel
theorem dX2_hasLine_5 : decode cX2_hasLine 5 = .ok (.aload_n 0, 1) := by decide +kernel
theorem dX2_hasLine_6 : decode cX2_hasLine 6 = .ok (.getfield 9, 3) := by decide +kernel
theorem k_144 : Cond.fieldLink RX2 9 "BurntWays$Net" "lines" "I" ∈ bw_T := bw_m 144 (by decide +kernel) rfl
theorem in_X2 : ∀ w ∈ wsX20, w ∈ bw_T := bw_ms _ [174, 176, 178, 180, 182, 184, 186, 188, 190] (by decide +kernel) (by decide +kernel)
theorem dX2_hasLine_9 : decode cX2_hasLine 9 = .ok (.if_icmp .ge 7, 3) := by decide +kernel
theorem dX2_hasLine_12 : decode cX2_hasLine 12 = .ok (.iconst 1, 1) := by decide +kernel
theorem dX2_hasLine_13 : decode cX2_hasLine 13 = .ok (.goto 4, 3) := by decide +kernel
abbrev rm_X2_hasLine : Room := { frames := 0, cells := 0, slots := 0, locals := 0 }
set_option maxRecDepth 100000 in
set_option maxHeartbeats 8000000 in
theorem c_X2_hasLine {l : Launch} {E : (Nat → Prop) → State → Prop} (hO : bw_Ok E) {G : va_G} {cI cB cJ cN cW : ClassId} (b : Nat) (q : Nat → Nat) (n : Int) (g : Nat → Nat → Int) (hN : NetOk n g) (x : Int) (hx9 : zR x) : bw_Ci (S := zU) l yX2_hasLine (bw_ws (Cond.code yX2_hasLine cX2_hasLine 2 (some .boolean))) rm_X2_hasLine E G (bw_kt cI cB cJ cN cW) [.ref b, .int (zI x)] [(b, .inr (2, [.int (zI n), .ref (q 0), .ref (q 1), .ref (q 2), .ref (q 3), .ref (q 4), .ref (q 5), .ref (q 6), .ref (q 7)])), ((q 0), .inl (cI, 10, .inl (fun k => zI ((g 0) k)))), ((q 1), .inl (cI, 10, .inl (fun k => zI ((g 1) k)))), ((q 2), .inl (cI, 10, .inl (fun k => zI ((g 2) k)))), ((q 3), .inl (cI, 40, .inl (fun k => zI ((g 3) k)))), ((q 4), .inl (cI, 40, .inl (fun k => zI ((g 4) k)))), ((q 5), .inl (cI, 40, .inl (fun k => zI ((g 5) k)))), ((q 6), .inl (cI, 20, .inl (fun k => zI ((g 6) k)))), ((q 7), .inl (cI, 20, .inl (fun k => zI ((g 7) k))))] (fun r _ => ∃ z : Int, r = zI z ∧ (z = 0 ∨ z = 1) ∧ (z = 1 → 0 ≤ x ∧ x < n)) (fun _ => [(b, .inr (2, [.int (zI n), .ref (q 0), .ref (q 1), .ref (q 2), .ref (q 3), .ref (q 4), .ref (q 5), .ref (q 6), .ref (q 7)])), ((q 0), .inl (cI, 10, .inl (fun k => zI ((g 0) k)))), ((q 1), .inl (cI, 10, .inl (fun k => zI ((g 1) k)))), ((q 2), .inl (cI, 10, .inl (fun k => zI ((g 2) k)))), ((q 3), .inl (cI, 40, .inl (fun k => zI ((g 3) k)))), ((q 4), .inl (cI, 40, .inl (fun k => zI ((g 4) k)))), ((q 5), .inl (cI, 40, .inl (fun k => zI ((g 5) k)))), ((q 6), .inl (cI, 20, .inl (fun k => zI ((g 6) k)))), ((q 7), .inl (cI, 20, .inl (fun k => zI ((g 7) k))))]) := by
  refine bw_Ci.of (cc := cX2_hasLine) (maxL := 2) (ty := .boolean) (by decide) rfl (Nat.le_of_ble_eq_true rfl) ?_
  intro p e s m below meth c A Q hx hb hml hts hown hin hK hA hS hP hD hE ret ls hl
  have F : CallFix p m c cX2_hasLine 2 s ([.ref b, .int (zI x)] : List Value).toArray bw_T RX2 := ⟨hx, hb, hml, hown, fun w h => hts w (List.mem_cons_of_mem _ h)⟩
  have hl : lv_has ls 2 [(0, .ref b), (1, .int (zI x))] := hl
  have hN0 := hN.1
  refine lv_iload_n hx hb dX2_hasLine_0 rfl (lv_at hl 1 rfl) ?_
  refine rz_if_lt (tgt := 16) F (by omega) dX2_hasLine_1 (by decide) (fun h1_0 => ?_) (fun h1_0 => ?_)
  · refine lv_iconst (v := zI 0) hx hb dX2_hasLine_16 rfl ?_
    exact ret (zI 0) (fun _ => 0, fun _ _ => 0) _ _ _ _ _ _ rfl ⟨0, rfl, by omega, fun _ => by omega⟩ (bw_subP (isC := [0, 1, 2, 3, 4, 5, 6, 7, 8]) hP rfl) (hD.sub [0, 1, 2, 3, 4, 5, 6, 7, 8] (by decide) rfl) hS (Nat.le_of_ble_eq_true rfl) (Nat.le_of_ble_eq_true rfl) dX2_hasLine_17
  · refine lv_iload_n hx hb dX2_hasLine_4 rfl (lv_at hl 1 rfl) ?_
    refine lv_aload_n hx hb dX2_hasLine_5 rfl (lv_at hl 0 rfl) ?_
    refine r_get F hK hP 0 0 rfl rfl in_X2 (by decide) k_144 rfl dX2_hasLine_6 ?_
    refine rz_icmp_ge (tgt := 16) F (by omega) (by omega) dX2_hasLine_9 (by decide) (fun h9_1 => ?_) (fun h9_1 => ?_)
    · refine lv_iconst (v := zI 0) hx hb dX2_hasLine_16 rfl ?_
      exact ret (zI 0) (fun _ => 0, fun _ _ => 0) _ _ _ _ _ _ rfl ⟨0, rfl, by omega, fun _ => by omega⟩ (bw_subP (isC := [0, 1, 2, 3, 4, 5, 6, 7, 8]) hP rfl) (hD.sub [0, 1, 2, 3, 4, 5, 6, 7, 8] (by decide) rfl) hS (Nat.le_of_ble_eq_true rfl) (Nat.le_of_ble_eq_true rfl) dX2_hasLine_17
    · refine lv_iconst (v := zI 1) hx hb dX2_hasLine_12 rfl ?_
      refine lv_goto (tgt := 17) hx hb dX2_hasLine_13 (by decide) ?_
      exact ret (zI 1) (fun _ => 0, fun _ _ => 0) _ _ _ _ _ _ rfl ⟨1, rfl, by omega, fun _ => by omega⟩ (bw_subP (isC := [0, 1, 2, 3, 4, 5, 6, 7, 8]) hP rfl) (hD.sub [0, 1, 2, 3, 4, 5, 6, 7, 8] (by decide) rfl) hS (Nat.le_of_ble_eq_true rfl) (Nat.le_of_ble_eq_true rfl) dX2_hasLine_17
theorem dX2_tells_0 : decode cX2_tells 0 = .ok (.aload_n 0, 1) := by decide +kernel
theorem dX2_tells_1 : decode cX2_tells 1 = .ok (.getfield 15, 3) := by decide +kernel
theorem k_147 : Cond.fieldLink RX2 15 "BurntWays$Net" "goals" "[I" ∈ bw_T := bw_m 147 (by decide +kernel) rfl
theorem dX2_tells_4 : decode cX2_tells 4 = .ok (.iload_n 1, 1) := by decide +kernel
theorem dX2_tells_5 : decode cX2_tells 5 = .ok (.iaload, 1) := by decide +kernel
theorem dX2_tells_6 : decode cX2_tells 6 = .ok (.iconst (-1), 1) := by decide +kernel
theorem dX2_tells_7 : decode cX2_tells 7 = .ok (.if_icmp .eq 7, 3) := by decide +kernel
theorem dX2_tells_14 : decode cX2_tells 14 = .ok (.iconst 0, 1) := by decide +kernel
theorem dX2_tells_15 : decode cX2_tells 15 = .ok (.ireturn, 1) := by decide +kernel
theorem dX2_tells_10 : decode cX2_tells 10 = .ok (.iconst 1, 1) := by decide +kernel
theorem dX2_tells_11 : decode cX2_tells 11 = .ok (.goto 4, 3) := by decide +kernel
abbrev rm_X2_tells : Room := { frames := 0, cells := 0, slots := 0, locals := 0 }
set_option maxRecDepth 100000 in
set_option maxHeartbeats 8000000 in
theorem c_X2_tells {l : Launch} {E : (Nat → Prop) → State → Prop} (hO : bw_Ok E) {G : va_G} {cI cB cJ cN cW : ClassId} (b : Nat) (q : Nat → Nat) (n : Int) (g : Nat → Nat → Int) (hN : NetOk n g) (x : Int) (hx9 : 0 ≤ x ∧ x < 10) : bw_Ci (S := zU) l yX2_tells (bw_ws (Cond.code yX2_tells cX2_tells 2 (some .boolean))) rm_X2_tells E G (bw_kt cI cB cJ cN cW) [.ref b, .int (zI x)] [(b, .inr (2, [.int (zI n), .ref (q 0), .ref (q 1), .ref (q 2), .ref (q 3), .ref (q 4), .ref (q 5), .ref (q 6), .ref (q 7)])), ((q 0), .inl (cI, 10, .inl (fun k => zI ((g 0) k)))), ((q 1), .inl (cI, 10, .inl (fun k => zI ((g 1) k)))), ((q 2), .inl (cI, 10, .inl (fun k => zI ((g 2) k)))), ((q 3), .inl (cI, 40, .inl (fun k => zI ((g 3) k)))), ((q 4), .inl (cI, 40, .inl (fun k => zI ((g 4) k)))), ((q 5), .inl (cI, 40, .inl (fun k => zI ((g 5) k)))), ((q 6), .inl (cI, 20, .inl (fun k => zI ((g 6) k)))), ((q 7), .inl (cI, 20, .inl (fun k => zI ((g 7) k))))] (fun r _ => ∃ z : Int, r = zI z ∧ (z = 0 ∨ z = 1)) (fun _ => [(b, .inr (2, [.int (zI n), .ref (q 0), .ref (q 1), .ref (q 2), .ref (q 3), .ref (q 4), .ref (q 5), .ref (q 6), .ref (q 7)])), ((q 0), .inl (cI, 10, .inl (fun k => zI ((g 0) k)))), ((q 1), .inl (cI, 10, .inl (fun k => zI ((g 1) k)))), ((q 2), .inl (cI, 10, .inl (fun k => zI ((g 2) k)))), ((q 3), .inl (cI, 40, .inl (fun k => zI ((g 3) k)))), ((q 4), .inl (cI, 40, .inl (fun k => zI ((g 4) k)))), ((q 5), .inl (cI, 40, .inl (fun k => zI ((g 5) k)))), ((q 6), .inl (cI, 20, .inl (fun k => zI ((g 6) k)))), ((q 7), .inl (cI, 20, .inl (fun k => zI ((g 7) k))))]) := by
  refine bw_Ci.of (cc := cX2_tells) (maxL := 2) (ty := .boolean) (by decide) rfl (Nat.le_of_ble_eq_true rfl) ?_
  intro p e s m below meth c A Q hx hb hml hts hown hin hK hA hS hP hD hE ret ls hl
  have F : CallFix p m c cX2_tells 2 s ([.ref b, .int (zI x)] : List Value).toArray bw_T RX2 := ⟨hx, hb, hml, hown, fun w h => hts w (List.mem_cons_of_mem _ h)⟩
  have hl : lv_has ls 2 [(0, .ref b), (1, .int (zI x))] := hl
  have hN0 := hN.1
  refine lv_aload_n hx hb dX2_tells_0 rfl (lv_at hl 0 rfl) ?_
  refine r_get F hK hP 0 1 rfl rfl in_X2 (by decide) k_147 rfl dX2_tells_1 ?_
  refine lv_iload_n hx hb dX2_tells_4 rfl (lv_at hl 1 rfl) ?_
  refine rz_iald F hK hP 1 0 rfl rfl (by omega) (by omega) dX2_tells_5 ?_
  have h_l5_0 := hN.2.1 (x).toNat (by omega)
  refine lv_iconst (v := zI (-1)) hx hb dX2_tells_6 rfl ?_
  refine rz_icmp_eq (tgt := 14) F (by omega) (by omega) dX2_tells_7 (by decide) (fun h7_1 => ?_) (fun h7_1 => ?_)
  · refine lv_iconst (v := zI 0) hx hb dX2_tells_14 rfl ?_
    exact ret (zI 0) (fun _ => 0, fun _ _ => 0) _ _ _ _ _ _ rfl ⟨0, rfl, by omega⟩ (bw_subP (isC := [0, 1, 2, 3, 4, 5, 6, 7, 8]) hP rfl) (hD.sub [0, 1, 2, 3, 4, 5, 6, 7, 8] (by decide) rfl) hS (Nat.le_of_ble_eq_true rfl) (Nat.le_of_ble_eq_true rfl) dX2_tells_15
  · refine lv_iconst (v := zI 1) hx hb dX2_tells_10 rfl ?_
    refine lv_goto (tgt := 15) hx hb dX2_tells_11 (by decide) ?_
    exact ret (zI 1) (fun _ => 0, fun _ _ => 0) _ _ _ _ _ _ rfl ⟨1, rfl, by omega⟩ (bw_subP (isC := [0, 1, 2, 3, 4, 5, 6, 7, 8]) hP rfl) (hD.sub [0, 1, 2, 3, 4, 5, 6, 7, 8] (by decide) rfl) hS (Nat.le_of_ble_eq_true rfl) (Nat.le_of_ble_eq_true rfl) dX2_tells_15
theorem dX2_hasWay_0 : decode cX2_hasWay 0 = .ok (.iload_n 1, 1) := by decide +kernel
theorem dX2_hasWay_1 : decode cX2_hasWay 1 = .ok (.ifCond .lt 22, 3) := by decide +kernel
theorem dX2_hasWay_23 : decode cX2_hasWay 23 = .ok (.iconst 0, 1) := by decide +kernel
theorem dX2_hasWay_24 : decode cX2_hasWay 24 = .ok (.ireturn, 1) := by decide +kernel
theorem dX2_hasWay_4 : decode cX2_hasWay 4 = .ok (.iload_n 1, 1) := by decide +kernel
theorem dX2_hasWay_5 : decode cX2_hasWay 5 = .ok (.bipush 20, 2) := by decide +kernel
theorem dX2_hasWay_7 : decode cX2_hasWay 7 = .ok (.if_icmp .ge 16, 3) := by decide +kernel
theorem dX2_hasWay_10 : decode cX2_hasWay 10 = .ok (.aload_n 0, 1) := by decide +kernel
theorem dX2_hasWay_11 : decode cX2_hasWay 11 = .ok (.getfield 37, 3) := by decide +kernel
theorem k_169 : Cond.fieldLink RX2 37 "BurntWays$Net" "laid" "[I" ∈ bw_T := bw_m 169 (by decide +kernel) rfl
theorem dX2_hasWay_14 : decode cX2_hasWay 14 = .ok (.iload_n 1, 1) := by decide +kernel
theorem dX2_hasWay_15 : decode cX2_hasWay 15 = .ok (.iaload, 1) := by decide +kernel
theorem dX2_hasWay_16 : decode cX2_hasWay 16 = .ok (.ifCond .le 7, 3) := by decide +kernel
theorem dX2_hasWay_19 : decode cX2_hasWay 19 = .ok (.iconst 1, 1) := by decide +kernel
theorem dX2_hasWay_20 : decode cX2_hasWay 20 = .ok (.goto 4, 3) := by decide +kernel
abbrev rm_X2_hasWay : Room := { frames := 0, cells := 0, slots := 0, locals := 0 }
set_option maxRecDepth 100000 in
set_option maxHeartbeats 8000000 in
theorem c_X2_hasWay {l : Launch} {E : (Nat → Prop) → State → Prop} (hO : bw_Ok E) {G : va_G} {cI cB cJ cN cW : ClassId} (b : Nat) (q : Nat → Nat) (n : Int) (g : Nat → Nat → Int) (hN : NetOk n g) (x : Int) (hx9 : zR x) : bw_Ci (S := zU) l yX2_hasWay (bw_ws (Cond.code yX2_hasWay cX2_hasWay 2 (some .boolean))) rm_X2_hasWay E G (bw_kt cI cB cJ cN cW) [.ref b, .int (zI x)] [(b, .inr (2, [.int (zI n), .ref (q 0), .ref (q 1), .ref (q 2), .ref (q 3), .ref (q 4), .ref (q 5), .ref (q 6), .ref (q 7)])), ((q 0), .inl (cI, 10, .inl (fun k => zI ((g 0) k)))), ((q 1), .inl (cI, 10, .inl (fun k => zI ((g 1) k)))), ((q 2), .inl (cI, 10, .inl (fun k => zI ((g 2) k)))), ((q 3), .inl (cI, 40, .inl (fun k => zI ((g 3) k)))), ((q 4), .inl (cI, 40, .inl (fun k => zI ((g 4) k)))), ((q 5), .inl (cI, 40, .inl (fun k => zI ((g 5) k)))), ((q 6), .inl (cI, 20, .inl (fun k => zI ((g 6) k)))), ((q 7), .inl (cI, 20, .inl (fun k => zI ((g 7) k))))] (fun r _ => ∃ z : Int, r = zI z ∧ (z = 0 ∨ z = 1) ∧ (z = 1 → 0 ≤ x ∧ x < 20 ∧ 0 < g 7 x.toNat)) (fun _ => [(b, .inr (2, [.int (zI n), .ref (q 0), .ref (q 1), .ref (q 2), .ref (q 3), .ref (q 4), .ref (q 5), .ref (q 6), .ref (q 7)])), ((q 0), .inl (cI, 10, .inl (fun k => zI ((g 0) k)))), ((q 1), .inl (cI, 10, .inl (fun k => zI ((g 1) k)))), ((q 2), .inl (cI, 10, .inl (fun k => zI ((g 2) k)))), ((q 3), .inl (cI, 40, .inl (fun k => zI ((g 3) k)))), ((q 4), .inl (cI, 40, .inl (fun k => zI ((g 4) k)))), ((q 5), .inl (cI, 40, .inl (fun k => zI ((g 5) k)))), ((q 6), .inl (cI, 20, .inl (fun k => zI ((g 6) k)))), ((q 7), .inl (cI, 20, .inl (fun k => zI ((g 7) k))))]) := by
  refine bw_Ci.of (cc := cX2_hasWay) (maxL := 2) (ty := .boolean) (by decide) rfl (Nat.le_of_ble_eq_true rfl) ?_
  intro p e s m below meth c A Q hx hb hml hts hown hin hK hA hS hP hD hE ret ls hl
  have F : CallFix p m c cX2_hasWay 2 s ([.ref b, .int (zI x)] : List Value).toArray bw_T RX2 := ⟨hx, hb, hml, hown, fun w h => hts w (List.mem_cons_of_mem _ h)⟩
  have hl : lv_has ls 2 [(0, .ref b), (1, .int (zI x))] := hl
  have hN0 := hN.1
  refine lv_iload_n hx hb dX2_hasWay_0 rfl (lv_at hl 1 rfl) ?_
  refine rz_if_lt (tgt := 23) F (by omega) dX2_hasWay_1 (by decide) (fun h1_0 => ?_) (fun h1_0 => ?_)
  · refine lv_iconst (v := zI 0) hx hb dX2_hasWay_23 rfl ?_
    exact ret (zI 0) (fun _ => 0, fun _ _ => 0) _ _ _ _ _ _ rfl ⟨0, rfl, by omega, fun _ => by omega⟩ (bw_subP (isC := [0, 1, 2, 3, 4, 5, 6, 7, 8]) hP rfl) (hD.sub [0, 1, 2, 3, 4, 5, 6, 7, 8] (by decide) rfl) hS (Nat.le_of_ble_eq_true rfl) (Nat.le_of_ble_eq_true rfl) dX2_hasWay_24
  · refine lv_iload_n hx hb dX2_hasWay_4 rfl (lv_at hl 1 rfl) ?_
    refine lv_bipush (v := zI 20) hx hb dX2_hasWay_5 (by decide) ?_
    refine rz_icmp_ge (tgt := 23) F (by omega) (by omega) dX2_hasWay_7 (by decide) (fun h7_1 => ?_) (fun h7_1 => ?_)
    · refine lv_iconst (v := zI 0) hx hb dX2_hasWay_23 rfl ?_
      exact ret (zI 0) (fun _ => 0, fun _ _ => 0) _ _ _ _ _ _ rfl ⟨0, rfl, by omega, fun _ => by omega⟩ (bw_subP (isC := [0, 1, 2, 3, 4, 5, 6, 7, 8]) hP rfl) (hD.sub [0, 1, 2, 3, 4, 5, 6, 7, 8] (by decide) rfl) hS (Nat.le_of_ble_eq_true rfl) (Nat.le_of_ble_eq_true rfl) dX2_hasWay_24
    · refine lv_aload_n hx hb dX2_hasWay_10 rfl (lv_at hl 0 rfl) ?_
      refine r_get F hK hP 0 8 rfl rfl in_X2 (by decide) k_169 rfl dX2_hasWay_11 ?_
      refine lv_iload_n hx hb dX2_hasWay_14 rfl (lv_at hl 1 rfl) ?_
      refine rz_iald F hK hP 8 0 rfl rfl (by omega) (by omega) dX2_hasWay_15 ?_
      have h_l15_2 := hN.2.2.2.2.2.2.2.2 (x).toNat (by omega)
      refine rz_if_le (tgt := 23) F (by omega) dX2_hasWay_16 (by decide) (fun h16_3 => ?_) (fun h16_3 => ?_)
      · refine lv_iconst (v := zI 0) hx hb dX2_hasWay_23 rfl ?_
        exact ret (zI 0) (fun _ => 0, fun _ _ => 0) _ _ _ _ _ _ rfl ⟨0, rfl, by omega, fun _ => by omega⟩ (bw_subP (isC := [0, 1, 2, 3, 4, 5, 6, 7, 8]) hP rfl) (hD.sub [0, 1, 2, 3, 4, 5, 6, 7, 8] (by decide) rfl) hS (Nat.le_of_ble_eq_true rfl) (Nat.le_of_ble_eq_true rfl) dX2_hasWay_24
      · refine lv_iconst (v := zI 1) hx hb dX2_hasWay_19 rfl ?_
        refine lv_goto (tgt := 24) hx hb dX2_hasWay_20 (by decide) ?_
        exact ret (zI 1) (fun _ => 0, fun _ _ => 0) _ _ _ _ _ _ rfl ⟨1, rfl, by omega, fun _ => by omega⟩ (bw_subP (isC := [0, 1, 2, 3, 4, 5, 6, 7, 8]) hP rfl) (hD.sub [0, 1, 2, 3, 4, 5, 6, 7, 8] (by decide) rfl) hS (Nat.le_of_ble_eq_true rfl) (Nat.le_of_ble_eq_true rfl) dX2_hasWay_24
