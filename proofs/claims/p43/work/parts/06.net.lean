def NetOk (n : Int) (g : Nat → Nat → Int) : Prop := (0 ≤ n ∧ n ≤ 10) ∧ (∀ k, k < 10 → -1 ≤ g 0 k ∧ g 0 k ≤ 2) ∧ (∀ k, k < 10 → -2 ≤ g 1 k ∧ g 1 k ≤ 3 ∧ (g 0 k = 2 → 0 ≤ g 1 k)) ∧ (∀ k, k < 10 → 0 ≤ g 2 k ∧ g 2 k ≤ 4) ∧ (∀ k, k < 40 → 0 ≤ g 3 k ∧ g 3 k ≤ 3) ∧ (∀ k, k < 40 → 0 ≤ g 4 k ∧ g 4 k ≤ 9 ∧ (g 3 k ≠ 3 → g 4 k ≤ 3)) ∧ (∀ k, k < 40 → 0 ≤ g 5 k ∧ g 5 k ≤ 9) ∧ (∀ k, k < 20 → -2 ≤ g 6 k ∧ g 6 k ≤ 9 ∧ (0 < g 7 k → 0 ≤ g 6 k)) ∧ (∀ k, k < 20 → 0 ≤ g 7 k ∧ g 7 k ≤ 9)
theorem zI_any (z : Int) : ∃ y : Int, zI z = zI y ∧ zR y := by
  obtain ⟨y, h, e⟩ := zI_of (zI z)
  exact ⟨y, e, h⟩
theorem dX2_hasLine_0 : decode cX2_hasLine 0 = .ok (.iload_n 1, 1) := bo_27 (by decide +kernel)
theorem dX2_hasLine_1 : decode cX2_hasLine 1 = .ok (.ifCond .lt 15, 3) := bo_155 0 15 (by decide +kernel)
theorem dX2_hasLine_16 : decode cX2_hasLine 16 = .ok (.iconst 0, 1) := bo_3 (by decide +kernel)
theorem dX2_hasLine_17 : decode cX2_hasLine 17 = .ok (.ireturn, 1) := bo_172 (by decide +kernel)
theorem dX2_hasLine_4 : decode cX2_hasLine 4 = .ok (.iload_n 1, 1) := bo_27 (by decide +kernel)
theorem dX2_hasLine_5 : decode cX2_hasLine 5 = .ok (.aload_n 0, 1) := bo_42 (by decide +kernel)
theorem dX2_hasLine_6 : decode cX2_hasLine 6 = .ok (.getfield 9, 3) := bo_180 0 9 (by decide +kernel)
theorem k_144 : Cond.fieldLink RX2 9 "BurntWays$Net" "lines" "I" ∈ bw_T := bw_m 144 (by decide +kernel) rfl
theorem in_X2 : ∀ w ∈ wsX20, w ∈ bw_T := bw_ms _ [174, 176, 178, 180, 182, 184, 186, 188, 190] (by decide +kernel) (by decide +kernel)
theorem dX2_hasLine_9 : decode cX2_hasLine 9 = .ok (.if_icmp .ge 7, 3) := bo_162 0 7 (by decide +kernel)
theorem dX2_hasLine_12 : decode cX2_hasLine 12 = .ok (.iconst 1, 1) := bo_4 (by decide +kernel)
theorem dX2_hasLine_13 : decode cX2_hasLine 13 = .ok (.goto 4, 3) := bo_167 0 4 (by decide +kernel)
abbrev rm_X2_hasLine : Room := { frames := 0, cells := 0, slots := 0, locals := 0 }
set_option maxRecDepth 100000 in
set_option maxHeartbeats 8000000 in
theorem c_X2_hasLine {l : Launch} {E : (Nat → Prop) → State → Prop} (hO : bw_Ok E) {G : va_G} {cI cB cJ cN cW : ClassId} (b : Nat) (q : Nat → Nat) (n : Int) (g : Nat → Nat → Int) (hN : NetOk n g) (x : Int) (hx9 : zR x) : bw_Ci (S := zU) l yX2_hasLine (bw_ws (Cond.code yX2_hasLine cX2_hasLine 2 (some .boolean))) rm_X2_hasLine E G (bw_kt cI cB cJ cN cW) [.ref b, .int (zI x)] [(b, .inr (2, [.int (zI n), .ref (q 0), .ref (q 1), .ref (q 2), .ref (q 3), .ref (q 4), .ref (q 5), .ref (q 6), .ref (q 7)])), ((q 0), .inl (cI, 10, .inl (fun k => zI ((g 0) k)))), ((q 1), .inl (cI, 10, .inl (fun k => zI ((g 1) k)))), ((q 2), .inl (cI, 10, .inl (fun k => zI ((g 2) k)))), ((q 3), .inl (cI, 40, .inl (fun k => zI ((g 3) k)))), ((q 4), .inl (cI, 40, .inl (fun k => zI ((g 4) k)))), ((q 5), .inl (cI, 40, .inl (fun k => zI ((g 5) k)))), ((q 6), .inl (cI, 20, .inl (fun k => zI ((g 6) k)))), ((q 7), .inl (cI, 20, .inl (fun k => zI ((g 7) k))))] (fun r _ => ∃ z : Int, r = zI z ∧ (z = 0 ∨ z = 1) ∧ (z = 1 → 0 ≤ x ∧ x < n)) (fun _ => [(b, .inr (2, [.int (zI n), .ref (q 0), .ref (q 1), .ref (q 2), .ref (q 3), .ref (q 4), .ref (q 5), .ref (q 6), .ref (q 7)])), ((q 0), .inl (cI, 10, .inl (fun k => zI ((g 0) k)))), ((q 1), .inl (cI, 10, .inl (fun k => zI ((g 1) k)))), ((q 2), .inl (cI, 10, .inl (fun k => zI ((g 2) k)))), ((q 3), .inl (cI, 40, .inl (fun k => zI ((g 3) k)))), ((q 4), .inl (cI, 40, .inl (fun k => zI ((g 4) k)))), ((q 5), .inl (cI, 40, .inl (fun k => zI ((g 5) k)))), ((q 6), .inl (cI, 20, .inl (fun k => zI ((g 6) k)))), ((q 7), .inl (cI, 20, .inl (fun k => zI ((g 7) k))))]) := by
  refine bw_Ci.of (cc := cX2_hasLine) (maxL := 2) (ty := .boolean) (by decide) rfl (Nat.le_of_ble_eq_true rfl) ?_
  intro p e s m below meth c A Q hx hb hml hts hown hin hK hA hS hP hD hE ret ls hl
  have F : CallFix p m c cX2_hasLine 2 s ([.ref b, .int (zI x)] : List Value).toArray bw_T RX2 := ⟨hx, hb, hml, hown, fun w h => hts w (List.mem_cons_of_mem _ h)⟩
  replace hl : lv_has ls 2 [(0, .ref b), (1, .int (zI x))] := hl
  have hN0 := hN.1
  refine lv_iload_n hx hb dX2_hasLine_0 rfl (lv_at hl 1 rfl) ?_
  refine rz_if_lt (tgt := 16) F (by omega) dX2_hasLine_1 (by decide) (fun h1_0 => ?_) (fun h1_0 => ?_)
  · refine lv_iconst (v := zI 0) hx hb dX2_hasLine_16 rfl ?_
    exact ret (zI 0) (fun _ => 0, fun _ _ => 0) _ _ _ _ _ _ rfl ⟨0, rfl, by omega, fun _ => by omega⟩ (bw_subP (isC := [0, 1, 2, 3, 4, 5, 6, 7, 8]) hP rfl) (hD.sub [0, 1, 2, 3, 4, 5, 6, 7, 8] (by decide) rfl) hS (Nat.le_of_ble_eq_true rfl) (Nat.le_of_ble_eq_true rfl) dX2_hasLine_17
  · refine lv_iload_n hx hb dX2_hasLine_4 rfl (lv_at hl 1 rfl) ?_
    refine lv_aload_n hx hb dX2_hasLine_5 rfl (lv_at hl 0 rfl) ?_
    refine r_get F hK hP 0 0 rfl rfl in_X2 (by decide) k_144 rfl dX2_hasLine_6 ?_
    refine rz_icmp_ge (tgt := 16) F (by omega) (by omega) dX2_hasLine_9 (by decide) (fun h9_1 => ?_) (fun h9_1 => ?_)
    · refine lv_iconst (v := zI 0) hx hb dX2_hasLine_16 rfl ?_
      exact ret (zI 0) (fun _ => 0, fun _ _ => 0) _ _ _ _ _ _ rfl ⟨0, rfl, by omega, fun _ => by omega⟩ (bw_subP (isC := [0, 1, 2, 3, 4, 5, 6, 7, 8]) hP rfl) (hD.sub [0, 1, 2, 3, 4, 5, 6, 7, 8] (by decide) rfl) hS (Nat.le_of_ble_eq_true rfl) (Nat.le_of_ble_eq_true rfl) dX2_hasLine_17
    · refine lv_iconst (v := zI 1) hx hb dX2_hasLine_12 rfl ?_
      refine lv_goto (tgt := 17) hx hb dX2_hasLine_13 (by decide) ?_
      exact ret (zI 1) (fun _ => 0, fun _ _ => 0) _ _ _ _ _ _ rfl ⟨1, rfl, by omega, fun _ => by omega⟩ (bw_subP (isC := [0, 1, 2, 3, 4, 5, 6, 7, 8]) hP rfl) (hD.sub [0, 1, 2, 3, 4, 5, 6, 7, 8] (by decide) rfl) hS (Nat.le_of_ble_eq_true rfl) (Nat.le_of_ble_eq_true rfl) dX2_hasLine_17
theorem dX2_tells_0 : decode cX2_tells 0 = .ok (.aload_n 0, 1) := bo_42 (by decide +kernel)
theorem dX2_tells_1 : decode cX2_tells 1 = .ok (.getfield 15, 3) := bo_180 0 15 (by decide +kernel)
theorem k_147 : Cond.fieldLink RX2 15 "BurntWays$Net" "goals" "[I" ∈ bw_T := bw_m 147 (by decide +kernel) rfl
theorem dX2_tells_4 : decode cX2_tells 4 = .ok (.iload_n 1, 1) := bo_27 (by decide +kernel)
theorem dX2_tells_5 : decode cX2_tells 5 = .ok (.iaload, 1) := bo_46 (by decide +kernel)
theorem dX2_tells_6 : decode cX2_tells 6 = .ok (.iconst (-1), 1) := bo_2 (by decide +kernel)
theorem dX2_tells_7 : decode cX2_tells 7 = .ok (.if_icmp .eq 7, 3) := bo_159 0 7 (by decide +kernel)
theorem dX2_tells_14 : decode cX2_tells 14 = .ok (.iconst 0, 1) := bo_3 (by decide +kernel)
theorem dX2_tells_15 : decode cX2_tells 15 = .ok (.ireturn, 1) := bo_172 (by decide +kernel)
theorem dX2_tells_10 : decode cX2_tells 10 = .ok (.iconst 1, 1) := bo_4 (by decide +kernel)
theorem dX2_tells_11 : decode cX2_tells 11 = .ok (.goto 4, 3) := bo_167 0 4 (by decide +kernel)
abbrev rm_X2_tells : Room := { frames := 0, cells := 0, slots := 0, locals := 0 }
set_option maxRecDepth 100000 in
set_option maxHeartbeats 8000000 in
theorem c_X2_tells {l : Launch} {E : (Nat → Prop) → State → Prop} (hO : bw_Ok E) {G : va_G} {cI cB cJ cN cW : ClassId} (b : Nat) (q : Nat → Nat) (n : Int) (g : Nat → Nat → Int) (hN : NetOk n g) (x : Int) (hx9 : 0 ≤ x ∧ x < 10) : bw_Ci (S := zU) l yX2_tells (bw_ws (Cond.code yX2_tells cX2_tells 2 (some .boolean))) rm_X2_tells E G (bw_kt cI cB cJ cN cW) [.ref b, .int (zI x)] [(b, .inr (2, [.int (zI n), .ref (q 0), .ref (q 1), .ref (q 2), .ref (q 3), .ref (q 4), .ref (q 5), .ref (q 6), .ref (q 7)])), ((q 0), .inl (cI, 10, .inl (fun k => zI ((g 0) k)))), ((q 1), .inl (cI, 10, .inl (fun k => zI ((g 1) k)))), ((q 2), .inl (cI, 10, .inl (fun k => zI ((g 2) k)))), ((q 3), .inl (cI, 40, .inl (fun k => zI ((g 3) k)))), ((q 4), .inl (cI, 40, .inl (fun k => zI ((g 4) k)))), ((q 5), .inl (cI, 40, .inl (fun k => zI ((g 5) k)))), ((q 6), .inl (cI, 20, .inl (fun k => zI ((g 6) k)))), ((q 7), .inl (cI, 20, .inl (fun k => zI ((g 7) k))))] (fun r _ => ∃ z : Int, r = zI z ∧ (z = 0 ∨ z = 1)) (fun _ => [(b, .inr (2, [.int (zI n), .ref (q 0), .ref (q 1), .ref (q 2), .ref (q 3), .ref (q 4), .ref (q 5), .ref (q 6), .ref (q 7)])), ((q 0), .inl (cI, 10, .inl (fun k => zI ((g 0) k)))), ((q 1), .inl (cI, 10, .inl (fun k => zI ((g 1) k)))), ((q 2), .inl (cI, 10, .inl (fun k => zI ((g 2) k)))), ((q 3), .inl (cI, 40, .inl (fun k => zI ((g 3) k)))), ((q 4), .inl (cI, 40, .inl (fun k => zI ((g 4) k)))), ((q 5), .inl (cI, 40, .inl (fun k => zI ((g 5) k)))), ((q 6), .inl (cI, 20, .inl (fun k => zI ((g 6) k)))), ((q 7), .inl (cI, 20, .inl (fun k => zI ((g 7) k))))]) := by
  refine bw_Ci.of (cc := cX2_tells) (maxL := 2) (ty := .boolean) (by decide) rfl (Nat.le_of_ble_eq_true rfl) ?_
  intro p e s m below meth c A Q hx hb hml hts hown hin hK hA hS hP hD hE ret ls hl
  have F : CallFix p m c cX2_tells 2 s ([.ref b, .int (zI x)] : List Value).toArray bw_T RX2 := ⟨hx, hb, hml, hown, fun w h => hts w (List.mem_cons_of_mem _ h)⟩
  replace hl : lv_has ls 2 [(0, .ref b), (1, .int (zI x))] := hl
  have hN0 := hN.1
  refine lv_aload_n hx hb dX2_tells_0 rfl (lv_at hl 0 rfl) ?_
  refine r_get F hK hP 0 1 rfl rfl in_X2 (by decide) k_147 rfl dX2_tells_1 ?_
  refine lv_iload_n hx hb dX2_tells_4 rfl (lv_at hl 1 rfl) ?_
  refine rz_iald F hK hP 1 0 rfl rfl (by omega) (by omega) dX2_tells_5 ?_
  have h_l5_0 := hN.2.1 (x).toNat (by omega)
  refine lv_iconst (v := zI (-1)) hx hb dX2_tells_6 rfl ?_
  refine rz_icmp_eq (tgt := 14) F (by omega) (by omega) dX2_tells_7 (by decide) (fun h7_1 => ?_) (fun h7_1 => ?_)
  · refine lv_iconst (v := zI 0) hx hb dX2_tells_14 rfl ?_
    exact ret (zI 0) (fun _ => 0, fun _ _ => 0) _ _ _ _ _ _ rfl ⟨0, rfl, by omega⟩ (bw_subP (isC := [0, 1, 2, 3, 4, 5, 6, 7, 8]) hP rfl) (hD.sub [0, 1, 2, 3, 4, 5, 6, 7, 8] (by decide) rfl) hS (Nat.le_of_ble_eq_true rfl) (Nat.le_of_ble_eq_true rfl) dX2_tells_15
  · refine lv_iconst (v := zI 1) hx hb dX2_tells_10 rfl ?_
    refine lv_goto (tgt := 15) hx hb dX2_tells_11 (by decide) ?_
    exact ret (zI 1) (fun _ => 0, fun _ _ => 0) _ _ _ _ _ _ rfl ⟨1, rfl, by omega⟩ (bw_subP (isC := [0, 1, 2, 3, 4, 5, 6, 7, 8]) hP rfl) (hD.sub [0, 1, 2, 3, 4, 5, 6, 7, 8] (by decide) rfl) hS (Nat.le_of_ble_eq_true rfl) (Nat.le_of_ble_eq_true rfl) dX2_tells_15
theorem dX2_hasWay_0 : decode cX2_hasWay 0 = .ok (.iload_n 1, 1) := bo_27 (by decide +kernel)
theorem dX2_hasWay_1 : decode cX2_hasWay 1 = .ok (.ifCond .lt 22, 3) := bo_155 0 22 (by decide +kernel)
theorem dX2_hasWay_23 : decode cX2_hasWay 23 = .ok (.iconst 0, 1) := bo_3 (by decide +kernel)
theorem dX2_hasWay_24 : decode cX2_hasWay 24 = .ok (.ireturn, 1) := bo_172 (by decide +kernel)
theorem dX2_hasWay_4 : decode cX2_hasWay 4 = .ok (.iload_n 1, 1) := bo_27 (by decide +kernel)
theorem dX2_hasWay_5 : decode cX2_hasWay 5 = .ok (.bipush 20, 2) := bo_16 20 (by decide +kernel)
theorem dX2_hasWay_7 : decode cX2_hasWay 7 = .ok (.if_icmp .ge 16, 3) := bo_162 0 16 (by decide +kernel)
theorem dX2_hasWay_10 : decode cX2_hasWay 10 = .ok (.aload_n 0, 1) := bo_42 (by decide +kernel)
theorem dX2_hasWay_11 : decode cX2_hasWay 11 = .ok (.getfield 37, 3) := bo_180 0 37 (by decide +kernel)
theorem k_169 : Cond.fieldLink RX2 37 "BurntWays$Net" "laid" "[I" ∈ bw_T := bw_m 169 (by decide +kernel) rfl
theorem dX2_hasWay_14 : decode cX2_hasWay 14 = .ok (.iload_n 1, 1) := bo_27 (by decide +kernel)
theorem dX2_hasWay_15 : decode cX2_hasWay 15 = .ok (.iaload, 1) := bo_46 (by decide +kernel)
theorem dX2_hasWay_16 : decode cX2_hasWay 16 = .ok (.ifCond .le 7, 3) := bo_158 0 7 (by decide +kernel)
theorem dX2_hasWay_19 : decode cX2_hasWay 19 = .ok (.iconst 1, 1) := bo_4 (by decide +kernel)
theorem dX2_hasWay_20 : decode cX2_hasWay 20 = .ok (.goto 4, 3) := bo_167 0 4 (by decide +kernel)
abbrev rm_X2_hasWay : Room := { frames := 0, cells := 0, slots := 0, locals := 0 }
set_option maxRecDepth 100000 in
set_option maxHeartbeats 8000000 in
theorem c_X2_hasWay {l : Launch} {E : (Nat → Prop) → State → Prop} (hO : bw_Ok E) {G : va_G} {cI cB cJ cN cW : ClassId} (b : Nat) (q : Nat → Nat) (n : Int) (g : Nat → Nat → Int) (hN : NetOk n g) (x : Int) (hx9 : zR x) : bw_Ci (S := zU) l yX2_hasWay (bw_ws (Cond.code yX2_hasWay cX2_hasWay 2 (some .boolean))) rm_X2_hasWay E G (bw_kt cI cB cJ cN cW) [.ref b, .int (zI x)] [(b, .inr (2, [.int (zI n), .ref (q 0), .ref (q 1), .ref (q 2), .ref (q 3), .ref (q 4), .ref (q 5), .ref (q 6), .ref (q 7)])), ((q 0), .inl (cI, 10, .inl (fun k => zI ((g 0) k)))), ((q 1), .inl (cI, 10, .inl (fun k => zI ((g 1) k)))), ((q 2), .inl (cI, 10, .inl (fun k => zI ((g 2) k)))), ((q 3), .inl (cI, 40, .inl (fun k => zI ((g 3) k)))), ((q 4), .inl (cI, 40, .inl (fun k => zI ((g 4) k)))), ((q 5), .inl (cI, 40, .inl (fun k => zI ((g 5) k)))), ((q 6), .inl (cI, 20, .inl (fun k => zI ((g 6) k)))), ((q 7), .inl (cI, 20, .inl (fun k => zI ((g 7) k))))] (fun r _ => ∃ z : Int, r = zI z ∧ (z = 0 ∨ z = 1) ∧ (z = 1 → 0 ≤ x ∧ x < 20 ∧ 0 < g 7 x.toNat)) (fun _ => [(b, .inr (2, [.int (zI n), .ref (q 0), .ref (q 1), .ref (q 2), .ref (q 3), .ref (q 4), .ref (q 5), .ref (q 6), .ref (q 7)])), ((q 0), .inl (cI, 10, .inl (fun k => zI ((g 0) k)))), ((q 1), .inl (cI, 10, .inl (fun k => zI ((g 1) k)))), ((q 2), .inl (cI, 10, .inl (fun k => zI ((g 2) k)))), ((q 3), .inl (cI, 40, .inl (fun k => zI ((g 3) k)))), ((q 4), .inl (cI, 40, .inl (fun k => zI ((g 4) k)))), ((q 5), .inl (cI, 40, .inl (fun k => zI ((g 5) k)))), ((q 6), .inl (cI, 20, .inl (fun k => zI ((g 6) k)))), ((q 7), .inl (cI, 20, .inl (fun k => zI ((g 7) k))))]) := by
  refine bw_Ci.of (cc := cX2_hasWay) (maxL := 2) (ty := .boolean) (by decide) rfl (Nat.le_of_ble_eq_true rfl) ?_
  intro p e s m below meth c A Q hx hb hml hts hown hin hK hA hS hP hD hE ret ls hl
  have F : CallFix p m c cX2_hasWay 2 s ([.ref b, .int (zI x)] : List Value).toArray bw_T RX2 := ⟨hx, hb, hml, hown, fun w h => hts w (List.mem_cons_of_mem _ h)⟩
  replace hl : lv_has ls 2 [(0, .ref b), (1, .int (zI x))] := hl
  have hN0 := hN.1
  refine lv_iload_n hx hb dX2_hasWay_0 rfl (lv_at hl 1 rfl) ?_
  refine rz_if_lt (tgt := 23) F (by omega) dX2_hasWay_1 (by decide) (fun h1_0 => ?_) (fun h1_0 => ?_)
  · refine lv_iconst (v := zI 0) hx hb dX2_hasWay_23 rfl ?_
    exact ret (zI 0) (fun _ => 0, fun _ _ => 0) _ _ _ _ _ _ rfl ⟨0, rfl, by omega, fun _ => by omega⟩ (bw_subP (isC := [0, 1, 2, 3, 4, 5, 6, 7, 8]) hP rfl) (hD.sub [0, 1, 2, 3, 4, 5, 6, 7, 8] (by decide) rfl) hS (Nat.le_of_ble_eq_true rfl) (Nat.le_of_ble_eq_true rfl) dX2_hasWay_24
  · refine lv_iload_n hx hb dX2_hasWay_4 rfl (lv_at hl 1 rfl) ?_
    refine lv_bipush (v := zI 20) hx hb dX2_hasWay_5 (by decide) ?_
    refine rz_icmp_ge (tgt := 23) F (by omega) (by omega) dX2_hasWay_7 (by decide) (fun h7_1 => ?_) (fun h7_1 => ?_)
    · refine lv_iconst (v := zI 0) hx hb dX2_hasWay_23 rfl ?_
      exact ret (zI 0) (fun _ => 0, fun _ _ => 0) _ _ _ _ _ _ rfl ⟨0, rfl, by omega, fun _ => by omega⟩ (bw_subP (isC := [0, 1, 2, 3, 4, 5, 6, 7, 8]) hP rfl) (hD.sub [0, 1, 2, 3, 4, 5, 6, 7, 8] (by decide) rfl) hS (Nat.le_of_ble_eq_true rfl) (Nat.le_of_ble_eq_true rfl) dX2_hasWay_24
    · refine lv_aload_n hx hb dX2_hasWay_10 rfl (lv_at hl 0 rfl) ?_
      refine r_get F hK hP 0 8 rfl rfl in_X2 (by decide) k_169 rfl dX2_hasWay_11 ?_
      refine lv_iload_n hx hb dX2_hasWay_14 rfl (lv_at hl 1 rfl) ?_
      refine rz_iald F hK hP 8 0 rfl rfl (by omega) (by omega) dX2_hasWay_15 ?_
      have h_l15_2 := hN.2.2.2.2.2.2.2.2 (x).toNat (by omega)
      refine rz_if_le (tgt := 23) F (by omega) dX2_hasWay_16 (by decide) (fun h16_3 => ?_) (fun h16_3 => ?_)
      · refine lv_iconst (v := zI 0) hx hb dX2_hasWay_23 rfl ?_
        exact ret (zI 0) (fun _ => 0, fun _ _ => 0) _ _ _ _ _ _ rfl ⟨0, rfl, by omega, fun _ => by omega⟩ (bw_subP (isC := [0, 1, 2, 3, 4, 5, 6, 7, 8]) hP rfl) (hD.sub [0, 1, 2, 3, 4, 5, 6, 7, 8] (by decide) rfl) hS (Nat.le_of_ble_eq_true rfl) (Nat.le_of_ble_eq_true rfl) dX2_hasWay_24
      · refine lv_iconst (v := zI 1) hx hb dX2_hasWay_19 rfl ?_
        refine lv_goto (tgt := 24) hx hb dX2_hasWay_20 (by decide) ?_
        exact ret (zI 1) (fun _ => 0, fun _ _ => 0) _ _ _ _ _ _ rfl ⟨1, rfl, by omega, fun _ => by omega⟩ (bw_subP (isC := [0, 1, 2, 3, 4, 5, 6, 7, 8]) hP rfl) (hD.sub [0, 1, 2, 3, 4, 5, 6, 7, 8] (by decide) rfl) hS (Nat.le_of_ble_eq_true rfl) (Nat.le_of_ble_eq_true rfl) dX2_hasWay_24
theorem dJ6_bitCount_0f7a4_0 : decode cJ6_bitCount_0f7a4 0 = .ok (.iload_n 0, 1) := bo_26 (by decide +kernel)
theorem dJ6_bitCount_0f7a4_1 : decode cJ6_bitCount_0f7a4 1 = .ok (.iload_n 0, 1) := bo_26 (by decide +kernel)
theorem dJ6_bitCount_0f7a4_2 : decode cJ6_bitCount_0f7a4 2 = .ok (.iconst 1, 1) := bo_4 (by decide +kernel)
theorem dJ6_bitCount_0f7a4_3 : decode cJ6_bitCount_0f7a4 3 = .ok (.iushr, 1) := bo_124 (by decide +kernel)
theorem dJ6_bitCount_0f7a4_4 : decode cJ6_bitCount_0f7a4 4 = .ok (.ldc_w 265, 3) := bo_19 1 9 (by decide +kernel)
theorem k_1072 : Cond.constant RJ6 265 (1431655765) ∈ bw_T := bw_m 1072 (by decide +kernel) rfl
theorem dJ6_bitCount_0f7a4_7 : decode cJ6_bitCount_0f7a4 7 = .ok (.iand, 1) := bo_126 (by decide +kernel)
theorem dJ6_bitCount_0f7a4_8 : decode cJ6_bitCount_0f7a4 8 = .ok (.isub, 1) := bo_100 (by decide +kernel)
theorem dJ6_bitCount_0f7a4_9 : decode cJ6_bitCount_0f7a4 9 = .ok (.istore_n 0, 1) := bo_59 (by decide +kernel)
theorem dJ6_bitCount_0f7a4_10 : decode cJ6_bitCount_0f7a4 10 = .ok (.iload_n 0, 1) := bo_26 (by decide +kernel)
theorem dJ6_bitCount_0f7a4_11 : decode cJ6_bitCount_0f7a4 11 = .ok (.ldc_w 266, 3) := bo_19 1 10 (by decide +kernel)
theorem k_1073 : Cond.constant RJ6 266 (858993459) ∈ bw_T := bw_m 1073 (by decide +kernel) rfl
theorem dJ6_bitCount_0f7a4_14 : decode cJ6_bitCount_0f7a4 14 = .ok (.iand, 1) := bo_126 (by decide +kernel)
theorem dJ6_bitCount_0f7a4_15 : decode cJ6_bitCount_0f7a4 15 = .ok (.iload_n 0, 1) := bo_26 (by decide +kernel)
theorem dJ6_bitCount_0f7a4_16 : decode cJ6_bitCount_0f7a4 16 = .ok (.iconst 2, 1) := bo_5 (by decide +kernel)
theorem dJ6_bitCount_0f7a4_17 : decode cJ6_bitCount_0f7a4 17 = .ok (.iushr, 1) := bo_124 (by decide +kernel)
theorem dJ6_bitCount_0f7a4_18 : decode cJ6_bitCount_0f7a4 18 = .ok (.ldc_w 266, 3) := bo_19 1 10 (by decide +kernel)
theorem dJ6_bitCount_0f7a4_21 : decode cJ6_bitCount_0f7a4 21 = .ok (.iand, 1) := bo_126 (by decide +kernel)
theorem dJ6_bitCount_0f7a4_22 : decode cJ6_bitCount_0f7a4 22 = .ok (.iadd, 1) := bo_96 (by decide +kernel)
theorem dJ6_bitCount_0f7a4_23 : decode cJ6_bitCount_0f7a4 23 = .ok (.istore_n 0, 1) := bo_59 (by decide +kernel)
theorem dJ6_bitCount_0f7a4_24 : decode cJ6_bitCount_0f7a4 24 = .ok (.iload_n 0, 1) := bo_26 (by decide +kernel)
theorem dJ6_bitCount_0f7a4_25 : decode cJ6_bitCount_0f7a4 25 = .ok (.iload_n 0, 1) := bo_26 (by decide +kernel)
theorem dJ6_bitCount_0f7a4_26 : decode cJ6_bitCount_0f7a4 26 = .ok (.iconst 4, 1) := bo_7 (by decide +kernel)
theorem dJ6_bitCount_0f7a4_27 : decode cJ6_bitCount_0f7a4 27 = .ok (.iushr, 1) := bo_124 (by decide +kernel)
theorem dJ6_bitCount_0f7a4_28 : decode cJ6_bitCount_0f7a4 28 = .ok (.iadd, 1) := bo_96 (by decide +kernel)
theorem dJ6_bitCount_0f7a4_29 : decode cJ6_bitCount_0f7a4 29 = .ok (.ldc_w 267, 3) := bo_19 1 11 (by decide +kernel)
theorem k_1074 : Cond.constant RJ6 267 (252645135) ∈ bw_T := bw_m 1074 (by decide +kernel) rfl
theorem dJ6_bitCount_0f7a4_32 : decode cJ6_bitCount_0f7a4 32 = .ok (.iand, 1) := bo_126 (by decide +kernel)
theorem dJ6_bitCount_0f7a4_33 : decode cJ6_bitCount_0f7a4 33 = .ok (.istore_n 0, 1) := bo_59 (by decide +kernel)
theorem dJ6_bitCount_0f7a4_34 : decode cJ6_bitCount_0f7a4 34 = .ok (.iload_n 0, 1) := bo_26 (by decide +kernel)
theorem dJ6_bitCount_0f7a4_35 : decode cJ6_bitCount_0f7a4 35 = .ok (.iload_n 0, 1) := bo_26 (by decide +kernel)
theorem dJ6_bitCount_0f7a4_36 : decode cJ6_bitCount_0f7a4 36 = .ok (.bipush 8, 2) := bo_16 8 (by decide +kernel)
theorem dJ6_bitCount_0f7a4_38 : decode cJ6_bitCount_0f7a4 38 = .ok (.iushr, 1) := bo_124 (by decide +kernel)
theorem dJ6_bitCount_0f7a4_39 : decode cJ6_bitCount_0f7a4 39 = .ok (.iadd, 1) := bo_96 (by decide +kernel)
theorem dJ6_bitCount_0f7a4_40 : decode cJ6_bitCount_0f7a4 40 = .ok (.istore_n 0, 1) := bo_59 (by decide +kernel)
theorem dJ6_bitCount_0f7a4_41 : decode cJ6_bitCount_0f7a4 41 = .ok (.iload_n 0, 1) := bo_26 (by decide +kernel)
theorem dJ6_bitCount_0f7a4_42 : decode cJ6_bitCount_0f7a4 42 = .ok (.iload_n 0, 1) := bo_26 (by decide +kernel)
theorem dJ6_bitCount_0f7a4_43 : decode cJ6_bitCount_0f7a4 43 = .ok (.bipush 16, 2) := bo_16 16 (by decide +kernel)
theorem dJ6_bitCount_0f7a4_45 : decode cJ6_bitCount_0f7a4 45 = .ok (.iushr, 1) := bo_124 (by decide +kernel)
theorem dJ6_bitCount_0f7a4_46 : decode cJ6_bitCount_0f7a4 46 = .ok (.iadd, 1) := bo_96 (by decide +kernel)
theorem dJ6_bitCount_0f7a4_47 : decode cJ6_bitCount_0f7a4 47 = .ok (.istore_n 0, 1) := bo_59 (by decide +kernel)
theorem dJ6_bitCount_0f7a4_48 : decode cJ6_bitCount_0f7a4 48 = .ok (.iload_n 0, 1) := bo_26 (by decide +kernel)
theorem dJ6_bitCount_0f7a4_49 : decode cJ6_bitCount_0f7a4 49 = .ok (.bipush 63, 2) := bo_16 63 (by decide +kernel)
theorem dJ6_bitCount_0f7a4_51 : decode cJ6_bitCount_0f7a4 51 = .ok (.iand, 1) := bo_126 (by decide +kernel)
theorem dJ6_bitCount_0f7a4_52 : decode cJ6_bitCount_0f7a4 52 = .ok (.ireturn, 1) := bo_172 (by decide +kernel)
abbrev rm_J6_bitCount : Room := { frames := 0, cells := 0, slots := 0, locals := 0 }
set_option maxRecDepth 100000 in
set_option maxHeartbeats 8000000 in
theorem c_J6_bitCount {l : Launch} {E : (Nat → Prop) → State → Prop} (hO : bw_Ok E) {G : va_G} {cI cB cJ cN cW : ClassId} (x : Int) : bw_Ci (S := zU) l yJ6_bitCount_0f7a4 (bw_ws (Cond.code yJ6_bitCount_0f7a4 cJ6_bitCount_0f7a4 1 (some .int))) rm_J6_bitCount E G (bw_kt cI cB cJ cN cW) [.int (zI x)] [] (fun r _ => ∃ z : Int, r = zI z ∧ zR z) (fun _ => []) := by
  refine bw_Ci.of (cc := cJ6_bitCount_0f7a4) (maxL := 1) (ty := .int) (by decide) rfl (Nat.le_of_ble_eq_true rfl) ?_
  intro p e s m below meth c A Q hx hb hml hts hown hin hK hA hS hP hD hE ret ls hl
  have F : CallFix p m c cJ6_bitCount_0f7a4 1 s ([.int (zI x)] : List Value).toArray bw_T RJ6 := ⟨hx, hb, hml, hown, fun w h => hts w (List.mem_cons_of_mem _ h)⟩
  replace hl : lv_has ls 1 [(0, .int (zI x))] := hl
  refine lv_iload_n hx hb dJ6_bitCount_0f7a4_0 rfl (lv_at hl 0 rfl) ?_
  refine lv_iload_n hx hb dJ6_bitCount_0f7a4_1 rfl (lv_at hl 0 rfl) ?_
  refine lv_iconst (v := zI 1) hx hb dJ6_bitCount_0f7a4_2 rfl ?_
  refine lv_iushr hx hb dJ6_bitCount_0f7a4_3 rfl ?_
  refine rz_top (fun z1 h_z1 => ?_)
  refine lv_ldcw hx hb hown (F.2.2.2.2 _ k_1072) dJ6_bitCount_0f7a4_4 ?_
  refine W.eq (g2 := F0 m 7 ls [.int (zI 1431655765), .int (zI z1), .int (zI x)]) rfl ?_
  refine lv_iand hx hb dJ6_bitCount_0f7a4_7 ?_
  refine rz_top (fun z2 h_z2 => ?_)
  refine r_isub (v := zI (x - z2)) F dJ6_bitCount_0f7a4_8 (zI_sub _ _) ?_
  refine lv_istore_n (lv' := [(0, .int (zI (x - z2)))]) hx hb dJ6_bitCount_0f7a4_9 rfl hl (by decide) rfl (fun ls hl => ?_)
  refine lv_iload_n hx hb dJ6_bitCount_0f7a4_10 rfl (lv_at hl 0 rfl) ?_
  refine lv_ldcw hx hb hown (F.2.2.2.2 _ k_1073) dJ6_bitCount_0f7a4_11 ?_
  refine W.eq (g2 := F0 m 14 ls [.int (zI 858993459), .int (zI (x - z2))]) rfl ?_
  refine lv_iand hx hb dJ6_bitCount_0f7a4_14 ?_
  refine rz_top (fun z3 h_z3 => ?_)
  refine lv_iload_n hx hb dJ6_bitCount_0f7a4_15 rfl (lv_at hl 0 rfl) ?_
  refine lv_iconst (v := zI 2) hx hb dJ6_bitCount_0f7a4_16 rfl ?_
  refine lv_iushr hx hb dJ6_bitCount_0f7a4_17 rfl ?_
  refine rz_top (fun z4 h_z4 => ?_)
  refine lv_ldcw hx hb hown (F.2.2.2.2 _ k_1073) dJ6_bitCount_0f7a4_18 ?_
  refine W.eq (g2 := F0 m 21 ls [.int (zI 858993459), .int (zI z4), .int (zI z3)]) rfl ?_
  refine lv_iand hx hb dJ6_bitCount_0f7a4_21 ?_
  refine rz_top (fun z5 h_z5 => ?_)
  refine r_iadd (v := zI (z3 + z5)) F dJ6_bitCount_0f7a4_22 (zI_add _ _) ?_
  refine lv_istore_n (lv' := [(0, .int (zI (z3 + z5)))]) hx hb dJ6_bitCount_0f7a4_23 rfl hl (by decide) rfl (fun ls hl => ?_)
  refine lv_iload_n hx hb dJ6_bitCount_0f7a4_24 rfl (lv_at hl 0 rfl) ?_
  refine lv_iload_n hx hb dJ6_bitCount_0f7a4_25 rfl (lv_at hl 0 rfl) ?_
  refine lv_iconst (v := zI 4) hx hb dJ6_bitCount_0f7a4_26 rfl ?_
  refine lv_iushr hx hb dJ6_bitCount_0f7a4_27 rfl ?_
  refine rz_top (fun z6 h_z6 => ?_)
  refine r_iadd (v := zI ((z3 + z5) + z6)) F dJ6_bitCount_0f7a4_28 (zI_add _ _) ?_
  refine lv_ldcw hx hb hown (F.2.2.2.2 _ k_1074) dJ6_bitCount_0f7a4_29 ?_
  refine W.eq (g2 := F0 m 32 ls [.int (zI 252645135), .int (zI ((z3 + z5) + z6))]) rfl ?_
  refine lv_iand hx hb dJ6_bitCount_0f7a4_32 ?_
  refine rz_top (fun z7 h_z7 => ?_)
  refine lv_istore_n (lv' := [(0, .int (zI z7))]) hx hb dJ6_bitCount_0f7a4_33 rfl hl (by decide) rfl (fun ls hl => ?_)
  refine lv_iload_n hx hb dJ6_bitCount_0f7a4_34 rfl (lv_at hl 0 rfl) ?_
  refine lv_iload_n hx hb dJ6_bitCount_0f7a4_35 rfl (lv_at hl 0 rfl) ?_
  refine lv_bipush (v := zI 8) hx hb dJ6_bitCount_0f7a4_36 (by decide) ?_
  refine lv_iushr hx hb dJ6_bitCount_0f7a4_38 rfl ?_
  refine rz_top (fun z8 h_z8 => ?_)
  refine r_iadd (v := zI (z7 + z8)) F dJ6_bitCount_0f7a4_39 (zI_add _ _) ?_
  refine lv_istore_n (lv' := [(0, .int (zI (z7 + z8)))]) hx hb dJ6_bitCount_0f7a4_40 rfl hl (by decide) rfl (fun ls hl => ?_)
  refine lv_iload_n hx hb dJ6_bitCount_0f7a4_41 rfl (lv_at hl 0 rfl) ?_
  refine lv_iload_n hx hb dJ6_bitCount_0f7a4_42 rfl (lv_at hl 0 rfl) ?_
  refine lv_bipush (v := zI 16) hx hb dJ6_bitCount_0f7a4_43 (by decide) ?_
  refine lv_iushr hx hb dJ6_bitCount_0f7a4_45 rfl ?_
  refine rz_top (fun z9 h_z9 => ?_)
  refine r_iadd (v := zI ((z7 + z8) + z9)) F dJ6_bitCount_0f7a4_46 (zI_add _ _) ?_
  refine lv_istore_n (lv' := [(0, .int (zI ((z7 + z8) + z9)))]) hx hb dJ6_bitCount_0f7a4_47 rfl hl (by decide) rfl (fun ls hl => ?_)
  refine lv_iload_n hx hb dJ6_bitCount_0f7a4_48 rfl (lv_at hl 0 rfl) ?_
  refine lv_bipush (v := zI 63) hx hb dJ6_bitCount_0f7a4_49 (by decide) ?_
  refine lv_iand hx hb dJ6_bitCount_0f7a4_51 ?_
  refine rz_top (fun z10 h_z10 => ?_)
  exact ret (zI z10) (fun _ => 0, fun _ _ => 0) _ _ _ _ _ _ rfl (zI_any z10) (bw_subP (isC := []) hP rfl) (hD.sub [] (by decide) rfl) hS (Nat.le_of_ble_eq_true rfl) (Nat.le_of_ble_eq_true rfl) dJ6_bitCount_0f7a4_52
theorem dX2_toldLines_0 : decode cX2_toldLines 0 = .ok (.iconst 0, 1) := bo_3 (by decide +kernel)
theorem dX2_toldLines_1 : decode cX2_toldLines 1 = .ok (.istore_n 1, 1) := bo_60 (by decide +kernel)
theorem dX2_toldLines_2 : decode cX2_toldLines 2 = .ok (.iconst 0, 1) := bo_3 (by decide +kernel)
theorem dX2_toldLines_3 : decode cX2_toldLines 3 = .ok (.istore_n 2, 1) := bo_61 (by decide +kernel)
theorem dX2_toldLines_4 : decode cX2_toldLines 4 = .ok (.iload_n 2, 1) := bo_28 (by decide +kernel)
theorem dX2_toldLines_5 : decode cX2_toldLines 5 = .ok (.aload_n 0, 1) := bo_42 (by decide +kernel)
theorem dX2_toldLines_6 : decode cX2_toldLines 6 = .ok (.getfield 9, 3) := bo_180 0 9 (by decide +kernel)
theorem dX2_toldLines_9 : decode cX2_toldLines 9 = .ok (.if_icmp .ge 25, 3) := bo_162 0 25 (by decide +kernel)
theorem dX2_toldLines_34 : decode cX2_toldLines 34 = .ok (.iload_n 1, 1) := bo_27 (by decide +kernel)
theorem dX2_toldLines_35 : decode cX2_toldLines 35 = .ok (.ireturn, 1) := bo_172 (by decide +kernel)
theorem dX2_toldLines_12 : decode cX2_toldLines 12 = .ok (.iload_n 1, 1) := bo_27 (by decide +kernel)
theorem dX2_toldLines_13 : decode cX2_toldLines 13 = .ok (.aload_n 0, 1) := bo_42 (by decide +kernel)
theorem dX2_toldLines_14 : decode cX2_toldLines 14 = .ok (.iload_n 2, 1) := bo_28 (by decide +kernel)
theorem dX2_toldLines_15 : decode cX2_toldLines 15 = .ok (.invokevirtual 53, 3) := bo_182 0 53 (by decide +kernel)
theorem k_969 : Cond.methodLink RX2 53 yX2_tells ∈ bw_T := bw_m 969 (by decide +kernel) rfl
theorem kv_X2_tells : bw_KV RX2 yX2_tells (Cond.code yX2_tells cX2_tells 2 (some .boolean)) := ⟨bw_m 592 (by decide +kernel) rfl, bw_m 593 (by decide +kernel) rfl, bw_m 96 (by decide +kernel) rfl, bw_m 594 (by decide +kernel) rfl⟩
theorem dX2_toldLines_18 : decode cX2_toldLines 18 = .ok (.ifCond .eq 7, 3) := bo_153 0 7 (by decide +kernel)
theorem dX2_toldLines_25 : decode cX2_toldLines 25 = .ok (.iconst 0, 1) := bo_3 (by decide +kernel)
theorem dX2_toldLines_26 : decode cX2_toldLines 26 = .ok (.iadd, 1) := bo_96 (by decide +kernel)
theorem dX2_toldLines_27 : decode cX2_toldLines 27 = .ok (.istore_n 1, 1) := bo_60 (by decide +kernel)
theorem dX2_toldLines_28 : decode cX2_toldLines 28 = .ok (.iinc 2 1, 3) := bo_132 2 1 (by decide +kernel)
theorem dX2_toldLines_31 : decode cX2_toldLines 31 = .ok (.goto (-27), 3) := bo_167 255 229 (by decide +kernel)
theorem dX2_toldLines_21 : decode cX2_toldLines 21 = .ok (.iconst 1, 1) := bo_4 (by decide +kernel)
theorem dX2_toldLines_22 : decode cX2_toldLines 22 = .ok (.goto 4, 3) := bo_167 0 4 (by decide +kernel)
abbrev rm_X2_toldLines : Room := { frames := 1, cells := 0, slots := 0, locals := 21 }
set_option maxRecDepth 100000 in
set_option maxHeartbeats 8000000 in
theorem c_X2_toldLines {l : Launch} {E : (Nat → Prop) → State → Prop} (hO : bw_Ok E) {G : va_G} {cI cB cJ cN cW : ClassId} (b : Nat) (q : Nat → Nat) (n : Int) (g : Nat → Nat → Int) (hN : NetOk n g) : bw_Ci (S := zU) l yX2_toldLines (bw_ws (Cond.code yX2_toldLines cX2_toldLines 3 (some .int))) rm_X2_toldLines E G (bw_kt cI cB cJ cN cW) [.ref b] [(b, .inr (2, [.int (zI n), .ref (q 0), .ref (q 1), .ref (q 2), .ref (q 3), .ref (q 4), .ref (q 5), .ref (q 6), .ref (q 7)])), ((q 0), .inl (cI, 10, .inl (fun k => zI ((g 0) k)))), ((q 1), .inl (cI, 10, .inl (fun k => zI ((g 1) k)))), ((q 2), .inl (cI, 10, .inl (fun k => zI ((g 2) k)))), ((q 3), .inl (cI, 40, .inl (fun k => zI ((g 3) k)))), ((q 4), .inl (cI, 40, .inl (fun k => zI ((g 4) k)))), ((q 5), .inl (cI, 40, .inl (fun k => zI ((g 5) k)))), ((q 6), .inl (cI, 20, .inl (fun k => zI ((g 6) k)))), ((q 7), .inl (cI, 20, .inl (fun k => zI ((g 7) k))))] (fun r _ => ∃ z : Int, r = zI z ∧ zR z) (fun _ => [(b, .inr (2, [.int (zI n), .ref (q 0), .ref (q 1), .ref (q 2), .ref (q 3), .ref (q 4), .ref (q 5), .ref (q 6), .ref (q 7)])), ((q 0), .inl (cI, 10, .inl (fun k => zI ((g 0) k)))), ((q 1), .inl (cI, 10, .inl (fun k => zI ((g 1) k)))), ((q 2), .inl (cI, 10, .inl (fun k => zI ((g 2) k)))), ((q 3), .inl (cI, 40, .inl (fun k => zI ((g 3) k)))), ((q 4), .inl (cI, 40, .inl (fun k => zI ((g 4) k)))), ((q 5), .inl (cI, 40, .inl (fun k => zI ((g 5) k)))), ((q 6), .inl (cI, 20, .inl (fun k => zI ((g 6) k)))), ((q 7), .inl (cI, 20, .inl (fun k => zI ((g 7) k))))]) := by
  refine bw_Ci.of (cc := cX2_toldLines) (maxL := 3) (ty := .int) (by decide) rfl (Nat.le_of_ble_eq_true rfl) ?_
  intro p e s m below meth c A Q hx hb hml hts hown hin hK hA hS hP hD hE ret ls hl
  have F : CallFix p m c cX2_toldLines 3 s ([.ref b] : List Value).toArray bw_T RX2 := ⟨hx, hb, hml, hown, fun w h => hts w (List.mem_cons_of_mem _ h)⟩
  replace hl : lv_has ls 3 [(0, .ref b)] := hl
  have hN0 := hN.1
  refine lv_iconst (v := zI 0) hx hb dX2_toldLines_0 rfl ?_
  refine lv_istore_n (lv' := [(1, .int (zI 0)), (0, .ref b)]) hx hb dX2_toldLines_1 rfl hl (by decide) rfl (fun ls hl => ?_)
  refine lv_iconst (v := zI 0) hx hb dX2_toldLines_2 rfl ?_
  refine lv_istore_n (lv' := [(2, .int (zI 0)), (1, .int (zI 0)), (0, .ref b)]) hx hb dX2_toldLines_3 rfl hl (by decide) rfl (fun ls hl => ?_)
  refine W.widen (k := 0) (n := 0) (Nat.le_of_ble_eq_true rfl) (Nat.le_of_ble_eq_true rfl) ?_
  refine (?_ : ∀ (n9_1 : Nat) (v1 : Int) (v2 : Int) (H : Heap) (locs : List Loc), (0 ≤ v2 ∧ v2 ≤ n) → (n - v2 : Int).toNat < n9_1 → va_P G vwCl [(b, .inr (2, [.int (zI n), .ref (q 0), .ref (q 1), .ref (q 2), .ref (q 3), .ref (q 4), .ref (q 5), .ref (q 6), .ref (q 7)])), ((q 0), .inl (cI, 10, .inl (fun k => zI ((g 0) k)))), ((q 1), .inl (cI, 10, .inl (fun k => zI ((g 1) k)))), ((q 2), .inl (cI, 10, .inl (fun k => zI ((g 2) k)))), ((q 3), .inl (cI, 40, .inl (fun k => zI ((g 3) k)))), ((q 4), .inl (cI, 40, .inl (fun k => zI ((g 4) k)))), ((q 5), .inl (cI, 40, .inl (fun k => zI ((g 5) k)))), ((q 6), .inl (cI, 20, .inl (fun k => zI ((g 6) k)))), ((q 7), .inl (cI, 20, .inl (fun k => zI ((g 7) k))))] H → va_D A [(b, .inr (2, [.int (zI n), .ref (q 0), .ref (q 1), .ref (q 2), .ref (q 3), .ref (q 4), .ref (q 5), .ref (q 6), .ref (q 7)])), ((q 0), .inl (cI, 10, .inl (fun k => zI ((g 0) k)))), ((q 1), .inl (cI, 10, .inl (fun k => zI ((g 1) k)))), ((q 2), .inl (cI, 10, .inl (fun k => zI ((g 2) k)))), ((q 3), .inl (cI, 40, .inl (fun k => zI ((g 3) k)))), ((q 4), .inl (cI, 40, .inl (fun k => zI ((g 4) k)))), ((q 5), .inl (cI, 40, .inl (fun k => zI ((g 5) k)))), ((q 6), .inl (cI, 20, .inl (fun k => zI ((g 6) k)))), ((q 7), .inl (cI, 20, .inl (fun k => zI ((g 7) k))))] → va_S A s.heap H locs → ∀ ls : Array Slot, lv_has ls 3 [(2, .int (zI v2)), (1, .int (zI v1)), (0, .ref b)] → W p l e rm_X2_toldLines s m ([.ref b] : List Value).toArray below meth c H locs 0 0 Q (F0 m 4 ls [])) ((n - 0 : Int).toNat + 1) 0 0 _ _ (by omega) (by omega) hP hD hS ls hl
  clear hP hD hS hl ls
  intro n9_1
  induction n9_1 with
  | zero =>
    intro v1 v2 H locs hI hM
    exact absurd hM (by omega)
  | succ n9_1 ih1 =>
    intro v1 v2 H locs hI1 hM1  hP hD hS ls hl
    refine lv_iload_n hx hb dX2_toldLines_4 rfl (lv_at hl 0 rfl) ?_
    refine lv_aload_n hx hb dX2_toldLines_5 rfl (lv_at hl 2 rfl) ?_
    refine r_get F hK hP 0 0 rfl rfl in_X2 (by decide) k_144 rfl dX2_toldLines_6 ?_
    refine rz_icmp_ge (tgt := 34) F (by omega) (by omega) dX2_toldLines_9 (by decide) (fun h9_0 => ?_) (fun h9_0 => ?_)
    · refine lv_iload_n hx hb dX2_toldLines_34 rfl (lv_at hl 1 rfl) ?_
      exact ret (zI v1) (fun _ => 0, fun _ _ => 0) _ _ _ _ _ _ rfl (zI_any v1) (bw_subP (isC := [0, 1, 2, 3, 4, 5, 6, 7, 8]) hP rfl) (hD.sub [0, 1, 2, 3, 4, 5, 6, 7, 8] (by decide) rfl) hS (Nat.le_of_ble_eq_true rfl) (Nat.le_of_ble_eq_true rfl) dX2_toldLines_35
    · refine lv_iload_n hx hb dX2_toldLines_12 rfl (lv_at hl 1 rfl) ?_
      refine lv_aload_n hx hb dX2_toldLines_13 rfl (lv_at hl 2 rfl) ?_
      refine lv_iload_n hx hb dX2_toldLines_14 rfl (lv_at hl 0 rfl) ?_
      refine r_callVi (As := [.int (zI v2)]) (rest := [.int (zI v1)]) (wr := []) F hK hP hD hS hA hO hE (c_X2_tells hO b q n g hN v2 (by omega)) k_969 kv_X2_tells 1 rfl (by decide +kernel) ⟨Nat.le_of_ble_eq_true rfl, Nat.le_of_ble_eq_true rfl⟩ [0, 1, 2, 3, 4, 5, 6, 7, 8] [] rfl rfl (by decide) (by decide) (by decide) 0 2 rfl rfl rfl hl.1 rfl (Nat.le_of_ble_eq_true rfl) dX2_toldLines_15 ⟨Nat.le_of_ble_eq_true rfl, Nat.le_of_ble_eq_true rfl⟩ (w1 := fun u2 => [(b, .inr (2, [.int (zI n), .ref (q 0), .ref (q 1), .ref (q 2), .ref (q 3), .ref (q 4), .ref (q 5), .ref (q 6), .ref (q 7)])), ((q 0), .inl (cI, 10, .inl (fun k => zI ((g 0) k)))), ((q 1), .inl (cI, 10, .inl (fun k => zI ((g 1) k)))), ((q 2), .inl (cI, 10, .inl (fun k => zI ((g 2) k)))), ((q 3), .inl (cI, 40, .inl (fun k => zI ((g 3) k)))), ((q 4), .inl (cI, 40, .inl (fun k => zI ((g 4) k)))), ((q 5), .inl (cI, 40, .inl (fun k => zI ((g 5) k)))), ((q 6), .inl (cI, 20, .inl (fun k => zI ((g 6) k)))), ((q 7), .inl (cI, 20, .inl (fun k => zI ((g 7) k))))]) (fun _ => rfl) (fun r3 u2 H locs hp4 hP hD hS => ?_)
      obtain ⟨z5, rfl, h_z5⟩ := hp4
      refine rz_if_eq (tgt := 25) F (by omega) dX2_toldLines_18 (by decide) (fun h18_5 => ?_) (fun h18_5 => ?_)
      · refine lv_iconst (v := zI 0) hx hb dX2_toldLines_25 rfl ?_
        refine r_iadd (v := zI (v1 + 0)) F dX2_toldLines_26 (zI_add _ _) ?_
        refine lv_istore_n (lv' := [(1, .int (zI (v1 + 0))), (2, .int (zI v2)), (0, .ref b)]) hx hb dX2_toldLines_27 rfl hl (by decide) rfl (fun ls hl => ?_)
        refine lv_iinc (v := zI (v2 + 1)) (lv' := [(2, .int (zI (v2 + 1))), (1, .int (zI (v1 + 0))), (0, .ref b)]) hx hb dX2_toldLines_28 hl (k := 1) rfl (zI_add _ _) (by decide) rfl (fun ls hl => ?_)
        refine lv_goto (tgt := 4) hx hb dX2_toldLines_31 (by decide) ?_
        exact ih1 (v1 + 0) (v2 + 1) _ _ (by omega) (by omega) hP hD hS ls (lv_sub hl [0, 1, 2] rfl)
      · refine lv_iconst (v := zI 1) hx hb dX2_toldLines_21 rfl ?_
        refine lv_goto (tgt := 26) hx hb dX2_toldLines_22 (by decide) ?_
        refine r_iadd (v := zI (v1 + 1)) F dX2_toldLines_26 (zI_add _ _) ?_
        refine lv_istore_n (lv' := [(1, .int (zI (v1 + 1))), (2, .int (zI v2)), (0, .ref b)]) hx hb dX2_toldLines_27 rfl hl (by decide) rfl (fun ls hl => ?_)
        refine lv_iinc (v := zI (v2 + 1)) (lv' := [(2, .int (zI (v2 + 1))), (1, .int (zI (v1 + 1))), (0, .ref b)]) hx hb dX2_toldLines_28 hl (k := 1) rfl (zI_add _ _) (by decide) rfl (fun ls hl => ?_)
        refine lv_goto (tgt := 4) hx hb dX2_toldLines_31 (by decide) ?_
        exact ih1 (v1 + 1) (v2 + 1) _ _ (by omega) (by omega) hP hD hS ls (lv_sub hl [0, 1, 2] rfl)
theorem dX2_toldLine_0 : decode cX2_toldLine 0 = .ok (.iconst 0, 1) := bo_3 (by decide +kernel)
theorem dX2_toldLine_1 : decode cX2_toldLine 1 = .ok (.istore_n 2, 1) := bo_61 (by decide +kernel)
theorem dX2_toldLine_2 : decode cX2_toldLine 2 = .ok (.iconst 0, 1) := bo_3 (by decide +kernel)
theorem dX2_toldLine_3 : decode cX2_toldLine 3 = .ok (.istore_n 3, 1) := bo_62 (by decide +kernel)
theorem dX2_toldLine_4 : decode cX2_toldLine 4 = .ok (.iload_n 3, 1) := bo_29 (by decide +kernel)
theorem dX2_toldLine_5 : decode cX2_toldLine 5 = .ok (.aload_n 0, 1) := bo_42 (by decide +kernel)
theorem dX2_toldLine_6 : decode cX2_toldLine 6 = .ok (.getfield 9, 3) := bo_180 0 9 (by decide +kernel)
theorem dX2_toldLine_9 : decode cX2_toldLine 9 = .ok (.if_icmp .ge 27, 3) := bo_162 0 27 (by decide +kernel)
theorem dX2_toldLine_36 : decode cX2_toldLine 36 = .ok (.iconst (-1), 1) := bo_2 (by decide +kernel)
theorem dX2_toldLine_37 : decode cX2_toldLine 37 = .ok (.ireturn, 1) := bo_172 (by decide +kernel)
theorem dX2_toldLine_12 : decode cX2_toldLine 12 = .ok (.aload_n 0, 1) := bo_42 (by decide +kernel)
theorem dX2_toldLine_13 : decode cX2_toldLine 13 = .ok (.iload_n 3, 1) := bo_29 (by decide +kernel)
theorem dX2_toldLine_14 : decode cX2_toldLine 14 = .ok (.invokevirtual 53, 3) := bo_182 0 53 (by decide +kernel)
theorem dX2_toldLine_17 : decode cX2_toldLine 17 = .ok (.ifCond .eq 13, 3) := bo_153 0 13 (by decide +kernel)
theorem dX2_toldLine_30 : decode cX2_toldLine 30 = .ok (.iinc 3 1, 3) := bo_132 3 1 (by decide +kernel)
theorem dX2_toldLine_33 : decode cX2_toldLine 33 = .ok (.goto (-29), 3) := bo_167 255 227 (by decide +kernel)
theorem dX2_toldLine_20 : decode cX2_toldLine 20 = .ok (.iload_n 2, 1) := bo_28 (by decide +kernel)
theorem dX2_toldLine_21 : decode cX2_toldLine 21 = .ok (.iload_n 1, 1) := bo_27 (by decide +kernel)
theorem dX2_toldLine_22 : decode cX2_toldLine 22 = .ok (.if_icmp .ne 5, 3) := bo_160 0 5 (by decide +kernel)
theorem dX2_toldLine_27 : decode cX2_toldLine 27 = .ok (.iinc 2 1, 3) := bo_132 2 1 (by decide +kernel)
theorem dX2_toldLine_25 : decode cX2_toldLine 25 = .ok (.iload_n 3, 1) := bo_29 (by decide +kernel)
theorem dX2_toldLine_26 : decode cX2_toldLine 26 = .ok (.ireturn, 1) := bo_172 (by decide +kernel)
theorem dX2_wayBits_0 : decode cX2_wayBits 0 = .ok (.iconst 0, 1) := bo_3 (by decide +kernel)
theorem dX2_wayBits_1 : decode cX2_wayBits 1 = .ok (.istore_n 1, 1) := bo_60 (by decide +kernel)
theorem dX2_wayBits_2 : decode cX2_wayBits 2 = .ok (.iconst 0, 1) := bo_3 (by decide +kernel)
theorem dX2_wayBits_3 : decode cX2_wayBits 3 = .ok (.istore_n 2, 1) := bo_61 (by decide +kernel)
theorem dX2_wayBits_4 : decode cX2_wayBits 4 = .ok (.iload_n 2, 1) := bo_28 (by decide +kernel)
theorem dX2_wayBits_5 : decode cX2_wayBits 5 = .ok (.bipush 20, 2) := bo_16 20 (by decide +kernel)
theorem dX2_wayBits_7 : decode cX2_wayBits 7 = .ok (.if_icmp .ge 27, 3) := bo_162 0 27 (by decide +kernel)
theorem dX2_wayBits_34 : decode cX2_wayBits 34 = .ok (.iload_n 1, 1) := bo_27 (by decide +kernel)
theorem dX2_wayBits_35 : decode cX2_wayBits 35 = .ok (.ireturn, 1) := bo_172 (by decide +kernel)
theorem dX2_wayBits_10 : decode cX2_wayBits 10 = .ok (.iload_n 1, 1) := bo_27 (by decide +kernel)
theorem dX2_wayBits_11 : decode cX2_wayBits 11 = .ok (.aload_n 0, 1) := bo_42 (by decide +kernel)
theorem dX2_wayBits_12 : decode cX2_wayBits 12 = .ok (.iload_n 2, 1) := bo_28 (by decide +kernel)
theorem dX2_wayBits_13 : decode cX2_wayBits 13 = .ok (.invokevirtual 67, 3) := bo_182 0 67 (by decide +kernel)
theorem k_801 : Cond.methodLink RX2 67 yX2_hasWay ∈ bw_T := bw_m 801 (by decide +kernel) rfl
theorem kv_X2_hasWay : bw_KV RX2 yX2_hasWay (Cond.code yX2_hasWay cX2_hasWay 2 (some .boolean)) := ⟨bw_m 727 (by decide +kernel) rfl, bw_m 728 (by decide +kernel) rfl, bw_m 96 (by decide +kernel) rfl, bw_m 729 (by decide +kernel) rfl⟩
theorem dX2_wayBits_16 : decode cX2_wayBits 16 = .ok (.ifCond .eq 9, 3) := bo_153 0 9 (by decide +kernel)
theorem dX2_wayBits_25 : decode cX2_wayBits 25 = .ok (.iconst 0, 1) := bo_3 (by decide +kernel)
theorem dX2_wayBits_26 : decode cX2_wayBits 26 = .ok (.ior, 1) := bo_128 (by decide +kernel)
theorem dX2_wayBits_27 : decode cX2_wayBits 27 = .ok (.istore_n 1, 1) := bo_60 (by decide +kernel)
theorem dX2_wayBits_28 : decode cX2_wayBits 28 = .ok (.iinc 2 1, 3) := bo_132 2 1 (by decide +kernel)
theorem dX2_wayBits_31 : decode cX2_wayBits 31 = .ok (.goto (-27), 3) := bo_167 255 229 (by decide +kernel)
theorem dX2_wayBits_19 : decode cX2_wayBits 19 = .ok (.iconst 1, 1) := bo_4 (by decide +kernel)
theorem dX2_wayBits_20 : decode cX2_wayBits 20 = .ok (.iload_n 2, 1) := bo_28 (by decide +kernel)
theorem dX2_wayBits_21 : decode cX2_wayBits 21 = .ok (.ishl, 1) := bo_120 (by decide +kernel)
theorem dX2_wayBits_22 : decode cX2_wayBits 22 = .ok (.goto 4, 3) := bo_167 0 4 (by decide +kernel)
abbrev rm_X2_wayBits : Room := { frames := 1, cells := 0, slots := 0, locals := 21 }
set_option maxRecDepth 100000 in
set_option maxHeartbeats 8000000 in
theorem c_X2_wayBits {l : Launch} {E : (Nat → Prop) → State → Prop} (hO : bw_Ok E) {G : va_G} {cI cB cJ cN cW : ClassId} (b : Nat) (q : Nat → Nat) (n : Int) (g : Nat → Nat → Int) (hN : NetOk n g) : bw_Ci (S := zU) l yX2_wayBits (bw_ws (Cond.code yX2_wayBits cX2_wayBits 3 (some .int))) rm_X2_wayBits E G (bw_kt cI cB cJ cN cW) [.ref b] [(b, .inr (2, [.int (zI n), .ref (q 0), .ref (q 1), .ref (q 2), .ref (q 3), .ref (q 4), .ref (q 5), .ref (q 6), .ref (q 7)])), ((q 0), .inl (cI, 10, .inl (fun k => zI ((g 0) k)))), ((q 1), .inl (cI, 10, .inl (fun k => zI ((g 1) k)))), ((q 2), .inl (cI, 10, .inl (fun k => zI ((g 2) k)))), ((q 3), .inl (cI, 40, .inl (fun k => zI ((g 3) k)))), ((q 4), .inl (cI, 40, .inl (fun k => zI ((g 4) k)))), ((q 5), .inl (cI, 40, .inl (fun k => zI ((g 5) k)))), ((q 6), .inl (cI, 20, .inl (fun k => zI ((g 6) k)))), ((q 7), .inl (cI, 20, .inl (fun k => zI ((g 7) k))))] (fun r _ => ∃ z : Int, r = zI z ∧ zR z) (fun _ => [(b, .inr (2, [.int (zI n), .ref (q 0), .ref (q 1), .ref (q 2), .ref (q 3), .ref (q 4), .ref (q 5), .ref (q 6), .ref (q 7)])), ((q 0), .inl (cI, 10, .inl (fun k => zI ((g 0) k)))), ((q 1), .inl (cI, 10, .inl (fun k => zI ((g 1) k)))), ((q 2), .inl (cI, 10, .inl (fun k => zI ((g 2) k)))), ((q 3), .inl (cI, 40, .inl (fun k => zI ((g 3) k)))), ((q 4), .inl (cI, 40, .inl (fun k => zI ((g 4) k)))), ((q 5), .inl (cI, 40, .inl (fun k => zI ((g 5) k)))), ((q 6), .inl (cI, 20, .inl (fun k => zI ((g 6) k)))), ((q 7), .inl (cI, 20, .inl (fun k => zI ((g 7) k))))]) := by
  refine bw_Ci.of (cc := cX2_wayBits) (maxL := 3) (ty := .int) (by decide) rfl (Nat.le_of_ble_eq_true rfl) ?_
  intro p e s m below meth c A Q hx hb hml hts hown hin hK hA hS hP hD hE ret ls hl
  have F : CallFix p m c cX2_wayBits 3 s ([.ref b] : List Value).toArray bw_T RX2 := ⟨hx, hb, hml, hown, fun w h => hts w (List.mem_cons_of_mem _ h)⟩
  replace hl : lv_has ls 3 [(0, .ref b)] := hl
  have hN0 := hN.1
  refine lv_iconst (v := zI 0) hx hb dX2_wayBits_0 rfl ?_
  refine lv_istore_n (lv' := [(1, .int (zI 0)), (0, .ref b)]) hx hb dX2_wayBits_1 rfl hl (by decide) rfl (fun ls hl => ?_)
  refine lv_iconst (v := zI 0) hx hb dX2_wayBits_2 rfl ?_
  refine lv_istore_n (lv' := [(2, .int (zI 0)), (1, .int (zI 0)), (0, .ref b)]) hx hb dX2_wayBits_3 rfl hl (by decide) rfl (fun ls hl => ?_)
  refine W.widen (k := 0) (n := 0) (Nat.le_of_ble_eq_true rfl) (Nat.le_of_ble_eq_true rfl) ?_
  refine (?_ : ∀ (n9_1 : Nat) (v1 : Int) (v2 : Int) (H : Heap) (locs : List Loc), (0 ≤ v2 ∧ v2 ≤ 20) → (20 - v2 : Int).toNat < n9_1 → va_P G vwCl [(b, .inr (2, [.int (zI n), .ref (q 0), .ref (q 1), .ref (q 2), .ref (q 3), .ref (q 4), .ref (q 5), .ref (q 6), .ref (q 7)])), ((q 0), .inl (cI, 10, .inl (fun k => zI ((g 0) k)))), ((q 1), .inl (cI, 10, .inl (fun k => zI ((g 1) k)))), ((q 2), .inl (cI, 10, .inl (fun k => zI ((g 2) k)))), ((q 3), .inl (cI, 40, .inl (fun k => zI ((g 3) k)))), ((q 4), .inl (cI, 40, .inl (fun k => zI ((g 4) k)))), ((q 5), .inl (cI, 40, .inl (fun k => zI ((g 5) k)))), ((q 6), .inl (cI, 20, .inl (fun k => zI ((g 6) k)))), ((q 7), .inl (cI, 20, .inl (fun k => zI ((g 7) k))))] H → va_D A [(b, .inr (2, [.int (zI n), .ref (q 0), .ref (q 1), .ref (q 2), .ref (q 3), .ref (q 4), .ref (q 5), .ref (q 6), .ref (q 7)])), ((q 0), .inl (cI, 10, .inl (fun k => zI ((g 0) k)))), ((q 1), .inl (cI, 10, .inl (fun k => zI ((g 1) k)))), ((q 2), .inl (cI, 10, .inl (fun k => zI ((g 2) k)))), ((q 3), .inl (cI, 40, .inl (fun k => zI ((g 3) k)))), ((q 4), .inl (cI, 40, .inl (fun k => zI ((g 4) k)))), ((q 5), .inl (cI, 40, .inl (fun k => zI ((g 5) k)))), ((q 6), .inl (cI, 20, .inl (fun k => zI ((g 6) k)))), ((q 7), .inl (cI, 20, .inl (fun k => zI ((g 7) k))))] → va_S A s.heap H locs → ∀ ls : Array Slot, lv_has ls 3 [(2, .int (zI v2)), (1, .int (zI v1)), (0, .ref b)] → W p l e rm_X2_wayBits s m ([.ref b] : List Value).toArray below meth c H locs 0 0 Q (F0 m 4 ls [])) ((20 - 0 : Int).toNat + 1) 0 0 _ _ (by omega) (by omega) hP hD hS ls hl
  clear hP hD hS hl ls
  intro n9_1
  induction n9_1 with
  | zero =>
    intro v1 v2 H locs hI hM
    exact absurd hM (by omega)
  | succ n9_1 ih1 =>
    intro v1 v2 H locs hI1 hM1  hP hD hS ls hl
    refine lv_iload_n hx hb dX2_wayBits_4 rfl (lv_at hl 0 rfl) ?_
    refine lv_bipush (v := zI 20) hx hb dX2_wayBits_5 (by decide) ?_
    refine rz_icmp_ge (tgt := 34) F (by omega) (by omega) dX2_wayBits_7 (by decide) (fun h7_0 => ?_) (fun h7_0 => ?_)
    · refine lv_iload_n hx hb dX2_wayBits_34 rfl (lv_at hl 1 rfl) ?_
      exact ret (zI v1) (fun _ => 0, fun _ _ => 0) _ _ _ _ _ _ rfl (zI_any v1) (bw_subP (isC := [0, 1, 2, 3, 4, 5, 6, 7, 8]) hP rfl) (hD.sub [0, 1, 2, 3, 4, 5, 6, 7, 8] (by decide) rfl) hS (Nat.le_of_ble_eq_true rfl) (Nat.le_of_ble_eq_true rfl) dX2_wayBits_35
    · refine lv_iload_n hx hb dX2_wayBits_10 rfl (lv_at hl 1 rfl) ?_
      refine lv_aload_n hx hb dX2_wayBits_11 rfl (lv_at hl 2 rfl) ?_
      refine lv_iload_n hx hb dX2_wayBits_12 rfl (lv_at hl 0 rfl) ?_
      refine r_callVi (As := [.int (zI v2)]) (rest := [.int (zI v1)]) (wr := []) F hK hP hD hS hA hO hE (c_X2_hasWay hO b q n g hN v2 (by omega)) k_801 kv_X2_hasWay 1 rfl (by decide +kernel) ⟨Nat.le_of_ble_eq_true rfl, Nat.le_of_ble_eq_true rfl⟩ [0, 1, 2, 3, 4, 5, 6, 7, 8] [] rfl rfl (by decide) (by decide) (by decide) 0 2 rfl rfl rfl hl.1 rfl (Nat.le_of_ble_eq_true rfl) dX2_wayBits_13 ⟨Nat.le_of_ble_eq_true rfl, Nat.le_of_ble_eq_true rfl⟩ (w1 := fun u2 => [(b, .inr (2, [.int (zI n), .ref (q 0), .ref (q 1), .ref (q 2), .ref (q 3), .ref (q 4), .ref (q 5), .ref (q 6), .ref (q 7)])), ((q 0), .inl (cI, 10, .inl (fun k => zI ((g 0) k)))), ((q 1), .inl (cI, 10, .inl (fun k => zI ((g 1) k)))), ((q 2), .inl (cI, 10, .inl (fun k => zI ((g 2) k)))), ((q 3), .inl (cI, 40, .inl (fun k => zI ((g 3) k)))), ((q 4), .inl (cI, 40, .inl (fun k => zI ((g 4) k)))), ((q 5), .inl (cI, 40, .inl (fun k => zI ((g 5) k)))), ((q 6), .inl (cI, 20, .inl (fun k => zI ((g 6) k)))), ((q 7), .inl (cI, 20, .inl (fun k => zI ((g 7) k))))]) (fun _ => rfl) (fun r3 u2 H locs hp4 hP hD hS => ?_)
      obtain ⟨z5, rfl, h_z5⟩ := hp4
      refine rz_if_eq (tgt := 25) F (by omega) dX2_wayBits_16 (by decide) (fun h16_5 => ?_) (fun h16_5 => ?_)
      · refine lv_iconst (v := zI 0) hx hb dX2_wayBits_25 rfl ?_
        refine lv_ior hx hb dX2_wayBits_26 ?_
        refine rz_top (fun z7 h_z7 => ?_)
        refine lv_istore_n (lv' := [(1, .int (zI z7)), (2, .int (zI v2)), (0, .ref b)]) hx hb dX2_wayBits_27 rfl hl (by decide) rfl (fun ls hl => ?_)
        refine lv_iinc (v := zI (v2 + 1)) (lv' := [(2, .int (zI (v2 + 1))), (1, .int (zI z7)), (0, .ref b)]) hx hb dX2_wayBits_28 hl (k := 1) rfl (zI_add _ _) (by decide) rfl (fun ls hl => ?_)
        refine lv_goto (tgt := 4) hx hb dX2_wayBits_31 (by decide) ?_
        exact ih1 z7 (v2 + 1) _ _ (by omega) (by omega) hP hD hS ls (lv_sub hl [0, 1, 2] rfl)
      · refine lv_iconst (v := zI 1) hx hb dX2_wayBits_19 rfl ?_
        refine lv_iload_n hx hb dX2_wayBits_20 rfl (lv_at hl 0 rfl) ?_
        refine lv_ishl hx hb dX2_wayBits_21 ?_
        refine rz_top (fun z8 h_z8 => ?_)
        refine lv_goto (tgt := 26) hx hb dX2_wayBits_22 (by decide) ?_
        refine lv_ior hx hb dX2_wayBits_26 ?_
        refine rz_top (fun z9 h_z9 => ?_)
        refine lv_istore_n (lv' := [(1, .int (zI z9)), (2, .int (zI v2)), (0, .ref b)]) hx hb dX2_wayBits_27 rfl hl (by decide) rfl (fun ls hl => ?_)
        refine lv_iinc (v := zI (v2 + 1)) (lv' := [(2, .int (zI (v2 + 1))), (1, .int (zI z9)), (0, .ref b)]) hx hb dX2_wayBits_28 hl (k := 1) rfl (zI_add _ _) (by decide) rfl (fun ls hl => ?_)
        refine lv_goto (tgt := 4) hx hb dX2_wayBits_31 (by decide) ?_
        exact ih1 z9 (v2 + 1) _ _ (by omega) (by omega) hP hD hS ls (lv_sub hl [0, 1, 2] rfl)
theorem dX2_wayCount_0 : decode cX2_wayCount 0 = .ok (.aload_n 0, 1) := bo_42 (by decide +kernel)
theorem dX2_wayCount_1 : decode cX2_wayCount 1 = .ok (.invokevirtual 57, 3) := bo_182 0 57 (by decide +kernel)
theorem k_1068 : Cond.methodLink RX2 57 yX2_wayBits ∈ bw_T := bw_m 1068 (by decide +kernel) rfl
theorem kv_X2_wayBits : bw_KV RX2 yX2_wayBits (Cond.code yX2_wayBits cX2_wayBits 3 (some .int)) := ⟨bw_m 798 (by decide +kernel) rfl, bw_m 799 (by decide +kernel) rfl, bw_m 96 (by decide +kernel) rfl, bw_m 800 (by decide +kernel) rfl⟩
theorem dX2_wayCount_4 : decode cX2_wayCount 4 = .ok (.invokestatic 61, 3) := bo_184 0 61 (by decide +kernel)
theorem ks_J6_bitCount_0f7a4 : bw_KS RJ6 yJ6_bitCount_0f7a4 (Cond.code yJ6_bitCount_0f7a4 cJ6_bitCount_0f7a4 1 (some .int)) := ⟨bw_m 1070 (by decide +kernel) rfl, bw_m 115 (by decide +kernel) rfl, bw_m 1071 (by decide +kernel) rfl⟩
theorem k_1069 : Cond.methodLink RX2 61 yJ6_bitCount_0f7a4 ∈ bw_T := bw_m 1069 (by decide +kernel) rfl
theorem dX2_wayCount_7 : decode cX2_wayCount 7 = .ok (.ireturn, 1) := bo_172 (by decide +kernel)
abbrev rm_X2_wayCount : Room := { frames := 2, cells := 0, slots := 0, locals := 43 }
set_option maxRecDepth 100000 in
set_option maxHeartbeats 8000000 in
theorem c_X2_wayCount {l : Launch} {E : (Nat → Prop) → State → Prop} (hO : bw_Ok E) {G : va_G} {cI cB cJ cN cW : ClassId} (b : Nat) (q : Nat → Nat) (n : Int) (g : Nat → Nat → Int) (hN : NetOk n g) : bw_Ci (S := zU) l yX2_wayCount (bw_ws (Cond.code yX2_wayCount cX2_wayCount 1 (some .int))) rm_X2_wayCount E G (bw_kt cI cB cJ cN cW) [.ref b] [(b, .inr (2, [.int (zI n), .ref (q 0), .ref (q 1), .ref (q 2), .ref (q 3), .ref (q 4), .ref (q 5), .ref (q 6), .ref (q 7)])), ((q 0), .inl (cI, 10, .inl (fun k => zI ((g 0) k)))), ((q 1), .inl (cI, 10, .inl (fun k => zI ((g 1) k)))), ((q 2), .inl (cI, 10, .inl (fun k => zI ((g 2) k)))), ((q 3), .inl (cI, 40, .inl (fun k => zI ((g 3) k)))), ((q 4), .inl (cI, 40, .inl (fun k => zI ((g 4) k)))), ((q 5), .inl (cI, 40, .inl (fun k => zI ((g 5) k)))), ((q 6), .inl (cI, 20, .inl (fun k => zI ((g 6) k)))), ((q 7), .inl (cI, 20, .inl (fun k => zI ((g 7) k))))] (fun r _ => ∃ z : Int, r = zI z ∧ zR z) (fun _ => [(b, .inr (2, [.int (zI n), .ref (q 0), .ref (q 1), .ref (q 2), .ref (q 3), .ref (q 4), .ref (q 5), .ref (q 6), .ref (q 7)])), ((q 0), .inl (cI, 10, .inl (fun k => zI ((g 0) k)))), ((q 1), .inl (cI, 10, .inl (fun k => zI ((g 1) k)))), ((q 2), .inl (cI, 10, .inl (fun k => zI ((g 2) k)))), ((q 3), .inl (cI, 40, .inl (fun k => zI ((g 3) k)))), ((q 4), .inl (cI, 40, .inl (fun k => zI ((g 4) k)))), ((q 5), .inl (cI, 40, .inl (fun k => zI ((g 5) k)))), ((q 6), .inl (cI, 20, .inl (fun k => zI ((g 6) k)))), ((q 7), .inl (cI, 20, .inl (fun k => zI ((g 7) k))))]) := by
  refine bw_Ci.of (cc := cX2_wayCount) (maxL := 1) (ty := .int) (by decide) rfl (Nat.le_of_ble_eq_true rfl) ?_
  intro p e s m below meth c A Q hx hb hml hts hown hin hK hA hS hP hD hE ret ls hl
  have F : CallFix p m c cX2_wayCount 1 s ([.ref b] : List Value).toArray bw_T RX2 := ⟨hx, hb, hml, hown, fun w h => hts w (List.mem_cons_of_mem _ h)⟩
  replace hl : lv_has ls 1 [(0, .ref b)] := hl
  have hN0 := hN.1
  refine lv_aload_n hx hb dX2_wayCount_0 rfl (lv_at hl 0 rfl) ?_
  refine r_callVi (As := []) (rest := []) (wr := []) F hK hP hD hS hA hO hE (c_X2_wayBits hO b q n g hN) k_1068 kv_X2_wayBits 0 rfl (by decide +kernel) ⟨Nat.le_of_ble_eq_true rfl, Nat.le_of_ble_eq_true rfl⟩ [0, 1, 2, 3, 4, 5, 6, 7, 8] [] rfl rfl (by decide) (by decide) (by decide) 0 2 rfl rfl rfl hl.1 rfl (Nat.le_of_ble_eq_true rfl) dX2_wayCount_1 ⟨Nat.le_of_ble_eq_true rfl, Nat.le_of_ble_eq_true rfl⟩ (w1 := fun u1 => [(b, .inr (2, [.int (zI n), .ref (q 0), .ref (q 1), .ref (q 2), .ref (q 3), .ref (q 4), .ref (q 5), .ref (q 6), .ref (q 7)])), ((q 0), .inl (cI, 10, .inl (fun k => zI ((g 0) k)))), ((q 1), .inl (cI, 10, .inl (fun k => zI ((g 1) k)))), ((q 2), .inl (cI, 10, .inl (fun k => zI ((g 2) k)))), ((q 3), .inl (cI, 40, .inl (fun k => zI ((g 3) k)))), ((q 4), .inl (cI, 40, .inl (fun k => zI ((g 4) k)))), ((q 5), .inl (cI, 40, .inl (fun k => zI ((g 5) k)))), ((q 6), .inl (cI, 20, .inl (fun k => zI ((g 6) k)))), ((q 7), .inl (cI, 20, .inl (fun k => zI ((g 7) k))))]) (fun _ => rfl) (fun r2 u1 H locs hp3 hP hD hS => ?_)
  obtain ⟨z4, rfl, h_z4⟩ := hp3
  refine r_callXi (As := [.int (zI z4)]) (rest := []) F hK hP hD hS hA hO hE (c_J6_bitCount hO z4) k_1069 ks_J6_bitCount_0f7a4 1 rfl (by decide +kernel) ⟨Nat.le_of_ble_eq_true rfl, Nat.le_of_ble_eq_true rfl⟩ [0, 1, 2, 3, 4, 5, 6, 7, 8] rfl (by decide) hl.1 rfl (Nat.le_of_ble_eq_true rfl) dX2_wayCount_4 ⟨Nat.le_of_ble_eq_true rfl, Nat.le_of_ble_eq_true rfl⟩ (fun r5 u6 H locs hp7 hP hD hS => ?_)
  obtain ⟨z8, rfl, h_z8⟩ := hp7
  exact ret (zI z8) (fun _ => 0, fun _ _ => 0) _ _ _ _ _ _ rfl (zI_any z8) (bw_subP (isC := [0, 1, 2, 3, 4, 5, 6, 7, 8]) hP rfl) (hD.sub [0, 1, 2, 3, 4, 5, 6, 7, 8] (by decide) rfl) hS (Nat.le_of_ble_eq_true rfl) (Nat.le_of_ble_eq_true rfl) dX2_wayCount_7
theorem dX2_laidInAll_0 : decode cX2_laidInAll 0 = .ok (.iconst 0, 1) := bo_3 (by decide +kernel)
theorem dX2_laidInAll_1 : decode cX2_laidInAll 1 = .ok (.istore_n 1, 1) := bo_60 (by decide +kernel)
theorem dX2_laidInAll_2 : decode cX2_laidInAll 2 = .ok (.iconst 0, 1) := bo_3 (by decide +kernel)
theorem dX2_laidInAll_3 : decode cX2_laidInAll 3 = .ok (.istore_n 2, 1) := bo_61 (by decide +kernel)
theorem dX2_laidInAll_4 : decode cX2_laidInAll 4 = .ok (.iload_n 2, 1) := bo_28 (by decide +kernel)
theorem dX2_laidInAll_5 : decode cX2_laidInAll 5 = .ok (.bipush 20, 2) := bo_16 20 (by decide +kernel)
theorem dX2_laidInAll_7 : decode cX2_laidInAll 7 = .ok (.if_icmp .ge 18, 3) := bo_162 0 18 (by decide +kernel)
theorem dX2_laidInAll_25 : decode cX2_laidInAll 25 = .ok (.iload_n 1, 1) := bo_27 (by decide +kernel)
theorem dX2_laidInAll_26 : decode cX2_laidInAll 26 = .ok (.ireturn, 1) := bo_172 (by decide +kernel)
theorem dX2_laidInAll_10 : decode cX2_laidInAll 10 = .ok (.iload_n 1, 1) := bo_27 (by decide +kernel)
theorem dX2_laidInAll_11 : decode cX2_laidInAll 11 = .ok (.aload_n 0, 1) := bo_42 (by decide +kernel)
theorem dX2_laidInAll_12 : decode cX2_laidInAll 12 = .ok (.getfield 37, 3) := bo_180 0 37 (by decide +kernel)
theorem dX2_laidInAll_15 : decode cX2_laidInAll 15 = .ok (.iload_n 2, 1) := bo_28 (by decide +kernel)
theorem dX2_laidInAll_16 : decode cX2_laidInAll 16 = .ok (.iaload, 1) := bo_46 (by decide +kernel)
theorem dX2_laidInAll_17 : decode cX2_laidInAll 17 = .ok (.iadd, 1) := bo_96 (by decide +kernel)
theorem dX2_laidInAll_18 : decode cX2_laidInAll 18 = .ok (.istore_n 1, 1) := bo_60 (by decide +kernel)
theorem dX2_laidInAll_19 : decode cX2_laidInAll 19 = .ok (.iinc 2 1, 3) := bo_132 2 1 (by decide +kernel)
theorem dX2_laidInAll_22 : decode cX2_laidInAll 22 = .ok (.goto (-18), 3) := bo_167 255 238 (by decide +kernel)
abbrev rm_X2_laidInAll : Room := { frames := 0, cells := 0, slots := 0, locals := 0 }
set_option maxRecDepth 100000 in
set_option maxHeartbeats 8000000 in
theorem c_X2_laidInAll {l : Launch} {E : (Nat → Prop) → State → Prop} (hO : bw_Ok E) {G : va_G} {cI cB cJ cN cW : ClassId} (b : Nat) (q : Nat → Nat) (n : Int) (g : Nat → Nat → Int) (hN : NetOk n g) : bw_Ci (S := zU) l yX2_laidInAll (bw_ws (Cond.code yX2_laidInAll cX2_laidInAll 3 (some .int))) rm_X2_laidInAll E G (bw_kt cI cB cJ cN cW) [.ref b] [(b, .inr (2, [.int (zI n), .ref (q 0), .ref (q 1), .ref (q 2), .ref (q 3), .ref (q 4), .ref (q 5), .ref (q 6), .ref (q 7)])), ((q 0), .inl (cI, 10, .inl (fun k => zI ((g 0) k)))), ((q 1), .inl (cI, 10, .inl (fun k => zI ((g 1) k)))), ((q 2), .inl (cI, 10, .inl (fun k => zI ((g 2) k)))), ((q 3), .inl (cI, 40, .inl (fun k => zI ((g 3) k)))), ((q 4), .inl (cI, 40, .inl (fun k => zI ((g 4) k)))), ((q 5), .inl (cI, 40, .inl (fun k => zI ((g 5) k)))), ((q 6), .inl (cI, 20, .inl (fun k => zI ((g 6) k)))), ((q 7), .inl (cI, 20, .inl (fun k => zI ((g 7) k))))] (fun r _ => ∃ z : Int, r = zI z ∧ (0 ≤ z ∧ z ≤ 180)) (fun _ => [(b, .inr (2, [.int (zI n), .ref (q 0), .ref (q 1), .ref (q 2), .ref (q 3), .ref (q 4), .ref (q 5), .ref (q 6), .ref (q 7)])), ((q 0), .inl (cI, 10, .inl (fun k => zI ((g 0) k)))), ((q 1), .inl (cI, 10, .inl (fun k => zI ((g 1) k)))), ((q 2), .inl (cI, 10, .inl (fun k => zI ((g 2) k)))), ((q 3), .inl (cI, 40, .inl (fun k => zI ((g 3) k)))), ((q 4), .inl (cI, 40, .inl (fun k => zI ((g 4) k)))), ((q 5), .inl (cI, 40, .inl (fun k => zI ((g 5) k)))), ((q 6), .inl (cI, 20, .inl (fun k => zI ((g 6) k)))), ((q 7), .inl (cI, 20, .inl (fun k => zI ((g 7) k))))]) := by
  refine bw_Ci.of (cc := cX2_laidInAll) (maxL := 3) (ty := .int) (by decide) rfl (Nat.le_of_ble_eq_true rfl) ?_
  intro p e s m below meth c A Q hx hb hml hts hown hin hK hA hS hP hD hE ret ls hl
  have F : CallFix p m c cX2_laidInAll 3 s ([.ref b] : List Value).toArray bw_T RX2 := ⟨hx, hb, hml, hown, fun w h => hts w (List.mem_cons_of_mem _ h)⟩
  replace hl : lv_has ls 3 [(0, .ref b)] := hl
  have hN0 := hN.1
  refine lv_iconst (v := zI 0) hx hb dX2_laidInAll_0 rfl ?_
  refine lv_istore_n (lv' := [(1, .int (zI 0)), (0, .ref b)]) hx hb dX2_laidInAll_1 rfl hl (by decide) rfl (fun ls hl => ?_)
  refine lv_iconst (v := zI 0) hx hb dX2_laidInAll_2 rfl ?_
  refine lv_istore_n (lv' := [(2, .int (zI 0)), (1, .int (zI 0)), (0, .ref b)]) hx hb dX2_laidInAll_3 rfl hl (by decide) rfl (fun ls hl => ?_)
  refine W.widen (k := 0) (n := 0) (Nat.le_of_ble_eq_true rfl) (Nat.le_of_ble_eq_true rfl) ?_
  refine (?_ : ∀ (n9_1 : Nat) (v1 : Int) (v2 : Int) (H : Heap) (locs : List Loc), (0 ≤ v2 ∧ v2 ≤ 20 ∧ 0 ≤ v1 ∧ v1 ≤ 9 * v2) → (20 - v2 : Int).toNat < n9_1 → va_P G vwCl [(b, .inr (2, [.int (zI n), .ref (q 0), .ref (q 1), .ref (q 2), .ref (q 3), .ref (q 4), .ref (q 5), .ref (q 6), .ref (q 7)])), ((q 0), .inl (cI, 10, .inl (fun k => zI ((g 0) k)))), ((q 1), .inl (cI, 10, .inl (fun k => zI ((g 1) k)))), ((q 2), .inl (cI, 10, .inl (fun k => zI ((g 2) k)))), ((q 3), .inl (cI, 40, .inl (fun k => zI ((g 3) k)))), ((q 4), .inl (cI, 40, .inl (fun k => zI ((g 4) k)))), ((q 5), .inl (cI, 40, .inl (fun k => zI ((g 5) k)))), ((q 6), .inl (cI, 20, .inl (fun k => zI ((g 6) k)))), ((q 7), .inl (cI, 20, .inl (fun k => zI ((g 7) k))))] H → va_D A [(b, .inr (2, [.int (zI n), .ref (q 0), .ref (q 1), .ref (q 2), .ref (q 3), .ref (q 4), .ref (q 5), .ref (q 6), .ref (q 7)])), ((q 0), .inl (cI, 10, .inl (fun k => zI ((g 0) k)))), ((q 1), .inl (cI, 10, .inl (fun k => zI ((g 1) k)))), ((q 2), .inl (cI, 10, .inl (fun k => zI ((g 2) k)))), ((q 3), .inl (cI, 40, .inl (fun k => zI ((g 3) k)))), ((q 4), .inl (cI, 40, .inl (fun k => zI ((g 4) k)))), ((q 5), .inl (cI, 40, .inl (fun k => zI ((g 5) k)))), ((q 6), .inl (cI, 20, .inl (fun k => zI ((g 6) k)))), ((q 7), .inl (cI, 20, .inl (fun k => zI ((g 7) k))))] → va_S A s.heap H locs → ∀ ls : Array Slot, lv_has ls 3 [(2, .int (zI v2)), (1, .int (zI v1)), (0, .ref b)] → W p l e rm_X2_laidInAll s m ([.ref b] : List Value).toArray below meth c H locs 0 0 Q (F0 m 4 ls [])) ((20 - 0 : Int).toNat + 1) 0 0 _ _ (by omega) (by omega) hP hD hS ls hl
  clear hP hD hS hl ls
  intro n9_1
  induction n9_1 with
  | zero =>
    intro v1 v2 H locs hI hM
    exact absurd hM (by omega)
  | succ n9_1 ih1 =>
    intro v1 v2 H locs hI1 hM1  hP hD hS ls hl
    refine lv_iload_n hx hb dX2_laidInAll_4 rfl (lv_at hl 0 rfl) ?_
    refine lv_bipush (v := zI 20) hx hb dX2_laidInAll_5 (by decide) ?_
    refine rz_icmp_ge (tgt := 25) F (by omega) (by omega) dX2_laidInAll_7 (by decide) (fun h7_0 => ?_) (fun h7_0 => ?_)
    · refine lv_iload_n hx hb dX2_laidInAll_25 rfl (lv_at hl 1 rfl) ?_
      exact ret (zI v1) (fun _ => 0, fun _ _ => 0) _ _ _ _ _ _ rfl ⟨v1, rfl, by omega⟩ (bw_subP (isC := [0, 1, 2, 3, 4, 5, 6, 7, 8]) hP rfl) (hD.sub [0, 1, 2, 3, 4, 5, 6, 7, 8] (by decide) rfl) hS (Nat.le_of_ble_eq_true rfl) (Nat.le_of_ble_eq_true rfl) dX2_laidInAll_26
    · refine lv_iload_n hx hb dX2_laidInAll_10 rfl (lv_at hl 1 rfl) ?_
      refine lv_aload_n hx hb dX2_laidInAll_11 rfl (lv_at hl 2 rfl) ?_
      refine r_get F hK hP 0 8 rfl rfl in_X2 (by decide) k_169 rfl dX2_laidInAll_12 ?_
      refine lv_iload_n hx hb dX2_laidInAll_15 rfl (lv_at hl 0 rfl) ?_
      refine rz_iald F hK hP 8 0 rfl rfl (by omega) (by omega) dX2_laidInAll_16 ?_
      have h_l16_1 := hN.2.2.2.2.2.2.2.2 (v2).toNat (by omega)
      refine r_iadd (v := zI (v1 + ((g 7) (v2).toNat))) F dX2_laidInAll_17 (zI_add _ _) ?_
      refine lv_istore_n (lv' := [(1, .int (zI (v1 + ((g 7) (v2).toNat)))), (2, .int (zI v2)), (0, .ref b)]) hx hb dX2_laidInAll_18 rfl hl (by decide) rfl (fun ls hl => ?_)
      refine lv_iinc (v := zI (v2 + 1)) (lv' := [(2, .int (zI (v2 + 1))), (1, .int (zI (v1 + ((g 7) (v2).toNat)))), (0, .ref b)]) hx hb dX2_laidInAll_19 hl (k := 1) rfl (zI_add _ _) (by decide) rfl (fun ls hl => ?_)
      refine lv_goto (tgt := 4) hx hb dX2_laidInAll_22 (by decide) ?_
      exact ih1 (v1 + ((g 7) (v2).toNat)) (v2 + 1) _ _ (by omega) (by omega) hP hD hS ls (lv_sub hl [0, 1, 2] rfl)
theorem dX2_partOf_0 : decode cX2_partOf 0 = .ok (.iload_n 2, 1) := bo_28 (by decide +kernel)
theorem dX2_partOf_1 : decode cX2_partOf 1 = .ok (.tableswitch 89 0 5 #[39, 46, 53, 60, 69, 78], 39) := by decide +kernel
theorem dX2_partOf_40 : decode cX2_partOf 40 = .ok (.aload_n 0, 1) := bo_42 (by decide +kernel)
theorem dX2_partOf_41 : decode cX2_partOf 41 = .ok (.getfield 22, 3) := bo_180 0 22 (by decide +kernel)
theorem k_153 : Cond.fieldLink RX2 22 "BurntWays$Net" "actCounts" "[I" ∈ bw_T := bw_m 153 (by decide +kernel) rfl
theorem dX2_partOf_44 : decode cX2_partOf 44 = .ok (.iload_n 1, 1) := bo_27 (by decide +kernel)
theorem dX2_partOf_45 : decode cX2_partOf 45 = .ok (.iaload, 1) := bo_46 (by decide +kernel)
theorem dX2_partOf_46 : decode cX2_partOf 46 = .ok (.ireturn, 1) := bo_172 (by decide +kernel)
theorem dX2_partOf_47 : decode cX2_partOf 47 = .ok (.aload_n 0, 1) := bo_42 (by decide +kernel)
theorem dX2_partOf_48 : decode cX2_partOf 48 = .ok (.getfield 15, 3) := bo_180 0 15 (by decide +kernel)
theorem dX2_partOf_51 : decode cX2_partOf 51 = .ok (.iload_n 1, 1) := bo_27 (by decide +kernel)
theorem dX2_partOf_52 : decode cX2_partOf 52 = .ok (.iaload, 1) := bo_46 (by decide +kernel)
theorem dX2_partOf_53 : decode cX2_partOf 53 = .ok (.ireturn, 1) := bo_172 (by decide +kernel)
theorem dX2_partOf_54 : decode cX2_partOf 54 = .ok (.aload_n 0, 1) := bo_42 (by decide +kernel)
theorem dX2_partOf_55 : decode cX2_partOf 55 = .ok (.getfield 19, 3) := bo_180 0 19 (by decide +kernel)
theorem k_150 : Cond.fieldLink RX2 19 "BurntWays$Net" "asked" "[I" ∈ bw_T := bw_m 150 (by decide +kernel) rfl
theorem dX2_partOf_58 : decode cX2_partOf 58 = .ok (.iload_n 1, 1) := bo_27 (by decide +kernel)
theorem dX2_partOf_59 : decode cX2_partOf 59 = .ok (.iaload, 1) := bo_46 (by decide +kernel)
theorem dX2_partOf_60 : decode cX2_partOf 60 = .ok (.ireturn, 1) := bo_172 (by decide +kernel)
theorem dX2_partOf_61 : decode cX2_partOf 61 = .ok (.aload_n 0, 1) := bo_42 (by decide +kernel)
theorem dX2_partOf_62 : decode cX2_partOf 62 = .ok (.getfield 34, 3) := bo_180 0 34 (by decide +kernel)
theorem k_165 : Cond.fieldLink RX2 34 "BurntWays$Net" "leads" "[I" ∈ bw_T := bw_m 165 (by decide +kernel) rfl
theorem dX2_partOf_65 : decode cX2_partOf 65 = .ok (.iconst 2, 1) := bo_5 (by decide +kernel)
theorem dX2_partOf_66 : decode cX2_partOf 66 = .ok (.iload_n 1, 1) := bo_27 (by decide +kernel)
theorem dX2_partOf_67 : decode cX2_partOf 67 = .ok (.imul, 1) := bo_104 (by decide +kernel)
theorem dX2_partOf_68 : decode cX2_partOf 68 = .ok (.iaload, 1) := bo_46 (by decide +kernel)
theorem dX2_partOf_69 : decode cX2_partOf 69 = .ok (.ireturn, 1) := bo_172 (by decide +kernel)
theorem dX2_partOf_70 : decode cX2_partOf 70 = .ok (.aload_n 0, 1) := bo_42 (by decide +kernel)
theorem dX2_partOf_71 : decode cX2_partOf 71 = .ok (.getfield 37, 3) := bo_180 0 37 (by decide +kernel)
theorem dX2_partOf_74 : decode cX2_partOf 74 = .ok (.iconst 2, 1) := bo_5 (by decide +kernel)
theorem dX2_partOf_75 : decode cX2_partOf 75 = .ok (.iload_n 1, 1) := bo_27 (by decide +kernel)
theorem dX2_partOf_76 : decode cX2_partOf 76 = .ok (.imul, 1) := bo_104 (by decide +kernel)
theorem dX2_partOf_77 : decode cX2_partOf 77 = .ok (.iaload, 1) := bo_46 (by decide +kernel)
theorem dX2_partOf_78 : decode cX2_partOf 78 = .ok (.ireturn, 1) := bo_172 (by decide +kernel)
theorem dX2_partOf_79 : decode cX2_partOf 79 = .ok (.aload_n 0, 1) := bo_42 (by decide +kernel)
theorem dX2_partOf_80 : decode cX2_partOf 80 = .ok (.getfield 34, 3) := bo_180 0 34 (by decide +kernel)
theorem dX2_partOf_83 : decode cX2_partOf 83 = .ok (.iconst 2, 1) := bo_5 (by decide +kernel)
theorem dX2_partOf_84 : decode cX2_partOf 84 = .ok (.iload_n 1, 1) := bo_27 (by decide +kernel)
theorem dX2_partOf_85 : decode cX2_partOf 85 = .ok (.imul, 1) := bo_104 (by decide +kernel)
theorem dX2_partOf_86 : decode cX2_partOf 86 = .ok (.iconst 1, 1) := bo_4 (by decide +kernel)
theorem dX2_partOf_87 : decode cX2_partOf 87 = .ok (.iadd, 1) := bo_96 (by decide +kernel)
theorem dX2_partOf_88 : decode cX2_partOf 88 = .ok (.iaload, 1) := bo_46 (by decide +kernel)
theorem dX2_partOf_89 : decode cX2_partOf 89 = .ok (.ireturn, 1) := bo_172 (by decide +kernel)
theorem dX2_partOf_90 : decode cX2_partOf 90 = .ok (.aload_n 0, 1) := bo_42 (by decide +kernel)
theorem dX2_partOf_91 : decode cX2_partOf 91 = .ok (.getfield 37, 3) := bo_180 0 37 (by decide +kernel)
theorem dX2_partOf_94 : decode cX2_partOf 94 = .ok (.iconst 2, 1) := bo_5 (by decide +kernel)
theorem dX2_partOf_95 : decode cX2_partOf 95 = .ok (.iload_n 1, 1) := bo_27 (by decide +kernel)
theorem dX2_partOf_96 : decode cX2_partOf 96 = .ok (.imul, 1) := bo_104 (by decide +kernel)
theorem dX2_partOf_97 : decode cX2_partOf 97 = .ok (.iconst 1, 1) := bo_4 (by decide +kernel)
theorem dX2_partOf_98 : decode cX2_partOf 98 = .ok (.iadd, 1) := bo_96 (by decide +kernel)
theorem dX2_partOf_99 : decode cX2_partOf 99 = .ok (.iaload, 1) := bo_46 (by decide +kernel)
theorem dX2_partOf_100 : decode cX2_partOf 100 = .ok (.ireturn, 1) := bo_172 (by decide +kernel)
abbrev rm_X2_partOf : Room := { frames := 0, cells := 0, slots := 0, locals := 0 }
set_option maxRecDepth 100000 in
set_option maxHeartbeats 8000000 in
theorem c_X2_partOf {l : Launch} {E : (Nat → Prop) → State → Prop} (hO : bw_Ok E) {G : va_G} {cI cB cJ cN cW : ClassId} (b : Nat) (q : Nat → Nat) (n : Int) (g : Nat → Nat → Int) (hN : NetOk n g) (x : Int) (y : Int) (hx9 : 0 ≤ x ∧ x < 10) (hy9 : zR y) : bw_Ci (S := zU) l yX2_partOf (bw_ws (Cond.code yX2_partOf cX2_partOf 3 (some .int))) rm_X2_partOf E G (bw_kt cI cB cJ cN cW) [.ref b, .int (zI x), .int (zI y)] [(b, .inr (2, [.int (zI n), .ref (q 0), .ref (q 1), .ref (q 2), .ref (q 3), .ref (q 4), .ref (q 5), .ref (q 6), .ref (q 7)])), ((q 0), .inl (cI, 10, .inl (fun k => zI ((g 0) k)))), ((q 1), .inl (cI, 10, .inl (fun k => zI ((g 1) k)))), ((q 2), .inl (cI, 10, .inl (fun k => zI ((g 2) k)))), ((q 3), .inl (cI, 40, .inl (fun k => zI ((g 3) k)))), ((q 4), .inl (cI, 40, .inl (fun k => zI ((g 4) k)))), ((q 5), .inl (cI, 40, .inl (fun k => zI ((g 5) k)))), ((q 6), .inl (cI, 20, .inl (fun k => zI ((g 6) k)))), ((q 7), .inl (cI, 20, .inl (fun k => zI ((g 7) k))))] (fun r _ => ∃ z : Int, r = zI z ∧ zR z) (fun _ => [(b, .inr (2, [.int (zI n), .ref (q 0), .ref (q 1), .ref (q 2), .ref (q 3), .ref (q 4), .ref (q 5), .ref (q 6), .ref (q 7)])), ((q 0), .inl (cI, 10, .inl (fun k => zI ((g 0) k)))), ((q 1), .inl (cI, 10, .inl (fun k => zI ((g 1) k)))), ((q 2), .inl (cI, 10, .inl (fun k => zI ((g 2) k)))), ((q 3), .inl (cI, 40, .inl (fun k => zI ((g 3) k)))), ((q 4), .inl (cI, 40, .inl (fun k => zI ((g 4) k)))), ((q 5), .inl (cI, 40, .inl (fun k => zI ((g 5) k)))), ((q 6), .inl (cI, 20, .inl (fun k => zI ((g 6) k)))), ((q 7), .inl (cI, 20, .inl (fun k => zI ((g 7) k))))]) := by
  refine bw_Ci.of (cc := cX2_partOf) (maxL := 3) (ty := .int) (by decide) rfl (Nat.le_of_ble_eq_true rfl) ?_
  intro p e s m below meth c A Q hx hb hml hts hown hin hK hA hS hP hD hE ret ls hl
  have F : CallFix p m c cX2_partOf 3 s ([.ref b, .int (zI x), .int (zI y)] : List Value).toArray bw_T RX2 := ⟨hx, hb, hml, hown, fun w h => hts w (List.mem_cons_of_mem _ h)⟩
  replace hl : lv_has ls 3 [(0, .ref b), (1, .int (zI x)), (2, .int (zI y))] := hl
  have hN0 := hN.1
  refine lv_iload_n hx hb dX2_partOf_0 rfl (lv_at hl 2 rfl) ?_
  by_cases h_in : 0 ≤ y ∧ y ≤ 5
  · rcases (show y = 0 ∨ y = 1 ∨ y = 2 ∨ y = 3 ∨ y = 4 ∨ y = 5 by omega) with h_e | h_e | h_e | h_e | h_e | h_e
    · refine lv_tableIn (off := 39) (tgt := 40) hx hb dX2_partOf_1 (by rw [h_e]; decide) (by rw [h_e]; decide) (by rw [h_e]; decide) (by decide) ?_
      refine lv_aload_n hx hb dX2_partOf_40 rfl (lv_at hl 0 rfl) ?_
      refine r_get F hK hP 0 3 rfl rfl in_X2 (by decide) k_153 rfl dX2_partOf_41 ?_
      refine lv_iload_n hx hb dX2_partOf_44 rfl (lv_at hl 1 rfl) ?_
      refine rz_iald F hK hP 3 0 rfl rfl (by omega) (by omega) dX2_partOf_45 ?_
      have h_l45_0 := hN.2.2.2.1 (x).toNat (by omega)
      exact ret (zI ((g 2) (x).toNat)) (fun _ => 0, fun _ _ => 0) _ _ _ _ _ _ rfl (zI_any ((g 2) (x).toNat)) (bw_subP (isC := [0, 1, 2, 3, 4, 5, 6, 7, 8]) hP rfl) (hD.sub [0, 1, 2, 3, 4, 5, 6, 7, 8] (by decide) rfl) hS (Nat.le_of_ble_eq_true rfl) (Nat.le_of_ble_eq_true rfl) dX2_partOf_46
    · refine lv_tableIn (off := 46) (tgt := 47) hx hb dX2_partOf_1 (by rw [h_e]; decide) (by rw [h_e]; decide) (by rw [h_e]; decide) (by decide) ?_
      refine lv_aload_n hx hb dX2_partOf_47 rfl (lv_at hl 0 rfl) ?_
      refine r_get F hK hP 0 1 rfl rfl in_X2 (by decide) k_147 rfl dX2_partOf_48 ?_
      refine lv_iload_n hx hb dX2_partOf_51 rfl (lv_at hl 1 rfl) ?_
      refine rz_iald F hK hP 1 0 rfl rfl (by omega) (by omega) dX2_partOf_52 ?_
      have h_l52_1 := hN.2.1 (x).toNat (by omega)
      exact ret (zI ((g 0) (x).toNat)) (fun _ => 0, fun _ _ => 0) _ _ _ _ _ _ rfl (zI_any ((g 0) (x).toNat)) (bw_subP (isC := [0, 1, 2, 3, 4, 5, 6, 7, 8]) hP rfl) (hD.sub [0, 1, 2, 3, 4, 5, 6, 7, 8] (by decide) rfl) hS (Nat.le_of_ble_eq_true rfl) (Nat.le_of_ble_eq_true rfl) dX2_partOf_53
    · refine lv_tableIn (off := 53) (tgt := 54) hx hb dX2_partOf_1 (by rw [h_e]; decide) (by rw [h_e]; decide) (by rw [h_e]; decide) (by decide) ?_
      refine lv_aload_n hx hb dX2_partOf_54 rfl (lv_at hl 0 rfl) ?_
      refine r_get F hK hP 0 2 rfl rfl in_X2 (by decide) k_150 rfl dX2_partOf_55 ?_
      refine lv_iload_n hx hb dX2_partOf_58 rfl (lv_at hl 1 rfl) ?_
      refine rz_iald F hK hP 2 0 rfl rfl (by omega) (by omega) dX2_partOf_59 ?_
      have h_l59_2 := hN.2.2.1 (x).toNat (by omega)
      exact ret (zI ((g 1) (x).toNat)) (fun _ => 0, fun _ _ => 0) _ _ _ _ _ _ rfl (zI_any ((g 1) (x).toNat)) (bw_subP (isC := [0, 1, 2, 3, 4, 5, 6, 7, 8]) hP rfl) (hD.sub [0, 1, 2, 3, 4, 5, 6, 7, 8] (by decide) rfl) hS (Nat.le_of_ble_eq_true rfl) (Nat.le_of_ble_eq_true rfl) dX2_partOf_60
    · refine lv_tableIn (off := 60) (tgt := 61) hx hb dX2_partOf_1 (by rw [h_e]; decide) (by rw [h_e]; decide) (by rw [h_e]; decide) (by decide) ?_
      refine lv_aload_n hx hb dX2_partOf_61 rfl (lv_at hl 0 rfl) ?_
      refine r_get F hK hP 0 7 rfl rfl in_X2 (by decide) k_165 rfl dX2_partOf_62 ?_
      refine lv_iconst (v := zI 2) hx hb dX2_partOf_65 rfl ?_
      refine lv_iload_n hx hb dX2_partOf_66 rfl (lv_at hl 1 rfl) ?_
      refine r_imul (v := zI (2 * x)) F dX2_partOf_67 (zI_mul _ _) ?_
      refine rz_iald F hK hP 7 0 rfl rfl (by omega) (by omega) dX2_partOf_68 ?_
      have h_l68_3 := hN.2.2.2.2.2.2.2.1 ((2 * x)).toNat (by omega)
      exact ret (zI ((g 6) ((2 * x)).toNat)) (fun _ => 0, fun _ _ => 0) _ _ _ _ _ _ rfl (zI_any ((g 6) ((2 * x)).toNat)) (bw_subP (isC := [0, 1, 2, 3, 4, 5, 6, 7, 8]) hP rfl) (hD.sub [0, 1, 2, 3, 4, 5, 6, 7, 8] (by decide) rfl) hS (Nat.le_of_ble_eq_true rfl) (Nat.le_of_ble_eq_true rfl) dX2_partOf_69
    · refine lv_tableIn (off := 69) (tgt := 70) hx hb dX2_partOf_1 (by rw [h_e]; decide) (by rw [h_e]; decide) (by rw [h_e]; decide) (by decide) ?_
      refine lv_aload_n hx hb dX2_partOf_70 rfl (lv_at hl 0 rfl) ?_
      refine r_get F hK hP 0 8 rfl rfl in_X2 (by decide) k_169 rfl dX2_partOf_71 ?_
      refine lv_iconst (v := zI 2) hx hb dX2_partOf_74 rfl ?_
      refine lv_iload_n hx hb dX2_partOf_75 rfl (lv_at hl 1 rfl) ?_
      refine r_imul (v := zI (2 * x)) F dX2_partOf_76 (zI_mul _ _) ?_
      refine rz_iald F hK hP 8 0 rfl rfl (by omega) (by omega) dX2_partOf_77 ?_
      have h_l77_4 := hN.2.2.2.2.2.2.2.2 ((2 * x)).toNat (by omega)
      exact ret (zI ((g 7) ((2 * x)).toNat)) (fun _ => 0, fun _ _ => 0) _ _ _ _ _ _ rfl (zI_any ((g 7) ((2 * x)).toNat)) (bw_subP (isC := [0, 1, 2, 3, 4, 5, 6, 7, 8]) hP rfl) (hD.sub [0, 1, 2, 3, 4, 5, 6, 7, 8] (by decide) rfl) hS (Nat.le_of_ble_eq_true rfl) (Nat.le_of_ble_eq_true rfl) dX2_partOf_78
    · refine lv_tableIn (off := 78) (tgt := 79) hx hb dX2_partOf_1 (by rw [h_e]; decide) (by rw [h_e]; decide) (by rw [h_e]; decide) (by decide) ?_
      refine lv_aload_n hx hb dX2_partOf_79 rfl (lv_at hl 0 rfl) ?_
      refine r_get F hK hP 0 7 rfl rfl in_X2 (by decide) k_165 rfl dX2_partOf_80 ?_
      refine lv_iconst (v := zI 2) hx hb dX2_partOf_83 rfl ?_
      refine lv_iload_n hx hb dX2_partOf_84 rfl (lv_at hl 1 rfl) ?_
      refine r_imul (v := zI (2 * x)) F dX2_partOf_85 (zI_mul _ _) ?_
      refine lv_iconst (v := zI 1) hx hb dX2_partOf_86 rfl ?_
      refine r_iadd (v := zI ((2 * x) + 1)) F dX2_partOf_87 (zI_add _ _) ?_
      refine rz_iald F hK hP 7 0 rfl rfl (by omega) (by omega) dX2_partOf_88 ?_
      have h_l88_5 := hN.2.2.2.2.2.2.2.1 (((2 * x) + 1)).toNat (by omega)
      exact ret (zI ((g 6) (((2 * x) + 1)).toNat)) (fun _ => 0, fun _ _ => 0) _ _ _ _ _ _ rfl (zI_any ((g 6) (((2 * x) + 1)).toNat)) (bw_subP (isC := [0, 1, 2, 3, 4, 5, 6, 7, 8]) hP rfl) (hD.sub [0, 1, 2, 3, 4, 5, 6, 7, 8] (by decide) rfl) hS (Nat.le_of_ble_eq_true rfl) (Nat.le_of_ble_eq_true rfl) dX2_partOf_89
  · refine lv_tableOut (tgt := 90) hx hb dX2_partOf_1 (by rw [zI_toInt (by omega)]; omega) (by decide) ?_
    refine lv_aload_n hx hb dX2_partOf_90 rfl (lv_at hl 0 rfl) ?_
    refine r_get F hK hP 0 8 rfl rfl in_X2 (by decide) k_169 rfl dX2_partOf_91 ?_
    refine lv_iconst (v := zI 2) hx hb dX2_partOf_94 rfl ?_
    refine lv_iload_n hx hb dX2_partOf_95 rfl (lv_at hl 1 rfl) ?_
    refine r_imul (v := zI (2 * x)) F dX2_partOf_96 (zI_mul _ _) ?_
    refine lv_iconst (v := zI 1) hx hb dX2_partOf_97 rfl ?_
    refine r_iadd (v := zI ((2 * x) + 1)) F dX2_partOf_98 (zI_add _ _) ?_
    refine rz_iald F hK hP 8 0 rfl rfl (by omega) (by omega) dX2_partOf_99 ?_
    have h_l99_6 := hN.2.2.2.2.2.2.2.2 (((2 * x) + 1)).toNat (by omega)
    exact ret (zI ((g 7) (((2 * x) + 1)).toNat)) (fun _ => 0, fun _ _ => 0) _ _ _ _ _ _ rfl (zI_any ((g 7) (((2 * x) + 1)).toNat)) (bw_subP (isC := [0, 1, 2, 3, 4, 5, 6, 7, 8]) hP rfl) (hD.sub [0, 1, 2, 3, 4, 5, 6, 7, 8] (by decide) rfl) hS (Nat.le_of_ble_eq_true rfl) (Nat.le_of_ble_eq_true rfl) dX2_partOf_100
theorem dX2_degreeOf_0 : decode cX2_degreeOf 0 = .ok (.aload_n 0, 1) := bo_42 (by decide +kernel)
theorem dX2_degreeOf_1 : decode cX2_degreeOf 1 = .ok (.getfield 37, 3) := bo_180 0 37 (by decide +kernel)
theorem dX2_degreeOf_4 : decode cX2_degreeOf 4 = .ok (.iconst 2, 1) := bo_5 (by decide +kernel)
theorem dX2_degreeOf_5 : decode cX2_degreeOf 5 = .ok (.iload_n 1, 1) := bo_27 (by decide +kernel)
theorem dX2_degreeOf_6 : decode cX2_degreeOf 6 = .ok (.imul, 1) := bo_104 (by decide +kernel)
theorem dX2_degreeOf_7 : decode cX2_degreeOf 7 = .ok (.iaload, 1) := bo_46 (by decide +kernel)
theorem dX2_degreeOf_8 : decode cX2_degreeOf 8 = .ok (.aload_n 0, 1) := bo_42 (by decide +kernel)
theorem dX2_degreeOf_9 : decode cX2_degreeOf 9 = .ok (.getfield 37, 3) := bo_180 0 37 (by decide +kernel)
theorem dX2_degreeOf_12 : decode cX2_degreeOf 12 = .ok (.iconst 2, 1) := bo_5 (by decide +kernel)
theorem dX2_degreeOf_13 : decode cX2_degreeOf 13 = .ok (.iload_n 1, 1) := bo_27 (by decide +kernel)
theorem dX2_degreeOf_14 : decode cX2_degreeOf 14 = .ok (.imul, 1) := bo_104 (by decide +kernel)
theorem dX2_degreeOf_15 : decode cX2_degreeOf 15 = .ok (.iconst 1, 1) := bo_4 (by decide +kernel)
theorem dX2_degreeOf_16 : decode cX2_degreeOf 16 = .ok (.iadd, 1) := bo_96 (by decide +kernel)
theorem dX2_degreeOf_17 : decode cX2_degreeOf 17 = .ok (.iaload, 1) := bo_46 (by decide +kernel)
theorem dX2_degreeOf_18 : decode cX2_degreeOf 18 = .ok (.iadd, 1) := bo_96 (by decide +kernel)
theorem dX2_degreeOf_19 : decode cX2_degreeOf 19 = .ok (.istore_n 2, 1) := bo_61 (by decide +kernel)
theorem dX2_degreeOf_20 : decode cX2_degreeOf 20 = .ok (.iconst 0, 1) := bo_3 (by decide +kernel)
theorem dX2_degreeOf_21 : decode cX2_degreeOf 21 = .ok (.istore_n 3, 1) := bo_62 (by decide +kernel)
theorem dX2_degreeOf_22 : decode cX2_degreeOf 22 = .ok (.iload_n 3, 1) := bo_29 (by decide +kernel)
theorem dX2_degreeOf_23 : decode cX2_degreeOf 23 = .ok (.bipush 20, 2) := bo_16 20 (by decide +kernel)
theorem dX2_degreeOf_25 : decode cX2_degreeOf 25 = .ok (.if_icmp .ge 32, 3) := bo_162 0 32 (by decide +kernel)
theorem dX2_degreeOf_57 : decode cX2_degreeOf 57 = .ok (.iload_n 2, 1) := bo_28 (by decide +kernel)
theorem dX2_degreeOf_58 : decode cX2_degreeOf 58 = .ok (.ireturn, 1) := bo_172 (by decide +kernel)
theorem dX2_degreeOf_28 : decode cX2_degreeOf 28 = .ok (.iload_n 2, 1) := bo_28 (by decide +kernel)
theorem dX2_degreeOf_29 : decode cX2_degreeOf 29 = .ok (.aload_n 0, 1) := bo_42 (by decide +kernel)
theorem dX2_degreeOf_30 : decode cX2_degreeOf 30 = .ok (.getfield 34, 3) := bo_180 0 34 (by decide +kernel)
theorem dX2_degreeOf_33 : decode cX2_degreeOf 33 = .ok (.iload_n 3, 1) := bo_29 (by decide +kernel)
theorem dX2_degreeOf_34 : decode cX2_degreeOf 34 = .ok (.iaload, 1) := bo_46 (by decide +kernel)
theorem dX2_degreeOf_35 : decode cX2_degreeOf 35 = .ok (.iload_n 1, 1) := bo_27 (by decide +kernel)
theorem dX2_degreeOf_36 : decode cX2_degreeOf 36 = .ok (.if_icmp .ne 12, 3) := bo_160 0 12 (by decide +kernel)
theorem dX2_degreeOf_48 : decode cX2_degreeOf 48 = .ok (.iconst 0, 1) := bo_3 (by decide +kernel)
theorem dX2_degreeOf_49 : decode cX2_degreeOf 49 = .ok (.isub, 1) := bo_100 (by decide +kernel)
theorem dX2_degreeOf_50 : decode cX2_degreeOf 50 = .ok (.istore_n 2, 1) := bo_61 (by decide +kernel)
theorem dX2_degreeOf_51 : decode cX2_degreeOf 51 = .ok (.iinc 3 1, 3) := bo_132 3 1 (by decide +kernel)
theorem dX2_degreeOf_54 : decode cX2_degreeOf 54 = .ok (.goto (-32), 3) := bo_167 255 224 (by decide +kernel)
theorem dX2_degreeOf_39 : decode cX2_degreeOf 39 = .ok (.aload_n 0, 1) := bo_42 (by decide +kernel)
theorem dX2_degreeOf_40 : decode cX2_degreeOf 40 = .ok (.getfield 37, 3) := bo_180 0 37 (by decide +kernel)
theorem dX2_degreeOf_43 : decode cX2_degreeOf 43 = .ok (.iload_n 3, 1) := bo_29 (by decide +kernel)
theorem dX2_degreeOf_44 : decode cX2_degreeOf 44 = .ok (.iaload, 1) := bo_46 (by decide +kernel)
theorem dX2_degreeOf_45 : decode cX2_degreeOf 45 = .ok (.goto 4, 3) := bo_167 0 4 (by decide +kernel)
abbrev rm_X2_degreeOf : Room := { frames := 0, cells := 0, slots := 0, locals := 0 }
set_option maxRecDepth 100000 in
set_option maxHeartbeats 8000000 in
theorem c_X2_degreeOf {l : Launch} {E : (Nat → Prop) → State → Prop} (hO : bw_Ok E) {G : va_G} {cI cB cJ cN cW : ClassId} (b : Nat) (q : Nat → Nat) (n : Int) (g : Nat → Nat → Int) (hN : NetOk n g) (x : Int) (hx9 : 0 ≤ x ∧ x < 10) : bw_Ci (S := zU) l yX2_degreeOf (bw_ws (Cond.code yX2_degreeOf cX2_degreeOf 4 (some .int))) rm_X2_degreeOf E G (bw_kt cI cB cJ cN cW) [.ref b, .int (zI x)] [(b, .inr (2, [.int (zI n), .ref (q 0), .ref (q 1), .ref (q 2), .ref (q 3), .ref (q 4), .ref (q 5), .ref (q 6), .ref (q 7)])), ((q 0), .inl (cI, 10, .inl (fun k => zI ((g 0) k)))), ((q 1), .inl (cI, 10, .inl (fun k => zI ((g 1) k)))), ((q 2), .inl (cI, 10, .inl (fun k => zI ((g 2) k)))), ((q 3), .inl (cI, 40, .inl (fun k => zI ((g 3) k)))), ((q 4), .inl (cI, 40, .inl (fun k => zI ((g 4) k)))), ((q 5), .inl (cI, 40, .inl (fun k => zI ((g 5) k)))), ((q 6), .inl (cI, 20, .inl (fun k => zI ((g 6) k)))), ((q 7), .inl (cI, 20, .inl (fun k => zI ((g 7) k))))] (fun r _ => ∃ z : Int, r = zI z ∧ zR z) (fun _ => [(b, .inr (2, [.int (zI n), .ref (q 0), .ref (q 1), .ref (q 2), .ref (q 3), .ref (q 4), .ref (q 5), .ref (q 6), .ref (q 7)])), ((q 0), .inl (cI, 10, .inl (fun k => zI ((g 0) k)))), ((q 1), .inl (cI, 10, .inl (fun k => zI ((g 1) k)))), ((q 2), .inl (cI, 10, .inl (fun k => zI ((g 2) k)))), ((q 3), .inl (cI, 40, .inl (fun k => zI ((g 3) k)))), ((q 4), .inl (cI, 40, .inl (fun k => zI ((g 4) k)))), ((q 5), .inl (cI, 40, .inl (fun k => zI ((g 5) k)))), ((q 6), .inl (cI, 20, .inl (fun k => zI ((g 6) k)))), ((q 7), .inl (cI, 20, .inl (fun k => zI ((g 7) k))))]) := by
  refine bw_Ci.of (cc := cX2_degreeOf) (maxL := 4) (ty := .int) (by decide) rfl (Nat.le_of_ble_eq_true rfl) ?_
  intro p e s m below meth c A Q hx hb hml hts hown hin hK hA hS hP hD hE ret ls hl
  have F : CallFix p m c cX2_degreeOf 4 s ([.ref b, .int (zI x)] : List Value).toArray bw_T RX2 := ⟨hx, hb, hml, hown, fun w h => hts w (List.mem_cons_of_mem _ h)⟩
  replace hl : lv_has ls 4 [(0, .ref b), (1, .int (zI x))] := hl
  have hN0 := hN.1
  refine lv_aload_n hx hb dX2_degreeOf_0 rfl (lv_at hl 0 rfl) ?_
  refine r_get F hK hP 0 8 rfl rfl in_X2 (by decide) k_169 rfl dX2_degreeOf_1 ?_
  refine lv_iconst (v := zI 2) hx hb dX2_degreeOf_4 rfl ?_
  refine lv_iload_n hx hb dX2_degreeOf_5 rfl (lv_at hl 1 rfl) ?_
  refine r_imul (v := zI (2 * x)) F dX2_degreeOf_6 (zI_mul _ _) ?_
  refine rz_iald F hK hP 8 0 rfl rfl (by omega) (by omega) dX2_degreeOf_7 ?_
  have h_l7_0 := hN.2.2.2.2.2.2.2.2 ((2 * x)).toNat (by omega)
  refine lv_aload_n hx hb dX2_degreeOf_8 rfl (lv_at hl 0 rfl) ?_
  refine r_get F hK hP 0 8 rfl rfl in_X2 (by decide) k_169 rfl dX2_degreeOf_9 ?_
  refine lv_iconst (v := zI 2) hx hb dX2_degreeOf_12 rfl ?_
  refine lv_iload_n hx hb dX2_degreeOf_13 rfl (lv_at hl 1 rfl) ?_
  refine r_imul (v := zI (2 * x)) F dX2_degreeOf_14 (zI_mul _ _) ?_
  refine lv_iconst (v := zI 1) hx hb dX2_degreeOf_15 rfl ?_
  refine r_iadd (v := zI ((2 * x) + 1)) F dX2_degreeOf_16 (zI_add _ _) ?_
  refine rz_iald F hK hP 8 0 rfl rfl (by omega) (by omega) dX2_degreeOf_17 ?_
  have h_l17_1 := hN.2.2.2.2.2.2.2.2 (((2 * x) + 1)).toNat (by omega)
  refine r_iadd (v := zI (((g 7) ((2 * x)).toNat) + ((g 7) (((2 * x) + 1)).toNat))) F dX2_degreeOf_18 (zI_add _ _) ?_
  refine lv_istore_n (lv' := [(2, .int (zI (((g 7) ((2 * x)).toNat) + ((g 7) (((2 * x) + 1)).toNat)))), (0, .ref b), (1, .int (zI x))]) hx hb dX2_degreeOf_19 rfl hl (by decide) rfl (fun ls hl => ?_)
  refine lv_iconst (v := zI 0) hx hb dX2_degreeOf_20 rfl ?_
  refine lv_istore_n (lv' := [(3, .int (zI 0)), (2, .int (zI (((g 7) ((2 * x)).toNat) + ((g 7) (((2 * x) + 1)).toNat)))), (0, .ref b), (1, .int (zI x))]) hx hb dX2_degreeOf_21 rfl hl (by decide) rfl (fun ls hl => ?_)
  refine W.widen (k := 0) (n := 0) (Nat.le_of_ble_eq_true rfl) (Nat.le_of_ble_eq_true rfl) ?_
  refine (?_ : ∀ (n9_1 : Nat) (v2 : Int) (v3 : Int) (H : Heap) (locs : List Loc), (0 ≤ v3 ∧ v3 ≤ 20) → (20 - v3 : Int).toNat < n9_1 → va_P G vwCl [(b, .inr (2, [.int (zI n), .ref (q 0), .ref (q 1), .ref (q 2), .ref (q 3), .ref (q 4), .ref (q 5), .ref (q 6), .ref (q 7)])), ((q 0), .inl (cI, 10, .inl (fun k => zI ((g 0) k)))), ((q 1), .inl (cI, 10, .inl (fun k => zI ((g 1) k)))), ((q 2), .inl (cI, 10, .inl (fun k => zI ((g 2) k)))), ((q 3), .inl (cI, 40, .inl (fun k => zI ((g 3) k)))), ((q 4), .inl (cI, 40, .inl (fun k => zI ((g 4) k)))), ((q 5), .inl (cI, 40, .inl (fun k => zI ((g 5) k)))), ((q 6), .inl (cI, 20, .inl (fun k => zI ((g 6) k)))), ((q 7), .inl (cI, 20, .inl (fun k => zI ((g 7) k))))] H → va_D A [(b, .inr (2, [.int (zI n), .ref (q 0), .ref (q 1), .ref (q 2), .ref (q 3), .ref (q 4), .ref (q 5), .ref (q 6), .ref (q 7)])), ((q 0), .inl (cI, 10, .inl (fun k => zI ((g 0) k)))), ((q 1), .inl (cI, 10, .inl (fun k => zI ((g 1) k)))), ((q 2), .inl (cI, 10, .inl (fun k => zI ((g 2) k)))), ((q 3), .inl (cI, 40, .inl (fun k => zI ((g 3) k)))), ((q 4), .inl (cI, 40, .inl (fun k => zI ((g 4) k)))), ((q 5), .inl (cI, 40, .inl (fun k => zI ((g 5) k)))), ((q 6), .inl (cI, 20, .inl (fun k => zI ((g 6) k)))), ((q 7), .inl (cI, 20, .inl (fun k => zI ((g 7) k))))] → va_S A s.heap H locs → ∀ ls : Array Slot, lv_has ls 4 [(3, .int (zI v3)), (2, .int (zI v2)), (0, .ref b), (1, .int (zI x))] → W p l e rm_X2_degreeOf s m ([.ref b, .int (zI x)] : List Value).toArray below meth c H locs 0 0 Q (F0 m 22 ls [])) ((20 - 0 : Int).toNat + 1) (((g 7) ((2 * x)).toNat) + ((g 7) (((2 * x) + 1)).toNat)) 0 _ _ (by omega) (by omega) hP hD hS ls hl
  clear hP hD hS hl ls
  intro n9_1
  induction n9_1 with
  | zero =>
    intro v2 v3 H locs hI hM
    exact absurd hM (by omega)
  | succ n9_1 ih1 =>
    intro v2 v3 H locs hI1 hM1  hP hD hS ls hl
    refine lv_iload_n hx hb dX2_degreeOf_22 rfl (lv_at hl 0 rfl) ?_
    refine lv_bipush (v := zI 20) hx hb dX2_degreeOf_23 (by decide) ?_
    refine rz_icmp_ge (tgt := 57) F (by omega) (by omega) dX2_degreeOf_25 (by decide) (fun h25_2 => ?_) (fun h25_2 => ?_)
    · refine lv_iload_n hx hb dX2_degreeOf_57 rfl (lv_at hl 1 rfl) ?_
      exact ret (zI v2) (fun _ => 0, fun _ _ => 0) _ _ _ _ _ _ rfl (zI_any v2) (bw_subP (isC := [0, 1, 2, 3, 4, 5, 6, 7, 8]) hP rfl) (hD.sub [0, 1, 2, 3, 4, 5, 6, 7, 8] (by decide) rfl) hS (Nat.le_of_ble_eq_true rfl) (Nat.le_of_ble_eq_true rfl) dX2_degreeOf_58
    · refine lv_iload_n hx hb dX2_degreeOf_28 rfl (lv_at hl 1 rfl) ?_
      refine lv_aload_n hx hb dX2_degreeOf_29 rfl (lv_at hl 2 rfl) ?_
      refine r_get F hK hP 0 7 rfl rfl in_X2 (by decide) k_165 rfl dX2_degreeOf_30 ?_
      refine lv_iload_n hx hb dX2_degreeOf_33 rfl (lv_at hl 0 rfl) ?_
      refine rz_iald F hK hP 7 0 rfl rfl (by omega) (by omega) dX2_degreeOf_34 ?_
      have h_l34_3 := hN.2.2.2.2.2.2.2.1 (v3).toNat (by omega)
      refine lv_iload_n hx hb dX2_degreeOf_35 rfl (lv_at hl 3 rfl) ?_
      refine rz_icmp_ne (tgt := 48) F (by omega) (by omega) dX2_degreeOf_36 (by decide) (fun h36_4 => ?_) (fun h36_4 => ?_)
      · refine lv_iconst (v := zI 0) hx hb dX2_degreeOf_48 rfl ?_
        refine r_isub (v := zI (v2 - 0)) F dX2_degreeOf_49 (zI_sub _ _) ?_
        refine lv_istore_n (lv' := [(2, .int (zI (v2 - 0))), (3, .int (zI v3)), (0, .ref b), (1, .int (zI x))]) hx hb dX2_degreeOf_50 rfl hl (by decide) rfl (fun ls hl => ?_)
        refine lv_iinc (v := zI (v3 + 1)) (lv' := [(3, .int (zI (v3 + 1))), (2, .int (zI (v2 - 0))), (0, .ref b), (1, .int (zI x))]) hx hb dX2_degreeOf_51 hl (k := 1) rfl (zI_add _ _) (by decide) rfl (fun ls hl => ?_)
        refine lv_goto (tgt := 22) hx hb dX2_degreeOf_54 (by decide) ?_
        exact ih1 (v2 - 0) (v3 + 1) _ _ (by omega) (by omega) hP hD hS ls (lv_sub hl [0, 1, 2, 3] rfl)
      · refine lv_aload_n hx hb dX2_degreeOf_39 rfl (lv_at hl 2 rfl) ?_
        refine r_get F hK hP 0 8 rfl rfl in_X2 (by decide) k_169 rfl dX2_degreeOf_40 ?_
        refine lv_iload_n hx hb dX2_degreeOf_43 rfl (lv_at hl 0 rfl) ?_
        refine rz_iald F hK hP 8 0 rfl rfl (by omega) (by omega) dX2_degreeOf_44 ?_
        have h_l44_5 := hN.2.2.2.2.2.2.2.2 (v3).toNat (by omega)
        refine lv_goto (tgt := 49) hx hb dX2_degreeOf_45 (by decide) ?_
        refine r_isub (v := zI (v2 - ((g 7) (v3).toNat))) F dX2_degreeOf_49 (zI_sub _ _) ?_
        refine lv_istore_n (lv' := [(2, .int (zI (v2 - ((g 7) (v3).toNat)))), (3, .int (zI v3)), (0, .ref b), (1, .int (zI x))]) hx hb dX2_degreeOf_50 rfl hl (by decide) rfl (fun ls hl => ?_)
        refine lv_iinc (v := zI (v3 + 1)) (lv' := [(3, .int (zI (v3 + 1))), (2, .int (zI (v2 - ((g 7) (v3).toNat)))), (0, .ref b), (1, .int (zI x))]) hx hb dX2_degreeOf_51 hl (k := 1) rfl (zI_add _ _) (by decide) rfl (fun ls hl => ?_)
        refine lv_goto (tgt := 22) hx hb dX2_degreeOf_54 (by decide) ?_
        exact ih1 (v2 - ((g 7) (v3).toNat)) (v3 + 1) _ _ (by omega) (by omega) hP hD hS ls (lv_sub hl [0, 1, 2, 3] rfl)
theorem dX2_reach_0 : decode cX2_reach 0 = .ok (.iconst 1, 1) := bo_4 (by decide +kernel)
theorem dX2_reach_1 : decode cX2_reach 1 = .ok (.istore_n 2, 1) := bo_61 (by decide +kernel)
theorem dX2_reach_2 : decode cX2_reach 2 = .ok (.iconst 0, 1) := bo_3 (by decide +kernel)
theorem dX2_reach_3 : decode cX2_reach 3 = .ok (.istore_n 3, 1) := bo_62 (by decide +kernel)
theorem dX2_reach_4 : decode cX2_reach 4 = .ok (.iload_n 3, 1) := bo_29 (by decide +kernel)
theorem dX2_reach_5 : decode cX2_reach 5 = .ok (.aload_n 0, 1) := bo_42 (by decide +kernel)
theorem dX2_reach_6 : decode cX2_reach 6 = .ok (.getfield 9, 3) := bo_180 0 9 (by decide +kernel)
theorem dX2_reach_9 : decode cX2_reach 9 = .ok (.if_icmp .ge 64, 3) := bo_162 0 64 (by decide +kernel)
theorem dX2_reach_73 : decode cX2_reach 73 = .ok (.iload_n 2, 1) := bo_28 (by decide +kernel)
theorem dX2_reach_74 : decode cX2_reach 74 = .ok (.ireturn, 1) := bo_172 (by decide +kernel)
theorem dX2_reach_12 : decode cX2_reach 12 = .ok (.iconst 0, 1) := bo_3 (by decide +kernel)
theorem dX2_reach_13 : decode cX2_reach 13 = .ok (.istore 4, 2) := bo_54 (by decide +kernel)
theorem dX2_reach_15 : decode cX2_reach 15 = .ok (.iload 4, 2) := bo_21 (by decide +kernel)
theorem dX2_reach_17 : decode cX2_reach 17 = .ok (.bipush 20, 2) := bo_16 20 (by decide +kernel)
theorem dX2_reach_19 : decode cX2_reach 19 = .ok (.if_icmp .ge 48, 3) := bo_162 0 48 (by decide +kernel)
theorem dX2_reach_67 : decode cX2_reach 67 = .ok (.iinc 3 1, 3) := bo_132 3 1 (by decide +kernel)
theorem dX2_reach_70 : decode cX2_reach 70 = .ok (.goto (-66), 3) := bo_167 255 190 (by decide +kernel)
theorem dX2_reach_22 : decode cX2_reach 22 = .ok (.aload_n 0, 1) := bo_42 (by decide +kernel)
theorem dX2_reach_23 : decode cX2_reach 23 = .ok (.iload 4, 2) := bo_21 (by decide +kernel)
theorem dX2_reach_25 : decode cX2_reach 25 = .ok (.invokevirtual 67, 3) := bo_182 0 67 (by decide +kernel)
theorem dX2_reach_28 : decode cX2_reach 28 = .ok (.ifCond .eq 33, 3) := bo_153 0 33 (by decide +kernel)
theorem dX2_reach_61 : decode cX2_reach 61 = .ok (.iinc 4 1, 3) := bo_132 4 1 (by decide +kernel)
theorem dX2_reach_64 : decode cX2_reach 64 = .ok (.goto (-49), 3) := bo_167 255 207 (by decide +kernel)
theorem dX2_reach_31 : decode cX2_reach 31 = .ok (.iload 4, 2) := bo_21 (by decide +kernel)
theorem dX2_reach_33 : decode cX2_reach 33 = .ok (.iload_n 1, 1) := bo_27 (by decide +kernel)
theorem dX2_reach_34 : decode cX2_reach 34 = .ok (.if_icmp .eq 27, 3) := bo_159 0 27 (by decide +kernel)
theorem dX2_reach_37 : decode cX2_reach 37 = .ok (.iload_n 2, 1) := bo_28 (by decide +kernel)
theorem dX2_reach_38 : decode cX2_reach 38 = .ok (.iload 4, 2) := bo_21 (by decide +kernel)
theorem dX2_reach_40 : decode cX2_reach 40 = .ok (.iconst 2, 1) := bo_5 (by decide +kernel)
theorem dX2_reach_41 : decode cX2_reach 41 = .ok (.idiv, 1) := bo_108 (by decide +kernel)
theorem dX2_reach_42 : decode cX2_reach 42 = .ok (.ishr, 1) := bo_122 (by decide +kernel)
theorem dX2_reach_43 : decode cX2_reach 43 = .ok (.iconst 1, 1) := bo_4 (by decide +kernel)
theorem dX2_reach_44 : decode cX2_reach 44 = .ok (.iand, 1) := bo_126 (by decide +kernel)
theorem dX2_reach_45 : decode cX2_reach 45 = .ok (.iconst 1, 1) := bo_4 (by decide +kernel)
theorem dX2_reach_46 : decode cX2_reach 46 = .ok (.if_icmp .ne 15, 3) := bo_160 0 15 (by decide +kernel)
theorem dX2_reach_49 : decode cX2_reach 49 = .ok (.iload_n 2, 1) := bo_28 (by decide +kernel)
theorem dX2_reach_50 : decode cX2_reach 50 = .ok (.iconst 1, 1) := bo_4 (by decide +kernel)
theorem dX2_reach_51 : decode cX2_reach 51 = .ok (.aload_n 0, 1) := bo_42 (by decide +kernel)
theorem dX2_reach_52 : decode cX2_reach 52 = .ok (.getfield 34, 3) := bo_180 0 34 (by decide +kernel)
theorem dX2_reach_55 : decode cX2_reach 55 = .ok (.iload 4, 2) := bo_21 (by decide +kernel)
theorem dX2_reach_57 : decode cX2_reach 57 = .ok (.iaload, 1) := bo_46 (by decide +kernel)
theorem dX2_reach_58 : decode cX2_reach 58 = .ok (.ishl, 1) := bo_120 (by decide +kernel)
theorem dX2_reach_59 : decode cX2_reach 59 = .ok (.ior, 1) := bo_128 (by decide +kernel)
theorem dX2_reach_60 : decode cX2_reach 60 = .ok (.istore_n 2, 1) := bo_61 (by decide +kernel)
abbrev rm_X2_reach : Room := { frames := 1, cells := 0, slots := 0, locals := 21 }
set_option maxRecDepth 100000 in
set_option maxHeartbeats 8000000 in
theorem c_X2_reach {l : Launch} {E : (Nat → Prop) → State → Prop} (hO : bw_Ok E) {G : va_G} {cI cB cJ cN cW : ClassId} (b : Nat) (q : Nat → Nat) (n : Int) (g : Nat → Nat → Int) (hN : NetOk n g) (x : Int) (hx9 : zR x) : bw_Ci (S := zU) l yX2_reach (bw_ws (Cond.code yX2_reach cX2_reach 5 (some .int))) rm_X2_reach E G (bw_kt cI cB cJ cN cW) [.ref b, .int (zI x)] [(b, .inr (2, [.int (zI n), .ref (q 0), .ref (q 1), .ref (q 2), .ref (q 3), .ref (q 4), .ref (q 5), .ref (q 6), .ref (q 7)])), ((q 0), .inl (cI, 10, .inl (fun k => zI ((g 0) k)))), ((q 1), .inl (cI, 10, .inl (fun k => zI ((g 1) k)))), ((q 2), .inl (cI, 10, .inl (fun k => zI ((g 2) k)))), ((q 3), .inl (cI, 40, .inl (fun k => zI ((g 3) k)))), ((q 4), .inl (cI, 40, .inl (fun k => zI ((g 4) k)))), ((q 5), .inl (cI, 40, .inl (fun k => zI ((g 5) k)))), ((q 6), .inl (cI, 20, .inl (fun k => zI ((g 6) k)))), ((q 7), .inl (cI, 20, .inl (fun k => zI ((g 7) k))))] (fun r _ => ∃ z : Int, r = zI z ∧ zR z) (fun _ => [(b, .inr (2, [.int (zI n), .ref (q 0), .ref (q 1), .ref (q 2), .ref (q 3), .ref (q 4), .ref (q 5), .ref (q 6), .ref (q 7)])), ((q 0), .inl (cI, 10, .inl (fun k => zI ((g 0) k)))), ((q 1), .inl (cI, 10, .inl (fun k => zI ((g 1) k)))), ((q 2), .inl (cI, 10, .inl (fun k => zI ((g 2) k)))), ((q 3), .inl (cI, 40, .inl (fun k => zI ((g 3) k)))), ((q 4), .inl (cI, 40, .inl (fun k => zI ((g 4) k)))), ((q 5), .inl (cI, 40, .inl (fun k => zI ((g 5) k)))), ((q 6), .inl (cI, 20, .inl (fun k => zI ((g 6) k)))), ((q 7), .inl (cI, 20, .inl (fun k => zI ((g 7) k))))]) := by
  refine bw_Ci.of (cc := cX2_reach) (maxL := 5) (ty := .int) (by decide) rfl (Nat.le_of_ble_eq_true rfl) ?_
  intro p e s m below meth c A Q hx hb hml hts hown hin hK hA hS hP hD hE ret ls hl
  have F : CallFix p m c cX2_reach 5 s ([.ref b, .int (zI x)] : List Value).toArray bw_T RX2 := ⟨hx, hb, hml, hown, fun w h => hts w (List.mem_cons_of_mem _ h)⟩
  replace hl : lv_has ls 5 [(0, .ref b), (1, .int (zI x))] := hl
  have hN0 := hN.1
  refine lv_iconst (v := zI 1) hx hb dX2_reach_0 rfl ?_
  refine lv_istore_n (lv' := [(2, .int (zI 1)), (0, .ref b), (1, .int (zI x))]) hx hb dX2_reach_1 rfl hl (by decide) rfl (fun ls hl => ?_)
  refine lv_iconst (v := zI 0) hx hb dX2_reach_2 rfl ?_
  refine lv_istore_n (lv' := [(3, .int (zI 0)), (2, .int (zI 1)), (0, .ref b), (1, .int (zI x))]) hx hb dX2_reach_3 rfl hl (by decide) rfl (fun ls hl => ?_)
  refine W.widen (k := 0) (n := 0) (Nat.le_of_ble_eq_true rfl) (Nat.le_of_ble_eq_true rfl) ?_
  refine (?_ : ∀ (n9_1 : Nat) (v2 : Int) (v3 : Int) (H : Heap) (locs : List Loc), (0 ≤ v3 ∧ v3 ≤ n) → (n - v3 : Int).toNat < n9_1 → va_P G vwCl [(b, .inr (2, [.int (zI n), .ref (q 0), .ref (q 1), .ref (q 2), .ref (q 3), .ref (q 4), .ref (q 5), .ref (q 6), .ref (q 7)])), ((q 0), .inl (cI, 10, .inl (fun k => zI ((g 0) k)))), ((q 1), .inl (cI, 10, .inl (fun k => zI ((g 1) k)))), ((q 2), .inl (cI, 10, .inl (fun k => zI ((g 2) k)))), ((q 3), .inl (cI, 40, .inl (fun k => zI ((g 3) k)))), ((q 4), .inl (cI, 40, .inl (fun k => zI ((g 4) k)))), ((q 5), .inl (cI, 40, .inl (fun k => zI ((g 5) k)))), ((q 6), .inl (cI, 20, .inl (fun k => zI ((g 6) k)))), ((q 7), .inl (cI, 20, .inl (fun k => zI ((g 7) k))))] H → va_D A [(b, .inr (2, [.int (zI n), .ref (q 0), .ref (q 1), .ref (q 2), .ref (q 3), .ref (q 4), .ref (q 5), .ref (q 6), .ref (q 7)])), ((q 0), .inl (cI, 10, .inl (fun k => zI ((g 0) k)))), ((q 1), .inl (cI, 10, .inl (fun k => zI ((g 1) k)))), ((q 2), .inl (cI, 10, .inl (fun k => zI ((g 2) k)))), ((q 3), .inl (cI, 40, .inl (fun k => zI ((g 3) k)))), ((q 4), .inl (cI, 40, .inl (fun k => zI ((g 4) k)))), ((q 5), .inl (cI, 40, .inl (fun k => zI ((g 5) k)))), ((q 6), .inl (cI, 20, .inl (fun k => zI ((g 6) k)))), ((q 7), .inl (cI, 20, .inl (fun k => zI ((g 7) k))))] → va_S A s.heap H locs → ∀ ls : Array Slot, lv_has ls 5 [(3, .int (zI v3)), (2, .int (zI v2)), (0, .ref b), (1, .int (zI x))] → W p l e rm_X2_reach s m ([.ref b, .int (zI x)] : List Value).toArray below meth c H locs 0 0 Q (F0 m 4 ls [])) ((n - 0 : Int).toNat + 1) 1 0 _ _ (by omega) (by omega) hP hD hS ls hl
  clear hP hD hS hl ls
  intro n9_1
  induction n9_1 with
  | zero =>
    intro v2 v3 H locs hI hM
    exact absurd hM (by omega)
  | succ n9_1 ih1 =>
    intro v2 v3 H locs hI1 hM1  hP hD hS ls hl
    refine lv_iload_n hx hb dX2_reach_4 rfl (lv_at hl 0 rfl) ?_
    refine lv_aload_n hx hb dX2_reach_5 rfl (lv_at hl 2 rfl) ?_
    refine r_get F hK hP 0 0 rfl rfl in_X2 (by decide) k_144 rfl dX2_reach_6 ?_
    refine rz_icmp_ge (tgt := 73) F (by omega) (by omega) dX2_reach_9 (by decide) (fun h9_0 => ?_) (fun h9_0 => ?_)
    · refine lv_iload_n hx hb dX2_reach_73 rfl (lv_at hl 1 rfl) ?_
      exact ret (zI v2) (fun _ => 0, fun _ _ => 0) _ _ _ _ _ _ rfl (zI_any v2) (bw_subP (isC := [0, 1, 2, 3, 4, 5, 6, 7, 8]) hP rfl) (hD.sub [0, 1, 2, 3, 4, 5, 6, 7, 8] (by decide) rfl) hS (Nat.le_of_ble_eq_true rfl) (Nat.le_of_ble_eq_true rfl) dX2_reach_74
    · refine lv_iconst (v := zI 0) hx hb dX2_reach_12 rfl ?_
      refine lv_istore (lv' := [(4, .int (zI 0)), (3, .int (zI v3)), (2, .int (zI v2)), (0, .ref b), (1, .int (zI x))]) hx hb dX2_reach_13 hl (by decide) rfl (fun ls hl => ?_)
      refine W.widen (k := 0) (n := 0) (Nat.le_of_ble_eq_true rfl) (Nat.le_of_ble_eq_true rfl) ?_
      refine (?_ : ∀ (n9_2 : Nat) (v2 : Int) (v4 : Int) (H : Heap) (locs : List Loc), (0 ≤ v4 ∧ v4 ≤ 20) → (20 - v4 : Int).toNat < n9_2 → va_P G vwCl [(b, .inr (2, [.int (zI n), .ref (q 0), .ref (q 1), .ref (q 2), .ref (q 3), .ref (q 4), .ref (q 5), .ref (q 6), .ref (q 7)])), ((q 0), .inl (cI, 10, .inl (fun k => zI ((g 0) k)))), ((q 1), .inl (cI, 10, .inl (fun k => zI ((g 1) k)))), ((q 2), .inl (cI, 10, .inl (fun k => zI ((g 2) k)))), ((q 3), .inl (cI, 40, .inl (fun k => zI ((g 3) k)))), ((q 4), .inl (cI, 40, .inl (fun k => zI ((g 4) k)))), ((q 5), .inl (cI, 40, .inl (fun k => zI ((g 5) k)))), ((q 6), .inl (cI, 20, .inl (fun k => zI ((g 6) k)))), ((q 7), .inl (cI, 20, .inl (fun k => zI ((g 7) k))))] H → va_D A [(b, .inr (2, [.int (zI n), .ref (q 0), .ref (q 1), .ref (q 2), .ref (q 3), .ref (q 4), .ref (q 5), .ref (q 6), .ref (q 7)])), ((q 0), .inl (cI, 10, .inl (fun k => zI ((g 0) k)))), ((q 1), .inl (cI, 10, .inl (fun k => zI ((g 1) k)))), ((q 2), .inl (cI, 10, .inl (fun k => zI ((g 2) k)))), ((q 3), .inl (cI, 40, .inl (fun k => zI ((g 3) k)))), ((q 4), .inl (cI, 40, .inl (fun k => zI ((g 4) k)))), ((q 5), .inl (cI, 40, .inl (fun k => zI ((g 5) k)))), ((q 6), .inl (cI, 20, .inl (fun k => zI ((g 6) k)))), ((q 7), .inl (cI, 20, .inl (fun k => zI ((g 7) k))))] → va_S A s.heap H locs → ∀ ls : Array Slot, lv_has ls 5 [(4, .int (zI v4)), (3, .int (zI v3)), (2, .int (zI v2)), (0, .ref b), (1, .int (zI x))] → W p l e rm_X2_reach s m ([.ref b, .int (zI x)] : List Value).toArray below meth c H locs 0 0 Q (F0 m 15 ls [])) ((20 - 0 : Int).toNat + 1) v2 0 _ _ (by omega) (by omega) hP hD hS ls hl
      clear hP hD hS hl ls
      intro n9_2
      induction n9_2 with
      | zero =>
        intro v2 v4 H locs hI hM
        exact absurd hM (by omega)
      | succ n9_2 ih2 =>
        intro v2 v4 H locs hI2 hM2  hP hD hS ls hl
        refine lv_iload hx hb dX2_reach_15 (lv_at hl 0 rfl) ?_
        refine lv_bipush (v := zI 20) hx hb dX2_reach_17 (by decide) ?_
        refine rz_icmp_ge (tgt := 67) F (by omega) (by omega) dX2_reach_19 (by decide) (fun h19_1 => ?_) (fun h19_1 => ?_)
        · refine lv_iinc (v := zI (v3 + 1)) (lv' := [(3, .int (zI (v3 + 1))), (4, .int (zI v4)), (2, .int (zI v2)), (0, .ref b), (1, .int (zI x))]) hx hb dX2_reach_67 hl (k := 1) rfl (zI_add _ _) (by decide) rfl (fun ls hl => ?_)
          refine lv_goto (tgt := 4) hx hb dX2_reach_70 (by decide) ?_
          exact ih1 v2 (v3 + 1) _ _ (by omega) (by omega) hP hD hS ls (lv_sub hl [0, 2, 3, 4] rfl)
        · refine lv_aload_n hx hb dX2_reach_22 rfl (lv_at hl 3 rfl) ?_
          refine lv_iload hx hb dX2_reach_23 (lv_at hl 0 rfl) ?_
          refine r_callVi (As := [.int (zI v4)]) (rest := []) (wr := []) F hK hP hD hS hA hO hE (c_X2_hasWay hO b q n g hN v4 (by omega)) k_801 kv_X2_hasWay 1 rfl (by decide +kernel) ⟨Nat.le_of_ble_eq_true rfl, Nat.le_of_ble_eq_true rfl⟩ [0, 1, 2, 3, 4, 5, 6, 7, 8] [] rfl rfl (by decide) (by decide) (by decide) 0 2 rfl rfl rfl hl.1 rfl (Nat.le_of_ble_eq_true rfl) dX2_reach_25 ⟨Nat.le_of_ble_eq_true rfl, Nat.le_of_ble_eq_true rfl⟩ (w1 := fun u3 => [(b, .inr (2, [.int (zI n), .ref (q 0), .ref (q 1), .ref (q 2), .ref (q 3), .ref (q 4), .ref (q 5), .ref (q 6), .ref (q 7)])), ((q 0), .inl (cI, 10, .inl (fun k => zI ((g 0) k)))), ((q 1), .inl (cI, 10, .inl (fun k => zI ((g 1) k)))), ((q 2), .inl (cI, 10, .inl (fun k => zI ((g 2) k)))), ((q 3), .inl (cI, 40, .inl (fun k => zI ((g 3) k)))), ((q 4), .inl (cI, 40, .inl (fun k => zI ((g 4) k)))), ((q 5), .inl (cI, 40, .inl (fun k => zI ((g 5) k)))), ((q 6), .inl (cI, 20, .inl (fun k => zI ((g 6) k)))), ((q 7), .inl (cI, 20, .inl (fun k => zI ((g 7) k))))]) (fun _ => rfl) (fun r4 u3 H locs hp5 hP hD hS => ?_)
          obtain ⟨z6, rfl, h_z6⟩ := hp5
          refine rz_if_eq (tgt := 61) F (by omega) dX2_reach_28 (by decide) (fun h28_6 => ?_) (fun h28_6 => ?_)
          · refine lv_iinc (v := zI (v4 + 1)) (lv' := [(4, .int (zI (v4 + 1))), (3, .int (zI v3)), (2, .int (zI v2)), (0, .ref b), (1, .int (zI x))]) hx hb dX2_reach_61 hl (k := 0) rfl (zI_add _ _) (by decide) rfl (fun ls hl => ?_)
            refine lv_goto (tgt := 15) hx hb dX2_reach_64 (by decide) ?_
            exact ih2 v2 (v4 + 1) _ _ (by omega) (by omega) hP hD hS ls (lv_sub hl [0, 1, 2, 3, 4] rfl)
          · refine lv_iload hx hb dX2_reach_31 (lv_at hl 0 rfl) ?_
            refine lv_iload_n hx hb dX2_reach_33 rfl (lv_at hl 4 rfl) ?_
            refine rz_icmp_eq (tgt := 61) F (by omega) (by omega) dX2_reach_34 (by decide) (fun h34_7 => ?_) (fun h34_7 => ?_)
            · refine lv_iinc (v := zI (v4 + 1)) (lv' := [(4, .int (zI (v4 + 1))), (3, .int (zI v3)), (2, .int (zI v2)), (0, .ref b), (1, .int (zI x))]) hx hb dX2_reach_61 hl (k := 0) rfl (zI_add _ _) (by decide) rfl (fun ls hl => ?_)
              refine lv_goto (tgt := 15) hx hb dX2_reach_64 (by decide) ?_
              exact ih2 v2 (v4 + 1) _ _ (by omega) (by omega) hP hD hS ls (lv_sub hl [0, 1, 2, 3, 4] rfl)
            · refine lv_iload_n hx hb dX2_reach_37 rfl (lv_at hl 2 rfl) ?_
              refine lv_iload hx hb dX2_reach_38 (lv_at hl 0 rfl) ?_
              refine lv_iconst (v := zI 2) hx hb dX2_reach_40 rfl ?_
              refine rz_idiv F (by omega) (by omega) dX2_reach_41 (fun z9 h_z9 => ?_)
              refine lv_ishr hx hb dX2_reach_42 ?_
              refine rz_top (fun z10 h_z10 => ?_)
              refine lv_iconst (v := zI 1) hx hb dX2_reach_43 rfl ?_
              refine lv_iand hx hb dX2_reach_44 ?_
              refine rz_top (fun z11 h_z11 => ?_)
              refine lv_iconst (v := zI 1) hx hb dX2_reach_45 rfl ?_
              refine rz_icmp_ne (tgt := 61) F (by omega) (by omega) dX2_reach_46 (by decide) (fun h46_11 => ?_) (fun h46_11 => ?_)
              · refine lv_iinc (v := zI (v4 + 1)) (lv' := [(4, .int (zI (v4 + 1))), (3, .int (zI v3)), (2, .int (zI v2)), (0, .ref b), (1, .int (zI x))]) hx hb dX2_reach_61 hl (k := 0) rfl (zI_add _ _) (by decide) rfl (fun ls hl => ?_)
                refine lv_goto (tgt := 15) hx hb dX2_reach_64 (by decide) ?_
                exact ih2 v2 (v4 + 1) _ _ (by omega) (by omega) hP hD hS ls (lv_sub hl [0, 1, 2, 3, 4] rfl)
              · refine lv_iload_n hx hb dX2_reach_49 rfl (lv_at hl 2 rfl) ?_
                refine lv_iconst (v := zI 1) hx hb dX2_reach_50 rfl ?_
                refine lv_aload_n hx hb dX2_reach_51 rfl (lv_at hl 3 rfl) ?_
                refine r_get F hK hP 0 7 rfl rfl in_X2 (by decide) k_165 rfl dX2_reach_52 ?_
                refine lv_iload hx hb dX2_reach_55 (lv_at hl 0 rfl) ?_
                refine rz_iald F hK hP 7 0 rfl rfl (by omega) (by omega) dX2_reach_57 ?_
                have h_l57_12 := hN.2.2.2.2.2.2.2.1 (v4).toNat (by omega)
                refine lv_ishl hx hb dX2_reach_58 ?_
                refine rz_top (fun z14 h_z14 => ?_)
                refine lv_ior hx hb dX2_reach_59 ?_
                refine rz_top (fun z15 h_z15 => ?_)
                refine lv_istore_n (lv' := [(2, .int (zI z15)), (4, .int (zI v4)), (3, .int (zI v3)), (0, .ref b), (1, .int (zI x))]) hx hb dX2_reach_60 rfl hl (by decide) rfl (fun ls hl => ?_)
                refine lv_iinc (v := zI (v4 + 1)) (lv' := [(4, .int (zI (v4 + 1))), (2, .int (zI z15)), (3, .int (zI v3)), (0, .ref b), (1, .int (zI x))]) hx hb dX2_reach_61 hl (k := 1) rfl (zI_add _ _) (by decide) rfl (fun ls hl => ?_)
                refine lv_goto (tgt := 15) hx hb dX2_reach_64 (by decide) ?_
                exact ih2 z15 (v4 + 1) _ _ (by omega) (by omega) hP hD hS ls (lv_sub hl [0, 2, 1, 3, 4] rfl)
theorem dX2_keyWays_0 : decode cX2_keyWays 0 = .ok (.aload_n 0, 1) := bo_42 (by decide +kernel)
theorem dX2_keyWays_1 : decode cX2_keyWays 1 = .ok (.iconst (-1), 1) := bo_2 (by decide +kernel)
theorem dX2_keyWays_2 : decode cX2_keyWays 2 = .ok (.invokevirtual 70, 3) := bo_182 0 70 (by decide +kernel)
theorem k_924 : Cond.methodLink RX2 70 yX2_reach ∈ bw_T := bw_m 924 (by decide +kernel) rfl
theorem kv_X2_reach : bw_KV RX2 yX2_reach (Cond.code yX2_reach cX2_reach 5 (some .int)) := ⟨bw_m 856 (by decide +kernel) rfl, bw_m 857 (by decide +kernel) rfl, bw_m 96 (by decide +kernel) rfl, bw_m 858 (by decide +kernel) rfl⟩
theorem dX2_keyWays_5 : decode cX2_keyWays 5 = .ok (.istore_n 1, 1) := bo_60 (by decide +kernel)
theorem dX2_keyWays_6 : decode cX2_keyWays 6 = .ok (.iconst 0, 1) := bo_3 (by decide +kernel)
theorem dX2_keyWays_7 : decode cX2_keyWays 7 = .ok (.istore_n 2, 1) := bo_61 (by decide +kernel)
theorem dX2_keyWays_8 : decode cX2_keyWays 8 = .ok (.iconst 0, 1) := bo_3 (by decide +kernel)
theorem dX2_keyWays_9 : decode cX2_keyWays 9 = .ok (.istore_n 3, 1) := bo_62 (by decide +kernel)
theorem dX2_keyWays_10 : decode cX2_keyWays 10 = .ok (.iload_n 3, 1) := bo_29 (by decide +kernel)
theorem dX2_keyWays_11 : decode cX2_keyWays 11 = .ok (.bipush 20, 2) := bo_16 20 (by decide +kernel)
theorem dX2_keyWays_13 : decode cX2_keyWays 13 = .ok (.if_icmp .ge 32, 3) := bo_162 0 32 (by decide +kernel)
theorem dX2_keyWays_45 : decode cX2_keyWays 45 = .ok (.iload_n 2, 1) := bo_28 (by decide +kernel)
theorem dX2_keyWays_46 : decode cX2_keyWays 46 = .ok (.ireturn, 1) := bo_172 (by decide +kernel)
theorem dX2_keyWays_16 : decode cX2_keyWays 16 = .ok (.aload_n 0, 1) := bo_42 (by decide +kernel)
theorem dX2_keyWays_17 : decode cX2_keyWays 17 = .ok (.iload_n 3, 1) := bo_29 (by decide +kernel)
theorem dX2_keyWays_18 : decode cX2_keyWays 18 = .ok (.invokevirtual 67, 3) := bo_182 0 67 (by decide +kernel)
theorem dX2_keyWays_21 : decode cX2_keyWays 21 = .ok (.ifCond .eq 18, 3) := bo_153 0 18 (by decide +kernel)
theorem dX2_keyWays_39 : decode cX2_keyWays 39 = .ok (.iinc 3 1, 3) := bo_132 3 1 (by decide +kernel)
theorem dX2_keyWays_42 : decode cX2_keyWays 42 = .ok (.goto (-32), 3) := bo_167 255 224 (by decide +kernel)
theorem dX2_keyWays_24 : decode cX2_keyWays 24 = .ok (.aload_n 0, 1) := bo_42 (by decide +kernel)
theorem dX2_keyWays_25 : decode cX2_keyWays 25 = .ok (.iload_n 3, 1) := bo_29 (by decide +kernel)
theorem dX2_keyWays_26 : decode cX2_keyWays 26 = .ok (.invokevirtual 70, 3) := bo_182 0 70 (by decide +kernel)
theorem dX2_keyWays_29 : decode cX2_keyWays 29 = .ok (.iload_n 1, 1) := bo_27 (by decide +kernel)
theorem dX2_keyWays_30 : decode cX2_keyWays 30 = .ok (.if_icmp .eq 9, 3) := bo_159 0 9 (by decide +kernel)
theorem dX2_keyWays_33 : decode cX2_keyWays 33 = .ok (.iload_n 2, 1) := bo_28 (by decide +kernel)
theorem dX2_keyWays_34 : decode cX2_keyWays 34 = .ok (.iconst 1, 1) := bo_4 (by decide +kernel)
theorem dX2_keyWays_35 : decode cX2_keyWays 35 = .ok (.iload_n 3, 1) := bo_29 (by decide +kernel)
theorem dX2_keyWays_36 : decode cX2_keyWays 36 = .ok (.ishl, 1) := bo_120 (by decide +kernel)
theorem dX2_keyWays_37 : decode cX2_keyWays 37 = .ok (.ior, 1) := bo_128 (by decide +kernel)
theorem dX2_keyWays_38 : decode cX2_keyWays 38 = .ok (.istore_n 2, 1) := bo_61 (by decide +kernel)
abbrev rm_X2_keyWays : Room := { frames := 2, cells := 0, slots := 0, locals := 45 }
set_option maxRecDepth 100000 in
set_option maxHeartbeats 8000000 in
theorem c_X2_keyWays {l : Launch} {E : (Nat → Prop) → State → Prop} (hO : bw_Ok E) {G : va_G} {cI cB cJ cN cW : ClassId} (b : Nat) (q : Nat → Nat) (n : Int) (g : Nat → Nat → Int) (hN : NetOk n g) : bw_Ci (S := zU) l yX2_keyWays (bw_ws (Cond.code yX2_keyWays cX2_keyWays 4 (some .int))) rm_X2_keyWays E G (bw_kt cI cB cJ cN cW) [.ref b] [(b, .inr (2, [.int (zI n), .ref (q 0), .ref (q 1), .ref (q 2), .ref (q 3), .ref (q 4), .ref (q 5), .ref (q 6), .ref (q 7)])), ((q 0), .inl (cI, 10, .inl (fun k => zI ((g 0) k)))), ((q 1), .inl (cI, 10, .inl (fun k => zI ((g 1) k)))), ((q 2), .inl (cI, 10, .inl (fun k => zI ((g 2) k)))), ((q 3), .inl (cI, 40, .inl (fun k => zI ((g 3) k)))), ((q 4), .inl (cI, 40, .inl (fun k => zI ((g 4) k)))), ((q 5), .inl (cI, 40, .inl (fun k => zI ((g 5) k)))), ((q 6), .inl (cI, 20, .inl (fun k => zI ((g 6) k)))), ((q 7), .inl (cI, 20, .inl (fun k => zI ((g 7) k))))] (fun r _ => ∃ z : Int, r = zI z ∧ zR z) (fun _ => [(b, .inr (2, [.int (zI n), .ref (q 0), .ref (q 1), .ref (q 2), .ref (q 3), .ref (q 4), .ref (q 5), .ref (q 6), .ref (q 7)])), ((q 0), .inl (cI, 10, .inl (fun k => zI ((g 0) k)))), ((q 1), .inl (cI, 10, .inl (fun k => zI ((g 1) k)))), ((q 2), .inl (cI, 10, .inl (fun k => zI ((g 2) k)))), ((q 3), .inl (cI, 40, .inl (fun k => zI ((g 3) k)))), ((q 4), .inl (cI, 40, .inl (fun k => zI ((g 4) k)))), ((q 5), .inl (cI, 40, .inl (fun k => zI ((g 5) k)))), ((q 6), .inl (cI, 20, .inl (fun k => zI ((g 6) k)))), ((q 7), .inl (cI, 20, .inl (fun k => zI ((g 7) k))))]) := by
  refine bw_Ci.of (cc := cX2_keyWays) (maxL := 4) (ty := .int) (by decide) rfl (Nat.le_of_ble_eq_true rfl) ?_
  intro p e s m below meth c A Q hx hb hml hts hown hin hK hA hS hP hD hE ret ls hl
  have F : CallFix p m c cX2_keyWays 4 s ([.ref b] : List Value).toArray bw_T RX2 := ⟨hx, hb, hml, hown, fun w h => hts w (List.mem_cons_of_mem _ h)⟩
  replace hl : lv_has ls 4 [(0, .ref b)] := hl
  have hN0 := hN.1
  refine lv_aload_n hx hb dX2_keyWays_0 rfl (lv_at hl 0 rfl) ?_
  refine lv_iconst (v := zI (-1)) hx hb dX2_keyWays_1 rfl ?_
  refine r_callVi (As := [.int (zI (-1))]) (rest := []) (wr := []) F hK hP hD hS hA hO hE (c_X2_reach hO b q n g hN (-1) (by omega)) k_924 kv_X2_reach 1 rfl (by decide +kernel) ⟨Nat.le_of_ble_eq_true rfl, Nat.le_of_ble_eq_true rfl⟩ [0, 1, 2, 3, 4, 5, 6, 7, 8] [] rfl rfl (by decide) (by decide) (by decide) 0 2 rfl rfl rfl hl.1 rfl (Nat.le_of_ble_eq_true rfl) dX2_keyWays_2 ⟨Nat.le_of_ble_eq_true rfl, Nat.le_of_ble_eq_true rfl⟩ (w1 := fun u1 => [(b, .inr (2, [.int (zI n), .ref (q 0), .ref (q 1), .ref (q 2), .ref (q 3), .ref (q 4), .ref (q 5), .ref (q 6), .ref (q 7)])), ((q 0), .inl (cI, 10, .inl (fun k => zI ((g 0) k)))), ((q 1), .inl (cI, 10, .inl (fun k => zI ((g 1) k)))), ((q 2), .inl (cI, 10, .inl (fun k => zI ((g 2) k)))), ((q 3), .inl (cI, 40, .inl (fun k => zI ((g 3) k)))), ((q 4), .inl (cI, 40, .inl (fun k => zI ((g 4) k)))), ((q 5), .inl (cI, 40, .inl (fun k => zI ((g 5) k)))), ((q 6), .inl (cI, 20, .inl (fun k => zI ((g 6) k)))), ((q 7), .inl (cI, 20, .inl (fun k => zI ((g 7) k))))]) (fun _ => rfl) (fun r2 u1 H locs hp3 hP hD hS => ?_)
  obtain ⟨z4, rfl, h_z4⟩ := hp3
  refine lv_istore_n (lv' := [(1, .int (zI z4)), (0, .ref b)]) hx hb dX2_keyWays_5 rfl hl (by decide) rfl (fun ls hl => ?_)
  refine lv_iconst (v := zI 0) hx hb dX2_keyWays_6 rfl ?_
  refine lv_istore_n (lv' := [(2, .int (zI 0)), (1, .int (zI z4)), (0, .ref b)]) hx hb dX2_keyWays_7 rfl hl (by decide) rfl (fun ls hl => ?_)
  refine lv_iconst (v := zI 0) hx hb dX2_keyWays_8 rfl ?_
  refine lv_istore_n (lv' := [(3, .int (zI 0)), (2, .int (zI 0)), (1, .int (zI z4)), (0, .ref b)]) hx hb dX2_keyWays_9 rfl hl (by decide) rfl (fun ls hl => ?_)
  refine W.widen (k := 0) (n := 0) (Nat.le_of_ble_eq_true rfl) (Nat.le_of_ble_eq_true rfl) ?_
  refine (?_ : ∀ (n9_1 : Nat) (v2 : Int) (v3 : Int) (H : Heap) (locs : List Loc), (0 ≤ v3 ∧ v3 ≤ 20) → (20 - v3 : Int).toNat < n9_1 → va_P G vwCl [(b, .inr (2, [.int (zI n), .ref (q 0), .ref (q 1), .ref (q 2), .ref (q 3), .ref (q 4), .ref (q 5), .ref (q 6), .ref (q 7)])), ((q 0), .inl (cI, 10, .inl (fun k => zI ((g 0) k)))), ((q 1), .inl (cI, 10, .inl (fun k => zI ((g 1) k)))), ((q 2), .inl (cI, 10, .inl (fun k => zI ((g 2) k)))), ((q 3), .inl (cI, 40, .inl (fun k => zI ((g 3) k)))), ((q 4), .inl (cI, 40, .inl (fun k => zI ((g 4) k)))), ((q 5), .inl (cI, 40, .inl (fun k => zI ((g 5) k)))), ((q 6), .inl (cI, 20, .inl (fun k => zI ((g 6) k)))), ((q 7), .inl (cI, 20, .inl (fun k => zI ((g 7) k))))] H → va_D A [(b, .inr (2, [.int (zI n), .ref (q 0), .ref (q 1), .ref (q 2), .ref (q 3), .ref (q 4), .ref (q 5), .ref (q 6), .ref (q 7)])), ((q 0), .inl (cI, 10, .inl (fun k => zI ((g 0) k)))), ((q 1), .inl (cI, 10, .inl (fun k => zI ((g 1) k)))), ((q 2), .inl (cI, 10, .inl (fun k => zI ((g 2) k)))), ((q 3), .inl (cI, 40, .inl (fun k => zI ((g 3) k)))), ((q 4), .inl (cI, 40, .inl (fun k => zI ((g 4) k)))), ((q 5), .inl (cI, 40, .inl (fun k => zI ((g 5) k)))), ((q 6), .inl (cI, 20, .inl (fun k => zI ((g 6) k)))), ((q 7), .inl (cI, 20, .inl (fun k => zI ((g 7) k))))] → va_S A s.heap H locs → ∀ ls : Array Slot, lv_has ls 4 [(3, .int (zI v3)), (2, .int (zI v2)), (1, .int (zI z4)), (0, .ref b)] → W p l e rm_X2_keyWays s m ([.ref b] : List Value).toArray below meth c H locs 0 0 Q (F0 m 10 ls [])) ((20 - 0 : Int).toNat + 1) 0 0 _ _ (by omega) (by omega) hP hD hS ls hl
  clear hP hD hS hl ls
  intro n9_1
  induction n9_1 with
  | zero =>
    intro v2 v3 H locs hI hM
    exact absurd hM (by omega)
  | succ n9_1 ih1 =>
    intro v2 v3 H locs hI1 hM1  hP hD hS ls hl
    refine lv_iload_n hx hb dX2_keyWays_10 rfl (lv_at hl 0 rfl) ?_
    refine lv_bipush (v := zI 20) hx hb dX2_keyWays_11 (by decide) ?_
    refine rz_icmp_ge (tgt := 45) F (by omega) (by omega) dX2_keyWays_13 (by decide) (fun h13_4 => ?_) (fun h13_4 => ?_)
    · refine lv_iload_n hx hb dX2_keyWays_45 rfl (lv_at hl 1 rfl) ?_
      exact ret (zI v2) (fun _ => 0, fun _ _ => 0) _ _ _ _ _ _ rfl (zI_any v2) (bw_subP (isC := [0, 1, 2, 3, 4, 5, 6, 7, 8]) hP rfl) (hD.sub [0, 1, 2, 3, 4, 5, 6, 7, 8] (by decide) rfl) hS (Nat.le_of_ble_eq_true rfl) (Nat.le_of_ble_eq_true rfl) dX2_keyWays_46
    · refine lv_aload_n hx hb dX2_keyWays_16 rfl (lv_at hl 3 rfl) ?_
      refine lv_iload_n hx hb dX2_keyWays_17 rfl (lv_at hl 0 rfl) ?_
      refine r_callVi (As := [.int (zI v3)]) (rest := []) (wr := []) F hK hP hD hS hA hO hE (c_X2_hasWay hO b q n g hN v3 (by omega)) k_801 kv_X2_hasWay 1 rfl (by decide +kernel) ⟨Nat.le_of_ble_eq_true rfl, Nat.le_of_ble_eq_true rfl⟩ [0, 1, 2, 3, 4, 5, 6, 7, 8] [] rfl rfl (by decide) (by decide) (by decide) 0 2 rfl rfl rfl hl.1 rfl (Nat.le_of_ble_eq_true rfl) dX2_keyWays_18 ⟨Nat.le_of_ble_eq_true rfl, Nat.le_of_ble_eq_true rfl⟩ (w1 := fun u6 => [(b, .inr (2, [.int (zI n), .ref (q 0), .ref (q 1), .ref (q 2), .ref (q 3), .ref (q 4), .ref (q 5), .ref (q 6), .ref (q 7)])), ((q 0), .inl (cI, 10, .inl (fun k => zI ((g 0) k)))), ((q 1), .inl (cI, 10, .inl (fun k => zI ((g 1) k)))), ((q 2), .inl (cI, 10, .inl (fun k => zI ((g 2) k)))), ((q 3), .inl (cI, 40, .inl (fun k => zI ((g 3) k)))), ((q 4), .inl (cI, 40, .inl (fun k => zI ((g 4) k)))), ((q 5), .inl (cI, 40, .inl (fun k => zI ((g 5) k)))), ((q 6), .inl (cI, 20, .inl (fun k => zI ((g 6) k)))), ((q 7), .inl (cI, 20, .inl (fun k => zI ((g 7) k))))]) (fun _ => rfl) (fun r7 u6 H locs hp8 hP hD hS => ?_)
      obtain ⟨z9, rfl, h_z9⟩ := hp8
      refine rz_if_eq (tgt := 39) F (by omega) dX2_keyWays_21 (by decide) (fun h21_9 => ?_) (fun h21_9 => ?_)
      · refine lv_iinc (v := zI (v3 + 1)) (lv' := [(3, .int (zI (v3 + 1))), (2, .int (zI v2)), (1, .int (zI z4)), (0, .ref b)]) hx hb dX2_keyWays_39 hl (k := 0) rfl (zI_add _ _) (by decide) rfl (fun ls hl => ?_)
        refine lv_goto (tgt := 10) hx hb dX2_keyWays_42 (by decide) ?_
        exact ih1 v2 (v3 + 1) _ _ (by omega) (by omega) hP hD hS ls (lv_sub hl [0, 1, 2, 3] rfl)
      · refine lv_aload_n hx hb dX2_keyWays_24 rfl (lv_at hl 3 rfl) ?_
        refine lv_iload_n hx hb dX2_keyWays_25 rfl (lv_at hl 0 rfl) ?_
        refine r_callVi (As := [.int (zI v3)]) (rest := []) (wr := []) F hK hP hD hS hA hO hE (c_X2_reach hO b q n g hN v3 (by omega)) k_924 kv_X2_reach 1 rfl (by decide +kernel) ⟨Nat.le_of_ble_eq_true rfl, Nat.le_of_ble_eq_true rfl⟩ [0, 1, 2, 3, 4, 5, 6, 7, 8] [] rfl rfl (by decide) (by decide) (by decide) 0 2 rfl rfl rfl hl.1 rfl (Nat.le_of_ble_eq_true rfl) dX2_keyWays_26 ⟨Nat.le_of_ble_eq_true rfl, Nat.le_of_ble_eq_true rfl⟩ (w1 := fun u11 => [(b, .inr (2, [.int (zI n), .ref (q 0), .ref (q 1), .ref (q 2), .ref (q 3), .ref (q 4), .ref (q 5), .ref (q 6), .ref (q 7)])), ((q 0), .inl (cI, 10, .inl (fun k => zI ((g 0) k)))), ((q 1), .inl (cI, 10, .inl (fun k => zI ((g 1) k)))), ((q 2), .inl (cI, 10, .inl (fun k => zI ((g 2) k)))), ((q 3), .inl (cI, 40, .inl (fun k => zI ((g 3) k)))), ((q 4), .inl (cI, 40, .inl (fun k => zI ((g 4) k)))), ((q 5), .inl (cI, 40, .inl (fun k => zI ((g 5) k)))), ((q 6), .inl (cI, 20, .inl (fun k => zI ((g 6) k)))), ((q 7), .inl (cI, 20, .inl (fun k => zI ((g 7) k))))]) (fun _ => rfl) (fun r12 u11 H locs hp13 hP hD hS => ?_)
        obtain ⟨z14, rfl, h_z14⟩ := hp13
        refine lv_iload_n hx hb dX2_keyWays_29 rfl (lv_at hl 2 rfl) ?_
        refine rz_icmp_eq (tgt := 39) F (by omega) (by omega) dX2_keyWays_30 (by decide) (fun h30_14 => ?_) (fun h30_14 => ?_)
        · refine lv_iinc (v := zI (v3 + 1)) (lv' := [(3, .int (zI (v3 + 1))), (2, .int (zI v2)), (1, .int (zI z4)), (0, .ref b)]) hx hb dX2_keyWays_39 hl (k := 0) rfl (zI_add _ _) (by decide) rfl (fun ls hl => ?_)
          refine lv_goto (tgt := 10) hx hb dX2_keyWays_42 (by decide) ?_
          exact ih1 v2 (v3 + 1) _ _ (by omega) (by omega) hP hD hS ls (lv_sub hl [0, 1, 2, 3] rfl)
        · refine lv_iload_n hx hb dX2_keyWays_33 rfl (lv_at hl 1 rfl) ?_
          refine lv_iconst (v := zI 1) hx hb dX2_keyWays_34 rfl ?_
          refine lv_iload_n hx hb dX2_keyWays_35 rfl (lv_at hl 0 rfl) ?_
          refine lv_ishl hx hb dX2_keyWays_36 ?_
          refine rz_top (fun z16 h_z16 => ?_)
          refine lv_ior hx hb dX2_keyWays_37 ?_
          refine rz_top (fun z17 h_z17 => ?_)
          refine lv_istore_n (lv' := [(2, .int (zI z17)), (3, .int (zI v3)), (1, .int (zI z4)), (0, .ref b)]) hx hb dX2_keyWays_38 rfl hl (by decide) rfl (fun ls hl => ?_)
          refine lv_iinc (v := zI (v3 + 1)) (lv' := [(3, .int (zI (v3 + 1))), (2, .int (zI z17)), (1, .int (zI z4)), (0, .ref b)]) hx hb dX2_keyWays_39 hl (k := 1) rfl (zI_add _ _) (by decide) rfl (fun ls hl => ?_)
          refine lv_goto (tgt := 10) hx hb dX2_keyWays_42 (by decide) ?_
          exact ih1 z17 (v3 + 1) _ _ (by omega) (by omega) hP hD hS ls (lv_sub hl [0, 1, 2, 3] rfl)
theorem dX2_isBalanced_0 : decode cX2_isBalanced 0 = .ok (.aload_n 0, 1) := bo_42 (by decide +kernel)
theorem dX2_isBalanced_1 : decode cX2_isBalanced 1 = .ok (.iconst 0, 1) := bo_3 (by decide +kernel)
theorem dX2_isBalanced_2 : decode cX2_isBalanced 2 = .ok (.invokevirtual 81, 3) := bo_182 0 81 (by decide +kernel)
theorem k_871 : Cond.methodLink RX2 81 yX2_degreeOf ∈ bw_T := bw_m 871 (by decide +kernel) rfl
theorem kv_X2_degreeOf : bw_KV RX2 yX2_degreeOf (Cond.code yX2_degreeOf cX2_degreeOf 4 (some .int)) := ⟨bw_m 872 (by decide +kernel) rfl, bw_m 873 (by decide +kernel) rfl, bw_m 96 (by decide +kernel) rfl, bw_m 874 (by decide +kernel) rfl⟩
theorem dX2_isBalanced_5 : decode cX2_isBalanced 5 = .ok (.istore_n 1, 1) := bo_60 (by decide +kernel)
theorem dX2_isBalanced_6 : decode cX2_isBalanced 6 = .ok (.iconst 0, 1) := bo_3 (by decide +kernel)
theorem dX2_isBalanced_7 : decode cX2_isBalanced 7 = .ok (.istore_n 2, 1) := bo_61 (by decide +kernel)
theorem dX2_isBalanced_8 : decode cX2_isBalanced 8 = .ok (.iconst 1, 1) := bo_4 (by decide +kernel)
theorem dX2_isBalanced_9 : decode cX2_isBalanced 9 = .ok (.istore_n 3, 1) := bo_62 (by decide +kernel)
theorem dX2_isBalanced_10 : decode cX2_isBalanced 10 = .ok (.iload_n 3, 1) := bo_29 (by decide +kernel)
theorem dX2_isBalanced_11 : decode cX2_isBalanced 11 = .ok (.aload_n 0, 1) := bo_42 (by decide +kernel)
theorem dX2_isBalanced_12 : decode cX2_isBalanced 12 = .ok (.getfield 9, 3) := bo_180 0 9 (by decide +kernel)
theorem dX2_isBalanced_15 : decode cX2_isBalanced 15 = .ok (.if_icmp .ge 34, 3) := bo_162 0 34 (by decide +kernel)
theorem dX2_isBalanced_49 : decode cX2_isBalanced 49 = .ok (.iload_n 1, 1) := bo_27 (by decide +kernel)
theorem dX2_isBalanced_50 : decode cX2_isBalanced 50 = .ok (.iload_n 2, 1) := bo_28 (by decide +kernel)
theorem dX2_isBalanced_51 : decode cX2_isBalanced 51 = .ok (.if_icmp .ne 12, 3) := bo_160 0 12 (by decide +kernel)
theorem dX2_isBalanced_63 : decode cX2_isBalanced 63 = .ok (.iconst 0, 1) := bo_3 (by decide +kernel)
theorem dX2_isBalanced_64 : decode cX2_isBalanced 64 = .ok (.ireturn, 1) := bo_172 (by decide +kernel)
theorem dX2_isBalanced_54 : decode cX2_isBalanced 54 = .ok (.iload_n 1, 1) := bo_27 (by decide +kernel)
theorem dX2_isBalanced_55 : decode cX2_isBalanced 55 = .ok (.iconst 1, 1) := bo_4 (by decide +kernel)
theorem dX2_isBalanced_56 : decode cX2_isBalanced 56 = .ok (.if_icmp .gt 7, 3) := bo_163 0 7 (by decide +kernel)
theorem dX2_isBalanced_59 : decode cX2_isBalanced 59 = .ok (.iconst 1, 1) := bo_4 (by decide +kernel)
theorem dX2_isBalanced_60 : decode cX2_isBalanced 60 = .ok (.goto 4, 3) := bo_167 0 4 (by decide +kernel)
theorem dX2_isBalanced_18 : decode cX2_isBalanced 18 = .ok (.aload_n 0, 1) := bo_42 (by decide +kernel)
theorem dX2_isBalanced_19 : decode cX2_isBalanced 19 = .ok (.iload_n 3, 1) := bo_29 (by decide +kernel)
theorem dX2_isBalanced_20 : decode cX2_isBalanced 20 = .ok (.invokevirtual 81, 3) := bo_182 0 81 (by decide +kernel)
theorem dX2_isBalanced_23 : decode cX2_isBalanced 23 = .ok (.istore 4, 2) := bo_54 (by decide +kernel)
theorem dX2_isBalanced_25 : decode cX2_isBalanced 25 = .ok (.iload 4, 2) := bo_21 (by decide +kernel)
theorem dX2_isBalanced_27 : decode cX2_isBalanced 27 = .ok (.ifCond .eq 11, 3) := bo_153 0 11 (by decide +kernel)
theorem dX2_isBalanced_38 : decode cX2_isBalanced 38 = .ok (.iload_n 2, 1) := bo_28 (by decide +kernel)
theorem dX2_isBalanced_39 : decode cX2_isBalanced 39 = .ok (.iload 4, 2) := bo_21 (by decide +kernel)
theorem dX2_isBalanced_41 : decode cX2_isBalanced 41 = .ok (.isub, 1) := bo_100 (by decide +kernel)
theorem dX2_isBalanced_42 : decode cX2_isBalanced 42 = .ok (.istore_n 2, 1) := bo_61 (by decide +kernel)
theorem dX2_isBalanced_43 : decode cX2_isBalanced 43 = .ok (.iinc 3 1, 3) := bo_132 3 1 (by decide +kernel)
theorem dX2_isBalanced_46 : decode cX2_isBalanced 46 = .ok (.goto (-36), 3) := bo_167 255 220 (by decide +kernel)
theorem dX2_isBalanced_30 : decode cX2_isBalanced 30 = .ok (.iload 4, 2) := bo_21 (by decide +kernel)
theorem dX2_isBalanced_32 : decode cX2_isBalanced 32 = .ok (.iconst (-1), 1) := bo_2 (by decide +kernel)
theorem dX2_isBalanced_33 : decode cX2_isBalanced 33 = .ok (.if_icmp .eq 5, 3) := bo_159 0 5 (by decide +kernel)
theorem dX2_isBalanced_36 : decode cX2_isBalanced 36 = .ok (.iconst 0, 1) := bo_3 (by decide +kernel)
theorem dX2_isBalanced_37 : decode cX2_isBalanced 37 = .ok (.ireturn, 1) := bo_172 (by decide +kernel)
abbrev rm_X2_isBalanced : Room := { frames := 1, cells := 0, slots := 0, locals := 23 }
set_option maxRecDepth 100000 in
set_option maxHeartbeats 8000000 in
theorem c_X2_isBalanced {l : Launch} {E : (Nat → Prop) → State → Prop} (hO : bw_Ok E) {G : va_G} {cI cB cJ cN cW : ClassId} (b : Nat) (q : Nat → Nat) (n : Int) (g : Nat → Nat → Int) (hN : NetOk n g) : bw_Ci (S := zU) l yX2_isBalanced (bw_ws (Cond.code yX2_isBalanced cX2_isBalanced 5 (some .boolean))) rm_X2_isBalanced E G (bw_kt cI cB cJ cN cW) [.ref b] [(b, .inr (2, [.int (zI n), .ref (q 0), .ref (q 1), .ref (q 2), .ref (q 3), .ref (q 4), .ref (q 5), .ref (q 6), .ref (q 7)])), ((q 0), .inl (cI, 10, .inl (fun k => zI ((g 0) k)))), ((q 1), .inl (cI, 10, .inl (fun k => zI ((g 1) k)))), ((q 2), .inl (cI, 10, .inl (fun k => zI ((g 2) k)))), ((q 3), .inl (cI, 40, .inl (fun k => zI ((g 3) k)))), ((q 4), .inl (cI, 40, .inl (fun k => zI ((g 4) k)))), ((q 5), .inl (cI, 40, .inl (fun k => zI ((g 5) k)))), ((q 6), .inl (cI, 20, .inl (fun k => zI ((g 6) k)))), ((q 7), .inl (cI, 20, .inl (fun k => zI ((g 7) k))))] (fun r _ => ∃ z : Int, r = zI z ∧ (z = 0 ∨ z = 1)) (fun _ => [(b, .inr (2, [.int (zI n), .ref (q 0), .ref (q 1), .ref (q 2), .ref (q 3), .ref (q 4), .ref (q 5), .ref (q 6), .ref (q 7)])), ((q 0), .inl (cI, 10, .inl (fun k => zI ((g 0) k)))), ((q 1), .inl (cI, 10, .inl (fun k => zI ((g 1) k)))), ((q 2), .inl (cI, 10, .inl (fun k => zI ((g 2) k)))), ((q 3), .inl (cI, 40, .inl (fun k => zI ((g 3) k)))), ((q 4), .inl (cI, 40, .inl (fun k => zI ((g 4) k)))), ((q 5), .inl (cI, 40, .inl (fun k => zI ((g 5) k)))), ((q 6), .inl (cI, 20, .inl (fun k => zI ((g 6) k)))), ((q 7), .inl (cI, 20, .inl (fun k => zI ((g 7) k))))]) := by
  refine bw_Ci.of (cc := cX2_isBalanced) (maxL := 5) (ty := .boolean) (by decide) rfl (Nat.le_of_ble_eq_true rfl) ?_
  intro p e s m below meth c A Q hx hb hml hts hown hin hK hA hS hP hD hE ret ls hl
  have F : CallFix p m c cX2_isBalanced 5 s ([.ref b] : List Value).toArray bw_T RX2 := ⟨hx, hb, hml, hown, fun w h => hts w (List.mem_cons_of_mem _ h)⟩
  replace hl : lv_has ls 5 [(0, .ref b)] := hl
  have hN0 := hN.1
  refine lv_aload_n hx hb dX2_isBalanced_0 rfl (lv_at hl 0 rfl) ?_
  refine lv_iconst (v := zI 0) hx hb dX2_isBalanced_1 rfl ?_
  refine r_callVi (As := [.int (zI 0)]) (rest := []) (wr := []) F hK hP hD hS hA hO hE (c_X2_degreeOf hO b q n g hN 0 (by omega)) k_871 kv_X2_degreeOf 1 rfl (by decide +kernel) ⟨Nat.le_of_ble_eq_true rfl, Nat.le_of_ble_eq_true rfl⟩ [0, 1, 2, 3, 4, 5, 6, 7, 8] [] rfl rfl (by decide) (by decide) (by decide) 0 2 rfl rfl rfl hl.1 rfl (Nat.le_of_ble_eq_true rfl) dX2_isBalanced_2 ⟨Nat.le_of_ble_eq_true rfl, Nat.le_of_ble_eq_true rfl⟩ (w1 := fun u1 => [(b, .inr (2, [.int (zI n), .ref (q 0), .ref (q 1), .ref (q 2), .ref (q 3), .ref (q 4), .ref (q 5), .ref (q 6), .ref (q 7)])), ((q 0), .inl (cI, 10, .inl (fun k => zI ((g 0) k)))), ((q 1), .inl (cI, 10, .inl (fun k => zI ((g 1) k)))), ((q 2), .inl (cI, 10, .inl (fun k => zI ((g 2) k)))), ((q 3), .inl (cI, 40, .inl (fun k => zI ((g 3) k)))), ((q 4), .inl (cI, 40, .inl (fun k => zI ((g 4) k)))), ((q 5), .inl (cI, 40, .inl (fun k => zI ((g 5) k)))), ((q 6), .inl (cI, 20, .inl (fun k => zI ((g 6) k)))), ((q 7), .inl (cI, 20, .inl (fun k => zI ((g 7) k))))]) (fun _ => rfl) (fun r2 u1 H locs hp3 hP hD hS => ?_)
  obtain ⟨z4, rfl, h_z4⟩ := hp3
  refine lv_istore_n (lv' := [(1, .int (zI z4)), (0, .ref b)]) hx hb dX2_isBalanced_5 rfl hl (by decide) rfl (fun ls hl => ?_)
  refine lv_iconst (v := zI 0) hx hb dX2_isBalanced_6 rfl ?_
  refine lv_istore_n (lv' := [(2, .int (zI 0)), (1, .int (zI z4)), (0, .ref b)]) hx hb dX2_isBalanced_7 rfl hl (by decide) rfl (fun ls hl => ?_)
  refine lv_iconst (v := zI 1) hx hb dX2_isBalanced_8 rfl ?_
  refine lv_istore_n (lv' := [(3, .int (zI 1)), (2, .int (zI 0)), (1, .int (zI z4)), (0, .ref b)]) hx hb dX2_isBalanced_9 rfl hl (by decide) rfl (fun ls hl => ?_)
  refine W.widen (k := 0) (n := 0) (Nat.le_of_ble_eq_true rfl) (Nat.le_of_ble_eq_true rfl) ?_
  refine (?_ : ∀ (n9_1 : Nat) (v2 : Int) (v3 : Int) (H : Heap) (locs : List Loc), (1 ≤ v3 ∧ (v3 ≤ n ∨ v3 = 1) ∧ 0 ≤ v2 ∧ v2 ≤ v3) → (n - v3 : Int).toNat < n9_1 → va_P G vwCl [(b, .inr (2, [.int (zI n), .ref (q 0), .ref (q 1), .ref (q 2), .ref (q 3), .ref (q 4), .ref (q 5), .ref (q 6), .ref (q 7)])), ((q 0), .inl (cI, 10, .inl (fun k => zI ((g 0) k)))), ((q 1), .inl (cI, 10, .inl (fun k => zI ((g 1) k)))), ((q 2), .inl (cI, 10, .inl (fun k => zI ((g 2) k)))), ((q 3), .inl (cI, 40, .inl (fun k => zI ((g 3) k)))), ((q 4), .inl (cI, 40, .inl (fun k => zI ((g 4) k)))), ((q 5), .inl (cI, 40, .inl (fun k => zI ((g 5) k)))), ((q 6), .inl (cI, 20, .inl (fun k => zI ((g 6) k)))), ((q 7), .inl (cI, 20, .inl (fun k => zI ((g 7) k))))] H → va_D A [(b, .inr (2, [.int (zI n), .ref (q 0), .ref (q 1), .ref (q 2), .ref (q 3), .ref (q 4), .ref (q 5), .ref (q 6), .ref (q 7)])), ((q 0), .inl (cI, 10, .inl (fun k => zI ((g 0) k)))), ((q 1), .inl (cI, 10, .inl (fun k => zI ((g 1) k)))), ((q 2), .inl (cI, 10, .inl (fun k => zI ((g 2) k)))), ((q 3), .inl (cI, 40, .inl (fun k => zI ((g 3) k)))), ((q 4), .inl (cI, 40, .inl (fun k => zI ((g 4) k)))), ((q 5), .inl (cI, 40, .inl (fun k => zI ((g 5) k)))), ((q 6), .inl (cI, 20, .inl (fun k => zI ((g 6) k)))), ((q 7), .inl (cI, 20, .inl (fun k => zI ((g 7) k))))] → va_S A s.heap H locs → ∀ ls : Array Slot, lv_has ls 5 [(3, .int (zI v3)), (2, .int (zI v2)), (1, .int (zI z4)), (0, .ref b)] → W p l e rm_X2_isBalanced s m ([.ref b] : List Value).toArray below meth c H locs 0 0 Q (F0 m 10 ls [])) ((n - 1 : Int).toNat + 1) 0 1 _ _ (by omega) (by omega) hP hD hS ls hl
  clear hP hD hS hl ls
  intro n9_1
  induction n9_1 with
  | zero =>
    intro v2 v3 H locs hI hM
    exact absurd hM (by omega)
  | succ n9_1 ih1 =>
    intro v2 v3 H locs hI1 hM1  hP hD hS ls hl
    refine lv_iload_n hx hb dX2_isBalanced_10 rfl (lv_at hl 0 rfl) ?_
    refine lv_aload_n hx hb dX2_isBalanced_11 rfl (lv_at hl 3 rfl) ?_
    refine r_get F hK hP 0 0 rfl rfl in_X2 (by decide) k_144 rfl dX2_isBalanced_12 ?_
    refine rz_icmp_ge (tgt := 49) F (by omega) (by omega) dX2_isBalanced_15 (by decide) (fun h15_4 => ?_) (fun h15_4 => ?_)
    · refine lv_iload_n hx hb dX2_isBalanced_49 rfl (lv_at hl 2 rfl) ?_
      refine lv_iload_n hx hb dX2_isBalanced_50 rfl (lv_at hl 1 rfl) ?_
      refine rz_icmp_ne (tgt := 63) F (by omega) (by omega) dX2_isBalanced_51 (by decide) (fun h51_5 => ?_) (fun h51_5 => ?_)
      · refine lv_iconst (v := zI 0) hx hb dX2_isBalanced_63 rfl ?_
        exact ret (zI 0) (fun _ => 0, fun _ _ => 0) _ _ _ _ _ _ rfl ⟨0, rfl, by omega⟩ (bw_subP (isC := [0, 1, 2, 3, 4, 5, 6, 7, 8]) hP rfl) (hD.sub [0, 1, 2, 3, 4, 5, 6, 7, 8] (by decide) rfl) hS (Nat.le_of_ble_eq_true rfl) (Nat.le_of_ble_eq_true rfl) dX2_isBalanced_64
      · refine lv_iload_n hx hb dX2_isBalanced_54 rfl (lv_at hl 2 rfl) ?_
        refine lv_iconst (v := zI 1) hx hb dX2_isBalanced_55 rfl ?_
        refine rz_icmp_gt (tgt := 63) F (by omega) (by omega) dX2_isBalanced_56 (by decide) (fun h56_6 => ?_) (fun h56_6 => ?_)
        · refine lv_iconst (v := zI 0) hx hb dX2_isBalanced_63 rfl ?_
          exact ret (zI 0) (fun _ => 0, fun _ _ => 0) _ _ _ _ _ _ rfl ⟨0, rfl, by omega⟩ (bw_subP (isC := [0, 1, 2, 3, 4, 5, 6, 7, 8]) hP rfl) (hD.sub [0, 1, 2, 3, 4, 5, 6, 7, 8] (by decide) rfl) hS (Nat.le_of_ble_eq_true rfl) (Nat.le_of_ble_eq_true rfl) dX2_isBalanced_64
        · refine lv_iconst (v := zI 1) hx hb dX2_isBalanced_59 rfl ?_
          refine lv_goto (tgt := 64) hx hb dX2_isBalanced_60 (by decide) ?_
          exact ret (zI 1) (fun _ => 0, fun _ _ => 0) _ _ _ _ _ _ rfl ⟨1, rfl, by omega⟩ (bw_subP (isC := [0, 1, 2, 3, 4, 5, 6, 7, 8]) hP rfl) (hD.sub [0, 1, 2, 3, 4, 5, 6, 7, 8] (by decide) rfl) hS (Nat.le_of_ble_eq_true rfl) (Nat.le_of_ble_eq_true rfl) dX2_isBalanced_64
    · refine lv_aload_n hx hb dX2_isBalanced_18 rfl (lv_at hl 3 rfl) ?_
      refine lv_iload_n hx hb dX2_isBalanced_19 rfl (lv_at hl 0 rfl) ?_
      refine r_callVi (As := [.int (zI v3)]) (rest := []) (wr := []) F hK hP hD hS hA hO hE (c_X2_degreeOf hO b q n g hN v3 (by omega)) k_871 kv_X2_degreeOf 1 rfl (by decide +kernel) ⟨Nat.le_of_ble_eq_true rfl, Nat.le_of_ble_eq_true rfl⟩ [0, 1, 2, 3, 4, 5, 6, 7, 8] [] rfl rfl (by decide) (by decide) (by decide) 0 2 rfl rfl rfl hl.1 rfl (Nat.le_of_ble_eq_true rfl) dX2_isBalanced_20 ⟨Nat.le_of_ble_eq_true rfl, Nat.le_of_ble_eq_true rfl⟩ (w1 := fun u8 => [(b, .inr (2, [.int (zI n), .ref (q 0), .ref (q 1), .ref (q 2), .ref (q 3), .ref (q 4), .ref (q 5), .ref (q 6), .ref (q 7)])), ((q 0), .inl (cI, 10, .inl (fun k => zI ((g 0) k)))), ((q 1), .inl (cI, 10, .inl (fun k => zI ((g 1) k)))), ((q 2), .inl (cI, 10, .inl (fun k => zI ((g 2) k)))), ((q 3), .inl (cI, 40, .inl (fun k => zI ((g 3) k)))), ((q 4), .inl (cI, 40, .inl (fun k => zI ((g 4) k)))), ((q 5), .inl (cI, 40, .inl (fun k => zI ((g 5) k)))), ((q 6), .inl (cI, 20, .inl (fun k => zI ((g 6) k)))), ((q 7), .inl (cI, 20, .inl (fun k => zI ((g 7) k))))]) (fun _ => rfl) (fun r9 u8 H locs hp10 hP hD hS => ?_)
      obtain ⟨z11, rfl, h_z11⟩ := hp10
      refine lv_istore (lv' := [(4, .int (zI z11)), (3, .int (zI v3)), (2, .int (zI v2)), (1, .int (zI z4)), (0, .ref b)]) hx hb dX2_isBalanced_23 hl (by decide) rfl (fun ls hl => ?_)
      refine lv_iload hx hb dX2_isBalanced_25 (lv_at hl 0 rfl) ?_
      refine rz_if_eq (tgt := 38) F (by omega) dX2_isBalanced_27 (by decide) (fun h27_11 => ?_) (fun h27_11 => ?_)
      · refine lv_iload_n hx hb dX2_isBalanced_38 rfl (lv_at hl 2 rfl) ?_
        refine lv_iload hx hb dX2_isBalanced_39 (lv_at hl 0 rfl) ?_
        refine r_isub (v := zI (v2 - z11)) F dX2_isBalanced_41 (zI_sub _ _) ?_
        refine lv_istore_n (lv' := [(2, .int (zI (v2 - z11))), (4, .int (zI z11)), (3, .int (zI v3)), (1, .int (zI z4)), (0, .ref b)]) hx hb dX2_isBalanced_42 rfl hl (by decide) rfl (fun ls hl => ?_)
        refine lv_iinc (v := zI (v3 + 1)) (lv' := [(3, .int (zI (v3 + 1))), (2, .int (zI (v2 - z11))), (4, .int (zI z11)), (1, .int (zI z4)), (0, .ref b)]) hx hb dX2_isBalanced_43 hl (k := 2) rfl (zI_add _ _) (by decide) rfl (fun ls hl => ?_)
        refine lv_goto (tgt := 10) hx hb dX2_isBalanced_46 (by decide) ?_
        exact ih1 (v2 - z11) (v3 + 1) _ _ (by omega) (by omega) hP hD hS ls (lv_sub hl [0, 1, 3, 4] rfl)
      · refine lv_iload hx hb dX2_isBalanced_30 (lv_at hl 0 rfl) ?_
        refine lv_iconst (v := zI (-1)) hx hb dX2_isBalanced_32 rfl ?_
        refine rz_icmp_eq (tgt := 38) F (by omega) (by omega) dX2_isBalanced_33 (by decide) (fun h33_12 => ?_) (fun h33_12 => ?_)
        · refine lv_iload_n hx hb dX2_isBalanced_38 rfl (lv_at hl 2 rfl) ?_
          refine lv_iload hx hb dX2_isBalanced_39 (lv_at hl 0 rfl) ?_
          refine r_isub (v := zI (v2 - z11)) F dX2_isBalanced_41 (zI_sub _ _) ?_
          refine lv_istore_n (lv' := [(2, .int (zI (v2 - z11))), (4, .int (zI z11)), (3, .int (zI v3)), (1, .int (zI z4)), (0, .ref b)]) hx hb dX2_isBalanced_42 rfl hl (by decide) rfl (fun ls hl => ?_)
          refine lv_iinc (v := zI (v3 + 1)) (lv' := [(3, .int (zI (v3 + 1))), (2, .int (zI (v2 - z11))), (4, .int (zI z11)), (1, .int (zI z4)), (0, .ref b)]) hx hb dX2_isBalanced_43 hl (k := 2) rfl (zI_add _ _) (by decide) rfl (fun ls hl => ?_)
          refine lv_goto (tgt := 10) hx hb dX2_isBalanced_46 (by decide) ?_
          exact ih1 (v2 - z11) (v3 + 1) _ _ (by omega) (by omega) hP hD hS ls (lv_sub hl [0, 1, 3, 4] rfl)
        · refine lv_iconst (v := zI 0) hx hb dX2_isBalanced_36 rfl ?_
          exact ret (zI 0) (fun _ => 0, fun _ _ => 0) _ _ _ _ _ _ rfl ⟨0, rfl, by omega⟩ (bw_subP (isC := [0, 1, 2, 3, 4, 5, 6, 7, 8]) hP rfl) (hD.sub [0, 1, 2, 3, 4, 5, 6, 7, 8] (by decide) rfl) hS (Nat.le_of_ble_eq_true rfl) (Nat.le_of_ble_eq_true rfl) dX2_isBalanced_37
