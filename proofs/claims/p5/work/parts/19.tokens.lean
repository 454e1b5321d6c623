abbrev ReaderOk (i : Nat → Int) : Prop := (0 ≤ i 0 ∧ i 0 ≤ 900) ∧ (0 ≤ i 3 ∧ i 3 ≤ 900) ∧ (0 ≤ i 4 ∧ i 4 ≤ 24) ∧ (0 ≤ i 5 ∧ i 5 ≤ 900) ∧ (0 ≤ i 6 ∧ i 6 ≤ 900) ∧ zR (i 8)
theorem dX3_put_0 : decode cX3_put 0 = .ok (.bipush 24, 2) := by decide +kernel
theorem dX3_put_2 : decode cX3_put 2 = .ok (.istore_n 2, 1) := by decide +kernel
theorem dX3_put_3 : decode cX3_put 3 = .ok (.iload_n 2, 1) := by decide +kernel
theorem dX3_put_4 : decode cX3_put 4 = .ok (.ifCond .lt 32, 3) := by decide +kernel
theorem dX3_put_36 : decode cX3_put 36 = .ok (.return_, 1) := by decide +kernel
theorem dX3_put_7 : decode cX3_put 7 = .ok (.aload_n 0, 1) := by decide +kernel
theorem dX3_put_8 : decode cX3_put 8 = .ok (.getfield 9, 3) := by decide +kernel
theorem k_261 : Cond.fieldLink RX3 9 "BurntWays$Reader" "tape" "[B" ∈ bw_T := bw_m 261 (by decide +kernel) rfl
theorem in_X3 : ∀ w ∈ wsX30, w ∈ bw_T := bw_ms _ [280, 282, 284, 286, 288, 290, 292, 294, 296, 298, 300, 302, 304, 306] (by decide +kernel) (by decide +kernel)
theorem dX3_put_11 : decode cX3_put 11 = .ok (.aload_n 0, 1) := by decide +kernel
theorem dX3_put_12 : decode cX3_put 12 = .ok (.getfield 15, 3) := by decide +kernel
theorem k_262 : Cond.fieldLink RX3 15 "BurntWays$Reader" "tapeLength" "I" ∈ bw_T := bw_m 262 (by decide +kernel) rfl
theorem dX3_put_15 : decode cX3_put 15 = .ok (.iload_n 1, 1) := by decide +kernel
theorem dX3_put_16 : decode cX3_put 16 = .ok (.iload_n 2, 1) := by decide +kernel
theorem dX3_put_17 : decode cX3_put 17 = .ok (.ishr, 1) := by decide +kernel
theorem dX3_put_18 : decode cX3_put 18 = .ok (.i2b, 1) := by decide +kernel
theorem dX3_put_19 : decode cX3_put 19 = .ok (.bastore, 1) := by decide +kernel
theorem dX3_put_20 : decode cX3_put 20 = .ok (.aload_n 0, 1) := by decide +kernel
theorem dX3_put_21 : decode cX3_put 21 = .ok (.dup, 1) := by decide +kernel
theorem dX3_put_22 : decode cX3_put 22 = .ok (.getfield 15, 3) := by decide +kernel
theorem dX3_put_25 : decode cX3_put 25 = .ok (.iconst 1, 1) := by decide +kernel
theorem dX3_put_26 : decode cX3_put 26 = .ok (.iadd, 1) := by decide +kernel
theorem dX3_put_27 : decode cX3_put 27 = .ok (.putfield 15, 3) := by decide +kernel
theorem dX3_put_30 : decode cX3_put 30 = .ok (.iinc 2 (-8), 3) := by decide +kernel
theorem dX3_put_33 : decode cX3_put 33 = .ok (.goto (-30), 3) := by decide +kernel
abbrev rm_X3_put : Room := { frames := 0, cells := 0, slots := 0, locals := 0 }
set_option maxRecDepth 100000 in
set_option maxHeartbeats 8000000 in
theorem c_X3_put {l : Launch} {E : (Nat → Prop) → State → Prop} (hO : bw_Ok E) {G : va_G} {cI cB cJ cN cW : ClassId} (b : Nat) (q : Nat → Nat) (i : Nat → Int) (g : Nat → Nat → Int) (hY : ReaderOk i) (x : Int) (hx9 : i 0 ≤ 896) : bw_Cv (S := zU) l yX3_put (bw_ws (Cond.code yX3_put cX3_put 3 none)) rm_X3_put E G (bw_kt cI cB cJ cN cW) [.ref b, .int (zI x)] [(b, .inr (3, [.ref (q 0), .int (zI (i 0)), .ref (q 3), .ref (q 4), .int (zI (i 1)), .int (zI (i 2)), .ref (q 1), .ref (q 2), .int (zI (i 3)), .int (zI (i 4)), .int (zI (i 5)), .int (zI (i 6)), .long (zL (i 7)), .int (zI (i 8))])), ((q 0), .inl (cB, 900, .inl (fun k => zI ((g 0) k)))), ((q 1), .inl (cJ, 19, .inr (.inl (fun k => zL ((g 1) k))))), ((q 2), .inl (cJ, 10, .inr (.inl (fun k => zL ((g 2) k)))))] (fun u => ReaderOk u.1 ∧ (u.1 0 = i 0 + 4)) (fun u => [(b, .inr (3, [.ref (q 0), .int (zI (u.1 0)), .ref (q 3), .ref (q 4), .int (zI (u.1 1)), .int (zI (u.1 2)), .ref (q 1), .ref (q 2), .int (zI (u.1 3)), .int (zI (u.1 4)), .int (zI (u.1 5)), .int (zI (u.1 6)), .long (zL (u.1 7)), .int (zI (u.1 8))])), ((q 0), .inl (cB, 900, .inl (fun k => zI ((u.2 0) k)))), ((q 1), .inl (cJ, 19, .inr (.inl (fun k => zL ((u.2 1) k))))), ((q 2), .inl (cJ, 10, .inr (.inl (fun k => zL ((u.2 2) k)))))]) := by
  refine bw_Cv.of (cc := cX3_put) (maxL := 3) (by decide) rfl (Nat.le_of_ble_eq_true rfl) ?_
  intro p e s m below meth c A Q hx hb hml hts hown hin hK hA hS hP hD hE ret ls hl
  have F : CallFix p m c cX3_put 3 s ([.ref b, .int (zI x)] : List Value).toArray bw_T RX3 := ⟨hx, hb, hml, hown, fun w h => hts w (List.mem_cons_of_mem _ h)⟩
  replace hl : lv_has ls 3 [(0, .ref b), (1, .int (zI x))] := hl
  refine lv_bipush (v := zI 24) hx hb dX3_put_0 (by decide) ?_
  refine lv_istore_n (lv' := [(2, .int (zI 24)), (0, .ref b), (1, .int (zI x))]) hx hb dX3_put_2 rfl hl (by decide) rfl (fun ls hl => ?_)
  refine W.widen (k := 0) (n := 0) (Nat.le_of_ble_eq_true rfl) (Nat.le_of_ble_eq_true rfl) ?_
  refine (?_ : ∀ (n9_1 : Nat) (v2 : Int) (ii : Nat → Int) (gg : Nat → Nat → Int) (H : Heap) (locs : List Loc), (-8 ≤ v2 ∧ v2 ≤ 24 ∧ 8 * (ii 0) + v2 = 8 * (i 0) + 24 ∧ (v2 % 8 = 0)) → (v2 + 8 : Int).toNat < n9_1 → (ReaderOk ii) → va_P G vwCl [(b, .inr (3, [.ref (q 0), .int (zI (ii 0)), .ref (q 3), .ref (q 4), .int (zI (ii 1)), .int (zI (ii 2)), .ref (q 1), .ref (q 2), .int (zI (ii 3)), .int (zI (ii 4)), .int (zI (ii 5)), .int (zI (ii 6)), .long (zL (ii 7)), .int (zI (ii 8))])), ((q 0), .inl (cB, 900, .inl (fun k => zI ((gg 0) k)))), ((q 1), .inl (cJ, 19, .inr (.inl (fun k => zL ((gg 1) k))))), ((q 2), .inl (cJ, 10, .inr (.inl (fun k => zL ((gg 2) k)))))] H → va_D A [(b, .inr (3, [.ref (q 0), .int (zI (ii 0)), .ref (q 3), .ref (q 4), .int (zI (ii 1)), .int (zI (ii 2)), .ref (q 1), .ref (q 2), .int (zI (ii 3)), .int (zI (ii 4)), .int (zI (ii 5)), .int (zI (ii 6)), .long (zL (ii 7)), .int (zI (ii 8))])), ((q 0), .inl (cB, 900, .inl (fun k => zI ((gg 0) k)))), ((q 1), .inl (cJ, 19, .inr (.inl (fun k => zL ((gg 1) k))))), ((q 2), .inl (cJ, 10, .inr (.inl (fun k => zL ((gg 2) k)))))] → va_S A s.heap H locs → ∀ ls : Array Slot, lv_has ls 3 [(2, .int (zI v2)), (0, .ref b), (1, .int (zI x))] → W p l e rm_X3_put s m ([.ref b, .int (zI x)] : List Value).toArray below meth c H locs 0 0 Q (F0 m 3 ls [])) ((24 + 8 : Int).toNat + 1) 24 i g _ _ (by omega) (by omega) hY hP hD hS ls hl
  clear hP hD hS hl ls
  intro n9_1
  induction n9_1 with
  | zero =>
    intro v2 ii gg H locs hI hM
    exact absurd hM (by omega)
  | succ n9_1 ih1 =>
    intro v2 ii gg H locs hI1 hM1 hG hP hD hS ls hl
    have hf1 := hG
    refine lv_iload_n hx hb dX3_put_3 rfl (lv_at hl 0 rfl) ?_
    refine rz_if_lt (tgt := 36) F (by omega) dX3_put_4 (by decide) (fun h4_1 => ?_) (fun h4_1 => ?_)
    · exact ret (ii, gg) _ _ _ _ _ _ ⟨hG, by dsimp only; omega⟩ (bw_subP (isC := [0, 1, 2, 3]) hP rfl) (hD.sub [0, 1, 2, 3] (by decide) rfl) hS (Nat.le_of_ble_eq_true rfl) (Nat.le_of_ble_eq_true rfl) dX3_put_36
    · refine lv_aload_n hx hb dX3_put_7 rfl (lv_at hl 1 rfl) ?_
      refine r_get F hK hP 0 0 rfl rfl in_X3 (by decide) k_261 rfl dX3_put_8 ?_
      refine lv_aload_n hx hb dX3_put_11 rfl (lv_at hl 1 rfl) ?_
      refine r_get F hK hP 0 1 rfl rfl in_X3 (by decide) k_262 rfl dX3_put_12 ?_
      refine lv_iload_n hx hb dX3_put_15 rfl (lv_at hl 2 rfl) ?_
      refine lv_iload_n hx hb dX3_put_16 rfl (lv_at hl 0 rfl) ?_
      refine lv_ishr hx hb dX3_put_17 ?_
      refine rz_top (fun z3 h_z3 => ?_)
      refine lv_i2b hx hb dX3_put_18 rfl ?_
      refine rz_top (fun z4 h_z4 => ?_)
      refine rz_bast F hK hP hD hS 1 1 rfl rfl (zI_in (by omega) (by omega)) dX3_put_19 (w1 := fun g5 => [(b, .inr (3, [.ref (q 0), .int (zI (ii 0)), .ref (q 3), .ref (q 4), .int (zI (ii 1)), .int (zI (ii 2)), .ref (q 1), .ref (q 2), .int (zI (ii 3)), .int (zI (ii 4)), .int (zI (ii 5)), .int (zI (ii 6)), .long (zL (ii 7)), .int (zI (ii 8))])), ((q 0), .inl (cB, 900, .inl (fun k => zI (g5 k)))), ((q 1), .inl (cJ, 19, .inr (.inl (fun k => zL ((gg 1) k))))), ((q 2), .inl (cJ, 10, .inr (.inl (fun k => zL ((gg 2) k)))))]) (fun _ => rfl) (fun g5 H locs hP hD hS => ?_)
      refine lv_aload_n hx hb dX3_put_20 rfl (lv_at hl 1 rfl) ?_
      refine lv_dup hx hb dX3_put_21 rfl ?_
      refine r_get F hK hP 0 1 rfl rfl in_X3 (by decide) k_262 rfl dX3_put_22 ?_
      refine lv_iconst (v := zI 1) hx hb dX3_put_25 rfl ?_
      refine r_iadd (v := zI ((ii 0) + 1)) F dX3_put_26 (zI_add _ _) ?_
      refine r_put F hK hP hD hS 0 1 rfl rfl in_X3 tyX3 tyX3_ok nmX3 (by decide) k_262 rfl rfl rfl (Nat.le_of_ble_eq_true rfl) dX3_put_27 (w1 := [(b, .inr (3, [.ref (q 0), .int (zI ((ii 0) + 1)), .ref (q 3), .ref (q 4), .int (zI (ii 1)), .int (zI (ii 2)), .ref (q 1), .ref (q 2), .int (zI (ii 3)), .int (zI (ii 4)), .int (zI (ii 5)), .int (zI (ii 6)), .long (zL (ii 7)), .int (zI (ii 8))])), ((q 0), .inl (cB, 900, .inl (fun k => zI (g5 k)))), ((q 1), .inl (cJ, 19, .inr (.inl (fun k => zL ((gg 1) k))))), ((q 2), .inl (cJ, 10, .inr (.inl (fun k => zL ((gg 2) k)))))]) rfl (fun H locs hP hD hS => ?_)
      refine lv_iinc (v := zI (v2 + (-8))) (lv' := [(2, .int (zI (v2 + (-8)))), (0, .ref b), (1, .int (zI x))]) hx hb dX3_put_30 hl (k := 0) rfl (zI_add _ _) (by decide) rfl (fun ls hl => ?_)
      refine lv_goto (tgt := 3) hx hb dX3_put_33 (by decide) ?_
      obtain ⟨i6, e_i6⟩ : ∃ i6 : Nat → Int, i6 = fun k => [((ii 0) + 1), (ii 1), (ii 2), (ii 3), (ii 4), (ii 5), (ii 6), (ii 7), (ii 8)].getD k 0 := ⟨_, rfl⟩
      have e_i6_0 : i6 0 = ((ii 0) + 1) := by rw [e_i6]; rfl
      have e_i6_1 : i6 1 = (ii 1) := by rw [e_i6]; rfl
      have e_i6_2 : i6 2 = (ii 2) := by rw [e_i6]; rfl
      have e_i6_3 : i6 3 = (ii 3) := by rw [e_i6]; rfl
      have e_i6_4 : i6 4 = (ii 4) := by rw [e_i6]; rfl
      have e_i6_5 : i6 5 = (ii 5) := by rw [e_i6]; rfl
      have e_i6_6 : i6 6 = (ii 6) := by rw [e_i6]; rfl
      have e_i6_7 : i6 7 = (ii 7) := by rw [e_i6]; rfl
      have e_i6_8 : i6 8 = (ii 8) := by rw [e_i6]; rfl
      obtain ⟨gg7, e_gg7⟩ : ∃ gg7 : Nat → Nat → Int, gg7 = fun k => [g5, (gg 1), (gg 2)].getD k (fun _ => 0) := ⟨_, rfl⟩
      have hO8 : ReaderOk i6 := by refine ⟨?_, ?_, ?_, ?_, ?_, ?_⟩ <;> omega
      have hf9 := hO8
      have hP : va_P G vwCl [(b, .inr (3, [.ref (q 0), .int (zI (i6 0)), .ref (q 3), .ref (q 4), .int (zI (i6 1)), .int (zI (i6 2)), .ref (q 1), .ref (q 2), .int (zI (i6 3)), .int (zI (i6 4)), .int (zI (i6 5)), .int (zI (i6 6)), .long (zL (i6 7)), .int (zI (i6 8))])), ((q 0), .inl (cB, 900, .inl (fun k => zI ((gg7 0) k)))), ((q 1), .inl (cJ, 19, .inr (.inl (fun k => zL ((gg7 1) k))))), ((q 2), .inl (cJ, 10, .inr (.inl (fun k => zL ((gg7 2) k)))))] H := by subst e_i6 e_gg7; exact hP
      have hD : va_D A [(b, .inr (3, [.ref (q 0), .int (zI (i6 0)), .ref (q 3), .ref (q 4), .int (zI (i6 1)), .int (zI (i6 2)), .ref (q 1), .ref (q 2), .int (zI (i6 3)), .int (zI (i6 4)), .int (zI (i6 5)), .int (zI (i6 6)), .long (zL (i6 7)), .int (zI (i6 8))])), ((q 0), .inl (cB, 900, .inl (fun k => zI ((gg7 0) k)))), ((q 1), .inl (cJ, 19, .inr (.inl (fun k => zL ((gg7 1) k))))), ((q 2), .inl (cJ, 10, .inr (.inl (fun k => zL ((gg7 2) k)))))] := by subst e_i6 e_gg7; exact hD
      exact ih1 (v2 + (-8)) i6 gg7 _ _ (by omega) (by omega) hO8 hP hD hS ls (lv_sub hl [0, 1, 2] rfl)
theorem dX3_fail_0 : decode cX3_fail 0 = .ok (.aload_n 0, 1) := by decide +kernel
theorem dX3_fail_1 : decode cX3_fail 1 = .ok (.iload_n 1, 1) := by decide +kernel
theorem dX3_fail_2 : decode cX3_fail 2 = .ok (.putfield 33, 3) := by decide +kernel
theorem k_268 : Cond.fieldLink RX3 33 "BurntWays$Reader" "fault" "I" ∈ bw_T := bw_m 268 (by decide +kernel) rfl
theorem dX3_fail_5 : decode cX3_fail 5 = .ok (.aload_n 0, 1) := by decide +kernel
theorem dX3_fail_6 : decode cX3_fail 6 = .ok (.aload_n 0, 1) := by decide +kernel
theorem dX3_fail_7 : decode cX3_fail 7 = .ok (.getfield 52, 3) := by decide +kernel
theorem k_276 : Cond.fieldLink RX3 52 "BurntWays$Reader" "place" "I" ∈ bw_T := bw_m 276 (by decide +kernel) rfl
theorem dX3_fail_10 : decode cX3_fail 10 = .ok (.putfield 36, 3) := by decide +kernel
theorem k_270 : Cond.fieldLink RX3 36 "BurntWays$Reader" "faultPlace" "I" ∈ bw_T := bw_m 270 (by decide +kernel) rfl
theorem dX3_fail_13 : decode cX3_fail 13 = .ok (.iconst 0, 1) := by decide +kernel
theorem dX3_fail_14 : decode cX3_fail 14 = .ok (.ireturn, 1) := by decide +kernel
abbrev rm_X3_fail : Room := { frames := 0, cells := 0, slots := 0, locals := 0 }
set_option maxRecDepth 100000 in
set_option maxHeartbeats 8000000 in
theorem c_X3_fail {l : Launch} {E : (Nat → Prop) → State → Prop} (hO : bw_Ok E) {G : va_G} {cI cB cJ cN cW : ClassId} (b : Nat) (q : Nat → Nat) (i : Nat → Int) (g : Nat → Nat → Int) (hY : ReaderOk i) (x : Int)  : bw_Ci (S := zU) l yX3_fail (bw_ws (Cond.code yX3_fail cX3_fail 2 (some .boolean))) rm_X3_fail E G (bw_kt cI cB cJ cN cW) [.ref b, .int (zI x)] [(b, .inr (3, [.ref (q 0), .int (zI (i 0)), .ref (q 3), .ref (q 4), .int (zI (i 1)), .int (zI (i 2)), .ref (q 1), .ref (q 2), .int (zI (i 3)), .int (zI (i 4)), .int (zI (i 5)), .int (zI (i 6)), .long (zL (i 7)), .int (zI (i 8))])), ((q 0), .inl (cB, 900, .inl (fun k => zI ((g 0) k)))), ((q 1), .inl (cJ, 19, .inr (.inl (fun k => zL ((g 1) k))))), ((q 2), .inl (cJ, 10, .inr (.inl (fun k => zL ((g 2) k)))))] (fun r u => ∃ z : Int, r = zI z ∧ ReaderOk u.1 ∧ (z = 0 ∧ u.1 0 = i 0 ∧ u.1 3 = i 3 ∧ u.1 4 = i 4 ∧ u.1 5 = i 5 ∧ u.1 6 = i 6 ∧ u.1 7 = i 7 ∧ u.1 8 = i 8)) (fun u => [(b, .inr (3, [.ref (q 0), .int (zI (u.1 0)), .ref (q 3), .ref (q 4), .int (zI (u.1 1)), .int (zI (u.1 2)), .ref (q 1), .ref (q 2), .int (zI (u.1 3)), .int (zI (u.1 4)), .int (zI (u.1 5)), .int (zI (u.1 6)), .long (zL (u.1 7)), .int (zI (u.1 8))])), ((q 0), .inl (cB, 900, .inl (fun k => zI ((g 0) k)))), ((q 1), .inl (cJ, 19, .inr (.inl (fun k => zL ((g 1) k))))), ((q 2), .inl (cJ, 10, .inr (.inl (fun k => zL ((g 2) k)))))]) := by
  refine bw_Ci.of (cc := cX3_fail) (maxL := 2) (ty := .boolean) (by decide) rfl (Nat.le_of_ble_eq_true rfl) ?_
  intro p e s m below meth c A Q hx hb hml hts hown hin hK hA hS hP hD hE ret ls hl
  have F : CallFix p m c cX3_fail 2 s ([.ref b, .int (zI x)] : List Value).toArray bw_T RX3 := ⟨hx, hb, hml, hown, fun w h => hts w (List.mem_cons_of_mem _ h)⟩
  replace hl : lv_has ls 2 [(0, .ref b), (1, .int (zI x))] := hl
  refine lv_aload_n hx hb dX3_fail_0 rfl (lv_at hl 0 rfl) ?_
  refine lv_iload_n hx hb dX3_fail_1 rfl (lv_at hl 1 rfl) ?_
  refine r_put F hK hP hD hS 0 4 rfl rfl in_X3 tyX3 tyX3_ok nmX3 (by decide) k_268 rfl rfl rfl (Nat.le_of_ble_eq_true rfl) dX3_fail_2 (w1 := [(b, .inr (3, [.ref (q 0), .int (zI (i 0)), .ref (q 3), .ref (q 4), .int (zI x), .int (zI (i 2)), .ref (q 1), .ref (q 2), .int (zI (i 3)), .int (zI (i 4)), .int (zI (i 5)), .int (zI (i 6)), .long (zL (i 7)), .int (zI (i 8))])), ((q 0), .inl (cB, 900, .inl (fun k => zI ((g 0) k)))), ((q 1), .inl (cJ, 19, .inr (.inl (fun k => zL ((g 1) k))))), ((q 2), .inl (cJ, 10, .inr (.inl (fun k => zL ((g 2) k)))))]) rfl (fun H locs hP hD hS => ?_)
  refine lv_aload_n hx hb dX3_fail_5 rfl (lv_at hl 0 rfl) ?_
  refine lv_aload_n hx hb dX3_fail_6 rfl (lv_at hl 0 rfl) ?_
  refine r_get F hK hP 0 10 rfl rfl in_X3 (by decide) k_276 rfl dX3_fail_7 ?_
  refine r_put F hK hP hD hS 0 5 rfl rfl in_X3 tyX3 tyX3_ok nmX3 (by decide) k_270 rfl rfl rfl (Nat.le_of_ble_eq_true rfl) dX3_fail_10 (w1 := [(b, .inr (3, [.ref (q 0), .int (zI (i 0)), .ref (q 3), .ref (q 4), .int (zI x), .int (zI (i 5)), .ref (q 1), .ref (q 2), .int (zI (i 3)), .int (zI (i 4)), .int (zI (i 5)), .int (zI (i 6)), .long (zL (i 7)), .int (zI (i 8))])), ((q 0), .inl (cB, 900, .inl (fun k => zI ((g 0) k)))), ((q 1), .inl (cJ, 19, .inr (.inl (fun k => zL ((g 1) k))))), ((q 2), .inl (cJ, 10, .inr (.inl (fun k => zL ((g 2) k)))))]) rfl (fun H locs hP hD hS => ?_)
  refine lv_iconst (v := zI 0) hx hb dX3_fail_13 rfl ?_
  obtain ⟨i1, e_i1⟩ : ∃ i1 : Nat → Int, i1 = fun k => [(i 0), x, (i 5), (i 3), (i 4), (i 5), (i 6), (i 7), (i 8)].getD k 0 := ⟨_, rfl⟩
  have e_i1_0 : i1 0 = (i 0) := by rw [e_i1]; rfl
  have e_i1_1 : i1 1 = x := by rw [e_i1]; rfl
  have e_i1_2 : i1 2 = (i 5) := by rw [e_i1]; rfl
  have e_i1_3 : i1 3 = (i 3) := by rw [e_i1]; rfl
  have e_i1_4 : i1 4 = (i 4) := by rw [e_i1]; rfl
  have e_i1_5 : i1 5 = (i 5) := by rw [e_i1]; rfl
  have e_i1_6 : i1 6 = (i 6) := by rw [e_i1]; rfl
  have e_i1_7 : i1 7 = (i 7) := by rw [e_i1]; rfl
  have e_i1_8 : i1 8 = (i 8) := by rw [e_i1]; rfl
  have hO2 : ReaderOk i1 := by refine ⟨?_, ?_, ?_, ?_, ?_, ?_⟩ <;> omega
  have hf3 := hO2
  have hP : va_P G vwCl [(b, .inr (3, [.ref (q 0), .int (zI (i1 0)), .ref (q 3), .ref (q 4), .int (zI (i1 1)), .int (zI (i1 2)), .ref (q 1), .ref (q 2), .int (zI (i1 3)), .int (zI (i1 4)), .int (zI (i1 5)), .int (zI (i1 6)), .long (zL (i1 7)), .int (zI (i1 8))])), ((q 0), .inl (cB, 900, .inl (fun k => zI ((g 0) k)))), ((q 1), .inl (cJ, 19, .inr (.inl (fun k => zL ((g 1) k))))), ((q 2), .inl (cJ, 10, .inr (.inl (fun k => zL ((g 2) k)))))] H := by subst e_i1; exact hP
  have hD : va_D A [(b, .inr (3, [.ref (q 0), .int (zI (i1 0)), .ref (q 3), .ref (q 4), .int (zI (i1 1)), .int (zI (i1 2)), .ref (q 1), .ref (q 2), .int (zI (i1 3)), .int (zI (i1 4)), .int (zI (i1 5)), .int (zI (i1 6)), .long (zL (i1 7)), .int (zI (i1 8))])), ((q 0), .inl (cB, 900, .inl (fun k => zI ((g 0) k)))), ((q 1), .inl (cJ, 19, .inr (.inl (fun k => zL ((g 1) k))))), ((q 2), .inl (cJ, 10, .inr (.inl (fun k => zL ((g 2) k)))))] := by subst e_i1; exact hD
  exact ret (zI 0) (i1, fun _ _ => 0) _ _ _ _ _ _ rfl ⟨0, rfl, hO2, by dsimp only; omega⟩ (bw_subP (isC := [0, 1, 2, 3]) hP rfl) (hD.sub [0, 1, 2, 3] (by decide) rfl) hS (Nat.le_of_ble_eq_true rfl) (Nat.le_of_ble_eq_true rfl) dX3_fail_14
theorem dX3_isWord_0 : decode cX3_isWord 0 = .ok (.aload_n 0, 1) := by decide +kernel
theorem dX3_isWord_1 : decode cX3_isWord 1 = .ok (.getfield 49, 3) := by decide +kernel
theorem k_275 : Cond.fieldLink RX3 49 "BurntWays$Reader" "kind" "I" ∈ bw_T := bw_m 275 (by decide +kernel) rfl
theorem dX3_isWord_4 : decode cX3_isWord 4 = .ok (.iload_n 1, 1) := by decide +kernel
theorem dX3_isWord_5 : decode cX3_isWord 5 = .ok (.if_icmp .eq 11, 3) := by decide +kernel
theorem dX3_isWord_16 : decode cX3_isWord 16 = .ok (.iconst 1, 1) := by decide +kernel
theorem dX3_isWord_17 : decode cX3_isWord 17 = .ok (.goto 4, 3) := by decide +kernel
theorem dX3_isWord_21 : decode cX3_isWord 21 = .ok (.ireturn, 1) := by decide +kernel
theorem dX3_isWord_8 : decode cX3_isWord 8 = .ok (.aload_n 0, 1) := by decide +kernel
theorem dX3_isWord_9 : decode cX3_isWord 9 = .ok (.iconst 1, 1) := by decide +kernel
theorem dX3_isWord_10 : decode cX3_isWord 10 = .ok (.invokevirtual 98, 3) := by decide +kernel
theorem k_575 : Cond.methodLink RX3 98 yX3_fail ∈ bw_T := bw_m 575 (by decide +kernel) rfl
theorem kv_X3_fail : bw_KV RX3 yX3_fail (Cond.code yX3_fail cX3_fail 2 (some .boolean)) := ⟨bw_m 577 (by decide +kernel) rfl, bw_m 6 (by decide +kernel) rfl, bw_m 95 (by decide +kernel) rfl, bw_m 578 (by decide +kernel) rfl⟩
theorem dX3_isWord_13 : decode cX3_isWord 13 = .ok (.ifCond .eq 7, 3) := by decide +kernel
theorem dX3_isWord_20 : decode cX3_isWord 20 = .ok (.iconst 0, 1) := by decide +kernel
abbrev rm_X3_isWord : Room := { frames := 1, cells := 0, slots := 0, locals := 21 }
set_option maxRecDepth 100000 in
set_option maxHeartbeats 8000000 in
theorem c_X3_isWord {l : Launch} {E : (Nat → Prop) → State → Prop} (hO : bw_Ok E) {G : va_G} {cI cB cJ cN cW : ClassId} (b : Nat) (q : Nat → Nat) (i : Nat → Int) (g : Nat → Nat → Int) (hY : ReaderOk i) (x : Int) (hx9 : zR x) : bw_Ci (S := zU) l yX3_isWord (bw_ws (Cond.code yX3_isWord cX3_isWord 2 (some .boolean))) rm_X3_isWord E G (bw_kt cI cB cJ cN cW) [.ref b, .int (zI x)] [(b, .inr (3, [.ref (q 0), .int (zI (i 0)), .ref (q 3), .ref (q 4), .int (zI (i 1)), .int (zI (i 2)), .ref (q 1), .ref (q 2), .int (zI (i 3)), .int (zI (i 4)), .int (zI (i 5)), .int (zI (i 6)), .long (zL (i 7)), .int (zI (i 8))])), ((q 0), .inl (cB, 900, .inl (fun k => zI ((g 0) k)))), ((q 1), .inl (cJ, 19, .inr (.inl (fun k => zL ((g 1) k))))), ((q 2), .inl (cJ, 10, .inr (.inl (fun k => zL ((g 2) k)))))] (fun r u => ∃ z : Int, r = zI z ∧ ReaderOk u.1 ∧ ((z = 0 ∨ z = 1) ∧ (z = 1 → i 4 = x) ∧ u.1 0 = i 0 ∧ u.1 3 = i 3 ∧ u.1 4 = i 4 ∧ u.1 5 = i 5 ∧ u.1 6 = i 6 ∧ u.1 7 = i 7 ∧ u.1 8 = i 8)) (fun u => [(b, .inr (3, [.ref (q 0), .int (zI (u.1 0)), .ref (q 3), .ref (q 4), .int (zI (u.1 1)), .int (zI (u.1 2)), .ref (q 1), .ref (q 2), .int (zI (u.1 3)), .int (zI (u.1 4)), .int (zI (u.1 5)), .int (zI (u.1 6)), .long (zL (u.1 7)), .int (zI (u.1 8))])), ((q 0), .inl (cB, 900, .inl (fun k => zI ((g 0) k)))), ((q 1), .inl (cJ, 19, .inr (.inl (fun k => zL ((g 1) k))))), ((q 2), .inl (cJ, 10, .inr (.inl (fun k => zL ((g 2) k)))))]) := by
  refine bw_Ci.of (cc := cX3_isWord) (maxL := 2) (ty := .boolean) (by decide) rfl (Nat.le_of_ble_eq_true rfl) ?_
  intro p e s m below meth c A Q hx hb hml hts hown hin hK hA hS hP hD hE ret ls hl
  have F : CallFix p m c cX3_isWord 2 s ([.ref b, .int (zI x)] : List Value).toArray bw_T RX3 := ⟨hx, hb, hml, hown, fun w h => hts w (List.mem_cons_of_mem _ h)⟩
  replace hl : lv_has ls 2 [(0, .ref b), (1, .int (zI x))] := hl
  refine lv_aload_n hx hb dX3_isWord_0 rfl (lv_at hl 0 rfl) ?_
  refine r_get F hK hP 0 9 rfl rfl in_X3 (by decide) k_275 rfl dX3_isWord_1 ?_
  refine lv_iload_n hx hb dX3_isWord_4 rfl (lv_at hl 1 rfl) ?_
  refine rz_icmp_eq (tgt := 16) F (by omega) (by omega) dX3_isWord_5 (by decide) (fun h5_0 => ?_) (fun h5_0 => ?_)
  · refine lv_iconst (v := zI 1) hx hb dX3_isWord_16 rfl ?_
    refine lv_goto (tgt := 21) hx hb dX3_isWord_17 (by decide) ?_
    exact ret (zI 1) (i, fun _ _ => 0) _ _ _ _ _ _ rfl ⟨1, rfl, hY, by dsimp only; omega⟩ (bw_subP (isC := [0, 1, 2, 3]) hP rfl) (hD.sub [0, 1, 2, 3] (by decide) rfl) hS (Nat.le_of_ble_eq_true rfl) (Nat.le_of_ble_eq_true rfl) dX3_isWord_21
  · refine lv_aload_n hx hb dX3_isWord_8 rfl (lv_at hl 0 rfl) ?_
    refine lv_iconst (v := zI 1) hx hb dX3_isWord_9 rfl ?_
    refine r_callVi (As := [.int (zI 1)]) (rest := []) (wr := []) F hK hP hD hS hA hO hE (c_X3_fail hO b q i g hY 1) k_575 kv_X3_fail 1 rfl (by decide +kernel) ⟨Nat.le_of_ble_eq_true rfl, Nat.le_of_ble_eq_true rfl⟩ [0, 1, 2, 3] [] rfl rfl (by decide) (by decide) (by decide) 0 3 rfl rfl rfl hl.1 rfl (Nat.le_of_ble_eq_true rfl) dX3_isWord_10 ⟨Nat.le_of_ble_eq_true rfl, Nat.le_of_ble_eq_true rfl⟩ (w1 := fun u2 => [(b, .inr (3, [.ref (q 0), .int (zI (u2.1 0)), .ref (q 3), .ref (q 4), .int (zI (u2.1 1)), .int (zI (u2.1 2)), .ref (q 1), .ref (q 2), .int (zI (u2.1 3)), .int (zI (u2.1 4)), .int (zI (u2.1 5)), .int (zI (u2.1 6)), .long (zL (u2.1 7)), .int (zI (u2.1 8))])), ((q 0), .inl (cB, 900, .inl (fun k => zI ((g 0) k)))), ((q 1), .inl (cJ, 19, .inr (.inl (fun k => zL ((g 1) k))))), ((q 2), .inl (cJ, 10, .inr (.inl (fun k => zL ((g 2) k)))))]) (fun _ => rfl) (fun r3 u2 H locs hp4 hP hD hS => ?_)
    obtain ⟨z5, rfl, h_z5⟩ := hp4
    have hx6 := h_z5.2
    have hf7 := h_z5.1
    refine rz_if_eq (tgt := 20) F (by omega) dX3_isWord_13 (by decide) (fun h13_7 => ?_) (fun h13_7 => ?_)
    · refine lv_iconst (v := zI 0) hx hb dX3_isWord_20 rfl ?_
      exact ret (zI 0) (u2.1, fun _ _ => 0) _ _ _ _ _ _ rfl ⟨0, rfl, h_z5.1, by dsimp only; omega⟩ (bw_subP (isC := [0, 1, 2, 3]) hP rfl) (hD.sub [0, 1, 2, 3] (by decide) rfl) hS (Nat.le_of_ble_eq_true rfl) (Nat.le_of_ble_eq_true rfl) dX3_isWord_21
    · refine lv_iconst (v := zI 1) hx hb dX3_isWord_16 rfl ?_
      refine lv_goto (tgt := 21) hx hb dX3_isWord_17 (by decide) ?_
      exact ret (zI 1) (u2.1, fun _ _ => 0) _ _ _ _ _ _ rfl ⟨1, rfl, h_z5.1, by dsimp only; omega⟩ (bw_subP (isC := [0, 1, 2, 3]) hP rfl) (hD.sub [0, 1, 2, 3] (by decide) rfl) hS (Nat.le_of_ble_eq_true rfl) (Nat.le_of_ble_eq_true rfl) dX3_isWord_21
theorem dX3_isCounter_0 : decode cX3_isCounter 0 = .ok (.aload_n 0, 1) := by decide +kernel
theorem dX3_isCounter_1 : decode cX3_isCounter 1 = .ok (.getfield 49, 3) := by decide +kernel
theorem dX3_isCounter_4 : decode cX3_isCounter 4 = .ok (.bipush 15, 2) := by decide +kernel
theorem dX3_isCounter_6 : decode cX3_isCounter 6 = .ok (.if_icmp .lt 12, 3) := by decide +kernel
theorem dX3_isCounter_18 : decode cX3_isCounter 18 = .ok (.aload_n 0, 1) := by decide +kernel
theorem dX3_isCounter_19 : decode cX3_isCounter 19 = .ok (.iconst 1, 1) := by decide +kernel
theorem dX3_isCounter_20 : decode cX3_isCounter 20 = .ok (.invokevirtual 98, 3) := by decide +kernel
theorem dX3_isCounter_23 : decode cX3_isCounter 23 = .ok (.ifCond .eq 7, 3) := by decide +kernel
theorem dX3_isCounter_30 : decode cX3_isCounter 30 = .ok (.iconst 0, 1) := by decide +kernel
theorem dX3_isCounter_31 : decode cX3_isCounter 31 = .ok (.ireturn, 1) := by decide +kernel
theorem dX3_isCounter_26 : decode cX3_isCounter 26 = .ok (.iconst 1, 1) := by decide +kernel
theorem dX3_isCounter_27 : decode cX3_isCounter 27 = .ok (.goto 4, 3) := by decide +kernel
theorem dX3_isCounter_9 : decode cX3_isCounter 9 = .ok (.aload_n 0, 1) := by decide +kernel
theorem dX3_isCounter_10 : decode cX3_isCounter 10 = .ok (.getfield 49, 3) := by decide +kernel
theorem dX3_isCounter_13 : decode cX3_isCounter 13 = .ok (.bipush 19, 2) := by decide +kernel
theorem dX3_isCounter_15 : decode cX3_isCounter 15 = .ok (.if_icmp .lt 11, 3) := by decide +kernel
abbrev rm_X3_isCounter : Room := { frames := 1, cells := 0, slots := 0, locals := 21 }
set_option maxRecDepth 100000 in
set_option maxHeartbeats 8000000 in
theorem c_X3_isCounter {l : Launch} {E : (Nat → Prop) → State → Prop} (hO : bw_Ok E) {G : va_G} {cI cB cJ cN cW : ClassId} (b : Nat) (q : Nat → Nat) (i : Nat → Int) (g : Nat → Nat → Int) (hY : ReaderOk i)  : bw_Ci (S := zU) l yX3_isCounter (bw_ws (Cond.code yX3_isCounter cX3_isCounter 1 (some .boolean))) rm_X3_isCounter E G (bw_kt cI cB cJ cN cW) [.ref b] [(b, .inr (3, [.ref (q 0), .int (zI (i 0)), .ref (q 3), .ref (q 4), .int (zI (i 1)), .int (zI (i 2)), .ref (q 1), .ref (q 2), .int (zI (i 3)), .int (zI (i 4)), .int (zI (i 5)), .int (zI (i 6)), .long (zL (i 7)), .int (zI (i 8))])), ((q 0), .inl (cB, 900, .inl (fun k => zI ((g 0) k)))), ((q 1), .inl (cJ, 19, .inr (.inl (fun k => zL ((g 1) k))))), ((q 2), .inl (cJ, 10, .inr (.inl (fun k => zL ((g 2) k)))))] (fun r u => ∃ z : Int, r = zI z ∧ ReaderOk u.1 ∧ ((z = 0 ∨ z = 1) ∧ (z = 1 → 15 ≤ i 4 ∧ i 4 < 19) ∧ u.1 0 = i 0 ∧ u.1 3 = i 3 ∧ u.1 4 = i 4 ∧ u.1 5 = i 5 ∧ u.1 6 = i 6 ∧ u.1 7 = i 7 ∧ u.1 8 = i 8)) (fun u => [(b, .inr (3, [.ref (q 0), .int (zI (u.1 0)), .ref (q 3), .ref (q 4), .int (zI (u.1 1)), .int (zI (u.1 2)), .ref (q 1), .ref (q 2), .int (zI (u.1 3)), .int (zI (u.1 4)), .int (zI (u.1 5)), .int (zI (u.1 6)), .long (zL (u.1 7)), .int (zI (u.1 8))])), ((q 0), .inl (cB, 900, .inl (fun k => zI ((g 0) k)))), ((q 1), .inl (cJ, 19, .inr (.inl (fun k => zL ((g 1) k))))), ((q 2), .inl (cJ, 10, .inr (.inl (fun k => zL ((g 2) k)))))]) := by
  refine bw_Ci.of (cc := cX3_isCounter) (maxL := 1) (ty := .boolean) (by decide) rfl (Nat.le_of_ble_eq_true rfl) ?_
  intro p e s m below meth c A Q hx hb hml hts hown hin hK hA hS hP hD hE ret ls hl
  have F : CallFix p m c cX3_isCounter 1 s ([.ref b] : List Value).toArray bw_T RX3 := ⟨hx, hb, hml, hown, fun w h => hts w (List.mem_cons_of_mem _ h)⟩
  replace hl : lv_has ls 1 [(0, .ref b)] := hl
  refine lv_aload_n hx hb dX3_isCounter_0 rfl (lv_at hl 0 rfl) ?_
  refine r_get F hK hP 0 9 rfl rfl in_X3 (by decide) k_275 rfl dX3_isCounter_1 ?_
  refine lv_bipush (v := zI 15) hx hb dX3_isCounter_4 (by decide) ?_
  refine rz_icmp_lt (tgt := 18) F (by omega) (by omega) dX3_isCounter_6 (by decide) (fun h6_0 => ?_) (fun h6_0 => ?_)
  · refine lv_aload_n hx hb dX3_isCounter_18 rfl (lv_at hl 0 rfl) ?_
    refine lv_iconst (v := zI 1) hx hb dX3_isCounter_19 rfl ?_
    refine r_callVi (As := [.int (zI 1)]) (rest := []) (wr := []) F hK hP hD hS hA hO hE (c_X3_fail hO b q i g hY 1) k_575 kv_X3_fail 1 rfl (by decide +kernel) ⟨Nat.le_of_ble_eq_true rfl, Nat.le_of_ble_eq_true rfl⟩ [0, 1, 2, 3] [] rfl rfl (by decide) (by decide) (by decide) 0 3 rfl rfl rfl hl.1 rfl (Nat.le_of_ble_eq_true rfl) dX3_isCounter_20 ⟨Nat.le_of_ble_eq_true rfl, Nat.le_of_ble_eq_true rfl⟩ (w1 := fun u2 => [(b, .inr (3, [.ref (q 0), .int (zI (u2.1 0)), .ref (q 3), .ref (q 4), .int (zI (u2.1 1)), .int (zI (u2.1 2)), .ref (q 1), .ref (q 2), .int (zI (u2.1 3)), .int (zI (u2.1 4)), .int (zI (u2.1 5)), .int (zI (u2.1 6)), .long (zL (u2.1 7)), .int (zI (u2.1 8))])), ((q 0), .inl (cB, 900, .inl (fun k => zI ((g 0) k)))), ((q 1), .inl (cJ, 19, .inr (.inl (fun k => zL ((g 1) k))))), ((q 2), .inl (cJ, 10, .inr (.inl (fun k => zL ((g 2) k)))))]) (fun _ => rfl) (fun r3 u2 H locs hp4 hP hD hS => ?_)
    obtain ⟨z5, rfl, h_z5⟩ := hp4
    have hx6 := h_z5.2
    have hf7 := h_z5.1
    refine rz_if_eq (tgt := 30) F (by omega) dX3_isCounter_23 (by decide) (fun h23_7 => ?_) (fun h23_7 => ?_)
    · refine lv_iconst (v := zI 0) hx hb dX3_isCounter_30 rfl ?_
      exact ret (zI 0) (u2.1, fun _ _ => 0) _ _ _ _ _ _ rfl ⟨0, rfl, h_z5.1, by dsimp only; omega⟩ (bw_subP (isC := [0, 1, 2, 3]) hP rfl) (hD.sub [0, 1, 2, 3] (by decide) rfl) hS (Nat.le_of_ble_eq_true rfl) (Nat.le_of_ble_eq_true rfl) dX3_isCounter_31
    · refine lv_iconst (v := zI 1) hx hb dX3_isCounter_26 rfl ?_
      refine lv_goto (tgt := 31) hx hb dX3_isCounter_27 (by decide) ?_
      exact ret (zI 1) (u2.1, fun _ _ => 0) _ _ _ _ _ _ rfl ⟨1, rfl, h_z5.1, by dsimp only; omega⟩ (bw_subP (isC := [0, 1, 2, 3]) hP rfl) (hD.sub [0, 1, 2, 3] (by decide) rfl) hS (Nat.le_of_ble_eq_true rfl) (Nat.le_of_ble_eq_true rfl) dX3_isCounter_31
  · refine lv_aload_n hx hb dX3_isCounter_9 rfl (lv_at hl 0 rfl) ?_
    refine r_get F hK hP 0 9 rfl rfl in_X3 (by decide) k_275 rfl dX3_isCounter_10 ?_
    refine lv_bipush (v := zI 19) hx hb dX3_isCounter_13 (by decide) ?_
    refine rz_icmp_lt (tgt := 26) F (by omega) (by omega) dX3_isCounter_15 (by decide) (fun h15_8 => ?_) (fun h15_8 => ?_)
    · refine lv_iconst (v := zI 1) hx hb dX3_isCounter_26 rfl ?_
      refine lv_goto (tgt := 31) hx hb dX3_isCounter_27 (by decide) ?_
      exact ret (zI 1) (i, fun _ _ => 0) _ _ _ _ _ _ rfl ⟨1, rfl, hY, by dsimp only; omega⟩ (bw_subP (isC := [0, 1, 2, 3]) hP rfl) (hD.sub [0, 1, 2, 3] (by decide) rfl) hS (Nat.le_of_ble_eq_true rfl) (Nat.le_of_ble_eq_true rfl) dX3_isCounter_31
    · refine lv_aload_n hx hb dX3_isCounter_18 rfl (lv_at hl 0 rfl) ?_
      refine lv_iconst (v := zI 1) hx hb dX3_isCounter_19 rfl ?_
      refine r_callVi (As := [.int (zI 1)]) (rest := []) (wr := []) F hK hP hD hS hA hO hE (c_X3_fail hO b q i g hY 1) k_575 kv_X3_fail 1 rfl (by decide +kernel) ⟨Nat.le_of_ble_eq_true rfl, Nat.le_of_ble_eq_true rfl⟩ [0, 1, 2, 3] [] rfl rfl (by decide) (by decide) (by decide) 0 3 rfl rfl rfl hl.1 rfl (Nat.le_of_ble_eq_true rfl) dX3_isCounter_20 ⟨Nat.le_of_ble_eq_true rfl, Nat.le_of_ble_eq_true rfl⟩ (w1 := fun u10 => [(b, .inr (3, [.ref (q 0), .int (zI (u10.1 0)), .ref (q 3), .ref (q 4), .int (zI (u10.1 1)), .int (zI (u10.1 2)), .ref (q 1), .ref (q 2), .int (zI (u10.1 3)), .int (zI (u10.1 4)), .int (zI (u10.1 5)), .int (zI (u10.1 6)), .long (zL (u10.1 7)), .int (zI (u10.1 8))])), ((q 0), .inl (cB, 900, .inl (fun k => zI ((g 0) k)))), ((q 1), .inl (cJ, 19, .inr (.inl (fun k => zL ((g 1) k))))), ((q 2), .inl (cJ, 10, .inr (.inl (fun k => zL ((g 2) k)))))]) (fun _ => rfl) (fun r11 u10 H locs hp12 hP hD hS => ?_)
      obtain ⟨z13, rfl, h_z13⟩ := hp12
      have hx14 := h_z13.2
      have hf15 := h_z13.1
      refine rz_if_eq (tgt := 30) F (by omega) dX3_isCounter_23 (by decide) (fun h23_15 => ?_) (fun h23_15 => ?_)
      · refine lv_iconst (v := zI 0) hx hb dX3_isCounter_30 rfl ?_
        exact ret (zI 0) (u10.1, fun _ _ => 0) _ _ _ _ _ _ rfl ⟨0, rfl, h_z13.1, by dsimp only; omega⟩ (bw_subP (isC := [0, 1, 2, 3]) hP rfl) (hD.sub [0, 1, 2, 3] (by decide) rfl) hS (Nat.le_of_ble_eq_true rfl) (Nat.le_of_ble_eq_true rfl) dX3_isCounter_31
      · refine lv_iconst (v := zI 1) hx hb dX3_isCounter_26 rfl ?_
        refine lv_goto (tgt := 31) hx hb dX3_isCounter_27 (by decide) ?_
        exact ret (zI 1) (u10.1, fun _ _ => 0) _ _ _ _ _ _ rfl ⟨1, rfl, h_z13.1, by dsimp only; omega⟩ (bw_subP (isC := [0, 1, 2, 3]) hP rfl) (hD.sub [0, 1, 2, 3] (by decide) rfl) hS (Nat.le_of_ble_eq_true rfl) (Nat.le_of_ble_eq_true rfl) dX3_isCounter_31
theorem dX3_isWhole_0 : decode cX3_isWhole 0 = .ok (.aload_n 0, 1) := by decide +kernel
theorem dX3_isWhole_1 : decode cX3_isWhole 1 = .ok (.getfield 49, 3) := by decide +kernel
theorem dX3_isWhole_4 : decode cX3_isWhole 4 = .ok (.bipush 20, 2) := by decide +kernel
theorem dX3_isWhole_6 : decode cX3_isWhole 6 = .ok (.if_icmp .eq 9, 3) := by decide +kernel
theorem dX3_isWhole_15 : decode cX3_isWhole 15 = .ok (.aload_n 0, 1) := by decide +kernel
theorem dX3_isWhole_16 : decode cX3_isWhole 16 = .ok (.getfield 62, 3) := by decide +kernel
theorem k_279 : Cond.fieldLink RX3 62 "BurntWays$Reader" "number" "I" ∈ bw_T := bw_m 279 (by decide +kernel) rfl
theorem dX3_isWhole_19 : decode cX3_isWhole 19 = .ok (.iload_n 1, 1) := by decide +kernel
theorem dX3_isWhole_20 : decode cX3_isWhole 20 = .ok (.if_icmp .lt 11, 3) := by decide +kernel
theorem dX3_isWhole_31 : decode cX3_isWhole 31 = .ok (.aload_n 0, 1) := by decide +kernel
theorem dX3_isWhole_32 : decode cX3_isWhole 32 = .ok (.iconst 4, 1) := by decide +kernel
theorem dX3_isWhole_33 : decode cX3_isWhole 33 = .ok (.invokevirtual 98, 3) := by decide +kernel
theorem dX3_isWhole_36 : decode cX3_isWhole 36 = .ok (.ifCond .eq 7, 3) := by decide +kernel
theorem dX3_isWhole_43 : decode cX3_isWhole 43 = .ok (.iconst 0, 1) := by decide +kernel
theorem dX3_isWhole_44 : decode cX3_isWhole 44 = .ok (.ireturn, 1) := by decide +kernel
theorem dX3_isWhole_39 : decode cX3_isWhole 39 = .ok (.iconst 1, 1) := by decide +kernel
theorem dX3_isWhole_40 : decode cX3_isWhole 40 = .ok (.goto 4, 3) := by decide +kernel
theorem dX3_isWhole_23 : decode cX3_isWhole 23 = .ok (.aload_n 0, 1) := by decide +kernel
theorem dX3_isWhole_24 : decode cX3_isWhole 24 = .ok (.getfield 62, 3) := by decide +kernel
theorem dX3_isWhole_27 : decode cX3_isWhole 27 = .ok (.iload_n 2, 1) := by decide +kernel
theorem dX3_isWhole_28 : decode cX3_isWhole 28 = .ok (.if_icmp .le 11, 3) := by decide +kernel
theorem dX3_isWhole_9 : decode cX3_isWhole 9 = .ok (.aload_n 0, 1) := by decide +kernel
theorem dX3_isWhole_10 : decode cX3_isWhole 10 = .ok (.iconst 1, 1) := by decide +kernel
theorem dX3_isWhole_11 : decode cX3_isWhole 11 = .ok (.invokevirtual 98, 3) := by decide +kernel
theorem dX3_isWhole_14 : decode cX3_isWhole 14 = .ok (.ireturn, 1) := by decide +kernel
abbrev rm_X3_isWhole : Room := { frames := 1, cells := 0, slots := 0, locals := 21 }
set_option maxRecDepth 100000 in
set_option maxHeartbeats 8000000 in
theorem c_X3_isWhole {l : Launch} {E : (Nat → Prop) → State → Prop} (hO : bw_Ok E) {G : va_G} {cI cB cJ cN cW : ClassId} (b : Nat) (q : Nat → Nat) (i : Nat → Int) (g : Nat → Nat → Int) (hY : ReaderOk i) (x : Int) (y : Int) (hx9 : zR x) (hy9 : zR y) : bw_Ci (S := zU) l yX3_isWhole (bw_ws (Cond.code yX3_isWhole cX3_isWhole 3 (some .boolean))) rm_X3_isWhole E G (bw_kt cI cB cJ cN cW) [.ref b, .int (zI x), .int (zI y)] [(b, .inr (3, [.ref (q 0), .int (zI (i 0)), .ref (q 3), .ref (q 4), .int (zI (i 1)), .int (zI (i 2)), .ref (q 1), .ref (q 2), .int (zI (i 3)), .int (zI (i 4)), .int (zI (i 5)), .int (zI (i 6)), .long (zL (i 7)), .int (zI (i 8))])), ((q 0), .inl (cB, 900, .inl (fun k => zI ((g 0) k)))), ((q 1), .inl (cJ, 19, .inr (.inl (fun k => zL ((g 1) k))))), ((q 2), .inl (cJ, 10, .inr (.inl (fun k => zL ((g 2) k)))))] (fun r u => ∃ z : Int, r = zI z ∧ ReaderOk u.1 ∧ ((z = 0 ∨ z = 1) ∧ (z = 1 → x ≤ i 8 ∧ i 8 ≤ y) ∧ u.1 0 = i 0 ∧ u.1 3 = i 3 ∧ u.1 4 = i 4 ∧ u.1 5 = i 5 ∧ u.1 6 = i 6 ∧ u.1 7 = i 7 ∧ u.1 8 = i 8)) (fun u => [(b, .inr (3, [.ref (q 0), .int (zI (u.1 0)), .ref (q 3), .ref (q 4), .int (zI (u.1 1)), .int (zI (u.1 2)), .ref (q 1), .ref (q 2), .int (zI (u.1 3)), .int (zI (u.1 4)), .int (zI (u.1 5)), .int (zI (u.1 6)), .long (zL (u.1 7)), .int (zI (u.1 8))])), ((q 0), .inl (cB, 900, .inl (fun k => zI ((g 0) k)))), ((q 1), .inl (cJ, 19, .inr (.inl (fun k => zL ((g 1) k))))), ((q 2), .inl (cJ, 10, .inr (.inl (fun k => zL ((g 2) k)))))]) := by
  refine bw_Ci.of (cc := cX3_isWhole) (maxL := 3) (ty := .boolean) (by decide) rfl (Nat.le_of_ble_eq_true rfl) ?_
  intro p e s m below meth c A Q hx hb hml hts hown hin hK hA hS hP hD hE ret ls hl
  have F : CallFix p m c cX3_isWhole 3 s ([.ref b, .int (zI x), .int (zI y)] : List Value).toArray bw_T RX3 := ⟨hx, hb, hml, hown, fun w h => hts w (List.mem_cons_of_mem _ h)⟩
  replace hl : lv_has ls 3 [(0, .ref b), (1, .int (zI x)), (2, .int (zI y))] := hl
  refine lv_aload_n hx hb dX3_isWhole_0 rfl (lv_at hl 0 rfl) ?_
  refine r_get F hK hP 0 9 rfl rfl in_X3 (by decide) k_275 rfl dX3_isWhole_1 ?_
  refine lv_bipush (v := zI 20) hx hb dX3_isWhole_4 (by decide) ?_
  refine rz_icmp_eq (tgt := 15) F (by omega) (by omega) dX3_isWhole_6 (by decide) (fun h6_0 => ?_) (fun h6_0 => ?_)
  · refine lv_aload_n hx hb dX3_isWhole_15 rfl (lv_at hl 0 rfl) ?_
    refine r_get F hK hP 0 13 rfl rfl in_X3 (by decide) k_279 rfl dX3_isWhole_16 ?_
    refine lv_iload_n hx hb dX3_isWhole_19 rfl (lv_at hl 1 rfl) ?_
    refine rz_icmp_lt (tgt := 31) F (by omega) (by omega) dX3_isWhole_20 (by decide) (fun h20_1 => ?_) (fun h20_1 => ?_)
    · refine lv_aload_n hx hb dX3_isWhole_31 rfl (lv_at hl 0 rfl) ?_
      refine lv_iconst (v := zI 4) hx hb dX3_isWhole_32 rfl ?_
      refine r_callVi (As := [.int (zI 4)]) (rest := []) (wr := []) F hK hP hD hS hA hO hE (c_X3_fail hO b q i g hY 4) k_575 kv_X3_fail 1 rfl (by decide +kernel) ⟨Nat.le_of_ble_eq_true rfl, Nat.le_of_ble_eq_true rfl⟩ [0, 1, 2, 3] [] rfl rfl (by decide) (by decide) (by decide) 0 3 rfl rfl rfl hl.1 rfl (Nat.le_of_ble_eq_true rfl) dX3_isWhole_33 ⟨Nat.le_of_ble_eq_true rfl, Nat.le_of_ble_eq_true rfl⟩ (w1 := fun u3 => [(b, .inr (3, [.ref (q 0), .int (zI (u3.1 0)), .ref (q 3), .ref (q 4), .int (zI (u3.1 1)), .int (zI (u3.1 2)), .ref (q 1), .ref (q 2), .int (zI (u3.1 3)), .int (zI (u3.1 4)), .int (zI (u3.1 5)), .int (zI (u3.1 6)), .long (zL (u3.1 7)), .int (zI (u3.1 8))])), ((q 0), .inl (cB, 900, .inl (fun k => zI ((g 0) k)))), ((q 1), .inl (cJ, 19, .inr (.inl (fun k => zL ((g 1) k))))), ((q 2), .inl (cJ, 10, .inr (.inl (fun k => zL ((g 2) k)))))]) (fun _ => rfl) (fun r4 u3 H locs hp5 hP hD hS => ?_)
      obtain ⟨z6, rfl, h_z6⟩ := hp5
      have hx7 := h_z6.2
      have hf8 := h_z6.1
      refine rz_if_eq (tgt := 43) F (by omega) dX3_isWhole_36 (by decide) (fun h36_8 => ?_) (fun h36_8 => ?_)
      · refine lv_iconst (v := zI 0) hx hb dX3_isWhole_43 rfl ?_
        exact ret (zI 0) (u3.1, fun _ _ => 0) _ _ _ _ _ _ rfl ⟨0, rfl, h_z6.1, by dsimp only; omega⟩ (bw_subP (isC := [0, 1, 2, 3]) hP rfl) (hD.sub [0, 1, 2, 3] (by decide) rfl) hS (Nat.le_of_ble_eq_true rfl) (Nat.le_of_ble_eq_true rfl) dX3_isWhole_44
      · refine lv_iconst (v := zI 1) hx hb dX3_isWhole_39 rfl ?_
        refine lv_goto (tgt := 44) hx hb dX3_isWhole_40 (by decide) ?_
        exact ret (zI 1) (u3.1, fun _ _ => 0) _ _ _ _ _ _ rfl ⟨1, rfl, h_z6.1, by dsimp only; omega⟩ (bw_subP (isC := [0, 1, 2, 3]) hP rfl) (hD.sub [0, 1, 2, 3] (by decide) rfl) hS (Nat.le_of_ble_eq_true rfl) (Nat.le_of_ble_eq_true rfl) dX3_isWhole_44
    · refine lv_aload_n hx hb dX3_isWhole_23 rfl (lv_at hl 0 rfl) ?_
      refine r_get F hK hP 0 13 rfl rfl in_X3 (by decide) k_279 rfl dX3_isWhole_24 ?_
      refine lv_iload_n hx hb dX3_isWhole_27 rfl (lv_at hl 2 rfl) ?_
      refine rz_icmp_le (tgt := 39) F (by omega) (by omega) dX3_isWhole_28 (by decide) (fun h28_9 => ?_) (fun h28_9 => ?_)
      · refine lv_iconst (v := zI 1) hx hb dX3_isWhole_39 rfl ?_
        refine lv_goto (tgt := 44) hx hb dX3_isWhole_40 (by decide) ?_
        exact ret (zI 1) (i, fun _ _ => 0) _ _ _ _ _ _ rfl ⟨1, rfl, hY, by dsimp only; omega⟩ (bw_subP (isC := [0, 1, 2, 3]) hP rfl) (hD.sub [0, 1, 2, 3] (by decide) rfl) hS (Nat.le_of_ble_eq_true rfl) (Nat.le_of_ble_eq_true rfl) dX3_isWhole_44
      · refine lv_aload_n hx hb dX3_isWhole_31 rfl (lv_at hl 0 rfl) ?_
        refine lv_iconst (v := zI 4) hx hb dX3_isWhole_32 rfl ?_
        refine r_callVi (As := [.int (zI 4)]) (rest := []) (wr := []) F hK hP hD hS hA hO hE (c_X3_fail hO b q i g hY 4) k_575 kv_X3_fail 1 rfl (by decide +kernel) ⟨Nat.le_of_ble_eq_true rfl, Nat.le_of_ble_eq_true rfl⟩ [0, 1, 2, 3] [] rfl rfl (by decide) (by decide) (by decide) 0 3 rfl rfl rfl hl.1 rfl (Nat.le_of_ble_eq_true rfl) dX3_isWhole_33 ⟨Nat.le_of_ble_eq_true rfl, Nat.le_of_ble_eq_true rfl⟩ (w1 := fun u11 => [(b, .inr (3, [.ref (q 0), .int (zI (u11.1 0)), .ref (q 3), .ref (q 4), .int (zI (u11.1 1)), .int (zI (u11.1 2)), .ref (q 1), .ref (q 2), .int (zI (u11.1 3)), .int (zI (u11.1 4)), .int (zI (u11.1 5)), .int (zI (u11.1 6)), .long (zL (u11.1 7)), .int (zI (u11.1 8))])), ((q 0), .inl (cB, 900, .inl (fun k => zI ((g 0) k)))), ((q 1), .inl (cJ, 19, .inr (.inl (fun k => zL ((g 1) k))))), ((q 2), .inl (cJ, 10, .inr (.inl (fun k => zL ((g 2) k)))))]) (fun _ => rfl) (fun r12 u11 H locs hp13 hP hD hS => ?_)
        obtain ⟨z14, rfl, h_z14⟩ := hp13
        have hx15 := h_z14.2
        have hf16 := h_z14.1
        refine rz_if_eq (tgt := 43) F (by omega) dX3_isWhole_36 (by decide) (fun h36_16 => ?_) (fun h36_16 => ?_)
        · refine lv_iconst (v := zI 0) hx hb dX3_isWhole_43 rfl ?_
          exact ret (zI 0) (u11.1, fun _ _ => 0) _ _ _ _ _ _ rfl ⟨0, rfl, h_z14.1, by dsimp only; omega⟩ (bw_subP (isC := [0, 1, 2, 3]) hP rfl) (hD.sub [0, 1, 2, 3] (by decide) rfl) hS (Nat.le_of_ble_eq_true rfl) (Nat.le_of_ble_eq_true rfl) dX3_isWhole_44
        · refine lv_iconst (v := zI 1) hx hb dX3_isWhole_39 rfl ?_
          refine lv_goto (tgt := 44) hx hb dX3_isWhole_40 (by decide) ?_
          exact ret (zI 1) (u11.1, fun _ _ => 0) _ _ _ _ _ _ rfl ⟨1, rfl, h_z14.1, by dsimp only; omega⟩ (bw_subP (isC := [0, 1, 2, 3]) hP rfl) (hD.sub [0, 1, 2, 3] (by decide) rfl) hS (Nat.le_of_ble_eq_true rfl) (Nat.le_of_ble_eq_true rfl) dX3_isWhole_44
  · refine lv_aload_n hx hb dX3_isWhole_9 rfl (lv_at hl 0 rfl) ?_
    refine lv_iconst (v := zI 1) hx hb dX3_isWhole_10 rfl ?_
    refine r_callVi (As := [.int (zI 1)]) (rest := []) (wr := []) F hK hP hD hS hA hO hE (c_X3_fail hO b q i g hY 1) k_575 kv_X3_fail 1 rfl (by decide +kernel) ⟨Nat.le_of_ble_eq_true rfl, Nat.le_of_ble_eq_true rfl⟩ [0, 1, 2, 3] [] rfl rfl (by decide) (by decide) (by decide) 0 3 rfl rfl rfl hl.1 rfl (Nat.le_of_ble_eq_true rfl) dX3_isWhole_11 ⟨Nat.le_of_ble_eq_true rfl, Nat.le_of_ble_eq_true rfl⟩ (w1 := fun u18 => [(b, .inr (3, [.ref (q 0), .int (zI (u18.1 0)), .ref (q 3), .ref (q 4), .int (zI (u18.1 1)), .int (zI (u18.1 2)), .ref (q 1), .ref (q 2), .int (zI (u18.1 3)), .int (zI (u18.1 4)), .int (zI (u18.1 5)), .int (zI (u18.1 6)), .long (zL (u18.1 7)), .int (zI (u18.1 8))])), ((q 0), .inl (cB, 900, .inl (fun k => zI ((g 0) k)))), ((q 1), .inl (cJ, 19, .inr (.inl (fun k => zL ((g 1) k))))), ((q 2), .inl (cJ, 10, .inr (.inl (fun k => zL ((g 2) k)))))]) (fun _ => rfl) (fun r19 u18 H locs hp20 hP hD hS => ?_)
    obtain ⟨z21, rfl, h_z21⟩ := hp20
    have hx22 := h_z21.2
    have hf23 := h_z21.1
    exact ret (zI z21) (u18.1, fun _ _ => 0) _ _ _ _ _ _ (zI_nz (by omega)) ⟨z21, rfl, h_z21.1, by dsimp only; omega⟩ (bw_subP (isC := [0, 1, 2, 3]) hP rfl) (hD.sub [0, 1, 2, 3] (by decide) rfl) hS (Nat.le_of_ble_eq_true rfl) (Nat.le_of_ble_eq_true rfl) dX3_isWhole_14
theorem dX3_lookAtWhole_0 : decode cX3_lookAtWhole 0 = .ok (.aload_n 0, 1) := by decide +kernel
theorem dX3_lookAtWhole_1 : decode cX3_lookAtWhole 1 = .ok (.iconst 0, 1) := by decide +kernel
theorem dX3_lookAtWhole_2 : decode cX3_lookAtWhole 2 = .ok (.putfield 62, 3) := by decide +kernel
theorem dX3_lookAtWhole_5 : decode cX3_lookAtWhole 5 = .ok (.aload_n 0, 1) := by decide +kernel
theorem dX3_lookAtWhole_6 : decode cX3_lookAtWhole 6 = .ok (.getfield 55, 3) := by decide +kernel
theorem k_277 : Cond.fieldLink RX3 55 "BurntWays$Reader" "behind" "I" ∈ bw_T := bw_m 277 (by decide +kernel) rfl
theorem dX3_lookAtWhole_9 : decode cX3_lookAtWhole 9 = .ok (.aload_n 0, 1) := by decide +kernel
theorem dX3_lookAtWhole_10 : decode cX3_lookAtWhole 10 = .ok (.getfield 46, 3) := by decide +kernel
theorem k_274 : Cond.fieldLink RX3 46 "BurntWays$Reader" "textLength" "I" ∈ bw_T := bw_m 274 (by decide +kernel) rfl
theorem dX3_lookAtWhole_13 : decode cX3_lookAtWhole 13 = .ok (.if_icmp .ge 68, 3) := by decide +kernel
theorem dX3_lookAtWhole_81 : decode cX3_lookAtWhole 81 = .ok (.aload_n 0, 1) := by decide +kernel
theorem dX3_lookAtWhole_82 : decode cX3_lookAtWhole 82 = .ok (.aload_n 0, 1) := by decide +kernel
theorem dX3_lookAtWhole_83 : decode cX3_lookAtWhole 83 = .ok (.getfield 55, 3) := by decide +kernel
theorem dX3_lookAtWhole_86 : decode cX3_lookAtWhole 86 = .ok (.aload_n 0, 1) := by decide +kernel
theorem dX3_lookAtWhole_87 : decode cX3_lookAtWhole 87 = .ok (.getfield 52, 3) := by decide +kernel
theorem dX3_lookAtWhole_90 : decode cX3_lookAtWhole 90 = .ok (.isub, 1) := by decide +kernel
theorem dX3_lookAtWhole_91 : decode cX3_lookAtWhole 91 = .ok (.iconst 3, 1) := by decide +kernel
theorem dX3_lookAtWhole_92 : decode cX3_lookAtWhole 92 = .ok (.if_icmp .gt 8, 3) := by decide +kernel
theorem dX3_lookAtWhole_100 : decode cX3_lookAtWhole 100 = .ok (.bipush 23, 2) := by decide +kernel
theorem dX3_lookAtWhole_102 : decode cX3_lookAtWhole 102 = .ok (.putfield 49, 3) := by decide +kernel
theorem dX3_lookAtWhole_105 : decode cX3_lookAtWhole 105 = .ok (.return_, 1) := by decide +kernel
theorem dX3_lookAtWhole_95 : decode cX3_lookAtWhole 95 = .ok (.bipush 20, 2) := by decide +kernel
theorem dX3_lookAtWhole_97 : decode cX3_lookAtWhole 97 = .ok (.goto 5, 3) := by decide +kernel
theorem dX3_lookAtWhole_16 : decode cX3_lookAtWhole 16 = .ok (.aload_n 0, 1) := by decide +kernel
theorem dX3_lookAtWhole_17 : decode cX3_lookAtWhole 17 = .ok (.getfield 9, 3) := by decide +kernel
theorem dX3_lookAtWhole_20 : decode cX3_lookAtWhole 20 = .ok (.aload_n 0, 1) := by decide +kernel
theorem dX3_lookAtWhole_21 : decode cX3_lookAtWhole 21 = .ok (.getfield 55, 3) := by decide +kernel
theorem dX3_lookAtWhole_24 : decode cX3_lookAtWhole 24 = .ok (.baload, 1) := by decide +kernel
theorem dX3_lookAtWhole_25 : decode cX3_lookAtWhole 25 = .ok (.bipush 48, 2) := by decide +kernel
theorem dX3_lookAtWhole_27 : decode cX3_lookAtWhole 27 = .ok (.if_icmp .lt 54, 3) := by decide +kernel
theorem dX3_lookAtWhole_30 : decode cX3_lookAtWhole 30 = .ok (.aload_n 0, 1) := by decide +kernel
theorem dX3_lookAtWhole_31 : decode cX3_lookAtWhole 31 = .ok (.getfield 9, 3) := by decide +kernel
theorem dX3_lookAtWhole_34 : decode cX3_lookAtWhole 34 = .ok (.aload_n 0, 1) := by decide +kernel
theorem dX3_lookAtWhole_35 : decode cX3_lookAtWhole 35 = .ok (.getfield 55, 3) := by decide +kernel
theorem dX3_lookAtWhole_38 : decode cX3_lookAtWhole 38 = .ok (.baload, 1) := by decide +kernel
theorem dX3_lookAtWhole_39 : decode cX3_lookAtWhole 39 = .ok (.bipush 57, 2) := by decide +kernel
theorem dX3_lookAtWhole_41 : decode cX3_lookAtWhole 41 = .ok (.if_icmp .gt 40, 3) := by decide +kernel
theorem dX3_lookAtWhole_44 : decode cX3_lookAtWhole 44 = .ok (.aload_n 0, 1) := by decide +kernel
theorem dX3_lookAtWhole_45 : decode cX3_lookAtWhole 45 = .ok (.aload_n 0, 1) := by decide +kernel
theorem dX3_lookAtWhole_46 : decode cX3_lookAtWhole 46 = .ok (.getfield 62, 3) := by decide +kernel
theorem dX3_lookAtWhole_49 : decode cX3_lookAtWhole 49 = .ok (.bipush 10, 2) := by decide +kernel
theorem dX3_lookAtWhole_51 : decode cX3_lookAtWhole 51 = .ok (.imul, 1) := by decide +kernel
theorem dX3_lookAtWhole_52 : decode cX3_lookAtWhole 52 = .ok (.aload_n 0, 1) := by decide +kernel
theorem dX3_lookAtWhole_53 : decode cX3_lookAtWhole 53 = .ok (.getfield 9, 3) := by decide +kernel
theorem dX3_lookAtWhole_56 : decode cX3_lookAtWhole 56 = .ok (.aload_n 0, 1) := by decide +kernel
theorem dX3_lookAtWhole_57 : decode cX3_lookAtWhole 57 = .ok (.getfield 55, 3) := by decide +kernel
theorem dX3_lookAtWhole_60 : decode cX3_lookAtWhole 60 = .ok (.baload, 1) := by decide +kernel
theorem dX3_lookAtWhole_61 : decode cX3_lookAtWhole 61 = .ok (.bipush 48, 2) := by decide +kernel
theorem dX3_lookAtWhole_63 : decode cX3_lookAtWhole 63 = .ok (.isub, 1) := by decide +kernel
theorem dX3_lookAtWhole_64 : decode cX3_lookAtWhole 64 = .ok (.iadd, 1) := by decide +kernel
theorem dX3_lookAtWhole_65 : decode cX3_lookAtWhole 65 = .ok (.putfield 62, 3) := by decide +kernel
theorem dX3_lookAtWhole_68 : decode cX3_lookAtWhole 68 = .ok (.aload_n 0, 1) := by decide +kernel
theorem dX3_lookAtWhole_69 : decode cX3_lookAtWhole 69 = .ok (.dup, 1) := by decide +kernel
theorem dX3_lookAtWhole_70 : decode cX3_lookAtWhole 70 = .ok (.getfield 55, 3) := by decide +kernel
theorem dX3_lookAtWhole_73 : decode cX3_lookAtWhole 73 = .ok (.iconst 1, 1) := by decide +kernel
theorem dX3_lookAtWhole_74 : decode cX3_lookAtWhole 74 = .ok (.iadd, 1) := by decide +kernel
theorem dX3_lookAtWhole_75 : decode cX3_lookAtWhole 75 = .ok (.putfield 55, 3) := by decide +kernel
theorem dX3_lookAtWhole_78 : decode cX3_lookAtWhole 78 = .ok (.goto (-73), 3) := by decide +kernel
abbrev rm_X3_lookAtWhole : Room := { frames := 0, cells := 0, slots := 0, locals := 0 }
set_option maxRecDepth 100000 in
set_option maxHeartbeats 8000000 in
theorem c_X3_lookAtWhole {l : Launch} {E : (Nat → Prop) → State → Prop} (hO : bw_Ok E) {G : va_G} {cI cB cJ cN cW : ClassId} (b : Nat) (q : Nat → Nat) (i : Nat → Int) (g : Nat → Nat → Int) (hY : ReaderOk i)  : bw_Cv (S := zU) l yX3_lookAtWhole (bw_ws (Cond.code yX3_lookAtWhole cX3_lookAtWhole 1 none)) rm_X3_lookAtWhole E G (bw_kt cI cB cJ cN cW) [.ref b] [(b, .inr (3, [.ref (q 0), .int (zI (i 0)), .ref (q 3), .ref (q 4), .int (zI (i 1)), .int (zI (i 2)), .ref (q 1), .ref (q 2), .int (zI (i 3)), .int (zI (i 4)), .int (zI (i 5)), .int (zI (i 6)), .long (zL (i 7)), .int (zI (i 8))])), ((q 0), .inl (cB, 900, .inl (fun k => zI ((g 0) k)))), ((q 1), .inl (cJ, 19, .inr (.inl (fun k => zL ((g 1) k))))), ((q 2), .inl (cJ, 10, .inr (.inl (fun k => zL ((g 2) k)))))] (fun u => ReaderOk u.1 ∧ (u.1 0 = i 0 ∧ u.1 3 = i 3)) (fun u => [(b, .inr (3, [.ref (q 0), .int (zI (u.1 0)), .ref (q 3), .ref (q 4), .int (zI (u.1 1)), .int (zI (u.1 2)), .ref (q 1), .ref (q 2), .int (zI (u.1 3)), .int (zI (u.1 4)), .int (zI (u.1 5)), .int (zI (u.1 6)), .long (zL (u.1 7)), .int (zI (u.1 8))])), ((q 0), .inl (cB, 900, .inl (fun k => zI ((g 0) k)))), ((q 1), .inl (cJ, 19, .inr (.inl (fun k => zL ((g 1) k))))), ((q 2), .inl (cJ, 10, .inr (.inl (fun k => zL ((g 2) k)))))]) := by
  refine bw_Cv.of (cc := cX3_lookAtWhole) (maxL := 1) (by decide) rfl (Nat.le_of_ble_eq_true rfl) ?_
  intro p e s m below meth c A Q hx hb hml hts hown hin hK hA hS hP hD hE ret ls hl
  have F : CallFix p m c cX3_lookAtWhole 1 s ([.ref b] : List Value).toArray bw_T RX3 := ⟨hx, hb, hml, hown, fun w h => hts w (List.mem_cons_of_mem _ h)⟩
  replace hl : lv_has ls 1 [(0, .ref b)] := hl
  refine lv_aload_n hx hb dX3_lookAtWhole_0 rfl (lv_at hl 0 rfl) ?_
  refine lv_iconst (v := zI 0) hx hb dX3_lookAtWhole_1 rfl ?_
  refine r_put F hK hP hD hS 0 13 rfl rfl in_X3 tyX3 tyX3_ok nmX3 (by decide) k_279 rfl rfl rfl (Nat.le_of_ble_eq_true rfl) dX3_lookAtWhole_2 (w1 := [(b, .inr (3, [.ref (q 0), .int (zI (i 0)), .ref (q 3), .ref (q 4), .int (zI (i 1)), .int (zI (i 2)), .ref (q 1), .ref (q 2), .int (zI (i 3)), .int (zI (i 4)), .int (zI (i 5)), .int (zI (i 6)), .long (zL (i 7)), .int (zI 0)])), ((q 0), .inl (cB, 900, .inl (fun k => zI ((g 0) k)))), ((q 1), .inl (cJ, 19, .inr (.inl (fun k => zL ((g 1) k))))), ((q 2), .inl (cJ, 10, .inr (.inl (fun k => zL ((g 2) k)))))]) rfl (fun H locs hP hD hS => ?_)
  obtain ⟨i1, e_i1⟩ : ∃ i1 : Nat → Int, i1 = fun k => [(i 0), (i 1), (i 2), (i 3), (i 4), (i 5), (i 6), (i 7), 0].getD k 0 := ⟨_, rfl⟩
  have e_i1_0 : i1 0 = (i 0) := by rw [e_i1]; rfl
  have e_i1_1 : i1 1 = (i 1) := by rw [e_i1]; rfl
  have e_i1_2 : i1 2 = (i 2) := by rw [e_i1]; rfl
  have e_i1_3 : i1 3 = (i 3) := by rw [e_i1]; rfl
  have e_i1_4 : i1 4 = (i 4) := by rw [e_i1]; rfl
  have e_i1_5 : i1 5 = (i 5) := by rw [e_i1]; rfl
  have e_i1_6 : i1 6 = (i 6) := by rw [e_i1]; rfl
  have e_i1_7 : i1 7 = (i 7) := by rw [e_i1]; rfl
  have e_i1_8 : i1 8 = 0 := by rw [e_i1]; rfl
  have hO2 : ReaderOk i1 := by refine ⟨?_, ?_, ?_, ?_, ?_, ?_⟩ <;> omega
  have hf3 := hO2
  have hP : va_P G vwCl [(b, .inr (3, [.ref (q 0), .int (zI (i1 0)), .ref (q 3), .ref (q 4), .int (zI (i1 1)), .int (zI (i1 2)), .ref (q 1), .ref (q 2), .int (zI (i1 3)), .int (zI (i1 4)), .int (zI (i1 5)), .int (zI (i1 6)), .long (zL (i1 7)), .int (zI (i1 8))])), ((q 0), .inl (cB, 900, .inl (fun k => zI ((g 0) k)))), ((q 1), .inl (cJ, 19, .inr (.inl (fun k => zL ((g 1) k))))), ((q 2), .inl (cJ, 10, .inr (.inl (fun k => zL ((g 2) k)))))] H := by subst e_i1; exact hP
  have hD : va_D A [(b, .inr (3, [.ref (q 0), .int (zI (i1 0)), .ref (q 3), .ref (q 4), .int (zI (i1 1)), .int (zI (i1 2)), .ref (q 1), .ref (q 2), .int (zI (i1 3)), .int (zI (i1 4)), .int (zI (i1 5)), .int (zI (i1 6)), .long (zL (i1 7)), .int (zI (i1 8))])), ((q 0), .inl (cB, 900, .inl (fun k => zI ((g 0) k)))), ((q 1), .inl (cJ, 19, .inr (.inl (fun k => zL ((g 1) k))))), ((q 2), .inl (cJ, 10, .inr (.inl (fun k => zL ((g 2) k)))))] := by subst e_i1; exact hD
  refine W.widen (k := 0) (n := 0) (Nat.le_of_ble_eq_true rfl) (Nat.le_of_ble_eq_true rfl) ?_
  refine (?_ : ∀ (n9_1 : Nat) (ii : Nat → Int) (H : Heap) (locs : List Loc), (ii 0 = i 0 ∧ ii 3 = i 3 ∧ ii 5 = i 5) → (901 - ii 6 : Int).toNat < n9_1 → (ReaderOk ii) → va_P G vwCl [(b, .inr (3, [.ref (q 0), .int (zI (ii 0)), .ref (q 3), .ref (q 4), .int (zI (ii 1)), .int (zI (ii 2)), .ref (q 1), .ref (q 2), .int (zI (ii 3)), .int (zI (ii 4)), .int (zI (ii 5)), .int (zI (ii 6)), .long (zL (ii 7)), .int (zI (ii 8))])), ((q 0), .inl (cB, 900, .inl (fun k => zI ((g 0) k)))), ((q 1), .inl (cJ, 19, .inr (.inl (fun k => zL ((g 1) k))))), ((q 2), .inl (cJ, 10, .inr (.inl (fun k => zL ((g 2) k)))))] H → va_D A [(b, .inr (3, [.ref (q 0), .int (zI (ii 0)), .ref (q 3), .ref (q 4), .int (zI (ii 1)), .int (zI (ii 2)), .ref (q 1), .ref (q 2), .int (zI (ii 3)), .int (zI (ii 4)), .int (zI (ii 5)), .int (zI (ii 6)), .long (zL (ii 7)), .int (zI (ii 8))])), ((q 0), .inl (cB, 900, .inl (fun k => zI ((g 0) k)))), ((q 1), .inl (cJ, 19, .inr (.inl (fun k => zL ((g 1) k))))), ((q 2), .inl (cJ, 10, .inr (.inl (fun k => zL ((g 2) k)))))] → va_S A s.heap H locs → ∀ ls : Array Slot, lv_has ls 1 [(0, .ref b)] → W p l e rm_X3_lookAtWhole s m ([.ref b] : List Value).toArray below meth c H locs 0 0 Q (F0 m 5 ls [])) ((901 - i1 6 : Int).toNat + 1) i1 _ _ (by omega) (by omega) hO2 hP hD hS ls hl
  clear hP hD hS hl ls
  intro n9_1
  induction n9_1 with
  | zero =>
    intro ii H locs hI hM
    exact absurd hM (by omega)
  | succ n9_1 ih1 =>
    intro ii H locs hI1 hM1 hG hP hD hS ls hl
    have hf4 := hG
    refine lv_aload_n hx hb dX3_lookAtWhole_5 rfl (lv_at hl 0 rfl) ?_
    refine r_get F hK hP 0 11 rfl rfl in_X3 (by decide) k_277 rfl dX3_lookAtWhole_6 ?_
    refine lv_aload_n hx hb dX3_lookAtWhole_9 rfl (lv_at hl 0 rfl) ?_
    refine r_get F hK hP 0 8 rfl rfl in_X3 (by decide) k_274 rfl dX3_lookAtWhole_10 ?_
    refine rz_icmp_ge (tgt := 81) F (by omega) (by omega) dX3_lookAtWhole_13 (by decide) (fun h13_4 => ?_) (fun h13_4 => ?_)
    · refine lv_aload_n hx hb dX3_lookAtWhole_81 rfl (lv_at hl 0 rfl) ?_
      refine lv_aload_n hx hb dX3_lookAtWhole_82 rfl (lv_at hl 0 rfl) ?_
      refine r_get F hK hP 0 11 rfl rfl in_X3 (by decide) k_277 rfl dX3_lookAtWhole_83 ?_
      refine lv_aload_n hx hb dX3_lookAtWhole_86 rfl (lv_at hl 0 rfl) ?_
      refine r_get F hK hP 0 10 rfl rfl in_X3 (by decide) k_276 rfl dX3_lookAtWhole_87 ?_
      refine r_isub (v := zI ((ii 6) - (ii 5))) F dX3_lookAtWhole_90 (zI_sub _ _) ?_
      refine lv_iconst (v := zI 3) hx hb dX3_lookAtWhole_91 rfl ?_
      refine rz_icmp_gt (tgt := 100) F (by omega) (by omega) dX3_lookAtWhole_92 (by decide) (fun h92_5 => ?_) (fun h92_5 => ?_)
      · refine lv_bipush (v := zI 23) hx hb dX3_lookAtWhole_100 (by decide) ?_
        refine r_put F hK hP hD hS 0 9 rfl rfl in_X3 tyX3 tyX3_ok nmX3 (by decide) k_275 rfl rfl rfl (Nat.le_of_ble_eq_true rfl) dX3_lookAtWhole_102 (w1 := [(b, .inr (3, [.ref (q 0), .int (zI (ii 0)), .ref (q 3), .ref (q 4), .int (zI (ii 1)), .int (zI (ii 2)), .ref (q 1), .ref (q 2), .int (zI (ii 3)), .int (zI 23), .int (zI (ii 5)), .int (zI (ii 6)), .long (zL (ii 7)), .int (zI (ii 8))])), ((q 0), .inl (cB, 900, .inl (fun k => zI ((g 0) k)))), ((q 1), .inl (cJ, 19, .inr (.inl (fun k => zL ((g 1) k))))), ((q 2), .inl (cJ, 10, .inr (.inl (fun k => zL ((g 2) k)))))]) rfl (fun H locs hP hD hS => ?_)
        obtain ⟨i7, e_i7⟩ : ∃ i7 : Nat → Int, i7 = fun k => [(ii 0), (ii 1), (ii 2), (ii 3), 23, (ii 5), (ii 6), (ii 7), (ii 8)].getD k 0 := ⟨_, rfl⟩
        have e_i7_0 : i7 0 = (ii 0) := by rw [e_i7]; rfl
        have e_i7_1 : i7 1 = (ii 1) := by rw [e_i7]; rfl
        have e_i7_2 : i7 2 = (ii 2) := by rw [e_i7]; rfl
        have e_i7_3 : i7 3 = (ii 3) := by rw [e_i7]; rfl
        have e_i7_4 : i7 4 = 23 := by rw [e_i7]; rfl
        have e_i7_5 : i7 5 = (ii 5) := by rw [e_i7]; rfl
        have e_i7_6 : i7 6 = (ii 6) := by rw [e_i7]; rfl
        have e_i7_7 : i7 7 = (ii 7) := by rw [e_i7]; rfl
        have e_i7_8 : i7 8 = (ii 8) := by rw [e_i7]; rfl
        have hO8 : ReaderOk i7 := by refine ⟨?_, ?_, ?_, ?_, ?_, ?_⟩ <;> omega
        have hf9 := hO8
        have hP : va_P G vwCl [(b, .inr (3, [.ref (q 0), .int (zI (i7 0)), .ref (q 3), .ref (q 4), .int (zI (i7 1)), .int (zI (i7 2)), .ref (q 1), .ref (q 2), .int (zI (i7 3)), .int (zI (i7 4)), .int (zI (i7 5)), .int (zI (i7 6)), .long (zL (i7 7)), .int (zI (i7 8))])), ((q 0), .inl (cB, 900, .inl (fun k => zI ((g 0) k)))), ((q 1), .inl (cJ, 19, .inr (.inl (fun k => zL ((g 1) k))))), ((q 2), .inl (cJ, 10, .inr (.inl (fun k => zL ((g 2) k)))))] H := by subst e_i7; exact hP
        have hD : va_D A [(b, .inr (3, [.ref (q 0), .int (zI (i7 0)), .ref (q 3), .ref (q 4), .int (zI (i7 1)), .int (zI (i7 2)), .ref (q 1), .ref (q 2), .int (zI (i7 3)), .int (zI (i7 4)), .int (zI (i7 5)), .int (zI (i7 6)), .long (zL (i7 7)), .int (zI (i7 8))])), ((q 0), .inl (cB, 900, .inl (fun k => zI ((g 0) k)))), ((q 1), .inl (cJ, 19, .inr (.inl (fun k => zL ((g 1) k))))), ((q 2), .inl (cJ, 10, .inr (.inl (fun k => zL ((g 2) k)))))] := by subst e_i7; exact hD
        exact ret (i7, fun _ _ => 0) _ _ _ _ _ _ ⟨hO8, by dsimp only; omega⟩ (bw_subP (isC := [0, 1, 2, 3]) hP rfl) (hD.sub [0, 1, 2, 3] (by decide) rfl) hS (Nat.le_of_ble_eq_true rfl) (Nat.le_of_ble_eq_true rfl) dX3_lookAtWhole_105
      · refine lv_bipush (v := zI 20) hx hb dX3_lookAtWhole_95 (by decide) ?_
        refine lv_goto (tgt := 102) hx hb dX3_lookAtWhole_97 (by decide) ?_
        refine r_put F hK hP hD hS 0 9 rfl rfl in_X3 tyX3 tyX3_ok nmX3 (by decide) k_275 rfl rfl rfl (Nat.le_of_ble_eq_true rfl) dX3_lookAtWhole_102 (w1 := [(b, .inr (3, [.ref (q 0), .int (zI (ii 0)), .ref (q 3), .ref (q 4), .int (zI (ii 1)), .int (zI (ii 2)), .ref (q 1), .ref (q 2), .int (zI (ii 3)), .int (zI 20), .int (zI (ii 5)), .int (zI (ii 6)), .long (zL (ii 7)), .int (zI (ii 8))])), ((q 0), .inl (cB, 900, .inl (fun k => zI ((g 0) k)))), ((q 1), .inl (cJ, 19, .inr (.inl (fun k => zL ((g 1) k))))), ((q 2), .inl (cJ, 10, .inr (.inl (fun k => zL ((g 2) k)))))]) rfl (fun H locs hP hD hS => ?_)
        obtain ⟨i10, e_i10⟩ : ∃ i10 : Nat → Int, i10 = fun k => [(ii 0), (ii 1), (ii 2), (ii 3), 20, (ii 5), (ii 6), (ii 7), (ii 8)].getD k 0 := ⟨_, rfl⟩
        have e_i10_0 : i10 0 = (ii 0) := by rw [e_i10]; rfl
        have e_i10_1 : i10 1 = (ii 1) := by rw [e_i10]; rfl
        have e_i10_2 : i10 2 = (ii 2) := by rw [e_i10]; rfl
        have e_i10_3 : i10 3 = (ii 3) := by rw [e_i10]; rfl
        have e_i10_4 : i10 4 = 20 := by rw [e_i10]; rfl
        have e_i10_5 : i10 5 = (ii 5) := by rw [e_i10]; rfl
        have e_i10_6 : i10 6 = (ii 6) := by rw [e_i10]; rfl
        have e_i10_7 : i10 7 = (ii 7) := by rw [e_i10]; rfl
        have e_i10_8 : i10 8 = (ii 8) := by rw [e_i10]; rfl
        have hO11 : ReaderOk i10 := by refine ⟨?_, ?_, ?_, ?_, ?_, ?_⟩ <;> omega
        have hf12 := hO11
        have hP : va_P G vwCl [(b, .inr (3, [.ref (q 0), .int (zI (i10 0)), .ref (q 3), .ref (q 4), .int (zI (i10 1)), .int (zI (i10 2)), .ref (q 1), .ref (q 2), .int (zI (i10 3)), .int (zI (i10 4)), .int (zI (i10 5)), .int (zI (i10 6)), .long (zL (i10 7)), .int (zI (i10 8))])), ((q 0), .inl (cB, 900, .inl (fun k => zI ((g 0) k)))), ((q 1), .inl (cJ, 19, .inr (.inl (fun k => zL ((g 1) k))))), ((q 2), .inl (cJ, 10, .inr (.inl (fun k => zL ((g 2) k)))))] H := by subst e_i10; exact hP
        have hD : va_D A [(b, .inr (3, [.ref (q 0), .int (zI (i10 0)), .ref (q 3), .ref (q 4), .int (zI (i10 1)), .int (zI (i10 2)), .ref (q 1), .ref (q 2), .int (zI (i10 3)), .int (zI (i10 4)), .int (zI (i10 5)), .int (zI (i10 6)), .long (zL (i10 7)), .int (zI (i10 8))])), ((q 0), .inl (cB, 900, .inl (fun k => zI ((g 0) k)))), ((q 1), .inl (cJ, 19, .inr (.inl (fun k => zL ((g 1) k))))), ((q 2), .inl (cJ, 10, .inr (.inl (fun k => zL ((g 2) k)))))] := by subst e_i10; exact hD
        exact ret (i10, fun _ _ => 0) _ _ _ _ _ _ ⟨hO11, by dsimp only; omega⟩ (bw_subP (isC := [0, 1, 2, 3]) hP rfl) (hD.sub [0, 1, 2, 3] (by decide) rfl) hS (Nat.le_of_ble_eq_true rfl) (Nat.le_of_ble_eq_true rfl) dX3_lookAtWhole_105
    · refine lv_aload_n hx hb dX3_lookAtWhole_16 rfl (lv_at hl 0 rfl) ?_
      refine r_get F hK hP 0 0 rfl rfl in_X3 (by decide) k_261 rfl dX3_lookAtWhole_17 ?_
      refine lv_aload_n hx hb dX3_lookAtWhole_20 rfl (lv_at hl 0 rfl) ?_
      refine r_get F hK hP 0 11 rfl rfl in_X3 (by decide) k_277 rfl dX3_lookAtWhole_21 ?_
      refine rz_bald F hK hP 1 1 rfl rfl (by omega) (by omega) dX3_lookAtWhole_24 (fun z13 h_z13 => ?_)
      refine lv_bipush (v := zI 48) hx hb dX3_lookAtWhole_25 (by decide) ?_
      refine rz_icmp_lt (tgt := 81) F (by omega) (by omega) dX3_lookAtWhole_27 (by decide) (fun h27_13 => ?_) (fun h27_13 => ?_)
      · refine lv_aload_n hx hb dX3_lookAtWhole_81 rfl (lv_at hl 0 rfl) ?_
        refine lv_aload_n hx hb dX3_lookAtWhole_82 rfl (lv_at hl 0 rfl) ?_
        refine r_get F hK hP 0 11 rfl rfl in_X3 (by decide) k_277 rfl dX3_lookAtWhole_83 ?_
        refine lv_aload_n hx hb dX3_lookAtWhole_86 rfl (lv_at hl 0 rfl) ?_
        refine r_get F hK hP 0 10 rfl rfl in_X3 (by decide) k_276 rfl dX3_lookAtWhole_87 ?_
        refine r_isub (v := zI ((ii 6) - (ii 5))) F dX3_lookAtWhole_90 (zI_sub _ _) ?_
        refine lv_iconst (v := zI 3) hx hb dX3_lookAtWhole_91 rfl ?_
        refine rz_icmp_gt (tgt := 100) F (by omega) (by omega) dX3_lookAtWhole_92 (by decide) (fun h92_14 => ?_) (fun h92_14 => ?_)
        · refine lv_bipush (v := zI 23) hx hb dX3_lookAtWhole_100 (by decide) ?_
          refine r_put F hK hP hD hS 0 9 rfl rfl in_X3 tyX3 tyX3_ok nmX3 (by decide) k_275 rfl rfl rfl (Nat.le_of_ble_eq_true rfl) dX3_lookAtWhole_102 (w1 := [(b, .inr (3, [.ref (q 0), .int (zI (ii 0)), .ref (q 3), .ref (q 4), .int (zI (ii 1)), .int (zI (ii 2)), .ref (q 1), .ref (q 2), .int (zI (ii 3)), .int (zI 23), .int (zI (ii 5)), .int (zI (ii 6)), .long (zL (ii 7)), .int (zI (ii 8))])), ((q 0), .inl (cB, 900, .inl (fun k => zI ((g 0) k)))), ((q 1), .inl (cJ, 19, .inr (.inl (fun k => zL ((g 1) k))))), ((q 2), .inl (cJ, 10, .inr (.inl (fun k => zL ((g 2) k)))))]) rfl (fun H locs hP hD hS => ?_)
          obtain ⟨i16, e_i16⟩ : ∃ i16 : Nat → Int, i16 = fun k => [(ii 0), (ii 1), (ii 2), (ii 3), 23, (ii 5), (ii 6), (ii 7), (ii 8)].getD k 0 := ⟨_, rfl⟩
          have e_i16_0 : i16 0 = (ii 0) := by rw [e_i16]; rfl
          have e_i16_1 : i16 1 = (ii 1) := by rw [e_i16]; rfl
          have e_i16_2 : i16 2 = (ii 2) := by rw [e_i16]; rfl
          have e_i16_3 : i16 3 = (ii 3) := by rw [e_i16]; rfl
          have e_i16_4 : i16 4 = 23 := by rw [e_i16]; rfl
          have e_i16_5 : i16 5 = (ii 5) := by rw [e_i16]; rfl
          have e_i16_6 : i16 6 = (ii 6) := by rw [e_i16]; rfl
          have e_i16_7 : i16 7 = (ii 7) := by rw [e_i16]; rfl
          have e_i16_8 : i16 8 = (ii 8) := by rw [e_i16]; rfl
          have hO17 : ReaderOk i16 := by refine ⟨?_, ?_, ?_, ?_, ?_, ?_⟩ <;> omega
          have hf18 := hO17
          have hP : va_P G vwCl [(b, .inr (3, [.ref (q 0), .int (zI (i16 0)), .ref (q 3), .ref (q 4), .int (zI (i16 1)), .int (zI (i16 2)), .ref (q 1), .ref (q 2), .int (zI (i16 3)), .int (zI (i16 4)), .int (zI (i16 5)), .int (zI (i16 6)), .long (zL (i16 7)), .int (zI (i16 8))])), ((q 0), .inl (cB, 900, .inl (fun k => zI ((g 0) k)))), ((q 1), .inl (cJ, 19, .inr (.inl (fun k => zL ((g 1) k))))), ((q 2), .inl (cJ, 10, .inr (.inl (fun k => zL ((g 2) k)))))] H := by subst e_i16; exact hP
          have hD : va_D A [(b, .inr (3, [.ref (q 0), .int (zI (i16 0)), .ref (q 3), .ref (q 4), .int (zI (i16 1)), .int (zI (i16 2)), .ref (q 1), .ref (q 2), .int (zI (i16 3)), .int (zI (i16 4)), .int (zI (i16 5)), .int (zI (i16 6)), .long (zL (i16 7)), .int (zI (i16 8))])), ((q 0), .inl (cB, 900, .inl (fun k => zI ((g 0) k)))), ((q 1), .inl (cJ, 19, .inr (.inl (fun k => zL ((g 1) k))))), ((q 2), .inl (cJ, 10, .inr (.inl (fun k => zL ((g 2) k)))))] := by subst e_i16; exact hD
          exact ret (i16, fun _ _ => 0) _ _ _ _ _ _ ⟨hO17, by dsimp only; omega⟩ (bw_subP (isC := [0, 1, 2, 3]) hP rfl) (hD.sub [0, 1, 2, 3] (by decide) rfl) hS (Nat.le_of_ble_eq_true rfl) (Nat.le_of_ble_eq_true rfl) dX3_lookAtWhole_105
        · refine lv_bipush (v := zI 20) hx hb dX3_lookAtWhole_95 (by decide) ?_
          refine lv_goto (tgt := 102) hx hb dX3_lookAtWhole_97 (by decide) ?_
          refine r_put F hK hP hD hS 0 9 rfl rfl in_X3 tyX3 tyX3_ok nmX3 (by decide) k_275 rfl rfl rfl (Nat.le_of_ble_eq_true rfl) dX3_lookAtWhole_102 (w1 := [(b, .inr (3, [.ref (q 0), .int (zI (ii 0)), .ref (q 3), .ref (q 4), .int (zI (ii 1)), .int (zI (ii 2)), .ref (q 1), .ref (q 2), .int (zI (ii 3)), .int (zI 20), .int (zI (ii 5)), .int (zI (ii 6)), .long (zL (ii 7)), .int (zI (ii 8))])), ((q 0), .inl (cB, 900, .inl (fun k => zI ((g 0) k)))), ((q 1), .inl (cJ, 19, .inr (.inl (fun k => zL ((g 1) k))))), ((q 2), .inl (cJ, 10, .inr (.inl (fun k => zL ((g 2) k)))))]) rfl (fun H locs hP hD hS => ?_)
          obtain ⟨i19, e_i19⟩ : ∃ i19 : Nat → Int, i19 = fun k => [(ii 0), (ii 1), (ii 2), (ii 3), 20, (ii 5), (ii 6), (ii 7), (ii 8)].getD k 0 := ⟨_, rfl⟩
          have e_i19_0 : i19 0 = (ii 0) := by rw [e_i19]; rfl
          have e_i19_1 : i19 1 = (ii 1) := by rw [e_i19]; rfl
          have e_i19_2 : i19 2 = (ii 2) := by rw [e_i19]; rfl
          have e_i19_3 : i19 3 = (ii 3) := by rw [e_i19]; rfl
          have e_i19_4 : i19 4 = 20 := by rw [e_i19]; rfl
          have e_i19_5 : i19 5 = (ii 5) := by rw [e_i19]; rfl
          have e_i19_6 : i19 6 = (ii 6) := by rw [e_i19]; rfl
          have e_i19_7 : i19 7 = (ii 7) := by rw [e_i19]; rfl
          have e_i19_8 : i19 8 = (ii 8) := by rw [e_i19]; rfl
          have hO20 : ReaderOk i19 := by refine ⟨?_, ?_, ?_, ?_, ?_, ?_⟩ <;> omega
          have hf21 := hO20
          have hP : va_P G vwCl [(b, .inr (3, [.ref (q 0), .int (zI (i19 0)), .ref (q 3), .ref (q 4), .int (zI (i19 1)), .int (zI (i19 2)), .ref (q 1), .ref (q 2), .int (zI (i19 3)), .int (zI (i19 4)), .int (zI (i19 5)), .int (zI (i19 6)), .long (zL (i19 7)), .int (zI (i19 8))])), ((q 0), .inl (cB, 900, .inl (fun k => zI ((g 0) k)))), ((q 1), .inl (cJ, 19, .inr (.inl (fun k => zL ((g 1) k))))), ((q 2), .inl (cJ, 10, .inr (.inl (fun k => zL ((g 2) k)))))] H := by subst e_i19; exact hP
          have hD : va_D A [(b, .inr (3, [.ref (q 0), .int (zI (i19 0)), .ref (q 3), .ref (q 4), .int (zI (i19 1)), .int (zI (i19 2)), .ref (q 1), .ref (q 2), .int (zI (i19 3)), .int (zI (i19 4)), .int (zI (i19 5)), .int (zI (i19 6)), .long (zL (i19 7)), .int (zI (i19 8))])), ((q 0), .inl (cB, 900, .inl (fun k => zI ((g 0) k)))), ((q 1), .inl (cJ, 19, .inr (.inl (fun k => zL ((g 1) k))))), ((q 2), .inl (cJ, 10, .inr (.inl (fun k => zL ((g 2) k)))))] := by subst e_i19; exact hD
          exact ret (i19, fun _ _ => 0) _ _ _ _ _ _ ⟨hO20, by dsimp only; omega⟩ (bw_subP (isC := [0, 1, 2, 3]) hP rfl) (hD.sub [0, 1, 2, 3] (by decide) rfl) hS (Nat.le_of_ble_eq_true rfl) (Nat.le_of_ble_eq_true rfl) dX3_lookAtWhole_105
      · refine lv_aload_n hx hb dX3_lookAtWhole_30 rfl (lv_at hl 0 rfl) ?_
        refine r_get F hK hP 0 0 rfl rfl in_X3 (by decide) k_261 rfl dX3_lookAtWhole_31 ?_
        refine lv_aload_n hx hb dX3_lookAtWhole_34 rfl (lv_at hl 0 rfl) ?_
        refine r_get F hK hP 0 11 rfl rfl in_X3 (by decide) k_277 rfl dX3_lookAtWhole_35 ?_
        refine rz_bald F hK hP 1 1 rfl rfl (by omega) (by omega) dX3_lookAtWhole_38 (fun z22 h_z22 => ?_)
        refine lv_bipush (v := zI 57) hx hb dX3_lookAtWhole_39 (by decide) ?_
        refine rz_icmp_gt (tgt := 81) F (by omega) (by omega) dX3_lookAtWhole_41 (by decide) (fun h41_22 => ?_) (fun h41_22 => ?_)
        · refine lv_aload_n hx hb dX3_lookAtWhole_81 rfl (lv_at hl 0 rfl) ?_
          refine lv_aload_n hx hb dX3_lookAtWhole_82 rfl (lv_at hl 0 rfl) ?_
          refine r_get F hK hP 0 11 rfl rfl in_X3 (by decide) k_277 rfl dX3_lookAtWhole_83 ?_
          refine lv_aload_n hx hb dX3_lookAtWhole_86 rfl (lv_at hl 0 rfl) ?_
          refine r_get F hK hP 0 10 rfl rfl in_X3 (by decide) k_276 rfl dX3_lookAtWhole_87 ?_
          refine r_isub (v := zI ((ii 6) - (ii 5))) F dX3_lookAtWhole_90 (zI_sub _ _) ?_
          refine lv_iconst (v := zI 3) hx hb dX3_lookAtWhole_91 rfl ?_
          refine rz_icmp_gt (tgt := 100) F (by omega) (by omega) dX3_lookAtWhole_92 (by decide) (fun h92_23 => ?_) (fun h92_23 => ?_)
          · refine lv_bipush (v := zI 23) hx hb dX3_lookAtWhole_100 (by decide) ?_
            refine r_put F hK hP hD hS 0 9 rfl rfl in_X3 tyX3 tyX3_ok nmX3 (by decide) k_275 rfl rfl rfl (Nat.le_of_ble_eq_true rfl) dX3_lookAtWhole_102 (w1 := [(b, .inr (3, [.ref (q 0), .int (zI (ii 0)), .ref (q 3), .ref (q 4), .int (zI (ii 1)), .int (zI (ii 2)), .ref (q 1), .ref (q 2), .int (zI (ii 3)), .int (zI 23), .int (zI (ii 5)), .int (zI (ii 6)), .long (zL (ii 7)), .int (zI (ii 8))])), ((q 0), .inl (cB, 900, .inl (fun k => zI ((g 0) k)))), ((q 1), .inl (cJ, 19, .inr (.inl (fun k => zL ((g 1) k))))), ((q 2), .inl (cJ, 10, .inr (.inl (fun k => zL ((g 2) k)))))]) rfl (fun H locs hP hD hS => ?_)
            obtain ⟨i25, e_i25⟩ : ∃ i25 : Nat → Int, i25 = fun k => [(ii 0), (ii 1), (ii 2), (ii 3), 23, (ii 5), (ii 6), (ii 7), (ii 8)].getD k 0 := ⟨_, rfl⟩
            have e_i25_0 : i25 0 = (ii 0) := by rw [e_i25]; rfl
            have e_i25_1 : i25 1 = (ii 1) := by rw [e_i25]; rfl
            have e_i25_2 : i25 2 = (ii 2) := by rw [e_i25]; rfl
            have e_i25_3 : i25 3 = (ii 3) := by rw [e_i25]; rfl
            have e_i25_4 : i25 4 = 23 := by rw [e_i25]; rfl
            have e_i25_5 : i25 5 = (ii 5) := by rw [e_i25]; rfl
            have e_i25_6 : i25 6 = (ii 6) := by rw [e_i25]; rfl
            have e_i25_7 : i25 7 = (ii 7) := by rw [e_i25]; rfl
            have e_i25_8 : i25 8 = (ii 8) := by rw [e_i25]; rfl
            have hO26 : ReaderOk i25 := by refine ⟨?_, ?_, ?_, ?_, ?_, ?_⟩ <;> omega
            have hf27 := hO26
            have hP : va_P G vwCl [(b, .inr (3, [.ref (q 0), .int (zI (i25 0)), .ref (q 3), .ref (q 4), .int (zI (i25 1)), .int (zI (i25 2)), .ref (q 1), .ref (q 2), .int (zI (i25 3)), .int (zI (i25 4)), .int (zI (i25 5)), .int (zI (i25 6)), .long (zL (i25 7)), .int (zI (i25 8))])), ((q 0), .inl (cB, 900, .inl (fun k => zI ((g 0) k)))), ((q 1), .inl (cJ, 19, .inr (.inl (fun k => zL ((g 1) k))))), ((q 2), .inl (cJ, 10, .inr (.inl (fun k => zL ((g 2) k)))))] H := by subst e_i25; exact hP
            have hD : va_D A [(b, .inr (3, [.ref (q 0), .int (zI (i25 0)), .ref (q 3), .ref (q 4), .int (zI (i25 1)), .int (zI (i25 2)), .ref (q 1), .ref (q 2), .int (zI (i25 3)), .int (zI (i25 4)), .int (zI (i25 5)), .int (zI (i25 6)), .long (zL (i25 7)), .int (zI (i25 8))])), ((q 0), .inl (cB, 900, .inl (fun k => zI ((g 0) k)))), ((q 1), .inl (cJ, 19, .inr (.inl (fun k => zL ((g 1) k))))), ((q 2), .inl (cJ, 10, .inr (.inl (fun k => zL ((g 2) k)))))] := by subst e_i25; exact hD
            exact ret (i25, fun _ _ => 0) _ _ _ _ _ _ ⟨hO26, by dsimp only; omega⟩ (bw_subP (isC := [0, 1, 2, 3]) hP rfl) (hD.sub [0, 1, 2, 3] (by decide) rfl) hS (Nat.le_of_ble_eq_true rfl) (Nat.le_of_ble_eq_true rfl) dX3_lookAtWhole_105
          · refine lv_bipush (v := zI 20) hx hb dX3_lookAtWhole_95 (by decide) ?_
            refine lv_goto (tgt := 102) hx hb dX3_lookAtWhole_97 (by decide) ?_
            refine r_put F hK hP hD hS 0 9 rfl rfl in_X3 tyX3 tyX3_ok nmX3 (by decide) k_275 rfl rfl rfl (Nat.le_of_ble_eq_true rfl) dX3_lookAtWhole_102 (w1 := [(b, .inr (3, [.ref (q 0), .int (zI (ii 0)), .ref (q 3), .ref (q 4), .int (zI (ii 1)), .int (zI (ii 2)), .ref (q 1), .ref (q 2), .int (zI (ii 3)), .int (zI 20), .int (zI (ii 5)), .int (zI (ii 6)), .long (zL (ii 7)), .int (zI (ii 8))])), ((q 0), .inl (cB, 900, .inl (fun k => zI ((g 0) k)))), ((q 1), .inl (cJ, 19, .inr (.inl (fun k => zL ((g 1) k))))), ((q 2), .inl (cJ, 10, .inr (.inl (fun k => zL ((g 2) k)))))]) rfl (fun H locs hP hD hS => ?_)
            obtain ⟨i28, e_i28⟩ : ∃ i28 : Nat → Int, i28 = fun k => [(ii 0), (ii 1), (ii 2), (ii 3), 20, (ii 5), (ii 6), (ii 7), (ii 8)].getD k 0 := ⟨_, rfl⟩
            have e_i28_0 : i28 0 = (ii 0) := by rw [e_i28]; rfl
            have e_i28_1 : i28 1 = (ii 1) := by rw [e_i28]; rfl
            have e_i28_2 : i28 2 = (ii 2) := by rw [e_i28]; rfl
            have e_i28_3 : i28 3 = (ii 3) := by rw [e_i28]; rfl
            have e_i28_4 : i28 4 = 20 := by rw [e_i28]; rfl
            have e_i28_5 : i28 5 = (ii 5) := by rw [e_i28]; rfl
            have e_i28_6 : i28 6 = (ii 6) := by rw [e_i28]; rfl
            have e_i28_7 : i28 7 = (ii 7) := by rw [e_i28]; rfl
            have e_i28_8 : i28 8 = (ii 8) := by rw [e_i28]; rfl
            have hO29 : ReaderOk i28 := by refine ⟨?_, ?_, ?_, ?_, ?_, ?_⟩ <;> omega
            have hf30 := hO29
            have hP : va_P G vwCl [(b, .inr (3, [.ref (q 0), .int (zI (i28 0)), .ref (q 3), .ref (q 4), .int (zI (i28 1)), .int (zI (i28 2)), .ref (q 1), .ref (q 2), .int (zI (i28 3)), .int (zI (i28 4)), .int (zI (i28 5)), .int (zI (i28 6)), .long (zL (i28 7)), .int (zI (i28 8))])), ((q 0), .inl (cB, 900, .inl (fun k => zI ((g 0) k)))), ((q 1), .inl (cJ, 19, .inr (.inl (fun k => zL ((g 1) k))))), ((q 2), .inl (cJ, 10, .inr (.inl (fun k => zL ((g 2) k)))))] H := by subst e_i28; exact hP
            have hD : va_D A [(b, .inr (3, [.ref (q 0), .int (zI (i28 0)), .ref (q 3), .ref (q 4), .int (zI (i28 1)), .int (zI (i28 2)), .ref (q 1), .ref (q 2), .int (zI (i28 3)), .int (zI (i28 4)), .int (zI (i28 5)), .int (zI (i28 6)), .long (zL (i28 7)), .int (zI (i28 8))])), ((q 0), .inl (cB, 900, .inl (fun k => zI ((g 0) k)))), ((q 1), .inl (cJ, 19, .inr (.inl (fun k => zL ((g 1) k))))), ((q 2), .inl (cJ, 10, .inr (.inl (fun k => zL ((g 2) k)))))] := by subst e_i28; exact hD
            exact ret (i28, fun _ _ => 0) _ _ _ _ _ _ ⟨hO29, by dsimp only; omega⟩ (bw_subP (isC := [0, 1, 2, 3]) hP rfl) (hD.sub [0, 1, 2, 3] (by decide) rfl) hS (Nat.le_of_ble_eq_true rfl) (Nat.le_of_ble_eq_true rfl) dX3_lookAtWhole_105
        · refine lv_aload_n hx hb dX3_lookAtWhole_44 rfl (lv_at hl 0 rfl) ?_
          refine lv_aload_n hx hb dX3_lookAtWhole_45 rfl (lv_at hl 0 rfl) ?_
          refine r_get F hK hP 0 13 rfl rfl in_X3 (by decide) k_279 rfl dX3_lookAtWhole_46 ?_
          refine lv_bipush (v := zI 10) hx hb dX3_lookAtWhole_49 (by decide) ?_
          refine r_imul (v := zI ((ii 8) * 10)) F dX3_lookAtWhole_51 (zI_mul _ _) ?_
          refine lv_aload_n hx hb dX3_lookAtWhole_52 rfl (lv_at hl 0 rfl) ?_
          refine r_get F hK hP 0 0 rfl rfl in_X3 (by decide) k_261 rfl dX3_lookAtWhole_53 ?_
          refine lv_aload_n hx hb dX3_lookAtWhole_56 rfl (lv_at hl 0 rfl) ?_
          refine r_get F hK hP 0 11 rfl rfl in_X3 (by decide) k_277 rfl dX3_lookAtWhole_57 ?_
          refine rz_bald F hK hP 1 1 rfl rfl (by omega) (by omega) dX3_lookAtWhole_60 (fun z31 h_z31 => ?_)
          refine lv_bipush (v := zI 48) hx hb dX3_lookAtWhole_61 (by decide) ?_
          refine r_isub (v := zI (z31 - 48)) F dX3_lookAtWhole_63 (zI_sub _ _) ?_
          refine r_iadd (v := zI (((ii 8) * 10) + (z31 - 48))) F dX3_lookAtWhole_64 (zI_add _ _) ?_
          refine rz_top (fun z32 h_z32 => ?_)
          refine r_put F hK hP hD hS 0 13 rfl rfl in_X3 tyX3 tyX3_ok nmX3 (by decide) k_279 rfl rfl rfl (Nat.le_of_ble_eq_true rfl) dX3_lookAtWhole_65 (w1 := [(b, .inr (3, [.ref (q 0), .int (zI (ii 0)), .ref (q 3), .ref (q 4), .int (zI (ii 1)), .int (zI (ii 2)), .ref (q 1), .ref (q 2), .int (zI (ii 3)), .int (zI (ii 4)), .int (zI (ii 5)), .int (zI (ii 6)), .long (zL (ii 7)), .int (zI z32)])), ((q 0), .inl (cB, 900, .inl (fun k => zI ((g 0) k)))), ((q 1), .inl (cJ, 19, .inr (.inl (fun k => zL ((g 1) k))))), ((q 2), .inl (cJ, 10, .inr (.inl (fun k => zL ((g 2) k)))))]) rfl (fun H locs hP hD hS => ?_)
          refine lv_aload_n hx hb dX3_lookAtWhole_68 rfl (lv_at hl 0 rfl) ?_
          refine lv_dup hx hb dX3_lookAtWhole_69 rfl ?_
          refine r_get F hK hP 0 11 rfl rfl in_X3 (by decide) k_277 rfl dX3_lookAtWhole_70 ?_
          refine lv_iconst (v := zI 1) hx hb dX3_lookAtWhole_73 rfl ?_
          refine r_iadd (v := zI ((ii 6) + 1)) F dX3_lookAtWhole_74 (zI_add _ _) ?_
          refine r_put F hK hP hD hS 0 11 rfl rfl in_X3 tyX3 tyX3_ok nmX3 (by decide) k_277 rfl rfl rfl (Nat.le_of_ble_eq_true rfl) dX3_lookAtWhole_75 (w1 := [(b, .inr (3, [.ref (q 0), .int (zI (ii 0)), .ref (q 3), .ref (q 4), .int (zI (ii 1)), .int (zI (ii 2)), .ref (q 1), .ref (q 2), .int (zI (ii 3)), .int (zI (ii 4)), .int (zI (ii 5)), .int (zI ((ii 6) + 1)), .long (zL (ii 7)), .int (zI z32)])), ((q 0), .inl (cB, 900, .inl (fun k => zI ((g 0) k)))), ((q 1), .inl (cJ, 19, .inr (.inl (fun k => zL ((g 1) k))))), ((q 2), .inl (cJ, 10, .inr (.inl (fun k => zL ((g 2) k)))))]) rfl (fun H locs hP hD hS => ?_)
          refine lv_goto (tgt := 5) hx hb dX3_lookAtWhole_78 (by decide) ?_
          obtain ⟨i33, e_i33⟩ : ∃ i33 : Nat → Int, i33 = fun k => [(ii 0), (ii 1), (ii 2), (ii 3), (ii 4), (ii 5), ((ii 6) + 1), (ii 7), z32].getD k 0 := ⟨_, rfl⟩
          have e_i33_0 : i33 0 = (ii 0) := by rw [e_i33]; rfl
          have e_i33_1 : i33 1 = (ii 1) := by rw [e_i33]; rfl
          have e_i33_2 : i33 2 = (ii 2) := by rw [e_i33]; rfl
          have e_i33_3 : i33 3 = (ii 3) := by rw [e_i33]; rfl
          have e_i33_4 : i33 4 = (ii 4) := by rw [e_i33]; rfl
          have e_i33_5 : i33 5 = (ii 5) := by rw [e_i33]; rfl
          have e_i33_6 : i33 6 = ((ii 6) + 1) := by rw [e_i33]; rfl
          have e_i33_7 : i33 7 = (ii 7) := by rw [e_i33]; rfl
          have e_i33_8 : i33 8 = z32 := by rw [e_i33]; rfl
          have hO34 : ReaderOk i33 := by refine ⟨?_, ?_, ?_, ?_, ?_, ?_⟩ <;> omega
          have hf35 := hO34
          have hP : va_P G vwCl [(b, .inr (3, [.ref (q 0), .int (zI (i33 0)), .ref (q 3), .ref (q 4), .int (zI (i33 1)), .int (zI (i33 2)), .ref (q 1), .ref (q 2), .int (zI (i33 3)), .int (zI (i33 4)), .int (zI (i33 5)), .int (zI (i33 6)), .long (zL (i33 7)), .int (zI (i33 8))])), ((q 0), .inl (cB, 900, .inl (fun k => zI ((g 0) k)))), ((q 1), .inl (cJ, 19, .inr (.inl (fun k => zL ((g 1) k))))), ((q 2), .inl (cJ, 10, .inr (.inl (fun k => zL ((g 2) k)))))] H := by subst e_i33; exact hP
          have hD : va_D A [(b, .inr (3, [.ref (q 0), .int (zI (i33 0)), .ref (q 3), .ref (q 4), .int (zI (i33 1)), .int (zI (i33 2)), .ref (q 1), .ref (q 2), .int (zI (i33 3)), .int (zI (i33 4)), .int (zI (i33 5)), .int (zI (i33 6)), .long (zL (i33 7)), .int (zI (i33 8))])), ((q 0), .inl (cB, 900, .inl (fun k => zI ((g 0) k)))), ((q 1), .inl (cJ, 19, .inr (.inl (fun k => zL ((g 1) k))))), ((q 2), .inl (cJ, 10, .inr (.inl (fun k => zL ((g 2) k)))))] := by subst e_i33; exact hD
          exact ih1 i33 _ _ (by omega) (by omega) hO34 hP hD hS ls (lv_sub hl [0] rfl)
theorem dX3_lookAtWord_0 : decode cX3_lookAtWord 0 = .ok (.aload_n 0, 1) := by decide +kernel
theorem dX3_lookAtWord_1 : decode cX3_lookAtWord 1 = .ok (.lconst 0, 1) := by decide +kernel
theorem dX3_lookAtWord_2 : decode cX3_lookAtWord 2 = .ok (.putfield 58, 3) := by decide +kernel
theorem k_278 : Cond.fieldLink RX3 58 "BurntWays$Reader" "word" "J" ∈ bw_T := bw_m 278 (by decide +kernel) rfl
theorem dX3_lookAtWord_5 : decode cX3_lookAtWord 5 = .ok (.aload_n 0, 1) := by decide +kernel
theorem dX3_lookAtWord_6 : decode cX3_lookAtWord 6 = .ok (.getfield 55, 3) := by decide +kernel
theorem dX3_lookAtWord_9 : decode cX3_lookAtWord 9 = .ok (.aload_n 0, 1) := by decide +kernel
theorem dX3_lookAtWord_10 : decode cX3_lookAtWord 10 = .ok (.getfield 46, 3) := by decide +kernel
theorem dX3_lookAtWord_13 : decode cX3_lookAtWord 13 = .ok (.if_icmp .ge 70, 3) := by decide +kernel
theorem dX3_lookAtWord_83 : decode cX3_lookAtWord 83 = .ok (.aload_n 0, 1) := by decide +kernel
theorem dX3_lookAtWord_84 : decode cX3_lookAtWord 84 = .ok (.aload_n 0, 1) := by decide +kernel
theorem dX3_lookAtWord_85 : decode cX3_lookAtWord 85 = .ok (.getfield 55, 3) := by decide +kernel
theorem dX3_lookAtWord_88 : decode cX3_lookAtWord 88 = .ok (.aload_n 0, 1) := by decide +kernel
theorem dX3_lookAtWord_89 : decode cX3_lookAtWord 89 = .ok (.getfield 52, 3) := by decide +kernel
theorem dX3_lookAtWord_92 : decode cX3_lookAtWord 92 = .ok (.isub, 1) := by decide +kernel
theorem dX3_lookAtWord_93 : decode cX3_lookAtWord 93 = .ok (.bipush 8, 2) := by decide +kernel
theorem dX3_lookAtWord_95 : decode cX3_lookAtWord 95 = .ok (.if_icmp .gt 8, 3) := by decide +kernel
theorem dX3_lookAtWord_103 : decode cX3_lookAtWord 103 = .ok (.bipush 23, 2) := by decide +kernel
theorem dX3_lookAtWord_105 : decode cX3_lookAtWord 105 = .ok (.putfield 49, 3) := by decide +kernel
theorem dX3_lookAtWord_108 : decode cX3_lookAtWord 108 = .ok (.iconst 0, 1) := by decide +kernel
theorem dX3_lookAtWord_109 : decode cX3_lookAtWord 109 = .ok (.istore_n 1, 1) := by decide +kernel
theorem dX3_lookAtWord_110 : decode cX3_lookAtWord 110 = .ok (.iload_n 1, 1) := by decide +kernel
theorem dX3_lookAtWord_111 : decode cX3_lookAtWord 111 = .ok (.bipush 19, 2) := by decide +kernel
theorem dX3_lookAtWord_113 : decode cX3_lookAtWord 113 = .ok (.if_icmp .ge 44, 3) := by decide +kernel
theorem dX3_lookAtWord_157 : decode cX3_lookAtWord 157 = .ok (.return_, 1) := by decide +kernel
theorem dX3_lookAtWord_116 : decode cX3_lookAtWord 116 = .ok (.aload_n 0, 1) := by decide +kernel
theorem dX3_lookAtWord_117 : decode cX3_lookAtWord 117 = .ok (.getfield 49, 3) := by decide +kernel
theorem dX3_lookAtWord_120 : decode cX3_lookAtWord 120 = .ok (.bipush 19, 2) := by decide +kernel
theorem dX3_lookAtWord_122 : decode cX3_lookAtWord 122 = .ok (.if_icmp .ne 35, 3) := by decide +kernel
theorem dX3_lookAtWord_125 : decode cX3_lookAtWord 125 = .ok (.aload_n 0, 1) := by decide +kernel
theorem dX3_lookAtWord_126 : decode cX3_lookAtWord 126 = .ok (.aload_n 0, 1) := by decide +kernel
theorem dX3_lookAtWord_127 : decode cX3_lookAtWord 127 = .ok (.getfield 39, 3) := by decide +kernel
theorem k_272 : Cond.fieldLink RX3 39 "BurntWays$Reader" "reserved" "[J" ∈ bw_T := bw_m 272 (by decide +kernel) rfl
theorem dX3_lookAtWord_130 : decode cX3_lookAtWord 130 = .ok (.iload_n 1, 1) := by decide +kernel
theorem dX3_lookAtWord_131 : decode cX3_lookAtWord 131 = .ok (.laload, 1) := by decide +kernel
theorem dX3_lookAtWord_132 : decode cX3_lookAtWord 132 = .ok (.aload_n 0, 1) := by decide +kernel
theorem dX3_lookAtWord_133 : decode cX3_lookAtWord 133 = .ok (.getfield 58, 3) := by decide +kernel
theorem dX3_lookAtWord_136 : decode cX3_lookAtWord 136 = .ok (.lcmp, 1) := by decide +kernel
theorem dX3_lookAtWord_137 : decode cX3_lookAtWord 137 = .ok (.ifCond .ne 7, 3) := by decide +kernel
theorem dX3_lookAtWord_144 : decode cX3_lookAtWord 144 = .ok (.aload_n 0, 1) := by decide +kernel
theorem dX3_lookAtWord_145 : decode cX3_lookAtWord 145 = .ok (.getfield 49, 3) := by decide +kernel
theorem dX3_lookAtWord_148 : decode cX3_lookAtWord 148 = .ok (.putfield 49, 3) := by decide +kernel
theorem dX3_lookAtWord_151 : decode cX3_lookAtWord 151 = .ok (.iinc 1 1, 3) := by decide +kernel
theorem dX3_lookAtWord_154 : decode cX3_lookAtWord 154 = .ok (.goto (-44), 3) := by decide +kernel
theorem dX3_lookAtWord_140 : decode cX3_lookAtWord 140 = .ok (.iload_n 1, 1) := by decide +kernel
theorem dX3_lookAtWord_141 : decode cX3_lookAtWord 141 = .ok (.goto 7, 3) := by decide +kernel
theorem dX3_lookAtWord_98 : decode cX3_lookAtWord 98 = .ok (.bipush 19, 2) := by decide +kernel
theorem dX3_lookAtWord_100 : decode cX3_lookAtWord 100 = .ok (.goto 5, 3) := by decide +kernel
theorem dX3_lookAtWord_16 : decode cX3_lookAtWord 16 = .ok (.aload_n 0, 1) := by decide +kernel
theorem dX3_lookAtWord_17 : decode cX3_lookAtWord 17 = .ok (.getfield 9, 3) := by decide +kernel
theorem dX3_lookAtWord_20 : decode cX3_lookAtWord 20 = .ok (.aload_n 0, 1) := by decide +kernel
theorem dX3_lookAtWord_21 : decode cX3_lookAtWord 21 = .ok (.getfield 55, 3) := by decide +kernel
theorem dX3_lookAtWord_24 : decode cX3_lookAtWord 24 = .ok (.baload, 1) := by decide +kernel
theorem dX3_lookAtWord_25 : decode cX3_lookAtWord 25 = .ok (.bipush 97, 2) := by decide +kernel
theorem dX3_lookAtWord_27 : decode cX3_lookAtWord 27 = .ok (.if_icmp .lt 56, 3) := by decide +kernel
theorem dX3_lookAtWord_30 : decode cX3_lookAtWord 30 = .ok (.aload_n 0, 1) := by decide +kernel
theorem dX3_lookAtWord_31 : decode cX3_lookAtWord 31 = .ok (.getfield 9, 3) := by decide +kernel
theorem dX3_lookAtWord_34 : decode cX3_lookAtWord 34 = .ok (.aload_n 0, 1) := by decide +kernel
theorem dX3_lookAtWord_35 : decode cX3_lookAtWord 35 = .ok (.getfield 55, 3) := by decide +kernel
theorem dX3_lookAtWord_38 : decode cX3_lookAtWord 38 = .ok (.baload, 1) := by decide +kernel
theorem dX3_lookAtWord_39 : decode cX3_lookAtWord 39 = .ok (.bipush 122, 2) := by decide +kernel
theorem dX3_lookAtWord_41 : decode cX3_lookAtWord 41 = .ok (.if_icmp .gt 42, 3) := by decide +kernel
theorem dX3_lookAtWord_44 : decode cX3_lookAtWord 44 = .ok (.aload_n 0, 1) := by decide +kernel
theorem dX3_lookAtWord_45 : decode cX3_lookAtWord 45 = .ok (.aload_n 0, 1) := by decide +kernel
theorem dX3_lookAtWord_46 : decode cX3_lookAtWord 46 = .ok (.getfield 58, 3) := by decide +kernel
theorem dX3_lookAtWord_49 : decode cX3_lookAtWord 49 = .ok (.ldc2_w 77, 3) := by decide +kernel
theorem k_260 : Cond.constantLong RX3 77 (32) ∈ bw_T := bw_m 260 (by decide +kernel) rfl
theorem dX3_lookAtWord_52 : decode cX3_lookAtWord 52 = .ok (.lmul, 1) := by decide +kernel
theorem dX3_lookAtWord_53 : decode cX3_lookAtWord 53 = .ok (.aload_n 0, 1) := by decide +kernel
theorem dX3_lookAtWord_54 : decode cX3_lookAtWord 54 = .ok (.getfield 9, 3) := by decide +kernel
theorem dX3_lookAtWord_57 : decode cX3_lookAtWord 57 = .ok (.aload_n 0, 1) := by decide +kernel
theorem dX3_lookAtWord_58 : decode cX3_lookAtWord 58 = .ok (.getfield 55, 3) := by decide +kernel
theorem dX3_lookAtWord_61 : decode cX3_lookAtWord 61 = .ok (.baload, 1) := by decide +kernel
theorem dX3_lookAtWord_62 : decode cX3_lookAtWord 62 = .ok (.bipush 96, 2) := by decide +kernel
theorem dX3_lookAtWord_64 : decode cX3_lookAtWord 64 = .ok (.isub, 1) := by decide +kernel
theorem dX3_lookAtWord_65 : decode cX3_lookAtWord 65 = .ok (.i2l, 1) := by decide +kernel
theorem dX3_lookAtWord_66 : decode cX3_lookAtWord 66 = .ok (.ladd, 1) := by decide +kernel
theorem dX3_lookAtWord_67 : decode cX3_lookAtWord 67 = .ok (.putfield 58, 3) := by decide +kernel
theorem dX3_lookAtWord_70 : decode cX3_lookAtWord 70 = .ok (.aload_n 0, 1) := by decide +kernel
theorem dX3_lookAtWord_71 : decode cX3_lookAtWord 71 = .ok (.dup, 1) := by decide +kernel
theorem dX3_lookAtWord_72 : decode cX3_lookAtWord 72 = .ok (.getfield 55, 3) := by decide +kernel
theorem dX3_lookAtWord_75 : decode cX3_lookAtWord 75 = .ok (.iconst 1, 1) := by decide +kernel
theorem dX3_lookAtWord_76 : decode cX3_lookAtWord 76 = .ok (.iadd, 1) := by decide +kernel
theorem dX3_lookAtWord_77 : decode cX3_lookAtWord 77 = .ok (.putfield 55, 3) := by decide +kernel
theorem dX3_lookAtWord_80 : decode cX3_lookAtWord 80 = .ok (.goto (-75), 3) := by decide +kernel
abbrev rm_X3_lookAtWord : Room := { frames := 0, cells := 0, slots := 0, locals := 0 }
set_option maxRecDepth 100000 in
set_option maxHeartbeats 8000000 in
theorem c_X3_lookAtWord {l : Launch} {E : (Nat → Prop) → State → Prop} (hO : bw_Ok E) {G : va_G} {cI cB cJ cN cW : ClassId} (b : Nat) (q : Nat → Nat) (i : Nat → Int) (g : Nat → Nat → Int) (hY : ReaderOk i)  : bw_Cv (S := zU) l yX3_lookAtWord (bw_ws (Cond.code yX3_lookAtWord cX3_lookAtWord 2 none)) rm_X3_lookAtWord E G (bw_kt cI cB cJ cN cW) [.ref b] [(b, .inr (3, [.ref (q 0), .int (zI (i 0)), .ref (q 3), .ref (q 4), .int (zI (i 1)), .int (zI (i 2)), .ref (q 1), .ref (q 2), .int (zI (i 3)), .int (zI (i 4)), .int (zI (i 5)), .int (zI (i 6)), .long (zL (i 7)), .int (zI (i 8))])), ((q 0), .inl (cB, 900, .inl (fun k => zI ((g 0) k)))), ((q 1), .inl (cJ, 19, .inr (.inl (fun k => zL ((g 1) k))))), ((q 2), .inl (cJ, 10, .inr (.inl (fun k => zL ((g 2) k)))))] (fun u => ReaderOk u.1 ∧ (u.1 0 = i 0 ∧ u.1 3 = i 3)) (fun u => [(b, .inr (3, [.ref (q 0), .int (zI (u.1 0)), .ref (q 3), .ref (q 4), .int (zI (u.1 1)), .int (zI (u.1 2)), .ref (q 1), .ref (q 2), .int (zI (u.1 3)), .int (zI (u.1 4)), .int (zI (u.1 5)), .int (zI (u.1 6)), .long (zL (u.1 7)), .int (zI (u.1 8))])), ((q 0), .inl (cB, 900, .inl (fun k => zI ((g 0) k)))), ((q 1), .inl (cJ, 19, .inr (.inl (fun k => zL ((g 1) k))))), ((q 2), .inl (cJ, 10, .inr (.inl (fun k => zL ((g 2) k)))))]) := by
  refine bw_Cv.of (cc := cX3_lookAtWord) (maxL := 2) (by decide) rfl (Nat.le_of_ble_eq_true rfl) ?_
  intro p e s m below meth c A Q hx hb hml hts hown hin hK hA hS hP hD hE ret ls hl
  have F : CallFix p m c cX3_lookAtWord 2 s ([.ref b] : List Value).toArray bw_T RX3 := ⟨hx, hb, hml, hown, fun w h => hts w (List.mem_cons_of_mem _ h)⟩
  replace hl : lv_has ls 2 [(0, .ref b)] := hl
  refine lv_aload_n hx hb dX3_lookAtWord_0 rfl (lv_at hl 0 rfl) ?_
  refine lv_lconst (v := (zL 0)) hx hb dX3_lookAtWord_1 rfl ?_
  refine r_put F hK hP hD hS 0 12 rfl rfl in_X3 tyX3 tyX3_ok nmX3 (by decide) k_278 rfl rfl rfl (Nat.le_of_ble_eq_true rfl) dX3_lookAtWord_2 (w1 := [(b, .inr (3, [.ref (q 0), .int (zI (i 0)), .ref (q 3), .ref (q 4), .int (zI (i 1)), .int (zI (i 2)), .ref (q 1), .ref (q 2), .int (zI (i 3)), .int (zI (i 4)), .int (zI (i 5)), .int (zI (i 6)), .long (zL 0), .int (zI (i 8))])), ((q 0), .inl (cB, 900, .inl (fun k => zI ((g 0) k)))), ((q 1), .inl (cJ, 19, .inr (.inl (fun k => zL ((g 1) k))))), ((q 2), .inl (cJ, 10, .inr (.inl (fun k => zL ((g 2) k)))))]) rfl (fun H locs hP hD hS => ?_)
  obtain ⟨i1, e_i1⟩ : ∃ i1 : Nat → Int, i1 = fun k => [(i 0), (i 1), (i 2), (i 3), (i 4), (i 5), (i 6), 0, (i 8)].getD k 0 := ⟨_, rfl⟩
  have e_i1_0 : i1 0 = (i 0) := by rw [e_i1]; rfl
  have e_i1_1 : i1 1 = (i 1) := by rw [e_i1]; rfl
  have e_i1_2 : i1 2 = (i 2) := by rw [e_i1]; rfl
  have e_i1_3 : i1 3 = (i 3) := by rw [e_i1]; rfl
  have e_i1_4 : i1 4 = (i 4) := by rw [e_i1]; rfl
  have e_i1_5 : i1 5 = (i 5) := by rw [e_i1]; rfl
  have e_i1_6 : i1 6 = (i 6) := by rw [e_i1]; rfl
  have e_i1_7 : i1 7 = 0 := by rw [e_i1]; rfl
  have e_i1_8 : i1 8 = (i 8) := by rw [e_i1]; rfl
  have hO2 : ReaderOk i1 := by refine ⟨?_, ?_, ?_, ?_, ?_, ?_⟩ <;> omega
  have hf3 := hO2
  have hP : va_P G vwCl [(b, .inr (3, [.ref (q 0), .int (zI (i1 0)), .ref (q 3), .ref (q 4), .int (zI (i1 1)), .int (zI (i1 2)), .ref (q 1), .ref (q 2), .int (zI (i1 3)), .int (zI (i1 4)), .int (zI (i1 5)), .int (zI (i1 6)), .long (zL (i1 7)), .int (zI (i1 8))])), ((q 0), .inl (cB, 900, .inl (fun k => zI ((g 0) k)))), ((q 1), .inl (cJ, 19, .inr (.inl (fun k => zL ((g 1) k))))), ((q 2), .inl (cJ, 10, .inr (.inl (fun k => zL ((g 2) k)))))] H := by subst e_i1; exact hP
  have hD : va_D A [(b, .inr (3, [.ref (q 0), .int (zI (i1 0)), .ref (q 3), .ref (q 4), .int (zI (i1 1)), .int (zI (i1 2)), .ref (q 1), .ref (q 2), .int (zI (i1 3)), .int (zI (i1 4)), .int (zI (i1 5)), .int (zI (i1 6)), .long (zL (i1 7)), .int (zI (i1 8))])), ((q 0), .inl (cB, 900, .inl (fun k => zI ((g 0) k)))), ((q 1), .inl (cJ, 19, .inr (.inl (fun k => zL ((g 1) k))))), ((q 2), .inl (cJ, 10, .inr (.inl (fun k => zL ((g 2) k)))))] := by subst e_i1; exact hD
  refine W.widen (k := 0) (n := 0) (Nat.le_of_ble_eq_true rfl) (Nat.le_of_ble_eq_true rfl) ?_
  refine (?_ : ∀ (n9_1 : Nat) (ii : Nat → Int) (H : Heap) (locs : List Loc), (ii 0 = i 0 ∧ ii 3 = i 3 ∧ ii 5 = i 5) → (901 - ii 6 : Int).toNat < n9_1 → (ReaderOk ii) → va_P G vwCl [(b, .inr (3, [.ref (q 0), .int (zI (ii 0)), .ref (q 3), .ref (q 4), .int (zI (ii 1)), .int (zI (ii 2)), .ref (q 1), .ref (q 2), .int (zI (ii 3)), .int (zI (ii 4)), .int (zI (ii 5)), .int (zI (ii 6)), .long (zL (ii 7)), .int (zI (ii 8))])), ((q 0), .inl (cB, 900, .inl (fun k => zI ((g 0) k)))), ((q 1), .inl (cJ, 19, .inr (.inl (fun k => zL ((g 1) k))))), ((q 2), .inl (cJ, 10, .inr (.inl (fun k => zL ((g 2) k)))))] H → va_D A [(b, .inr (3, [.ref (q 0), .int (zI (ii 0)), .ref (q 3), .ref (q 4), .int (zI (ii 1)), .int (zI (ii 2)), .ref (q 1), .ref (q 2), .int (zI (ii 3)), .int (zI (ii 4)), .int (zI (ii 5)), .int (zI (ii 6)), .long (zL (ii 7)), .int (zI (ii 8))])), ((q 0), .inl (cB, 900, .inl (fun k => zI ((g 0) k)))), ((q 1), .inl (cJ, 19, .inr (.inl (fun k => zL ((g 1) k))))), ((q 2), .inl (cJ, 10, .inr (.inl (fun k => zL ((g 2) k)))))] → va_S A s.heap H locs → ∀ ls : Array Slot, lv_has ls 2 [(0, .ref b)] → W p l e rm_X3_lookAtWord s m ([.ref b] : List Value).toArray below meth c H locs 0 0 Q (F0 m 5 ls [])) ((901 - i1 6 : Int).toNat + 1) i1 _ _ (by omega) (by omega) hO2 hP hD hS ls hl
  clear hP hD hS hl ls
  intro n9_1
  induction n9_1 with
  | zero =>
    intro ii H locs hI hM
    exact absurd hM (by omega)
  | succ n9_1 ih1 =>
    intro ii H locs hI1 hM1 hG hP hD hS ls hl
    have hf4 := hG
    refine lv_aload_n hx hb dX3_lookAtWord_5 rfl (lv_at hl 0 rfl) ?_
    refine r_get F hK hP 0 11 rfl rfl in_X3 (by decide) k_277 rfl dX3_lookAtWord_6 ?_
    refine lv_aload_n hx hb dX3_lookAtWord_9 rfl (lv_at hl 0 rfl) ?_
    refine r_get F hK hP 0 8 rfl rfl in_X3 (by decide) k_274 rfl dX3_lookAtWord_10 ?_
    refine rz_icmp_ge (tgt := 83) F (by omega) (by omega) dX3_lookAtWord_13 (by decide) (fun h13_4 => ?_) (fun h13_4 => ?_)
    · refine lv_aload_n hx hb dX3_lookAtWord_83 rfl (lv_at hl 0 rfl) ?_
      refine lv_aload_n hx hb dX3_lookAtWord_84 rfl (lv_at hl 0 rfl) ?_
      refine r_get F hK hP 0 11 rfl rfl in_X3 (by decide) k_277 rfl dX3_lookAtWord_85 ?_
      refine lv_aload_n hx hb dX3_lookAtWord_88 rfl (lv_at hl 0 rfl) ?_
      refine r_get F hK hP 0 10 rfl rfl in_X3 (by decide) k_276 rfl dX3_lookAtWord_89 ?_
      refine r_isub (v := zI ((ii 6) - (ii 5))) F dX3_lookAtWord_92 (zI_sub _ _) ?_
      refine lv_bipush (v := zI 8) hx hb dX3_lookAtWord_93 (by decide) ?_
      refine rz_icmp_gt (tgt := 103) F (by omega) (by omega) dX3_lookAtWord_95 (by decide) (fun h95_5 => ?_) (fun h95_5 => ?_)
      · refine lv_bipush (v := zI 23) hx hb dX3_lookAtWord_103 (by decide) ?_
        refine r_put F hK hP hD hS 0 9 rfl rfl in_X3 tyX3 tyX3_ok nmX3 (by decide) k_275 rfl rfl rfl (Nat.le_of_ble_eq_true rfl) dX3_lookAtWord_105 (w1 := [(b, .inr (3, [.ref (q 0), .int (zI (ii 0)), .ref (q 3), .ref (q 4), .int (zI (ii 1)), .int (zI (ii 2)), .ref (q 1), .ref (q 2), .int (zI (ii 3)), .int (zI 23), .int (zI (ii 5)), .int (zI (ii 6)), .long (zL (ii 7)), .int (zI (ii 8))])), ((q 0), .inl (cB, 900, .inl (fun k => zI ((g 0) k)))), ((q 1), .inl (cJ, 19, .inr (.inl (fun k => zL ((g 1) k))))), ((q 2), .inl (cJ, 10, .inr (.inl (fun k => zL ((g 2) k)))))]) rfl (fun H locs hP hD hS => ?_)
        refine lv_iconst (v := zI 0) hx hb dX3_lookAtWord_108 rfl ?_
        refine lv_istore_n (lv' := [(1, .int (zI 0)), (0, .ref b)]) hx hb dX3_lookAtWord_109 rfl hl (by decide) rfl (fun ls hl => ?_)
        obtain ⟨i7, e_i7⟩ : ∃ i7 : Nat → Int, i7 = fun k => [(ii 0), (ii 1), (ii 2), (ii 3), 23, (ii 5), (ii 6), (ii 7), (ii 8)].getD k 0 := ⟨_, rfl⟩
        have e_i7_0 : i7 0 = (ii 0) := by rw [e_i7]; rfl
        have e_i7_1 : i7 1 = (ii 1) := by rw [e_i7]; rfl
        have e_i7_2 : i7 2 = (ii 2) := by rw [e_i7]; rfl
        have e_i7_3 : i7 3 = (ii 3) := by rw [e_i7]; rfl
        have e_i7_4 : i7 4 = 23 := by rw [e_i7]; rfl
        have e_i7_5 : i7 5 = (ii 5) := by rw [e_i7]; rfl
        have e_i7_6 : i7 6 = (ii 6) := by rw [e_i7]; rfl
        have e_i7_7 : i7 7 = (ii 7) := by rw [e_i7]; rfl
        have e_i7_8 : i7 8 = (ii 8) := by rw [e_i7]; rfl
        have hO8 : ReaderOk i7 := by refine ⟨?_, ?_, ?_, ?_, ?_, ?_⟩ <;> omega
        have hf9 := hO8
        have hP : va_P G vwCl [(b, .inr (3, [.ref (q 0), .int (zI (i7 0)), .ref (q 3), .ref (q 4), .int (zI (i7 1)), .int (zI (i7 2)), .ref (q 1), .ref (q 2), .int (zI (i7 3)), .int (zI (i7 4)), .int (zI (i7 5)), .int (zI (i7 6)), .long (zL (i7 7)), .int (zI (i7 8))])), ((q 0), .inl (cB, 900, .inl (fun k => zI ((g 0) k)))), ((q 1), .inl (cJ, 19, .inr (.inl (fun k => zL ((g 1) k))))), ((q 2), .inl (cJ, 10, .inr (.inl (fun k => zL ((g 2) k)))))] H := by subst e_i7; exact hP
        have hD : va_D A [(b, .inr (3, [.ref (q 0), .int (zI (i7 0)), .ref (q 3), .ref (q 4), .int (zI (i7 1)), .int (zI (i7 2)), .ref (q 1), .ref (q 2), .int (zI (i7 3)), .int (zI (i7 4)), .int (zI (i7 5)), .int (zI (i7 6)), .long (zL (i7 7)), .int (zI (i7 8))])), ((q 0), .inl (cB, 900, .inl (fun k => zI ((g 0) k)))), ((q 1), .inl (cJ, 19, .inr (.inl (fun k => zL ((g 1) k))))), ((q 2), .inl (cJ, 10, .inr (.inl (fun k => zL ((g 2) k)))))] := by subst e_i7; exact hD
        refine W.widen (k := 0) (n := 0) (Nat.le_of_ble_eq_true rfl) (Nat.le_of_ble_eq_true rfl) ?_
        refine (?_ : ∀ (n9_2 : Nat) (v1 : Int) (ii : Nat → Int) (H : Heap) (locs : List Loc), (0 ≤ v1 ∧ v1 ≤ 19 ∧ ii 0 = i 0 ∧ ii 3 = i 3) → (19 - v1 : Int).toNat < n9_2 → (ReaderOk ii) → va_P G vwCl [(b, .inr (3, [.ref (q 0), .int (zI (ii 0)), .ref (q 3), .ref (q 4), .int (zI (ii 1)), .int (zI (ii 2)), .ref (q 1), .ref (q 2), .int (zI (ii 3)), .int (zI (ii 4)), .int (zI (ii 5)), .int (zI (ii 6)), .long (zL (ii 7)), .int (zI (ii 8))])), ((q 0), .inl (cB, 900, .inl (fun k => zI ((g 0) k)))), ((q 1), .inl (cJ, 19, .inr (.inl (fun k => zL ((g 1) k))))), ((q 2), .inl (cJ, 10, .inr (.inl (fun k => zL ((g 2) k)))))] H → va_D A [(b, .inr (3, [.ref (q 0), .int (zI (ii 0)), .ref (q 3), .ref (q 4), .int (zI (ii 1)), .int (zI (ii 2)), .ref (q 1), .ref (q 2), .int (zI (ii 3)), .int (zI (ii 4)), .int (zI (ii 5)), .int (zI (ii 6)), .long (zL (ii 7)), .int (zI (ii 8))])), ((q 0), .inl (cB, 900, .inl (fun k => zI ((g 0) k)))), ((q 1), .inl (cJ, 19, .inr (.inl (fun k => zL ((g 1) k))))), ((q 2), .inl (cJ, 10, .inr (.inl (fun k => zL ((g 2) k)))))] → va_S A s.heap H locs → ∀ ls : Array Slot, lv_has ls 2 [(1, .int (zI v1)), (0, .ref b)] → W p l e rm_X3_lookAtWord s m ([.ref b] : List Value).toArray below meth c H locs 0 0 Q (F0 m 110 ls [])) ((19 - 0 : Int).toNat + 1) 0 i7 _ _ (by omega) (by omega) hO8 hP hD hS ls hl
        clear hP hD hS hl ls
        intro n9_2
        induction n9_2 with
        | zero =>
          intro v1 ii H locs hI hM
          exact absurd hM (by omega)
        | succ n9_2 ih2 =>
          intro v1 ii H locs hI2 hM2 hG hP hD hS ls hl
          have hf10 := hG
          refine lv_iload_n hx hb dX3_lookAtWord_110 rfl (lv_at hl 0 rfl) ?_
          refine lv_bipush (v := zI 19) hx hb dX3_lookAtWord_111 (by decide) ?_
          refine rz_icmp_ge (tgt := 157) F (by omega) (by omega) dX3_lookAtWord_113 (by decide) (fun h113_10 => ?_) (fun h113_10 => ?_)
          · exact ret (ii, fun _ _ => 0) _ _ _ _ _ _ ⟨hG, by dsimp only; omega⟩ (bw_subP (isC := [0, 1, 2, 3]) hP rfl) (hD.sub [0, 1, 2, 3] (by decide) rfl) hS (Nat.le_of_ble_eq_true rfl) (Nat.le_of_ble_eq_true rfl) dX3_lookAtWord_157
          · refine lv_aload_n hx hb dX3_lookAtWord_116 rfl (lv_at hl 1 rfl) ?_
            refine r_get F hK hP 0 9 rfl rfl in_X3 (by decide) k_275 rfl dX3_lookAtWord_117 ?_
            refine lv_bipush (v := zI 19) hx hb dX3_lookAtWord_120 (by decide) ?_
            refine rz_icmp_ne (tgt := 157) F (by omega) (by omega) dX3_lookAtWord_122 (by decide) (fun h122_11 => ?_) (fun h122_11 => ?_)
            · exact ret (ii, fun _ _ => 0) _ _ _ _ _ _ ⟨hG, by dsimp only; omega⟩ (bw_subP (isC := [0, 1, 2, 3]) hP rfl) (hD.sub [0, 1, 2, 3] (by decide) rfl) hS (Nat.le_of_ble_eq_true rfl) (Nat.le_of_ble_eq_true rfl) dX3_lookAtWord_157
            · refine lv_aload_n hx hb dX3_lookAtWord_125 rfl (lv_at hl 1 rfl) ?_
              refine lv_aload_n hx hb dX3_lookAtWord_126 rfl (lv_at hl 1 rfl) ?_
              refine r_get F hK hP 0 6 rfl rfl in_X3 (by decide) k_272 rfl dX3_lookAtWord_127 ?_
              refine lv_iload_n hx hb dX3_lookAtWord_130 rfl (lv_at hl 0 rfl) ?_
              refine rz_lald F hK hP 2 2 rfl rfl (by omega) (by omega) dX3_lookAtWord_131 ?_
              refine lv_aload_n hx hb dX3_lookAtWord_132 rfl (lv_at hl 1 rfl) ?_
              refine r_get F hK hP 0 12 rfl rfl in_X3 (by decide) k_278 rfl dX3_lookAtWord_133 ?_
              refine rz_lcmp F dX3_lookAtWord_136 (fun z14 h_z14 => ?_)
              refine rz_if_ne (tgt := 144) F (by omega) dX3_lookAtWord_137 (by decide) (fun h137_14 => ?_) (fun h137_14 => ?_)
              · refine lv_aload_n hx hb dX3_lookAtWord_144 rfl (lv_at hl 1 rfl) ?_
                refine r_get F hK hP 0 9 rfl rfl in_X3 (by decide) k_275 rfl dX3_lookAtWord_145 ?_
                refine r_put F hK hP hD hS 0 9 rfl rfl in_X3 tyX3 tyX3_ok nmX3 (by decide) k_275 rfl rfl rfl (Nat.le_of_ble_eq_true rfl) dX3_lookAtWord_148 (w1 := [(b, .inr (3, [.ref (q 0), .int (zI (ii 0)), .ref (q 3), .ref (q 4), .int (zI (ii 1)), .int (zI (ii 2)), .ref (q 1), .ref (q 2), .int (zI (ii 3)), .int (zI (ii 4)), .int (zI (ii 5)), .int (zI (ii 6)), .long (zL (ii 7)), .int (zI (ii 8))])), ((q 0), .inl (cB, 900, .inl (fun k => zI ((g 0) k)))), ((q 1), .inl (cJ, 19, .inr (.inl (fun k => zL ((g 1) k))))), ((q 2), .inl (cJ, 10, .inr (.inl (fun k => zL ((g 2) k)))))]) rfl (fun H locs hP hD hS => ?_)
                refine lv_iinc (v := zI (v1 + 1)) (lv' := [(1, .int (zI (v1 + 1))), (0, .ref b)]) hx hb dX3_lookAtWord_151 hl (k := 0) rfl (zI_add _ _) (by decide) rfl (fun ls hl => ?_)
                refine lv_goto (tgt := 110) hx hb dX3_lookAtWord_154 (by decide) ?_
                exact ih2 (v1 + 1) ii _ _ (by omega) (by omega) hG hP hD hS ls (lv_sub hl [0, 1] rfl)
              · refine lv_iload_n hx hb dX3_lookAtWord_140 rfl (lv_at hl 0 rfl) ?_
                refine lv_goto (tgt := 148) hx hb dX3_lookAtWord_141 (by decide) ?_
                refine r_put F hK hP hD hS 0 9 rfl rfl in_X3 tyX3 tyX3_ok nmX3 (by decide) k_275 rfl rfl rfl (Nat.le_of_ble_eq_true rfl) dX3_lookAtWord_148 (w1 := [(b, .inr (3, [.ref (q 0), .int (zI (ii 0)), .ref (q 3), .ref (q 4), .int (zI (ii 1)), .int (zI (ii 2)), .ref (q 1), .ref (q 2), .int (zI (ii 3)), .int (zI v1), .int (zI (ii 5)), .int (zI (ii 6)), .long (zL (ii 7)), .int (zI (ii 8))])), ((q 0), .inl (cB, 900, .inl (fun k => zI ((g 0) k)))), ((q 1), .inl (cJ, 19, .inr (.inl (fun k => zL ((g 1) k))))), ((q 2), .inl (cJ, 10, .inr (.inl (fun k => zL ((g 2) k)))))]) rfl (fun H locs hP hD hS => ?_)
                refine lv_iinc (v := zI (v1 + 1)) (lv' := [(1, .int (zI (v1 + 1))), (0, .ref b)]) hx hb dX3_lookAtWord_151 hl (k := 0) rfl (zI_add _ _) (by decide) rfl (fun ls hl => ?_)
                refine lv_goto (tgt := 110) hx hb dX3_lookAtWord_154 (by decide) ?_
                obtain ⟨i16, e_i16⟩ : ∃ i16 : Nat → Int, i16 = fun k => [(ii 0), (ii 1), (ii 2), (ii 3), v1, (ii 5), (ii 6), (ii 7), (ii 8)].getD k 0 := ⟨_, rfl⟩
                have e_i16_0 : i16 0 = (ii 0) := by rw [e_i16]; rfl
                have e_i16_1 : i16 1 = (ii 1) := by rw [e_i16]; rfl
                have e_i16_2 : i16 2 = (ii 2) := by rw [e_i16]; rfl
                have e_i16_3 : i16 3 = (ii 3) := by rw [e_i16]; rfl
                have e_i16_4 : i16 4 = v1 := by rw [e_i16]; rfl
                have e_i16_5 : i16 5 = (ii 5) := by rw [e_i16]; rfl
                have e_i16_6 : i16 6 = (ii 6) := by rw [e_i16]; rfl
                have e_i16_7 : i16 7 = (ii 7) := by rw [e_i16]; rfl
                have e_i16_8 : i16 8 = (ii 8) := by rw [e_i16]; rfl
                have hO17 : ReaderOk i16 := by refine ⟨?_, ?_, ?_, ?_, ?_, ?_⟩ <;> omega
                have hf18 := hO17
                have hP : va_P G vwCl [(b, .inr (3, [.ref (q 0), .int (zI (i16 0)), .ref (q 3), .ref (q 4), .int (zI (i16 1)), .int (zI (i16 2)), .ref (q 1), .ref (q 2), .int (zI (i16 3)), .int (zI (i16 4)), .int (zI (i16 5)), .int (zI (i16 6)), .long (zL (i16 7)), .int (zI (i16 8))])), ((q 0), .inl (cB, 900, .inl (fun k => zI ((g 0) k)))), ((q 1), .inl (cJ, 19, .inr (.inl (fun k => zL ((g 1) k))))), ((q 2), .inl (cJ, 10, .inr (.inl (fun k => zL ((g 2) k)))))] H := by subst e_i16; exact hP
                have hD : va_D A [(b, .inr (3, [.ref (q 0), .int (zI (i16 0)), .ref (q 3), .ref (q 4), .int (zI (i16 1)), .int (zI (i16 2)), .ref (q 1), .ref (q 2), .int (zI (i16 3)), .int (zI (i16 4)), .int (zI (i16 5)), .int (zI (i16 6)), .long (zL (i16 7)), .int (zI (i16 8))])), ((q 0), .inl (cB, 900, .inl (fun k => zI ((g 0) k)))), ((q 1), .inl (cJ, 19, .inr (.inl (fun k => zL ((g 1) k))))), ((q 2), .inl (cJ, 10, .inr (.inl (fun k => zL ((g 2) k)))))] := by subst e_i16; exact hD
                exact ih2 (v1 + 1) i16 _ _ (by omega) (by omega) hO17 hP hD hS ls (lv_sub hl [0, 1] rfl)
      · refine lv_bipush (v := zI 19) hx hb dX3_lookAtWord_98 (by decide) ?_
        refine lv_goto (tgt := 105) hx hb dX3_lookAtWord_100 (by decide) ?_
        refine r_put F hK hP hD hS 0 9 rfl rfl in_X3 tyX3 tyX3_ok nmX3 (by decide) k_275 rfl rfl rfl (Nat.le_of_ble_eq_true rfl) dX3_lookAtWord_105 (w1 := [(b, .inr (3, [.ref (q 0), .int (zI (ii 0)), .ref (q 3), .ref (q 4), .int (zI (ii 1)), .int (zI (ii 2)), .ref (q 1), .ref (q 2), .int (zI (ii 3)), .int (zI 19), .int (zI (ii 5)), .int (zI (ii 6)), .long (zL (ii 7)), .int (zI (ii 8))])), ((q 0), .inl (cB, 900, .inl (fun k => zI ((g 0) k)))), ((q 1), .inl (cJ, 19, .inr (.inl (fun k => zL ((g 1) k))))), ((q 2), .inl (cJ, 10, .inr (.inl (fun k => zL ((g 2) k)))))]) rfl (fun H locs hP hD hS => ?_)
        refine lv_iconst (v := zI 0) hx hb dX3_lookAtWord_108 rfl ?_
        refine lv_istore_n (lv' := [(1, .int (zI 0)), (0, .ref b)]) hx hb dX3_lookAtWord_109 rfl hl (by decide) rfl (fun ls hl => ?_)
        obtain ⟨i19, e_i19⟩ : ∃ i19 : Nat → Int, i19 = fun k => [(ii 0), (ii 1), (ii 2), (ii 3), 19, (ii 5), (ii 6), (ii 7), (ii 8)].getD k 0 := ⟨_, rfl⟩
        have e_i19_0 : i19 0 = (ii 0) := by rw [e_i19]; rfl
        have e_i19_1 : i19 1 = (ii 1) := by rw [e_i19]; rfl
        have e_i19_2 : i19 2 = (ii 2) := by rw [e_i19]; rfl
        have e_i19_3 : i19 3 = (ii 3) := by rw [e_i19]; rfl
        have e_i19_4 : i19 4 = 19 := by rw [e_i19]; rfl
        have e_i19_5 : i19 5 = (ii 5) := by rw [e_i19]; rfl
        have e_i19_6 : i19 6 = (ii 6) := by rw [e_i19]; rfl
        have e_i19_7 : i19 7 = (ii 7) := by rw [e_i19]; rfl
        have e_i19_8 : i19 8 = (ii 8) := by rw [e_i19]; rfl
        have hO20 : ReaderOk i19 := by refine ⟨?_, ?_, ?_, ?_, ?_, ?_⟩ <;> omega
        have hf21 := hO20
        have hP : va_P G vwCl [(b, .inr (3, [.ref (q 0), .int (zI (i19 0)), .ref (q 3), .ref (q 4), .int (zI (i19 1)), .int (zI (i19 2)), .ref (q 1), .ref (q 2), .int (zI (i19 3)), .int (zI (i19 4)), .int (zI (i19 5)), .int (zI (i19 6)), .long (zL (i19 7)), .int (zI (i19 8))])), ((q 0), .inl (cB, 900, .inl (fun k => zI ((g 0) k)))), ((q 1), .inl (cJ, 19, .inr (.inl (fun k => zL ((g 1) k))))), ((q 2), .inl (cJ, 10, .inr (.inl (fun k => zL ((g 2) k)))))] H := by subst e_i19; exact hP
        have hD : va_D A [(b, .inr (3, [.ref (q 0), .int (zI (i19 0)), .ref (q 3), .ref (q 4), .int (zI (i19 1)), .int (zI (i19 2)), .ref (q 1), .ref (q 2), .int (zI (i19 3)), .int (zI (i19 4)), .int (zI (i19 5)), .int (zI (i19 6)), .long (zL (i19 7)), .int (zI (i19 8))])), ((q 0), .inl (cB, 900, .inl (fun k => zI ((g 0) k)))), ((q 1), .inl (cJ, 19, .inr (.inl (fun k => zL ((g 1) k))))), ((q 2), .inl (cJ, 10, .inr (.inl (fun k => zL ((g 2) k)))))] := by subst e_i19; exact hD
        refine W.widen (k := 0) (n := 0) (Nat.le_of_ble_eq_true rfl) (Nat.le_of_ble_eq_true rfl) ?_
        refine (?_ : ∀ (n9_2 : Nat) (v1 : Int) (ii : Nat → Int) (H : Heap) (locs : List Loc), (0 ≤ v1 ∧ v1 ≤ 19 ∧ ii 0 = i 0 ∧ ii 3 = i 3) → (19 - v1 : Int).toNat < n9_2 → (ReaderOk ii) → va_P G vwCl [(b, .inr (3, [.ref (q 0), .int (zI (ii 0)), .ref (q 3), .ref (q 4), .int (zI (ii 1)), .int (zI (ii 2)), .ref (q 1), .ref (q 2), .int (zI (ii 3)), .int (zI (ii 4)), .int (zI (ii 5)), .int (zI (ii 6)), .long (zL (ii 7)), .int (zI (ii 8))])), ((q 0), .inl (cB, 900, .inl (fun k => zI ((g 0) k)))), ((q 1), .inl (cJ, 19, .inr (.inl (fun k => zL ((g 1) k))))), ((q 2), .inl (cJ, 10, .inr (.inl (fun k => zL ((g 2) k)))))] H → va_D A [(b, .inr (3, [.ref (q 0), .int (zI (ii 0)), .ref (q 3), .ref (q 4), .int (zI (ii 1)), .int (zI (ii 2)), .ref (q 1), .ref (q 2), .int (zI (ii 3)), .int (zI (ii 4)), .int (zI (ii 5)), .int (zI (ii 6)), .long (zL (ii 7)), .int (zI (ii 8))])), ((q 0), .inl (cB, 900, .inl (fun k => zI ((g 0) k)))), ((q 1), .inl (cJ, 19, .inr (.inl (fun k => zL ((g 1) k))))), ((q 2), .inl (cJ, 10, .inr (.inl (fun k => zL ((g 2) k)))))] → va_S A s.heap H locs → ∀ ls : Array Slot, lv_has ls 2 [(1, .int (zI v1)), (0, .ref b)] → W p l e rm_X3_lookAtWord s m ([.ref b] : List Value).toArray below meth c H locs 0 0 Q (F0 m 110 ls [])) ((19 - 0 : Int).toNat + 1) 0 i19 _ _ (by omega) (by omega) hO20 hP hD hS ls hl
        clear hP hD hS hl ls
        intro n9_2
        induction n9_2 with
        | zero =>
          intro v1 ii H locs hI hM
          exact absurd hM (by omega)
        | succ n9_2 ih2 =>
          intro v1 ii H locs hI2 hM2 hG hP hD hS ls hl
          have hf22 := hG
          refine lv_iload_n hx hb dX3_lookAtWord_110 rfl (lv_at hl 0 rfl) ?_
          refine lv_bipush (v := zI 19) hx hb dX3_lookAtWord_111 (by decide) ?_
          refine rz_icmp_ge (tgt := 157) F (by omega) (by omega) dX3_lookAtWord_113 (by decide) (fun h113_22 => ?_) (fun h113_22 => ?_)
          · exact ret (ii, fun _ _ => 0) _ _ _ _ _ _ ⟨hG, by dsimp only; omega⟩ (bw_subP (isC := [0, 1, 2, 3]) hP rfl) (hD.sub [0, 1, 2, 3] (by decide) rfl) hS (Nat.le_of_ble_eq_true rfl) (Nat.le_of_ble_eq_true rfl) dX3_lookAtWord_157
          · refine lv_aload_n hx hb dX3_lookAtWord_116 rfl (lv_at hl 1 rfl) ?_
            refine r_get F hK hP 0 9 rfl rfl in_X3 (by decide) k_275 rfl dX3_lookAtWord_117 ?_
            refine lv_bipush (v := zI 19) hx hb dX3_lookAtWord_120 (by decide) ?_
            refine rz_icmp_ne (tgt := 157) F (by omega) (by omega) dX3_lookAtWord_122 (by decide) (fun h122_23 => ?_) (fun h122_23 => ?_)
            · exact ret (ii, fun _ _ => 0) _ _ _ _ _ _ ⟨hG, by dsimp only; omega⟩ (bw_subP (isC := [0, 1, 2, 3]) hP rfl) (hD.sub [0, 1, 2, 3] (by decide) rfl) hS (Nat.le_of_ble_eq_true rfl) (Nat.le_of_ble_eq_true rfl) dX3_lookAtWord_157
            · refine lv_aload_n hx hb dX3_lookAtWord_125 rfl (lv_at hl 1 rfl) ?_
              refine lv_aload_n hx hb dX3_lookAtWord_126 rfl (lv_at hl 1 rfl) ?_
              refine r_get F hK hP 0 6 rfl rfl in_X3 (by decide) k_272 rfl dX3_lookAtWord_127 ?_
              refine lv_iload_n hx hb dX3_lookAtWord_130 rfl (lv_at hl 0 rfl) ?_
              refine rz_lald F hK hP 2 2 rfl rfl (by omega) (by omega) dX3_lookAtWord_131 ?_
              refine lv_aload_n hx hb dX3_lookAtWord_132 rfl (lv_at hl 1 rfl) ?_
              refine r_get F hK hP 0 12 rfl rfl in_X3 (by decide) k_278 rfl dX3_lookAtWord_133 ?_
              refine rz_lcmp F dX3_lookAtWord_136 (fun z26 h_z26 => ?_)
              refine rz_if_ne (tgt := 144) F (by omega) dX3_lookAtWord_137 (by decide) (fun h137_26 => ?_) (fun h137_26 => ?_)
              · refine lv_aload_n hx hb dX3_lookAtWord_144 rfl (lv_at hl 1 rfl) ?_
                refine r_get F hK hP 0 9 rfl rfl in_X3 (by decide) k_275 rfl dX3_lookAtWord_145 ?_
                refine r_put F hK hP hD hS 0 9 rfl rfl in_X3 tyX3 tyX3_ok nmX3 (by decide) k_275 rfl rfl rfl (Nat.le_of_ble_eq_true rfl) dX3_lookAtWord_148 (w1 := [(b, .inr (3, [.ref (q 0), .int (zI (ii 0)), .ref (q 3), .ref (q 4), .int (zI (ii 1)), .int (zI (ii 2)), .ref (q 1), .ref (q 2), .int (zI (ii 3)), .int (zI (ii 4)), .int (zI (ii 5)), .int (zI (ii 6)), .long (zL (ii 7)), .int (zI (ii 8))])), ((q 0), .inl (cB, 900, .inl (fun k => zI ((g 0) k)))), ((q 1), .inl (cJ, 19, .inr (.inl (fun k => zL ((g 1) k))))), ((q 2), .inl (cJ, 10, .inr (.inl (fun k => zL ((g 2) k)))))]) rfl (fun H locs hP hD hS => ?_)
                refine lv_iinc (v := zI (v1 + 1)) (lv' := [(1, .int (zI (v1 + 1))), (0, .ref b)]) hx hb dX3_lookAtWord_151 hl (k := 0) rfl (zI_add _ _) (by decide) rfl (fun ls hl => ?_)
                refine lv_goto (tgt := 110) hx hb dX3_lookAtWord_154 (by decide) ?_
                exact ih2 (v1 + 1) ii _ _ (by omega) (by omega) hG hP hD hS ls (lv_sub hl [0, 1] rfl)
              · refine lv_iload_n hx hb dX3_lookAtWord_140 rfl (lv_at hl 0 rfl) ?_
                refine lv_goto (tgt := 148) hx hb dX3_lookAtWord_141 (by decide) ?_
                refine r_put F hK hP hD hS 0 9 rfl rfl in_X3 tyX3 tyX3_ok nmX3 (by decide) k_275 rfl rfl rfl (Nat.le_of_ble_eq_true rfl) dX3_lookAtWord_148 (w1 := [(b, .inr (3, [.ref (q 0), .int (zI (ii 0)), .ref (q 3), .ref (q 4), .int (zI (ii 1)), .int (zI (ii 2)), .ref (q 1), .ref (q 2), .int (zI (ii 3)), .int (zI v1), .int (zI (ii 5)), .int (zI (ii 6)), .long (zL (ii 7)), .int (zI (ii 8))])), ((q 0), .inl (cB, 900, .inl (fun k => zI ((g 0) k)))), ((q 1), .inl (cJ, 19, .inr (.inl (fun k => zL ((g 1) k))))), ((q 2), .inl (cJ, 10, .inr (.inl (fun k => zL ((g 2) k)))))]) rfl (fun H locs hP hD hS => ?_)
                refine lv_iinc (v := zI (v1 + 1)) (lv' := [(1, .int (zI (v1 + 1))), (0, .ref b)]) hx hb dX3_lookAtWord_151 hl (k := 0) rfl (zI_add _ _) (by decide) rfl (fun ls hl => ?_)
                refine lv_goto (tgt := 110) hx hb dX3_lookAtWord_154 (by decide) ?_
                obtain ⟨i28, e_i28⟩ : ∃ i28 : Nat → Int, i28 = fun k => [(ii 0), (ii 1), (ii 2), (ii 3), v1, (ii 5), (ii 6), (ii 7), (ii 8)].getD k 0 := ⟨_, rfl⟩
                have e_i28_0 : i28 0 = (ii 0) := by rw [e_i28]; rfl
                have e_i28_1 : i28 1 = (ii 1) := by rw [e_i28]; rfl
                have e_i28_2 : i28 2 = (ii 2) := by rw [e_i28]; rfl
                have e_i28_3 : i28 3 = (ii 3) := by rw [e_i28]; rfl
                have e_i28_4 : i28 4 = v1 := by rw [e_i28]; rfl
                have e_i28_5 : i28 5 = (ii 5) := by rw [e_i28]; rfl
                have e_i28_6 : i28 6 = (ii 6) := by rw [e_i28]; rfl
                have e_i28_7 : i28 7 = (ii 7) := by rw [e_i28]; rfl
                have e_i28_8 : i28 8 = (ii 8) := by rw [e_i28]; rfl
                have hO29 : ReaderOk i28 := by refine ⟨?_, ?_, ?_, ?_, ?_, ?_⟩ <;> omega
                have hf30 := hO29
                have hP : va_P G vwCl [(b, .inr (3, [.ref (q 0), .int (zI (i28 0)), .ref (q 3), .ref (q 4), .int (zI (i28 1)), .int (zI (i28 2)), .ref (q 1), .ref (q 2), .int (zI (i28 3)), .int (zI (i28 4)), .int (zI (i28 5)), .int (zI (i28 6)), .long (zL (i28 7)), .int (zI (i28 8))])), ((q 0), .inl (cB, 900, .inl (fun k => zI ((g 0) k)))), ((q 1), .inl (cJ, 19, .inr (.inl (fun k => zL ((g 1) k))))), ((q 2), .inl (cJ, 10, .inr (.inl (fun k => zL ((g 2) k)))))] H := by subst e_i28; exact hP
                have hD : va_D A [(b, .inr (3, [.ref (q 0), .int (zI (i28 0)), .ref (q 3), .ref (q 4), .int (zI (i28 1)), .int (zI (i28 2)), .ref (q 1), .ref (q 2), .int (zI (i28 3)), .int (zI (i28 4)), .int (zI (i28 5)), .int (zI (i28 6)), .long (zL (i28 7)), .int (zI (i28 8))])), ((q 0), .inl (cB, 900, .inl (fun k => zI ((g 0) k)))), ((q 1), .inl (cJ, 19, .inr (.inl (fun k => zL ((g 1) k))))), ((q 2), .inl (cJ, 10, .inr (.inl (fun k => zL ((g 2) k)))))] := by subst e_i28; exact hD
                exact ih2 (v1 + 1) i28 _ _ (by omega) (by omega) hO29 hP hD hS ls (lv_sub hl [0, 1] rfl)
    · refine lv_aload_n hx hb dX3_lookAtWord_16 rfl (lv_at hl 0 rfl) ?_
      refine r_get F hK hP 0 0 rfl rfl in_X3 (by decide) k_261 rfl dX3_lookAtWord_17 ?_
      refine lv_aload_n hx hb dX3_lookAtWord_20 rfl (lv_at hl 0 rfl) ?_
      refine r_get F hK hP 0 11 rfl rfl in_X3 (by decide) k_277 rfl dX3_lookAtWord_21 ?_
      refine rz_bald F hK hP 1 1 rfl rfl (by omega) (by omega) dX3_lookAtWord_24 (fun z31 h_z31 => ?_)
      refine lv_bipush (v := zI 97) hx hb dX3_lookAtWord_25 (by decide) ?_
      refine rz_icmp_lt (tgt := 83) F (by omega) (by omega) dX3_lookAtWord_27 (by decide) (fun h27_31 => ?_) (fun h27_31 => ?_)
      · refine lv_aload_n hx hb dX3_lookAtWord_83 rfl (lv_at hl 0 rfl) ?_
        refine lv_aload_n hx hb dX3_lookAtWord_84 rfl (lv_at hl 0 rfl) ?_
        refine r_get F hK hP 0 11 rfl rfl in_X3 (by decide) k_277 rfl dX3_lookAtWord_85 ?_
        refine lv_aload_n hx hb dX3_lookAtWord_88 rfl (lv_at hl 0 rfl) ?_
        refine r_get F hK hP 0 10 rfl rfl in_X3 (by decide) k_276 rfl dX3_lookAtWord_89 ?_
        refine r_isub (v := zI ((ii 6) - (ii 5))) F dX3_lookAtWord_92 (zI_sub _ _) ?_
        refine lv_bipush (v := zI 8) hx hb dX3_lookAtWord_93 (by decide) ?_
        refine rz_icmp_gt (tgt := 103) F (by omega) (by omega) dX3_lookAtWord_95 (by decide) (fun h95_32 => ?_) (fun h95_32 => ?_)
        · refine lv_bipush (v := zI 23) hx hb dX3_lookAtWord_103 (by decide) ?_
          refine r_put F hK hP hD hS 0 9 rfl rfl in_X3 tyX3 tyX3_ok nmX3 (by decide) k_275 rfl rfl rfl (Nat.le_of_ble_eq_true rfl) dX3_lookAtWord_105 (w1 := [(b, .inr (3, [.ref (q 0), .int (zI (ii 0)), .ref (q 3), .ref (q 4), .int (zI (ii 1)), .int (zI (ii 2)), .ref (q 1), .ref (q 2), .int (zI (ii 3)), .int (zI 23), .int (zI (ii 5)), .int (zI (ii 6)), .long (zL (ii 7)), .int (zI (ii 8))])), ((q 0), .inl (cB, 900, .inl (fun k => zI ((g 0) k)))), ((q 1), .inl (cJ, 19, .inr (.inl (fun k => zL ((g 1) k))))), ((q 2), .inl (cJ, 10, .inr (.inl (fun k => zL ((g 2) k)))))]) rfl (fun H locs hP hD hS => ?_)
          refine lv_iconst (v := zI 0) hx hb dX3_lookAtWord_108 rfl ?_
          refine lv_istore_n (lv' := [(1, .int (zI 0)), (0, .ref b)]) hx hb dX3_lookAtWord_109 rfl hl (by decide) rfl (fun ls hl => ?_)
          obtain ⟨i34, e_i34⟩ : ∃ i34 : Nat → Int, i34 = fun k => [(ii 0), (ii 1), (ii 2), (ii 3), 23, (ii 5), (ii 6), (ii 7), (ii 8)].getD k 0 := ⟨_, rfl⟩
          have e_i34_0 : i34 0 = (ii 0) := by rw [e_i34]; rfl
          have e_i34_1 : i34 1 = (ii 1) := by rw [e_i34]; rfl
          have e_i34_2 : i34 2 = (ii 2) := by rw [e_i34]; rfl
          have e_i34_3 : i34 3 = (ii 3) := by rw [e_i34]; rfl
          have e_i34_4 : i34 4 = 23 := by rw [e_i34]; rfl
          have e_i34_5 : i34 5 = (ii 5) := by rw [e_i34]; rfl
          have e_i34_6 : i34 6 = (ii 6) := by rw [e_i34]; rfl
          have e_i34_7 : i34 7 = (ii 7) := by rw [e_i34]; rfl
          have e_i34_8 : i34 8 = (ii 8) := by rw [e_i34]; rfl
          have hO35 : ReaderOk i34 := by refine ⟨?_, ?_, ?_, ?_, ?_, ?_⟩ <;> omega
          have hf36 := hO35
          have hP : va_P G vwCl [(b, .inr (3, [.ref (q 0), .int (zI (i34 0)), .ref (q 3), .ref (q 4), .int (zI (i34 1)), .int (zI (i34 2)), .ref (q 1), .ref (q 2), .int (zI (i34 3)), .int (zI (i34 4)), .int (zI (i34 5)), .int (zI (i34 6)), .long (zL (i34 7)), .int (zI (i34 8))])), ((q 0), .inl (cB, 900, .inl (fun k => zI ((g 0) k)))), ((q 1), .inl (cJ, 19, .inr (.inl (fun k => zL ((g 1) k))))), ((q 2), .inl (cJ, 10, .inr (.inl (fun k => zL ((g 2) k)))))] H := by subst e_i34; exact hP
          have hD : va_D A [(b, .inr (3, [.ref (q 0), .int (zI (i34 0)), .ref (q 3), .ref (q 4), .int (zI (i34 1)), .int (zI (i34 2)), .ref (q 1), .ref (q 2), .int (zI (i34 3)), .int (zI (i34 4)), .int (zI (i34 5)), .int (zI (i34 6)), .long (zL (i34 7)), .int (zI (i34 8))])), ((q 0), .inl (cB, 900, .inl (fun k => zI ((g 0) k)))), ((q 1), .inl (cJ, 19, .inr (.inl (fun k => zL ((g 1) k))))), ((q 2), .inl (cJ, 10, .inr (.inl (fun k => zL ((g 2) k)))))] := by subst e_i34; exact hD
          refine W.widen (k := 0) (n := 0) (Nat.le_of_ble_eq_true rfl) (Nat.le_of_ble_eq_true rfl) ?_
          refine (?_ : ∀ (n9_2 : Nat) (v1 : Int) (ii : Nat → Int) (H : Heap) (locs : List Loc), (0 ≤ v1 ∧ v1 ≤ 19 ∧ ii 0 = i 0 ∧ ii 3 = i 3) → (19 - v1 : Int).toNat < n9_2 → (ReaderOk ii) → va_P G vwCl [(b, .inr (3, [.ref (q 0), .int (zI (ii 0)), .ref (q 3), .ref (q 4), .int (zI (ii 1)), .int (zI (ii 2)), .ref (q 1), .ref (q 2), .int (zI (ii 3)), .int (zI (ii 4)), .int (zI (ii 5)), .int (zI (ii 6)), .long (zL (ii 7)), .int (zI (ii 8))])), ((q 0), .inl (cB, 900, .inl (fun k => zI ((g 0) k)))), ((q 1), .inl (cJ, 19, .inr (.inl (fun k => zL ((g 1) k))))), ((q 2), .inl (cJ, 10, .inr (.inl (fun k => zL ((g 2) k)))))] H → va_D A [(b, .inr (3, [.ref (q 0), .int (zI (ii 0)), .ref (q 3), .ref (q 4), .int (zI (ii 1)), .int (zI (ii 2)), .ref (q 1), .ref (q 2), .int (zI (ii 3)), .int (zI (ii 4)), .int (zI (ii 5)), .int (zI (ii 6)), .long (zL (ii 7)), .int (zI (ii 8))])), ((q 0), .inl (cB, 900, .inl (fun k => zI ((g 0) k)))), ((q 1), .inl (cJ, 19, .inr (.inl (fun k => zL ((g 1) k))))), ((q 2), .inl (cJ, 10, .inr (.inl (fun k => zL ((g 2) k)))))] → va_S A s.heap H locs → ∀ ls : Array Slot, lv_has ls 2 [(1, .int (zI v1)), (0, .ref b)] → W p l e rm_X3_lookAtWord s m ([.ref b] : List Value).toArray below meth c H locs 0 0 Q (F0 m 110 ls [])) ((19 - 0 : Int).toNat + 1) 0 i34 _ _ (by omega) (by omega) hO35 hP hD hS ls hl
          clear hP hD hS hl ls
          intro n9_2
          induction n9_2 with
          | zero =>
            intro v1 ii H locs hI hM
            exact absurd hM (by omega)
          | succ n9_2 ih2 =>
            intro v1 ii H locs hI2 hM2 hG hP hD hS ls hl
            have hf37 := hG
            refine lv_iload_n hx hb dX3_lookAtWord_110 rfl (lv_at hl 0 rfl) ?_
            refine lv_bipush (v := zI 19) hx hb dX3_lookAtWord_111 (by decide) ?_
            refine rz_icmp_ge (tgt := 157) F (by omega) (by omega) dX3_lookAtWord_113 (by decide) (fun h113_37 => ?_) (fun h113_37 => ?_)
            · exact ret (ii, fun _ _ => 0) _ _ _ _ _ _ ⟨hG, by dsimp only; omega⟩ (bw_subP (isC := [0, 1, 2, 3]) hP rfl) (hD.sub [0, 1, 2, 3] (by decide) rfl) hS (Nat.le_of_ble_eq_true rfl) (Nat.le_of_ble_eq_true rfl) dX3_lookAtWord_157
            · refine lv_aload_n hx hb dX3_lookAtWord_116 rfl (lv_at hl 1 rfl) ?_
              refine r_get F hK hP 0 9 rfl rfl in_X3 (by decide) k_275 rfl dX3_lookAtWord_117 ?_
              refine lv_bipush (v := zI 19) hx hb dX3_lookAtWord_120 (by decide) ?_
              refine rz_icmp_ne (tgt := 157) F (by omega) (by omega) dX3_lookAtWord_122 (by decide) (fun h122_38 => ?_) (fun h122_38 => ?_)
              · exact ret (ii, fun _ _ => 0) _ _ _ _ _ _ ⟨hG, by dsimp only; omega⟩ (bw_subP (isC := [0, 1, 2, 3]) hP rfl) (hD.sub [0, 1, 2, 3] (by decide) rfl) hS (Nat.le_of_ble_eq_true rfl) (Nat.le_of_ble_eq_true rfl) dX3_lookAtWord_157
              · refine lv_aload_n hx hb dX3_lookAtWord_125 rfl (lv_at hl 1 rfl) ?_
                refine lv_aload_n hx hb dX3_lookAtWord_126 rfl (lv_at hl 1 rfl) ?_
                refine r_get F hK hP 0 6 rfl rfl in_X3 (by decide) k_272 rfl dX3_lookAtWord_127 ?_
                refine lv_iload_n hx hb dX3_lookAtWord_130 rfl (lv_at hl 0 rfl) ?_
                refine rz_lald F hK hP 2 2 rfl rfl (by omega) (by omega) dX3_lookAtWord_131 ?_
                refine lv_aload_n hx hb dX3_lookAtWord_132 rfl (lv_at hl 1 rfl) ?_
                refine r_get F hK hP 0 12 rfl rfl in_X3 (by decide) k_278 rfl dX3_lookAtWord_133 ?_
                refine rz_lcmp F dX3_lookAtWord_136 (fun z41 h_z41 => ?_)
                refine rz_if_ne (tgt := 144) F (by omega) dX3_lookAtWord_137 (by decide) (fun h137_41 => ?_) (fun h137_41 => ?_)
                · refine lv_aload_n hx hb dX3_lookAtWord_144 rfl (lv_at hl 1 rfl) ?_
                  refine r_get F hK hP 0 9 rfl rfl in_X3 (by decide) k_275 rfl dX3_lookAtWord_145 ?_
                  refine r_put F hK hP hD hS 0 9 rfl rfl in_X3 tyX3 tyX3_ok nmX3 (by decide) k_275 rfl rfl rfl (Nat.le_of_ble_eq_true rfl) dX3_lookAtWord_148 (w1 := [(b, .inr (3, [.ref (q 0), .int (zI (ii 0)), .ref (q 3), .ref (q 4), .int (zI (ii 1)), .int (zI (ii 2)), .ref (q 1), .ref (q 2), .int (zI (ii 3)), .int (zI (ii 4)), .int (zI (ii 5)), .int (zI (ii 6)), .long (zL (ii 7)), .int (zI (ii 8))])), ((q 0), .inl (cB, 900, .inl (fun k => zI ((g 0) k)))), ((q 1), .inl (cJ, 19, .inr (.inl (fun k => zL ((g 1) k))))), ((q 2), .inl (cJ, 10, .inr (.inl (fun k => zL ((g 2) k)))))]) rfl (fun H locs hP hD hS => ?_)
                  refine lv_iinc (v := zI (v1 + 1)) (lv' := [(1, .int (zI (v1 + 1))), (0, .ref b)]) hx hb dX3_lookAtWord_151 hl (k := 0) rfl (zI_add _ _) (by decide) rfl (fun ls hl => ?_)
                  refine lv_goto (tgt := 110) hx hb dX3_lookAtWord_154 (by decide) ?_
                  exact ih2 (v1 + 1) ii _ _ (by omega) (by omega) hG hP hD hS ls (lv_sub hl [0, 1] rfl)
                · refine lv_iload_n hx hb dX3_lookAtWord_140 rfl (lv_at hl 0 rfl) ?_
                  refine lv_goto (tgt := 148) hx hb dX3_lookAtWord_141 (by decide) ?_
                  refine r_put F hK hP hD hS 0 9 rfl rfl in_X3 tyX3 tyX3_ok nmX3 (by decide) k_275 rfl rfl rfl (Nat.le_of_ble_eq_true rfl) dX3_lookAtWord_148 (w1 := [(b, .inr (3, [.ref (q 0), .int (zI (ii 0)), .ref (q 3), .ref (q 4), .int (zI (ii 1)), .int (zI (ii 2)), .ref (q 1), .ref (q 2), .int (zI (ii 3)), .int (zI v1), .int (zI (ii 5)), .int (zI (ii 6)), .long (zL (ii 7)), .int (zI (ii 8))])), ((q 0), .inl (cB, 900, .inl (fun k => zI ((g 0) k)))), ((q 1), .inl (cJ, 19, .inr (.inl (fun k => zL ((g 1) k))))), ((q 2), .inl (cJ, 10, .inr (.inl (fun k => zL ((g 2) k)))))]) rfl (fun H locs hP hD hS => ?_)
                  refine lv_iinc (v := zI (v1 + 1)) (lv' := [(1, .int (zI (v1 + 1))), (0, .ref b)]) hx hb dX3_lookAtWord_151 hl (k := 0) rfl (zI_add _ _) (by decide) rfl (fun ls hl => ?_)
                  refine lv_goto (tgt := 110) hx hb dX3_lookAtWord_154 (by decide) ?_
                  obtain ⟨i43, e_i43⟩ : ∃ i43 : Nat → Int, i43 = fun k => [(ii 0), (ii 1), (ii 2), (ii 3), v1, (ii 5), (ii 6), (ii 7), (ii 8)].getD k 0 := ⟨_, rfl⟩
                  have e_i43_0 : i43 0 = (ii 0) := by rw [e_i43]; rfl
                  have e_i43_1 : i43 1 = (ii 1) := by rw [e_i43]; rfl
                  have e_i43_2 : i43 2 = (ii 2) := by rw [e_i43]; rfl
                  have e_i43_3 : i43 3 = (ii 3) := by rw [e_i43]; rfl
                  have e_i43_4 : i43 4 = v1 := by rw [e_i43]; rfl
                  have e_i43_5 : i43 5 = (ii 5) := by rw [e_i43]; rfl
                  have e_i43_6 : i43 6 = (ii 6) := by rw [e_i43]; rfl
                  have e_i43_7 : i43 7 = (ii 7) := by rw [e_i43]; rfl
                  have e_i43_8 : i43 8 = (ii 8) := by rw [e_i43]; rfl
                  have hO44 : ReaderOk i43 := by refine ⟨?_, ?_, ?_, ?_, ?_, ?_⟩ <;> omega
                  have hf45 := hO44
                  have hP : va_P G vwCl [(b, .inr (3, [.ref (q 0), .int (zI (i43 0)), .ref (q 3), .ref (q 4), .int (zI (i43 1)), .int (zI (i43 2)), .ref (q 1), .ref (q 2), .int (zI (i43 3)), .int (zI (i43 4)), .int (zI (i43 5)), .int (zI (i43 6)), .long (zL (i43 7)), .int (zI (i43 8))])), ((q 0), .inl (cB, 900, .inl (fun k => zI ((g 0) k)))), ((q 1), .inl (cJ, 19, .inr (.inl (fun k => zL ((g 1) k))))), ((q 2), .inl (cJ, 10, .inr (.inl (fun k => zL ((g 2) k)))))] H := by subst e_i43; exact hP
                  have hD : va_D A [(b, .inr (3, [.ref (q 0), .int (zI (i43 0)), .ref (q 3), .ref (q 4), .int (zI (i43 1)), .int (zI (i43 2)), .ref (q 1), .ref (q 2), .int (zI (i43 3)), .int (zI (i43 4)), .int (zI (i43 5)), .int (zI (i43 6)), .long (zL (i43 7)), .int (zI (i43 8))])), ((q 0), .inl (cB, 900, .inl (fun k => zI ((g 0) k)))), ((q 1), .inl (cJ, 19, .inr (.inl (fun k => zL ((g 1) k))))), ((q 2), .inl (cJ, 10, .inr (.inl (fun k => zL ((g 2) k)))))] := by subst e_i43; exact hD
                  exact ih2 (v1 + 1) i43 _ _ (by omega) (by omega) hO44 hP hD hS ls (lv_sub hl [0, 1] rfl)
        · refine lv_bipush (v := zI 19) hx hb dX3_lookAtWord_98 (by decide) ?_
          refine lv_goto (tgt := 105) hx hb dX3_lookAtWord_100 (by decide) ?_
          refine r_put F hK hP hD hS 0 9 rfl rfl in_X3 tyX3 tyX3_ok nmX3 (by decide) k_275 rfl rfl rfl (Nat.le_of_ble_eq_true rfl) dX3_lookAtWord_105 (w1 := [(b, .inr (3, [.ref (q 0), .int (zI (ii 0)), .ref (q 3), .ref (q 4), .int (zI (ii 1)), .int (zI (ii 2)), .ref (q 1), .ref (q 2), .int (zI (ii 3)), .int (zI 19), .int (zI (ii 5)), .int (zI (ii 6)), .long (zL (ii 7)), .int (zI (ii 8))])), ((q 0), .inl (cB, 900, .inl (fun k => zI ((g 0) k)))), ((q 1), .inl (cJ, 19, .inr (.inl (fun k => zL ((g 1) k))))), ((q 2), .inl (cJ, 10, .inr (.inl (fun k => zL ((g 2) k)))))]) rfl (fun H locs hP hD hS => ?_)
          refine lv_iconst (v := zI 0) hx hb dX3_lookAtWord_108 rfl ?_
          refine lv_istore_n (lv' := [(1, .int (zI 0)), (0, .ref b)]) hx hb dX3_lookAtWord_109 rfl hl (by decide) rfl (fun ls hl => ?_)
          obtain ⟨i46, e_i46⟩ : ∃ i46 : Nat → Int, i46 = fun k => [(ii 0), (ii 1), (ii 2), (ii 3), 19, (ii 5), (ii 6), (ii 7), (ii 8)].getD k 0 := ⟨_, rfl⟩
          have e_i46_0 : i46 0 = (ii 0) := by rw [e_i46]; rfl
          have e_i46_1 : i46 1 = (ii 1) := by rw [e_i46]; rfl
          have e_i46_2 : i46 2 = (ii 2) := by rw [e_i46]; rfl
          have e_i46_3 : i46 3 = (ii 3) := by rw [e_i46]; rfl
          have e_i46_4 : i46 4 = 19 := by rw [e_i46]; rfl
          have e_i46_5 : i46 5 = (ii 5) := by rw [e_i46]; rfl
          have e_i46_6 : i46 6 = (ii 6) := by rw [e_i46]; rfl
          have e_i46_7 : i46 7 = (ii 7) := by rw [e_i46]; rfl
          have e_i46_8 : i46 8 = (ii 8) := by rw [e_i46]; rfl
          have hO47 : ReaderOk i46 := by refine ⟨?_, ?_, ?_, ?_, ?_, ?_⟩ <;> omega
          have hf48 := hO47
          have hP : va_P G vwCl [(b, .inr (3, [.ref (q 0), .int (zI (i46 0)), .ref (q 3), .ref (q 4), .int (zI (i46 1)), .int (zI (i46 2)), .ref (q 1), .ref (q 2), .int (zI (i46 3)), .int (zI (i46 4)), .int (zI (i46 5)), .int (zI (i46 6)), .long (zL (i46 7)), .int (zI (i46 8))])), ((q 0), .inl (cB, 900, .inl (fun k => zI ((g 0) k)))), ((q 1), .inl (cJ, 19, .inr (.inl (fun k => zL ((g 1) k))))), ((q 2), .inl (cJ, 10, .inr (.inl (fun k => zL ((g 2) k)))))] H := by subst e_i46; exact hP
          have hD : va_D A [(b, .inr (3, [.ref (q 0), .int (zI (i46 0)), .ref (q 3), .ref (q 4), .int (zI (i46 1)), .int (zI (i46 2)), .ref (q 1), .ref (q 2), .int (zI (i46 3)), .int (zI (i46 4)), .int (zI (i46 5)), .int (zI (i46 6)), .long (zL (i46 7)), .int (zI (i46 8))])), ((q 0), .inl (cB, 900, .inl (fun k => zI ((g 0) k)))), ((q 1), .inl (cJ, 19, .inr (.inl (fun k => zL ((g 1) k))))), ((q 2), .inl (cJ, 10, .inr (.inl (fun k => zL ((g 2) k)))))] := by subst e_i46; exact hD
          refine W.widen (k := 0) (n := 0) (Nat.le_of_ble_eq_true rfl) (Nat.le_of_ble_eq_true rfl) ?_
          refine (?_ : ∀ (n9_2 : Nat) (v1 : Int) (ii : Nat → Int) (H : Heap) (locs : List Loc), (0 ≤ v1 ∧ v1 ≤ 19 ∧ ii 0 = i 0 ∧ ii 3 = i 3) → (19 - v1 : Int).toNat < n9_2 → (ReaderOk ii) → va_P G vwCl [(b, .inr (3, [.ref (q 0), .int (zI (ii 0)), .ref (q 3), .ref (q 4), .int (zI (ii 1)), .int (zI (ii 2)), .ref (q 1), .ref (q 2), .int (zI (ii 3)), .int (zI (ii 4)), .int (zI (ii 5)), .int (zI (ii 6)), .long (zL (ii 7)), .int (zI (ii 8))])), ((q 0), .inl (cB, 900, .inl (fun k => zI ((g 0) k)))), ((q 1), .inl (cJ, 19, .inr (.inl (fun k => zL ((g 1) k))))), ((q 2), .inl (cJ, 10, .inr (.inl (fun k => zL ((g 2) k)))))] H → va_D A [(b, .inr (3, [.ref (q 0), .int (zI (ii 0)), .ref (q 3), .ref (q 4), .int (zI (ii 1)), .int (zI (ii 2)), .ref (q 1), .ref (q 2), .int (zI (ii 3)), .int (zI (ii 4)), .int (zI (ii 5)), .int (zI (ii 6)), .long (zL (ii 7)), .int (zI (ii 8))])), ((q 0), .inl (cB, 900, .inl (fun k => zI ((g 0) k)))), ((q 1), .inl (cJ, 19, .inr (.inl (fun k => zL ((g 1) k))))), ((q 2), .inl (cJ, 10, .inr (.inl (fun k => zL ((g 2) k)))))] → va_S A s.heap H locs → ∀ ls : Array Slot, lv_has ls 2 [(1, .int (zI v1)), (0, .ref b)] → W p l e rm_X3_lookAtWord s m ([.ref b] : List Value).toArray below meth c H locs 0 0 Q (F0 m 110 ls [])) ((19 - 0 : Int).toNat + 1) 0 i46 _ _ (by omega) (by omega) hO47 hP hD hS ls hl
          clear hP hD hS hl ls
          intro n9_2
          induction n9_2 with
          | zero =>
            intro v1 ii H locs hI hM
            exact absurd hM (by omega)
          | succ n9_2 ih2 =>
            intro v1 ii H locs hI2 hM2 hG hP hD hS ls hl
            have hf49 := hG
            refine lv_iload_n hx hb dX3_lookAtWord_110 rfl (lv_at hl 0 rfl) ?_
            refine lv_bipush (v := zI 19) hx hb dX3_lookAtWord_111 (by decide) ?_
            refine rz_icmp_ge (tgt := 157) F (by omega) (by omega) dX3_lookAtWord_113 (by decide) (fun h113_49 => ?_) (fun h113_49 => ?_)
            · exact ret (ii, fun _ _ => 0) _ _ _ _ _ _ ⟨hG, by dsimp only; omega⟩ (bw_subP (isC := [0, 1, 2, 3]) hP rfl) (hD.sub [0, 1, 2, 3] (by decide) rfl) hS (Nat.le_of_ble_eq_true rfl) (Nat.le_of_ble_eq_true rfl) dX3_lookAtWord_157
            · refine lv_aload_n hx hb dX3_lookAtWord_116 rfl (lv_at hl 1 rfl) ?_
              refine r_get F hK hP 0 9 rfl rfl in_X3 (by decide) k_275 rfl dX3_lookAtWord_117 ?_
              refine lv_bipush (v := zI 19) hx hb dX3_lookAtWord_120 (by decide) ?_
              refine rz_icmp_ne (tgt := 157) F (by omega) (by omega) dX3_lookAtWord_122 (by decide) (fun h122_50 => ?_) (fun h122_50 => ?_)
              · exact ret (ii, fun _ _ => 0) _ _ _ _ _ _ ⟨hG, by dsimp only; omega⟩ (bw_subP (isC := [0, 1, 2, 3]) hP rfl) (hD.sub [0, 1, 2, 3] (by decide) rfl) hS (Nat.le_of_ble_eq_true rfl) (Nat.le_of_ble_eq_true rfl) dX3_lookAtWord_157
              · refine lv_aload_n hx hb dX3_lookAtWord_125 rfl (lv_at hl 1 rfl) ?_
                refine lv_aload_n hx hb dX3_lookAtWord_126 rfl (lv_at hl 1 rfl) ?_
                refine r_get F hK hP 0 6 rfl rfl in_X3 (by decide) k_272 rfl dX3_lookAtWord_127 ?_
                refine lv_iload_n hx hb dX3_lookAtWord_130 rfl (lv_at hl 0 rfl) ?_
                refine rz_lald F hK hP 2 2 rfl rfl (by omega) (by omega) dX3_lookAtWord_131 ?_
                refine lv_aload_n hx hb dX3_lookAtWord_132 rfl (lv_at hl 1 rfl) ?_
                refine r_get F hK hP 0 12 rfl rfl in_X3 (by decide) k_278 rfl dX3_lookAtWord_133 ?_
                refine rz_lcmp F dX3_lookAtWord_136 (fun z53 h_z53 => ?_)
                refine rz_if_ne (tgt := 144) F (by omega) dX3_lookAtWord_137 (by decide) (fun h137_53 => ?_) (fun h137_53 => ?_)
                · refine lv_aload_n hx hb dX3_lookAtWord_144 rfl (lv_at hl 1 rfl) ?_
                  refine r_get F hK hP 0 9 rfl rfl in_X3 (by decide) k_275 rfl dX3_lookAtWord_145 ?_
                  refine r_put F hK hP hD hS 0 9 rfl rfl in_X3 tyX3 tyX3_ok nmX3 (by decide) k_275 rfl rfl rfl (Nat.le_of_ble_eq_true rfl) dX3_lookAtWord_148 (w1 := [(b, .inr (3, [.ref (q 0), .int (zI (ii 0)), .ref (q 3), .ref (q 4), .int (zI (ii 1)), .int (zI (ii 2)), .ref (q 1), .ref (q 2), .int (zI (ii 3)), .int (zI (ii 4)), .int (zI (ii 5)), .int (zI (ii 6)), .long (zL (ii 7)), .int (zI (ii 8))])), ((q 0), .inl (cB, 900, .inl (fun k => zI ((g 0) k)))), ((q 1), .inl (cJ, 19, .inr (.inl (fun k => zL ((g 1) k))))), ((q 2), .inl (cJ, 10, .inr (.inl (fun k => zL ((g 2) k)))))]) rfl (fun H locs hP hD hS => ?_)
                  refine lv_iinc (v := zI (v1 + 1)) (lv' := [(1, .int (zI (v1 + 1))), (0, .ref b)]) hx hb dX3_lookAtWord_151 hl (k := 0) rfl (zI_add _ _) (by decide) rfl (fun ls hl => ?_)
                  refine lv_goto (tgt := 110) hx hb dX3_lookAtWord_154 (by decide) ?_
                  exact ih2 (v1 + 1) ii _ _ (by omega) (by omega) hG hP hD hS ls (lv_sub hl [0, 1] rfl)
                · refine lv_iload_n hx hb dX3_lookAtWord_140 rfl (lv_at hl 0 rfl) ?_
                  refine lv_goto (tgt := 148) hx hb dX3_lookAtWord_141 (by decide) ?_
                  refine r_put F hK hP hD hS 0 9 rfl rfl in_X3 tyX3 tyX3_ok nmX3 (by decide) k_275 rfl rfl rfl (Nat.le_of_ble_eq_true rfl) dX3_lookAtWord_148 (w1 := [(b, .inr (3, [.ref (q 0), .int (zI (ii 0)), .ref (q 3), .ref (q 4), .int (zI (ii 1)), .int (zI (ii 2)), .ref (q 1), .ref (q 2), .int (zI (ii 3)), .int (zI v1), .int (zI (ii 5)), .int (zI (ii 6)), .long (zL (ii 7)), .int (zI (ii 8))])), ((q 0), .inl (cB, 900, .inl (fun k => zI ((g 0) k)))), ((q 1), .inl (cJ, 19, .inr (.inl (fun k => zL ((g 1) k))))), ((q 2), .inl (cJ, 10, .inr (.inl (fun k => zL ((g 2) k)))))]) rfl (fun H locs hP hD hS => ?_)
                  refine lv_iinc (v := zI (v1 + 1)) (lv' := [(1, .int (zI (v1 + 1))), (0, .ref b)]) hx hb dX3_lookAtWord_151 hl (k := 0) rfl (zI_add _ _) (by decide) rfl (fun ls hl => ?_)
                  refine lv_goto (tgt := 110) hx hb dX3_lookAtWord_154 (by decide) ?_
                  obtain ⟨i55, e_i55⟩ : ∃ i55 : Nat → Int, i55 = fun k => [(ii 0), (ii 1), (ii 2), (ii 3), v1, (ii 5), (ii 6), (ii 7), (ii 8)].getD k 0 := ⟨_, rfl⟩
                  have e_i55_0 : i55 0 = (ii 0) := by rw [e_i55]; rfl
                  have e_i55_1 : i55 1 = (ii 1) := by rw [e_i55]; rfl
                  have e_i55_2 : i55 2 = (ii 2) := by rw [e_i55]; rfl
                  have e_i55_3 : i55 3 = (ii 3) := by rw [e_i55]; rfl
                  have e_i55_4 : i55 4 = v1 := by rw [e_i55]; rfl
                  have e_i55_5 : i55 5 = (ii 5) := by rw [e_i55]; rfl
                  have e_i55_6 : i55 6 = (ii 6) := by rw [e_i55]; rfl
                  have e_i55_7 : i55 7 = (ii 7) := by rw [e_i55]; rfl
                  have e_i55_8 : i55 8 = (ii 8) := by rw [e_i55]; rfl
                  have hO56 : ReaderOk i55 := by refine ⟨?_, ?_, ?_, ?_, ?_, ?_⟩ <;> omega
                  have hf57 := hO56
                  have hP : va_P G vwCl [(b, .inr (3, [.ref (q 0), .int (zI (i55 0)), .ref (q 3), .ref (q 4), .int (zI (i55 1)), .int (zI (i55 2)), .ref (q 1), .ref (q 2), .int (zI (i55 3)), .int (zI (i55 4)), .int (zI (i55 5)), .int (zI (i55 6)), .long (zL (i55 7)), .int (zI (i55 8))])), ((q 0), .inl (cB, 900, .inl (fun k => zI ((g 0) k)))), ((q 1), .inl (cJ, 19, .inr (.inl (fun k => zL ((g 1) k))))), ((q 2), .inl (cJ, 10, .inr (.inl (fun k => zL ((g 2) k)))))] H := by subst e_i55; exact hP
                  have hD : va_D A [(b, .inr (3, [.ref (q 0), .int (zI (i55 0)), .ref (q 3), .ref (q 4), .int (zI (i55 1)), .int (zI (i55 2)), .ref (q 1), .ref (q 2), .int (zI (i55 3)), .int (zI (i55 4)), .int (zI (i55 5)), .int (zI (i55 6)), .long (zL (i55 7)), .int (zI (i55 8))])), ((q 0), .inl (cB, 900, .inl (fun k => zI ((g 0) k)))), ((q 1), .inl (cJ, 19, .inr (.inl (fun k => zL ((g 1) k))))), ((q 2), .inl (cJ, 10, .inr (.inl (fun k => zL ((g 2) k)))))] := by subst e_i55; exact hD
                  exact ih2 (v1 + 1) i55 _ _ (by omega) (by omega) hO56 hP hD hS ls (lv_sub hl [0, 1] rfl)
      · refine lv_aload_n hx hb dX3_lookAtWord_30 rfl (lv_at hl 0 rfl) ?_
        refine r_get F hK hP 0 0 rfl rfl in_X3 (by decide) k_261 rfl dX3_lookAtWord_31 ?_
        refine lv_aload_n hx hb dX3_lookAtWord_34 rfl (lv_at hl 0 rfl) ?_
        refine r_get F hK hP 0 11 rfl rfl in_X3 (by decide) k_277 rfl dX3_lookAtWord_35 ?_
        refine rz_bald F hK hP 1 1 rfl rfl (by omega) (by omega) dX3_lookAtWord_38 (fun z58 h_z58 => ?_)
        refine lv_bipush (v := zI 122) hx hb dX3_lookAtWord_39 (by decide) ?_
        refine rz_icmp_gt (tgt := 83) F (by omega) (by omega) dX3_lookAtWord_41 (by decide) (fun h41_58 => ?_) (fun h41_58 => ?_)
        · refine lv_aload_n hx hb dX3_lookAtWord_83 rfl (lv_at hl 0 rfl) ?_
          refine lv_aload_n hx hb dX3_lookAtWord_84 rfl (lv_at hl 0 rfl) ?_
          refine r_get F hK hP 0 11 rfl rfl in_X3 (by decide) k_277 rfl dX3_lookAtWord_85 ?_
          refine lv_aload_n hx hb dX3_lookAtWord_88 rfl (lv_at hl 0 rfl) ?_
          refine r_get F hK hP 0 10 rfl rfl in_X3 (by decide) k_276 rfl dX3_lookAtWord_89 ?_
          refine r_isub (v := zI ((ii 6) - (ii 5))) F dX3_lookAtWord_92 (zI_sub _ _) ?_
          refine lv_bipush (v := zI 8) hx hb dX3_lookAtWord_93 (by decide) ?_
          refine rz_icmp_gt (tgt := 103) F (by omega) (by omega) dX3_lookAtWord_95 (by decide) (fun h95_59 => ?_) (fun h95_59 => ?_)
          · refine lv_bipush (v := zI 23) hx hb dX3_lookAtWord_103 (by decide) ?_
            refine r_put F hK hP hD hS 0 9 rfl rfl in_X3 tyX3 tyX3_ok nmX3 (by decide) k_275 rfl rfl rfl (Nat.le_of_ble_eq_true rfl) dX3_lookAtWord_105 (w1 := [(b, .inr (3, [.ref (q 0), .int (zI (ii 0)), .ref (q 3), .ref (q 4), .int (zI (ii 1)), .int (zI (ii 2)), .ref (q 1), .ref (q 2), .int (zI (ii 3)), .int (zI 23), .int (zI (ii 5)), .int (zI (ii 6)), .long (zL (ii 7)), .int (zI (ii 8))])), ((q 0), .inl (cB, 900, .inl (fun k => zI ((g 0) k)))), ((q 1), .inl (cJ, 19, .inr (.inl (fun k => zL ((g 1) k))))), ((q 2), .inl (cJ, 10, .inr (.inl (fun k => zL ((g 2) k)))))]) rfl (fun H locs hP hD hS => ?_)
            refine lv_iconst (v := zI 0) hx hb dX3_lookAtWord_108 rfl ?_
            refine lv_istore_n (lv' := [(1, .int (zI 0)), (0, .ref b)]) hx hb dX3_lookAtWord_109 rfl hl (by decide) rfl (fun ls hl => ?_)
            obtain ⟨i61, e_i61⟩ : ∃ i61 : Nat → Int, i61 = fun k => [(ii 0), (ii 1), (ii 2), (ii 3), 23, (ii 5), (ii 6), (ii 7), (ii 8)].getD k 0 := ⟨_, rfl⟩
            have e_i61_0 : i61 0 = (ii 0) := by rw [e_i61]; rfl
            have e_i61_1 : i61 1 = (ii 1) := by rw [e_i61]; rfl
            have e_i61_2 : i61 2 = (ii 2) := by rw [e_i61]; rfl
            have e_i61_3 : i61 3 = (ii 3) := by rw [e_i61]; rfl
            have e_i61_4 : i61 4 = 23 := by rw [e_i61]; rfl
            have e_i61_5 : i61 5 = (ii 5) := by rw [e_i61]; rfl
            have e_i61_6 : i61 6 = (ii 6) := by rw [e_i61]; rfl
            have e_i61_7 : i61 7 = (ii 7) := by rw [e_i61]; rfl
            have e_i61_8 : i61 8 = (ii 8) := by rw [e_i61]; rfl
            have hO62 : ReaderOk i61 := by refine ⟨?_, ?_, ?_, ?_, ?_, ?_⟩ <;> omega
            have hf63 := hO62
            have hP : va_P G vwCl [(b, .inr (3, [.ref (q 0), .int (zI (i61 0)), .ref (q 3), .ref (q 4), .int (zI (i61 1)), .int (zI (i61 2)), .ref (q 1), .ref (q 2), .int (zI (i61 3)), .int (zI (i61 4)), .int (zI (i61 5)), .int (zI (i61 6)), .long (zL (i61 7)), .int (zI (i61 8))])), ((q 0), .inl (cB, 900, .inl (fun k => zI ((g 0) k)))), ((q 1), .inl (cJ, 19, .inr (.inl (fun k => zL ((g 1) k))))), ((q 2), .inl (cJ, 10, .inr (.inl (fun k => zL ((g 2) k)))))] H := by subst e_i61; exact hP
            have hD : va_D A [(b, .inr (3, [.ref (q 0), .int (zI (i61 0)), .ref (q 3), .ref (q 4), .int (zI (i61 1)), .int (zI (i61 2)), .ref (q 1), .ref (q 2), .int (zI (i61 3)), .int (zI (i61 4)), .int (zI (i61 5)), .int (zI (i61 6)), .long (zL (i61 7)), .int (zI (i61 8))])), ((q 0), .inl (cB, 900, .inl (fun k => zI ((g 0) k)))), ((q 1), .inl (cJ, 19, .inr (.inl (fun k => zL ((g 1) k))))), ((q 2), .inl (cJ, 10, .inr (.inl (fun k => zL ((g 2) k)))))] := by subst e_i61; exact hD
            refine W.widen (k := 0) (n := 0) (Nat.le_of_ble_eq_true rfl) (Nat.le_of_ble_eq_true rfl) ?_
            refine (?_ : ∀ (n9_2 : Nat) (v1 : Int) (ii : Nat → Int) (H : Heap) (locs : List Loc), (0 ≤ v1 ∧ v1 ≤ 19 ∧ ii 0 = i 0 ∧ ii 3 = i 3) → (19 - v1 : Int).toNat < n9_2 → (ReaderOk ii) → va_P G vwCl [(b, .inr (3, [.ref (q 0), .int (zI (ii 0)), .ref (q 3), .ref (q 4), .int (zI (ii 1)), .int (zI (ii 2)), .ref (q 1), .ref (q 2), .int (zI (ii 3)), .int (zI (ii 4)), .int (zI (ii 5)), .int (zI (ii 6)), .long (zL (ii 7)), .int (zI (ii 8))])), ((q 0), .inl (cB, 900, .inl (fun k => zI ((g 0) k)))), ((q 1), .inl (cJ, 19, .inr (.inl (fun k => zL ((g 1) k))))), ((q 2), .inl (cJ, 10, .inr (.inl (fun k => zL ((g 2) k)))))] H → va_D A [(b, .inr (3, [.ref (q 0), .int (zI (ii 0)), .ref (q 3), .ref (q 4), .int (zI (ii 1)), .int (zI (ii 2)), .ref (q 1), .ref (q 2), .int (zI (ii 3)), .int (zI (ii 4)), .int (zI (ii 5)), .int (zI (ii 6)), .long (zL (ii 7)), .int (zI (ii 8))])), ((q 0), .inl (cB, 900, .inl (fun k => zI ((g 0) k)))), ((q 1), .inl (cJ, 19, .inr (.inl (fun k => zL ((g 1) k))))), ((q 2), .inl (cJ, 10, .inr (.inl (fun k => zL ((g 2) k)))))] → va_S A s.heap H locs → ∀ ls : Array Slot, lv_has ls 2 [(1, .int (zI v1)), (0, .ref b)] → W p l e rm_X3_lookAtWord s m ([.ref b] : List Value).toArray below meth c H locs 0 0 Q (F0 m 110 ls [])) ((19 - 0 : Int).toNat + 1) 0 i61 _ _ (by omega) (by omega) hO62 hP hD hS ls hl
            clear hP hD hS hl ls
            intro n9_2
            induction n9_2 with
            | zero =>
              intro v1 ii H locs hI hM
              exact absurd hM (by omega)
            | succ n9_2 ih2 =>
              intro v1 ii H locs hI2 hM2 hG hP hD hS ls hl
              have hf64 := hG
              refine lv_iload_n hx hb dX3_lookAtWord_110 rfl (lv_at hl 0 rfl) ?_
              refine lv_bipush (v := zI 19) hx hb dX3_lookAtWord_111 (by decide) ?_
              refine rz_icmp_ge (tgt := 157) F (by omega) (by omega) dX3_lookAtWord_113 (by decide) (fun h113_64 => ?_) (fun h113_64 => ?_)
              · exact ret (ii, fun _ _ => 0) _ _ _ _ _ _ ⟨hG, by dsimp only; omega⟩ (bw_subP (isC := [0, 1, 2, 3]) hP rfl) (hD.sub [0, 1, 2, 3] (by decide) rfl) hS (Nat.le_of_ble_eq_true rfl) (Nat.le_of_ble_eq_true rfl) dX3_lookAtWord_157
              · refine lv_aload_n hx hb dX3_lookAtWord_116 rfl (lv_at hl 1 rfl) ?_
                refine r_get F hK hP 0 9 rfl rfl in_X3 (by decide) k_275 rfl dX3_lookAtWord_117 ?_
                refine lv_bipush (v := zI 19) hx hb dX3_lookAtWord_120 (by decide) ?_
                refine rz_icmp_ne (tgt := 157) F (by omega) (by omega) dX3_lookAtWord_122 (by decide) (fun h122_65 => ?_) (fun h122_65 => ?_)
                · exact ret (ii, fun _ _ => 0) _ _ _ _ _ _ ⟨hG, by dsimp only; omega⟩ (bw_subP (isC := [0, 1, 2, 3]) hP rfl) (hD.sub [0, 1, 2, 3] (by decide) rfl) hS (Nat.le_of_ble_eq_true rfl) (Nat.le_of_ble_eq_true rfl) dX3_lookAtWord_157
                · refine lv_aload_n hx hb dX3_lookAtWord_125 rfl (lv_at hl 1 rfl) ?_
                  refine lv_aload_n hx hb dX3_lookAtWord_126 rfl (lv_at hl 1 rfl) ?_
                  refine r_get F hK hP 0 6 rfl rfl in_X3 (by decide) k_272 rfl dX3_lookAtWord_127 ?_
                  refine lv_iload_n hx hb dX3_lookAtWord_130 rfl (lv_at hl 0 rfl) ?_
                  refine rz_lald F hK hP 2 2 rfl rfl (by omega) (by omega) dX3_lookAtWord_131 ?_
                  refine lv_aload_n hx hb dX3_lookAtWord_132 rfl (lv_at hl 1 rfl) ?_
                  refine r_get F hK hP 0 12 rfl rfl in_X3 (by decide) k_278 rfl dX3_lookAtWord_133 ?_
                  refine rz_lcmp F dX3_lookAtWord_136 (fun z68 h_z68 => ?_)
                  refine rz_if_ne (tgt := 144) F (by omega) dX3_lookAtWord_137 (by decide) (fun h137_68 => ?_) (fun h137_68 => ?_)
                  · refine lv_aload_n hx hb dX3_lookAtWord_144 rfl (lv_at hl 1 rfl) ?_
                    refine r_get F hK hP 0 9 rfl rfl in_X3 (by decide) k_275 rfl dX3_lookAtWord_145 ?_
                    refine r_put F hK hP hD hS 0 9 rfl rfl in_X3 tyX3 tyX3_ok nmX3 (by decide) k_275 rfl rfl rfl (Nat.le_of_ble_eq_true rfl) dX3_lookAtWord_148 (w1 := [(b, .inr (3, [.ref (q 0), .int (zI (ii 0)), .ref (q 3), .ref (q 4), .int (zI (ii 1)), .int (zI (ii 2)), .ref (q 1), .ref (q 2), .int (zI (ii 3)), .int (zI (ii 4)), .int (zI (ii 5)), .int (zI (ii 6)), .long (zL (ii 7)), .int (zI (ii 8))])), ((q 0), .inl (cB, 900, .inl (fun k => zI ((g 0) k)))), ((q 1), .inl (cJ, 19, .inr (.inl (fun k => zL ((g 1) k))))), ((q 2), .inl (cJ, 10, .inr (.inl (fun k => zL ((g 2) k)))))]) rfl (fun H locs hP hD hS => ?_)
                    refine lv_iinc (v := zI (v1 + 1)) (lv' := [(1, .int (zI (v1 + 1))), (0, .ref b)]) hx hb dX3_lookAtWord_151 hl (k := 0) rfl (zI_add _ _) (by decide) rfl (fun ls hl => ?_)
                    refine lv_goto (tgt := 110) hx hb dX3_lookAtWord_154 (by decide) ?_
                    exact ih2 (v1 + 1) ii _ _ (by omega) (by omega) hG hP hD hS ls (lv_sub hl [0, 1] rfl)
                  · refine lv_iload_n hx hb dX3_lookAtWord_140 rfl (lv_at hl 0 rfl) ?_
                    refine lv_goto (tgt := 148) hx hb dX3_lookAtWord_141 (by decide) ?_
                    refine r_put F hK hP hD hS 0 9 rfl rfl in_X3 tyX3 tyX3_ok nmX3 (by decide) k_275 rfl rfl rfl (Nat.le_of_ble_eq_true rfl) dX3_lookAtWord_148 (w1 := [(b, .inr (3, [.ref (q 0), .int (zI (ii 0)), .ref (q 3), .ref (q 4), .int (zI (ii 1)), .int (zI (ii 2)), .ref (q 1), .ref (q 2), .int (zI (ii 3)), .int (zI v1), .int (zI (ii 5)), .int (zI (ii 6)), .long (zL (ii 7)), .int (zI (ii 8))])), ((q 0), .inl (cB, 900, .inl (fun k => zI ((g 0) k)))), ((q 1), .inl (cJ, 19, .inr (.inl (fun k => zL ((g 1) k))))), ((q 2), .inl (cJ, 10, .inr (.inl (fun k => zL ((g 2) k)))))]) rfl (fun H locs hP hD hS => ?_)
                    refine lv_iinc (v := zI (v1 + 1)) (lv' := [(1, .int (zI (v1 + 1))), (0, .ref b)]) hx hb dX3_lookAtWord_151 hl (k := 0) rfl (zI_add _ _) (by decide) rfl (fun ls hl => ?_)
                    refine lv_goto (tgt := 110) hx hb dX3_lookAtWord_154 (by decide) ?_
                    obtain ⟨i70, e_i70⟩ : ∃ i70 : Nat → Int, i70 = fun k => [(ii 0), (ii 1), (ii 2), (ii 3), v1, (ii 5), (ii 6), (ii 7), (ii 8)].getD k 0 := ⟨_, rfl⟩
                    have e_i70_0 : i70 0 = (ii 0) := by rw [e_i70]; rfl
                    have e_i70_1 : i70 1 = (ii 1) := by rw [e_i70]; rfl
                    have e_i70_2 : i70 2 = (ii 2) := by rw [e_i70]; rfl
                    have e_i70_3 : i70 3 = (ii 3) := by rw [e_i70]; rfl
                    have e_i70_4 : i70 4 = v1 := by rw [e_i70]; rfl
                    have e_i70_5 : i70 5 = (ii 5) := by rw [e_i70]; rfl
                    have e_i70_6 : i70 6 = (ii 6) := by rw [e_i70]; rfl
                    have e_i70_7 : i70 7 = (ii 7) := by rw [e_i70]; rfl
                    have e_i70_8 : i70 8 = (ii 8) := by rw [e_i70]; rfl
                    have hO71 : ReaderOk i70 := by refine ⟨?_, ?_, ?_, ?_, ?_, ?_⟩ <;> omega
                    have hf72 := hO71
                    have hP : va_P G vwCl [(b, .inr (3, [.ref (q 0), .int (zI (i70 0)), .ref (q 3), .ref (q 4), .int (zI (i70 1)), .int (zI (i70 2)), .ref (q 1), .ref (q 2), .int (zI (i70 3)), .int (zI (i70 4)), .int (zI (i70 5)), .int (zI (i70 6)), .long (zL (i70 7)), .int (zI (i70 8))])), ((q 0), .inl (cB, 900, .inl (fun k => zI ((g 0) k)))), ((q 1), .inl (cJ, 19, .inr (.inl (fun k => zL ((g 1) k))))), ((q 2), .inl (cJ, 10, .inr (.inl (fun k => zL ((g 2) k)))))] H := by subst e_i70; exact hP
                    have hD : va_D A [(b, .inr (3, [.ref (q 0), .int (zI (i70 0)), .ref (q 3), .ref (q 4), .int (zI (i70 1)), .int (zI (i70 2)), .ref (q 1), .ref (q 2), .int (zI (i70 3)), .int (zI (i70 4)), .int (zI (i70 5)), .int (zI (i70 6)), .long (zL (i70 7)), .int (zI (i70 8))])), ((q 0), .inl (cB, 900, .inl (fun k => zI ((g 0) k)))), ((q 1), .inl (cJ, 19, .inr (.inl (fun k => zL ((g 1) k))))), ((q 2), .inl (cJ, 10, .inr (.inl (fun k => zL ((g 2) k)))))] := by subst e_i70; exact hD
                    exact ih2 (v1 + 1) i70 _ _ (by omega) (by omega) hO71 hP hD hS ls (lv_sub hl [0, 1] rfl)
          · refine lv_bipush (v := zI 19) hx hb dX3_lookAtWord_98 (by decide) ?_
            refine lv_goto (tgt := 105) hx hb dX3_lookAtWord_100 (by decide) ?_
            refine r_put F hK hP hD hS 0 9 rfl rfl in_X3 tyX3 tyX3_ok nmX3 (by decide) k_275 rfl rfl rfl (Nat.le_of_ble_eq_true rfl) dX3_lookAtWord_105 (w1 := [(b, .inr (3, [.ref (q 0), .int (zI (ii 0)), .ref (q 3), .ref (q 4), .int (zI (ii 1)), .int (zI (ii 2)), .ref (q 1), .ref (q 2), .int (zI (ii 3)), .int (zI 19), .int (zI (ii 5)), .int (zI (ii 6)), .long (zL (ii 7)), .int (zI (ii 8))])), ((q 0), .inl (cB, 900, .inl (fun k => zI ((g 0) k)))), ((q 1), .inl (cJ, 19, .inr (.inl (fun k => zL ((g 1) k))))), ((q 2), .inl (cJ, 10, .inr (.inl (fun k => zL ((g 2) k)))))]) rfl (fun H locs hP hD hS => ?_)
            refine lv_iconst (v := zI 0) hx hb dX3_lookAtWord_108 rfl ?_
            refine lv_istore_n (lv' := [(1, .int (zI 0)), (0, .ref b)]) hx hb dX3_lookAtWord_109 rfl hl (by decide) rfl (fun ls hl => ?_)
            obtain ⟨i73, e_i73⟩ : ∃ i73 : Nat → Int, i73 = fun k => [(ii 0), (ii 1), (ii 2), (ii 3), 19, (ii 5), (ii 6), (ii 7), (ii 8)].getD k 0 := ⟨_, rfl⟩
            have e_i73_0 : i73 0 = (ii 0) := by rw [e_i73]; rfl
            have e_i73_1 : i73 1 = (ii 1) := by rw [e_i73]; rfl
            have e_i73_2 : i73 2 = (ii 2) := by rw [e_i73]; rfl
            have e_i73_3 : i73 3 = (ii 3) := by rw [e_i73]; rfl
            have e_i73_4 : i73 4 = 19 := by rw [e_i73]; rfl
            have e_i73_5 : i73 5 = (ii 5) := by rw [e_i73]; rfl
            have e_i73_6 : i73 6 = (ii 6) := by rw [e_i73]; rfl
            have e_i73_7 : i73 7 = (ii 7) := by rw [e_i73]; rfl
            have e_i73_8 : i73 8 = (ii 8) := by rw [e_i73]; rfl
            have hO74 : ReaderOk i73 := by refine ⟨?_, ?_, ?_, ?_, ?_, ?_⟩ <;> omega
            have hf75 := hO74
            have hP : va_P G vwCl [(b, .inr (3, [.ref (q 0), .int (zI (i73 0)), .ref (q 3), .ref (q 4), .int (zI (i73 1)), .int (zI (i73 2)), .ref (q 1), .ref (q 2), .int (zI (i73 3)), .int (zI (i73 4)), .int (zI (i73 5)), .int (zI (i73 6)), .long (zL (i73 7)), .int (zI (i73 8))])), ((q 0), .inl (cB, 900, .inl (fun k => zI ((g 0) k)))), ((q 1), .inl (cJ, 19, .inr (.inl (fun k => zL ((g 1) k))))), ((q 2), .inl (cJ, 10, .inr (.inl (fun k => zL ((g 2) k)))))] H := by subst e_i73; exact hP
            have hD : va_D A [(b, .inr (3, [.ref (q 0), .int (zI (i73 0)), .ref (q 3), .ref (q 4), .int (zI (i73 1)), .int (zI (i73 2)), .ref (q 1), .ref (q 2), .int (zI (i73 3)), .int (zI (i73 4)), .int (zI (i73 5)), .int (zI (i73 6)), .long (zL (i73 7)), .int (zI (i73 8))])), ((q 0), .inl (cB, 900, .inl (fun k => zI ((g 0) k)))), ((q 1), .inl (cJ, 19, .inr (.inl (fun k => zL ((g 1) k))))), ((q 2), .inl (cJ, 10, .inr (.inl (fun k => zL ((g 2) k)))))] := by subst e_i73; exact hD
            refine W.widen (k := 0) (n := 0) (Nat.le_of_ble_eq_true rfl) (Nat.le_of_ble_eq_true rfl) ?_
            refine (?_ : ∀ (n9_2 : Nat) (v1 : Int) (ii : Nat → Int) (H : Heap) (locs : List Loc), (0 ≤ v1 ∧ v1 ≤ 19 ∧ ii 0 = i 0 ∧ ii 3 = i 3) → (19 - v1 : Int).toNat < n9_2 → (ReaderOk ii) → va_P G vwCl [(b, .inr (3, [.ref (q 0), .int (zI (ii 0)), .ref (q 3), .ref (q 4), .int (zI (ii 1)), .int (zI (ii 2)), .ref (q 1), .ref (q 2), .int (zI (ii 3)), .int (zI (ii 4)), .int (zI (ii 5)), .int (zI (ii 6)), .long (zL (ii 7)), .int (zI (ii 8))])), ((q 0), .inl (cB, 900, .inl (fun k => zI ((g 0) k)))), ((q 1), .inl (cJ, 19, .inr (.inl (fun k => zL ((g 1) k))))), ((q 2), .inl (cJ, 10, .inr (.inl (fun k => zL ((g 2) k)))))] H → va_D A [(b, .inr (3, [.ref (q 0), .int (zI (ii 0)), .ref (q 3), .ref (q 4), .int (zI (ii 1)), .int (zI (ii 2)), .ref (q 1), .ref (q 2), .int (zI (ii 3)), .int (zI (ii 4)), .int (zI (ii 5)), .int (zI (ii 6)), .long (zL (ii 7)), .int (zI (ii 8))])), ((q 0), .inl (cB, 900, .inl (fun k => zI ((g 0) k)))), ((q 1), .inl (cJ, 19, .inr (.inl (fun k => zL ((g 1) k))))), ((q 2), .inl (cJ, 10, .inr (.inl (fun k => zL ((g 2) k)))))] → va_S A s.heap H locs → ∀ ls : Array Slot, lv_has ls 2 [(1, .int (zI v1)), (0, .ref b)] → W p l e rm_X3_lookAtWord s m ([.ref b] : List Value).toArray below meth c H locs 0 0 Q (F0 m 110 ls [])) ((19 - 0 : Int).toNat + 1) 0 i73 _ _ (by omega) (by omega) hO74 hP hD hS ls hl
            clear hP hD hS hl ls
            intro n9_2
            induction n9_2 with
            | zero =>
              intro v1 ii H locs hI hM
              exact absurd hM (by omega)
            | succ n9_2 ih2 =>
              intro v1 ii H locs hI2 hM2 hG hP hD hS ls hl
              have hf76 := hG
              refine lv_iload_n hx hb dX3_lookAtWord_110 rfl (lv_at hl 0 rfl) ?_
              refine lv_bipush (v := zI 19) hx hb dX3_lookAtWord_111 (by decide) ?_
              refine rz_icmp_ge (tgt := 157) F (by omega) (by omega) dX3_lookAtWord_113 (by decide) (fun h113_76 => ?_) (fun h113_76 => ?_)
              · exact ret (ii, fun _ _ => 0) _ _ _ _ _ _ ⟨hG, by dsimp only; omega⟩ (bw_subP (isC := [0, 1, 2, 3]) hP rfl) (hD.sub [0, 1, 2, 3] (by decide) rfl) hS (Nat.le_of_ble_eq_true rfl) (Nat.le_of_ble_eq_true rfl) dX3_lookAtWord_157
              · refine lv_aload_n hx hb dX3_lookAtWord_116 rfl (lv_at hl 1 rfl) ?_
                refine r_get F hK hP 0 9 rfl rfl in_X3 (by decide) k_275 rfl dX3_lookAtWord_117 ?_
                refine lv_bipush (v := zI 19) hx hb dX3_lookAtWord_120 (by decide) ?_
                refine rz_icmp_ne (tgt := 157) F (by omega) (by omega) dX3_lookAtWord_122 (by decide) (fun h122_77 => ?_) (fun h122_77 => ?_)
                · exact ret (ii, fun _ _ => 0) _ _ _ _ _ _ ⟨hG, by dsimp only; omega⟩ (bw_subP (isC := [0, 1, 2, 3]) hP rfl) (hD.sub [0, 1, 2, 3] (by decide) rfl) hS (Nat.le_of_ble_eq_true rfl) (Nat.le_of_ble_eq_true rfl) dX3_lookAtWord_157
                · refine lv_aload_n hx hb dX3_lookAtWord_125 rfl (lv_at hl 1 rfl) ?_
                  refine lv_aload_n hx hb dX3_lookAtWord_126 rfl (lv_at hl 1 rfl) ?_
                  refine r_get F hK hP 0 6 rfl rfl in_X3 (by decide) k_272 rfl dX3_lookAtWord_127 ?_
                  refine lv_iload_n hx hb dX3_lookAtWord_130 rfl (lv_at hl 0 rfl) ?_
                  refine rz_lald F hK hP 2 2 rfl rfl (by omega) (by omega) dX3_lookAtWord_131 ?_
                  refine lv_aload_n hx hb dX3_lookAtWord_132 rfl (lv_at hl 1 rfl) ?_
                  refine r_get F hK hP 0 12 rfl rfl in_X3 (by decide) k_278 rfl dX3_lookAtWord_133 ?_
                  refine rz_lcmp F dX3_lookAtWord_136 (fun z80 h_z80 => ?_)
                  refine rz_if_ne (tgt := 144) F (by omega) dX3_lookAtWord_137 (by decide) (fun h137_80 => ?_) (fun h137_80 => ?_)
                  · refine lv_aload_n hx hb dX3_lookAtWord_144 rfl (lv_at hl 1 rfl) ?_
                    refine r_get F hK hP 0 9 rfl rfl in_X3 (by decide) k_275 rfl dX3_lookAtWord_145 ?_
                    refine r_put F hK hP hD hS 0 9 rfl rfl in_X3 tyX3 tyX3_ok nmX3 (by decide) k_275 rfl rfl rfl (Nat.le_of_ble_eq_true rfl) dX3_lookAtWord_148 (w1 := [(b, .inr (3, [.ref (q 0), .int (zI (ii 0)), .ref (q 3), .ref (q 4), .int (zI (ii 1)), .int (zI (ii 2)), .ref (q 1), .ref (q 2), .int (zI (ii 3)), .int (zI (ii 4)), .int (zI (ii 5)), .int (zI (ii 6)), .long (zL (ii 7)), .int (zI (ii 8))])), ((q 0), .inl (cB, 900, .inl (fun k => zI ((g 0) k)))), ((q 1), .inl (cJ, 19, .inr (.inl (fun k => zL ((g 1) k))))), ((q 2), .inl (cJ, 10, .inr (.inl (fun k => zL ((g 2) k)))))]) rfl (fun H locs hP hD hS => ?_)
                    refine lv_iinc (v := zI (v1 + 1)) (lv' := [(1, .int (zI (v1 + 1))), (0, .ref b)]) hx hb dX3_lookAtWord_151 hl (k := 0) rfl (zI_add _ _) (by decide) rfl (fun ls hl => ?_)
                    refine lv_goto (tgt := 110) hx hb dX3_lookAtWord_154 (by decide) ?_
                    exact ih2 (v1 + 1) ii _ _ (by omega) (by omega) hG hP hD hS ls (lv_sub hl [0, 1] rfl)
                  · refine lv_iload_n hx hb dX3_lookAtWord_140 rfl (lv_at hl 0 rfl) ?_
                    refine lv_goto (tgt := 148) hx hb dX3_lookAtWord_141 (by decide) ?_
                    refine r_put F hK hP hD hS 0 9 rfl rfl in_X3 tyX3 tyX3_ok nmX3 (by decide) k_275 rfl rfl rfl (Nat.le_of_ble_eq_true rfl) dX3_lookAtWord_148 (w1 := [(b, .inr (3, [.ref (q 0), .int (zI (ii 0)), .ref (q 3), .ref (q 4), .int (zI (ii 1)), .int (zI (ii 2)), .ref (q 1), .ref (q 2), .int (zI (ii 3)), .int (zI v1), .int (zI (ii 5)), .int (zI (ii 6)), .long (zL (ii 7)), .int (zI (ii 8))])), ((q 0), .inl (cB, 900, .inl (fun k => zI ((g 0) k)))), ((q 1), .inl (cJ, 19, .inr (.inl (fun k => zL ((g 1) k))))), ((q 2), .inl (cJ, 10, .inr (.inl (fun k => zL ((g 2) k)))))]) rfl (fun H locs hP hD hS => ?_)
                    refine lv_iinc (v := zI (v1 + 1)) (lv' := [(1, .int (zI (v1 + 1))), (0, .ref b)]) hx hb dX3_lookAtWord_151 hl (k := 0) rfl (zI_add _ _) (by decide) rfl (fun ls hl => ?_)
                    refine lv_goto (tgt := 110) hx hb dX3_lookAtWord_154 (by decide) ?_
                    obtain ⟨i82, e_i82⟩ : ∃ i82 : Nat → Int, i82 = fun k => [(ii 0), (ii 1), (ii 2), (ii 3), v1, (ii 5), (ii 6), (ii 7), (ii 8)].getD k 0 := ⟨_, rfl⟩
                    have e_i82_0 : i82 0 = (ii 0) := by rw [e_i82]; rfl
                    have e_i82_1 : i82 1 = (ii 1) := by rw [e_i82]; rfl
                    have e_i82_2 : i82 2 = (ii 2) := by rw [e_i82]; rfl
                    have e_i82_3 : i82 3 = (ii 3) := by rw [e_i82]; rfl
                    have e_i82_4 : i82 4 = v1 := by rw [e_i82]; rfl
                    have e_i82_5 : i82 5 = (ii 5) := by rw [e_i82]; rfl
                    have e_i82_6 : i82 6 = (ii 6) := by rw [e_i82]; rfl
                    have e_i82_7 : i82 7 = (ii 7) := by rw [e_i82]; rfl
                    have e_i82_8 : i82 8 = (ii 8) := by rw [e_i82]; rfl
                    have hO83 : ReaderOk i82 := by refine ⟨?_, ?_, ?_, ?_, ?_, ?_⟩ <;> omega
                    have hf84 := hO83
                    have hP : va_P G vwCl [(b, .inr (3, [.ref (q 0), .int (zI (i82 0)), .ref (q 3), .ref (q 4), .int (zI (i82 1)), .int (zI (i82 2)), .ref (q 1), .ref (q 2), .int (zI (i82 3)), .int (zI (i82 4)), .int (zI (i82 5)), .int (zI (i82 6)), .long (zL (i82 7)), .int (zI (i82 8))])), ((q 0), .inl (cB, 900, .inl (fun k => zI ((g 0) k)))), ((q 1), .inl (cJ, 19, .inr (.inl (fun k => zL ((g 1) k))))), ((q 2), .inl (cJ, 10, .inr (.inl (fun k => zL ((g 2) k)))))] H := by subst e_i82; exact hP
                    have hD : va_D A [(b, .inr (3, [.ref (q 0), .int (zI (i82 0)), .ref (q 3), .ref (q 4), .int (zI (i82 1)), .int (zI (i82 2)), .ref (q 1), .ref (q 2), .int (zI (i82 3)), .int (zI (i82 4)), .int (zI (i82 5)), .int (zI (i82 6)), .long (zL (i82 7)), .int (zI (i82 8))])), ((q 0), .inl (cB, 900, .inl (fun k => zI ((g 0) k)))), ((q 1), .inl (cJ, 19, .inr (.inl (fun k => zL ((g 1) k))))), ((q 2), .inl (cJ, 10, .inr (.inl (fun k => zL ((g 2) k)))))] := by subst e_i82; exact hD
                    exact ih2 (v1 + 1) i82 _ _ (by omega) (by omega) hO83 hP hD hS ls (lv_sub hl [0, 1] rfl)
        · refine lv_aload_n hx hb dX3_lookAtWord_44 rfl (lv_at hl 0 rfl) ?_
          refine lv_aload_n hx hb dX3_lookAtWord_45 rfl (lv_at hl 0 rfl) ?_
          refine r_get F hK hP 0 12 rfl rfl in_X3 (by decide) k_278 rfl dX3_lookAtWord_46 ?_
          refine lv_ldc2 hx hb hown (F.2.2.2.2 _ k_260) dX3_lookAtWord_49 ?_
          refine lv_lmul hx hb dX3_lookAtWord_52 ?_
          refine rz_topl (fun zl85 => ?_)
          refine lv_aload_n hx hb dX3_lookAtWord_53 rfl (lv_at hl 0 rfl) ?_
          refine r_get F hK hP 0 0 rfl rfl in_X3 (by decide) k_261 rfl dX3_lookAtWord_54 ?_
          refine lv_aload_n hx hb dX3_lookAtWord_57 rfl (lv_at hl 0 rfl) ?_
          refine r_get F hK hP 0 11 rfl rfl in_X3 (by decide) k_277 rfl dX3_lookAtWord_58 ?_
          refine rz_bald F hK hP 1 1 rfl rfl (by omega) (by omega) dX3_lookAtWord_61 (fun z86 h_z86 => ?_)
          refine lv_bipush (v := zI 96) hx hb dX3_lookAtWord_62 (by decide) ?_
          refine r_isub (v := zI (z86 - 96)) F dX3_lookAtWord_64 (zI_sub _ _) ?_
          refine lv_i2l hx hb dX3_lookAtWord_65 rfl ?_
          refine rz_topl (fun zl87 => ?_)
          refine lv_ladd hx hb dX3_lookAtWord_66 ?_
          refine rz_topl (fun zl88 => ?_)
          refine r_put F hK hP hD hS 0 12 rfl rfl in_X3 tyX3 tyX3_ok nmX3 (by decide) k_278 rfl rfl rfl (Nat.le_of_ble_eq_true rfl) dX3_lookAtWord_67 (w1 := [(b, .inr (3, [.ref (q 0), .int (zI (ii 0)), .ref (q 3), .ref (q 4), .int (zI (ii 1)), .int (zI (ii 2)), .ref (q 1), .ref (q 2), .int (zI (ii 3)), .int (zI (ii 4)), .int (zI (ii 5)), .int (zI (ii 6)), .long (zL zl88), .int (zI (ii 8))])), ((q 0), .inl (cB, 900, .inl (fun k => zI ((g 0) k)))), ((q 1), .inl (cJ, 19, .inr (.inl (fun k => zL ((g 1) k))))), ((q 2), .inl (cJ, 10, .inr (.inl (fun k => zL ((g 2) k)))))]) rfl (fun H locs hP hD hS => ?_)
          refine lv_aload_n hx hb dX3_lookAtWord_70 rfl (lv_at hl 0 rfl) ?_
          refine lv_dup hx hb dX3_lookAtWord_71 rfl ?_
          refine r_get F hK hP 0 11 rfl rfl in_X3 (by decide) k_277 rfl dX3_lookAtWord_72 ?_
          refine lv_iconst (v := zI 1) hx hb dX3_lookAtWord_75 rfl ?_
          refine r_iadd (v := zI ((ii 6) + 1)) F dX3_lookAtWord_76 (zI_add _ _) ?_
          refine r_put F hK hP hD hS 0 11 rfl rfl in_X3 tyX3 tyX3_ok nmX3 (by decide) k_277 rfl rfl rfl (Nat.le_of_ble_eq_true rfl) dX3_lookAtWord_77 (w1 := [(b, .inr (3, [.ref (q 0), .int (zI (ii 0)), .ref (q 3), .ref (q 4), .int (zI (ii 1)), .int (zI (ii 2)), .ref (q 1), .ref (q 2), .int (zI (ii 3)), .int (zI (ii 4)), .int (zI (ii 5)), .int (zI ((ii 6) + 1)), .long (zL zl88), .int (zI (ii 8))])), ((q 0), .inl (cB, 900, .inl (fun k => zI ((g 0) k)))), ((q 1), .inl (cJ, 19, .inr (.inl (fun k => zL ((g 1) k))))), ((q 2), .inl (cJ, 10, .inr (.inl (fun k => zL ((g 2) k)))))]) rfl (fun H locs hP hD hS => ?_)
          refine lv_goto (tgt := 5) hx hb dX3_lookAtWord_80 (by decide) ?_
          obtain ⟨i89, e_i89⟩ : ∃ i89 : Nat → Int, i89 = fun k => [(ii 0), (ii 1), (ii 2), (ii 3), (ii 4), (ii 5), ((ii 6) + 1), zl88, (ii 8)].getD k 0 := ⟨_, rfl⟩
          have e_i89_0 : i89 0 = (ii 0) := by rw [e_i89]; rfl
          have e_i89_1 : i89 1 = (ii 1) := by rw [e_i89]; rfl
          have e_i89_2 : i89 2 = (ii 2) := by rw [e_i89]; rfl
          have e_i89_3 : i89 3 = (ii 3) := by rw [e_i89]; rfl
          have e_i89_4 : i89 4 = (ii 4) := by rw [e_i89]; rfl
          have e_i89_5 : i89 5 = (ii 5) := by rw [e_i89]; rfl
          have e_i89_6 : i89 6 = ((ii 6) + 1) := by rw [e_i89]; rfl
          have e_i89_7 : i89 7 = zl88 := by rw [e_i89]; rfl
          have e_i89_8 : i89 8 = (ii 8) := by rw [e_i89]; rfl
          have hO90 : ReaderOk i89 := by refine ⟨?_, ?_, ?_, ?_, ?_, ?_⟩ <;> omega
          have hf91 := hO90
          have hP : va_P G vwCl [(b, .inr (3, [.ref (q 0), .int (zI (i89 0)), .ref (q 3), .ref (q 4), .int (zI (i89 1)), .int (zI (i89 2)), .ref (q 1), .ref (q 2), .int (zI (i89 3)), .int (zI (i89 4)), .int (zI (i89 5)), .int (zI (i89 6)), .long (zL (i89 7)), .int (zI (i89 8))])), ((q 0), .inl (cB, 900, .inl (fun k => zI ((g 0) k)))), ((q 1), .inl (cJ, 19, .inr (.inl (fun k => zL ((g 1) k))))), ((q 2), .inl (cJ, 10, .inr (.inl (fun k => zL ((g 2) k)))))] H := by subst e_i89; exact hP
          have hD : va_D A [(b, .inr (3, [.ref (q 0), .int (zI (i89 0)), .ref (q 3), .ref (q 4), .int (zI (i89 1)), .int (zI (i89 2)), .ref (q 1), .ref (q 2), .int (zI (i89 3)), .int (zI (i89 4)), .int (zI (i89 5)), .int (zI (i89 6)), .long (zL (i89 7)), .int (zI (i89 8))])), ((q 0), .inl (cB, 900, .inl (fun k => zI ((g 0) k)))), ((q 1), .inl (cJ, 19, .inr (.inl (fun k => zL ((g 1) k))))), ((q 2), .inl (cJ, 10, .inr (.inl (fun k => zL ((g 2) k)))))] := by subst e_i89; exact hD
          exact ih1 i89 _ _ (by omega) (by omega) hO90 hP hD hS ls (lv_sub hl [0] rfl)
theorem dX3_advance_0 : decode cX3_advance 0 = .ok (.aload_n 0, 1) := by decide +kernel
theorem dX3_advance_1 : decode cX3_advance 1 = .ok (.aload_n 0, 1) := by decide +kernel
theorem dX3_advance_2 : decode cX3_advance 2 = .ok (.getfield 55, 3) := by decide +kernel
theorem dX3_advance_5 : decode cX3_advance 5 = .ok (.putfield 52, 3) := by decide +kernel
theorem dX3_advance_8 : decode cX3_advance 8 = .ok (.aload_n 0, 1) := by decide +kernel
theorem dX3_advance_9 : decode cX3_advance 9 = .ok (.getfield 52, 3) := by decide +kernel
theorem dX3_advance_12 : decode cX3_advance 12 = .ok (.aload_n 0, 1) := by decide +kernel
theorem dX3_advance_13 : decode cX3_advance 13 = .ok (.getfield 46, 3) := by decide +kernel
theorem dX3_advance_16 : decode cX3_advance 16 = .ok (.if_icmp .ge 30, 3) := by decide +kernel
theorem dX3_advance_46 : decode cX3_advance 46 = .ok (.aload_n 0, 1) := by decide +kernel
theorem dX3_advance_47 : decode cX3_advance 47 = .ok (.aload_n 0, 1) := by decide +kernel
theorem dX3_advance_48 : decode cX3_advance 48 = .ok (.getfield 52, 3) := by decide +kernel
theorem dX3_advance_51 : decode cX3_advance 51 = .ok (.putfield 55, 3) := by decide +kernel
theorem dX3_advance_54 : decode cX3_advance 54 = .ok (.aload_n 0, 1) := by decide +kernel
theorem dX3_advance_55 : decode cX3_advance 55 = .ok (.getfield 52, 3) := by decide +kernel
theorem dX3_advance_58 : decode cX3_advance 58 = .ok (.aload_n 0, 1) := by decide +kernel
theorem dX3_advance_59 : decode cX3_advance 59 = .ok (.getfield 46, 3) := by decide +kernel
theorem dX3_advance_62 : decode cX3_advance 62 = .ok (.if_icmp .lt 10, 3) := by decide +kernel
theorem dX3_advance_72 : decode cX3_advance 72 = .ok (.aload_n 0, 1) := by decide +kernel
theorem dX3_advance_73 : decode cX3_advance 73 = .ok (.getfield 9, 3) := by decide +kernel
theorem dX3_advance_76 : decode cX3_advance 76 = .ok (.aload_n 0, 1) := by decide +kernel
theorem dX3_advance_77 : decode cX3_advance 77 = .ok (.getfield 52, 3) := by decide +kernel
theorem dX3_advance_80 : decode cX3_advance 80 = .ok (.baload, 1) := by decide +kernel
theorem dX3_advance_81 : decode cX3_advance 81 = .ok (.istore_n 1, 1) := by decide +kernel
theorem dX3_advance_82 : decode cX3_advance 82 = .ok (.iload_n 1, 1) := by decide +kernel
theorem dX3_advance_83 : decode cX3_advance 83 = .ok (.bipush 97, 2) := by decide +kernel
theorem dX3_advance_85 : decode cX3_advance 85 = .ok (.if_icmp .lt 16, 3) := by decide +kernel
theorem dX3_advance_101 : decode cX3_advance 101 = .ok (.iload_n 1, 1) := by decide +kernel
theorem dX3_advance_102 : decode cX3_advance 102 = .ok (.bipush 48, 2) := by decide +kernel
theorem dX3_advance_104 : decode cX3_advance 104 = .ok (.if_icmp .lt 16, 3) := by decide +kernel
theorem dX3_advance_120 : decode cX3_advance 120 = .ok (.aload_n 0, 1) := by decide +kernel
theorem dX3_advance_121 : decode cX3_advance 121 = .ok (.iload_n 1, 1) := by decide +kernel
theorem dX3_advance_122 : decode cX3_advance 122 = .ok (.bipush 59, 2) := by decide +kernel
theorem dX3_advance_124 : decode cX3_advance 124 = .ok (.if_icmp .ne 8, 3) := by decide +kernel
theorem dX3_advance_132 : decode cX3_advance 132 = .ok (.iload_n 1, 1) := by decide +kernel
theorem dX3_advance_133 : decode cX3_advance 133 = .ok (.bipush 44, 2) := by decide +kernel
theorem dX3_advance_135 : decode cX3_advance 135 = .ok (.if_icmp .ne 8, 3) := by decide +kernel
theorem dX3_advance_143 : decode cX3_advance 143 = .ok (.bipush 23, 2) := by decide +kernel
theorem dX3_advance_145 : decode cX3_advance 145 = .ok (.putfield 49, 3) := by decide +kernel
theorem dX3_advance_148 : decode cX3_advance 148 = .ok (.aload_n 0, 1) := by decide +kernel
theorem dX3_advance_149 : decode cX3_advance 149 = .ok (.dup, 1) := by decide +kernel
theorem dX3_advance_150 : decode cX3_advance 150 = .ok (.getfield 55, 3) := by decide +kernel
theorem dX3_advance_153 : decode cX3_advance 153 = .ok (.iconst 1, 1) := by decide +kernel
theorem dX3_advance_154 : decode cX3_advance 154 = .ok (.iadd, 1) := by decide +kernel
theorem dX3_advance_155 : decode cX3_advance 155 = .ok (.putfield 55, 3) := by decide +kernel
theorem dX3_advance_158 : decode cX3_advance 158 = .ok (.return_, 1) := by decide +kernel
theorem dX3_advance_138 : decode cX3_advance 138 = .ok (.bipush 22, 2) := by decide +kernel
theorem dX3_advance_140 : decode cX3_advance 140 = .ok (.goto 5, 3) := by decide +kernel
theorem dX3_advance_127 : decode cX3_advance 127 = .ok (.bipush 21, 2) := by decide +kernel
theorem dX3_advance_129 : decode cX3_advance 129 = .ok (.goto 16, 3) := by decide +kernel
theorem dX3_advance_107 : decode cX3_advance 107 = .ok (.iload_n 1, 1) := by decide +kernel
theorem dX3_advance_108 : decode cX3_advance 108 = .ok (.bipush 57, 2) := by decide +kernel
theorem dX3_advance_110 : decode cX3_advance 110 = .ok (.if_icmp .gt 10, 3) := by decide +kernel
theorem dX3_advance_113 : decode cX3_advance 113 = .ok (.aload_n 0, 1) := by decide +kernel
theorem dX3_advance_114 : decode cX3_advance 114 = .ok (.invokevirtual 171, 3) := by decide +kernel
theorem k_567 : Cond.methodLink RX3 171 yX3_lookAtWhole ∈ bw_T := bw_m 567 (by decide +kernel) rfl
theorem kv_X3_lookAtWhole : bw_KV RX3 yX3_lookAtWhole (Cond.code yX3_lookAtWhole cX3_lookAtWhole 1 none) := ⟨bw_m 569 (by decide +kernel) rfl, bw_m 4 (by decide +kernel) rfl, bw_m 95 (by decide +kernel) rfl, bw_m 570 (by decide +kernel) rfl⟩
theorem dX3_advance_117 : decode cX3_advance 117 = .ok (.goto 41, 3) := by decide +kernel
theorem dX3_advance_88 : decode cX3_advance 88 = .ok (.iload_n 1, 1) := by decide +kernel
theorem dX3_advance_89 : decode cX3_advance 89 = .ok (.bipush 122, 2) := by decide +kernel
theorem dX3_advance_91 : decode cX3_advance 91 = .ok (.if_icmp .gt 10, 3) := by decide +kernel
theorem dX3_advance_94 : decode cX3_advance 94 = .ok (.aload_n 0, 1) := by decide +kernel
theorem dX3_advance_95 : decode cX3_advance 95 = .ok (.invokevirtual 168, 3) := by decide +kernel
theorem k_563 : Cond.methodLink RX3 168 yX3_lookAtWord ∈ bw_T := bw_m 563 (by decide +kernel) rfl
theorem kv_X3_lookAtWord : bw_KV RX3 yX3_lookAtWord (Cond.code yX3_lookAtWord cX3_lookAtWord 2 none) := ⟨bw_m 565 (by decide +kernel) rfl, bw_m 3 (by decide +kernel) rfl, bw_m 95 (by decide +kernel) rfl, bw_m 566 (by decide +kernel) rfl⟩
theorem dX3_advance_98 : decode cX3_advance 98 = .ok (.goto 60, 3) := by decide +kernel
theorem dX3_advance_65 : decode cX3_advance 65 = .ok (.aload_n 0, 1) := by decide +kernel
theorem dX3_advance_66 : decode cX3_advance 66 = .ok (.bipush 24, 2) := by decide +kernel
theorem dX3_advance_68 : decode cX3_advance 68 = .ok (.putfield 49, 3) := by decide +kernel
theorem dX3_advance_71 : decode cX3_advance 71 = .ok (.return_, 1) := by decide +kernel
theorem dX3_advance_19 : decode cX3_advance 19 = .ok (.aload_n 0, 1) := by decide +kernel
theorem dX3_advance_20 : decode cX3_advance 20 = .ok (.getfield 9, 3) := by decide +kernel
theorem dX3_advance_23 : decode cX3_advance 23 = .ok (.aload_n 0, 1) := by decide +kernel
theorem dX3_advance_24 : decode cX3_advance 24 = .ok (.getfield 52, 3) := by decide +kernel
theorem dX3_advance_27 : decode cX3_advance 27 = .ok (.baload, 1) := by decide +kernel
theorem dX3_advance_28 : decode cX3_advance 28 = .ok (.bipush 32, 2) := by decide +kernel
theorem dX3_advance_30 : decode cX3_advance 30 = .ok (.if_icmp .ne 16, 3) := by decide +kernel
theorem dX3_advance_33 : decode cX3_advance 33 = .ok (.aload_n 0, 1) := by decide +kernel
theorem dX3_advance_34 : decode cX3_advance 34 = .ok (.dup, 1) := by decide +kernel
theorem dX3_advance_35 : decode cX3_advance 35 = .ok (.getfield 52, 3) := by decide +kernel
theorem dX3_advance_38 : decode cX3_advance 38 = .ok (.iconst 1, 1) := by decide +kernel
theorem dX3_advance_39 : decode cX3_advance 39 = .ok (.iadd, 1) := by decide +kernel
theorem dX3_advance_40 : decode cX3_advance 40 = .ok (.putfield 52, 3) := by decide +kernel
theorem dX3_advance_43 : decode cX3_advance 43 = .ok (.goto (-35), 3) := by decide +kernel
abbrev rm_X3_advance : Room := { frames := 1, cells := 0, slots := 0, locals := 21 }
set_option maxRecDepth 100000 in
set_option maxHeartbeats 8000000 in
theorem c_X3_advance {l : Launch} {E : (Nat → Prop) → State → Prop} (hO : bw_Ok E) {G : va_G} {cI cB cJ cN cW : ClassId} (b : Nat) (q : Nat → Nat) (i : Nat → Int) (g : Nat → Nat → Int) (hY : ReaderOk i)  : bw_Cv (S := zU) l yX3_advance (bw_ws (Cond.code yX3_advance cX3_advance 2 none)) rm_X3_advance E G (bw_kt cI cB cJ cN cW) [.ref b] [(b, .inr (3, [.ref (q 0), .int (zI (i 0)), .ref (q 3), .ref (q 4), .int (zI (i 1)), .int (zI (i 2)), .ref (q 1), .ref (q 2), .int (zI (i 3)), .int (zI (i 4)), .int (zI (i 5)), .int (zI (i 6)), .long (zL (i 7)), .int (zI (i 8))])), ((q 0), .inl (cB, 900, .inl (fun k => zI ((g 0) k)))), ((q 1), .inl (cJ, 19, .inr (.inl (fun k => zL ((g 1) k))))), ((q 2), .inl (cJ, 10, .inr (.inl (fun k => zL ((g 2) k)))))] (fun u => ReaderOk u.1 ∧ (u.1 0 = i 0 ∧ u.1 3 = i 3)) (fun u => [(b, .inr (3, [.ref (q 0), .int (zI (u.1 0)), .ref (q 3), .ref (q 4), .int (zI (u.1 1)), .int (zI (u.1 2)), .ref (q 1), .ref (q 2), .int (zI (u.1 3)), .int (zI (u.1 4)), .int (zI (u.1 5)), .int (zI (u.1 6)), .long (zL (u.1 7)), .int (zI (u.1 8))])), ((q 0), .inl (cB, 900, .inl (fun k => zI ((g 0) k)))), ((q 1), .inl (cJ, 19, .inr (.inl (fun k => zL ((g 1) k))))), ((q 2), .inl (cJ, 10, .inr (.inl (fun k => zL ((g 2) k)))))]) := by
  refine bw_Cv.of (cc := cX3_advance) (maxL := 2) (by decide) rfl (Nat.le_of_ble_eq_true rfl) ?_
  intro p e s m below meth c A Q hx hb hml hts hown hin hK hA hS hP hD hE ret ls hl
  have F : CallFix p m c cX3_advance 2 s ([.ref b] : List Value).toArray bw_T RX3 := ⟨hx, hb, hml, hown, fun w h => hts w (List.mem_cons_of_mem _ h)⟩
  replace hl : lv_has ls 2 [(0, .ref b)] := hl
  refine lv_aload_n hx hb dX3_advance_0 rfl (lv_at hl 0 rfl) ?_
  refine lv_aload_n hx hb dX3_advance_1 rfl (lv_at hl 0 rfl) ?_
  refine r_get F hK hP 0 11 rfl rfl in_X3 (by decide) k_277 rfl dX3_advance_2 ?_
  refine r_put F hK hP hD hS 0 10 rfl rfl in_X3 tyX3 tyX3_ok nmX3 (by decide) k_276 rfl rfl rfl (Nat.le_of_ble_eq_true rfl) dX3_advance_5 (w1 := [(b, .inr (3, [.ref (q 0), .int (zI (i 0)), .ref (q 3), .ref (q 4), .int (zI (i 1)), .int (zI (i 2)), .ref (q 1), .ref (q 2), .int (zI (i 3)), .int (zI (i 4)), .int (zI (i 6)), .int (zI (i 6)), .long (zL (i 7)), .int (zI (i 8))])), ((q 0), .inl (cB, 900, .inl (fun k => zI ((g 0) k)))), ((q 1), .inl (cJ, 19, .inr (.inl (fun k => zL ((g 1) k))))), ((q 2), .inl (cJ, 10, .inr (.inl (fun k => zL ((g 2) k)))))]) rfl (fun H locs hP hD hS => ?_)
  obtain ⟨i1, e_i1⟩ : ∃ i1 : Nat → Int, i1 = fun k => [(i 0), (i 1), (i 2), (i 3), (i 4), (i 6), (i 6), (i 7), (i 8)].getD k 0 := ⟨_, rfl⟩
  have e_i1_0 : i1 0 = (i 0) := by rw [e_i1]; rfl
  have e_i1_1 : i1 1 = (i 1) := by rw [e_i1]; rfl
  have e_i1_2 : i1 2 = (i 2) := by rw [e_i1]; rfl
  have e_i1_3 : i1 3 = (i 3) := by rw [e_i1]; rfl
  have e_i1_4 : i1 4 = (i 4) := by rw [e_i1]; rfl
  have e_i1_5 : i1 5 = (i 6) := by rw [e_i1]; rfl
  have e_i1_6 : i1 6 = (i 6) := by rw [e_i1]; rfl
  have e_i1_7 : i1 7 = (i 7) := by rw [e_i1]; rfl
  have e_i1_8 : i1 8 = (i 8) := by rw [e_i1]; rfl
  have hO2 : ReaderOk i1 := by refine ⟨?_, ?_, ?_, ?_, ?_, ?_⟩ <;> omega
  have hf3 := hO2
  have hP : va_P G vwCl [(b, .inr (3, [.ref (q 0), .int (zI (i1 0)), .ref (q 3), .ref (q 4), .int (zI (i1 1)), .int (zI (i1 2)), .ref (q 1), .ref (q 2), .int (zI (i1 3)), .int (zI (i1 4)), .int (zI (i1 5)), .int (zI (i1 6)), .long (zL (i1 7)), .int (zI (i1 8))])), ((q 0), .inl (cB, 900, .inl (fun k => zI ((g 0) k)))), ((q 1), .inl (cJ, 19, .inr (.inl (fun k => zL ((g 1) k))))), ((q 2), .inl (cJ, 10, .inr (.inl (fun k => zL ((g 2) k)))))] H := by subst e_i1; exact hP
  have hD : va_D A [(b, .inr (3, [.ref (q 0), .int (zI (i1 0)), .ref (q 3), .ref (q 4), .int (zI (i1 1)), .int (zI (i1 2)), .ref (q 1), .ref (q 2), .int (zI (i1 3)), .int (zI (i1 4)), .int (zI (i1 5)), .int (zI (i1 6)), .long (zL (i1 7)), .int (zI (i1 8))])), ((q 0), .inl (cB, 900, .inl (fun k => zI ((g 0) k)))), ((q 1), .inl (cJ, 19, .inr (.inl (fun k => zL ((g 1) k))))), ((q 2), .inl (cJ, 10, .inr (.inl (fun k => zL ((g 2) k)))))] := by subst e_i1; exact hD
  refine W.widen (k := 0) (n := 0) (Nat.le_of_ble_eq_true rfl) (Nat.le_of_ble_eq_true rfl) ?_
  refine (?_ : ∀ (n9_1 : Nat) (ii : Nat → Int) (H : Heap) (locs : List Loc), (ii 0 = i 0 ∧ ii 3 = i 3) → (901 - ii 5 : Int).toNat < n9_1 → (ReaderOk ii) → va_P G vwCl [(b, .inr (3, [.ref (q 0), .int (zI (ii 0)), .ref (q 3), .ref (q 4), .int (zI (ii 1)), .int (zI (ii 2)), .ref (q 1), .ref (q 2), .int (zI (ii 3)), .int (zI (ii 4)), .int (zI (ii 5)), .int (zI (ii 6)), .long (zL (ii 7)), .int (zI (ii 8))])), ((q 0), .inl (cB, 900, .inl (fun k => zI ((g 0) k)))), ((q 1), .inl (cJ, 19, .inr (.inl (fun k => zL ((g 1) k))))), ((q 2), .inl (cJ, 10, .inr (.inl (fun k => zL ((g 2) k)))))] H → va_D A [(b, .inr (3, [.ref (q 0), .int (zI (ii 0)), .ref (q 3), .ref (q 4), .int (zI (ii 1)), .int (zI (ii 2)), .ref (q 1), .ref (q 2), .int (zI (ii 3)), .int (zI (ii 4)), .int (zI (ii 5)), .int (zI (ii 6)), .long (zL (ii 7)), .int (zI (ii 8))])), ((q 0), .inl (cB, 900, .inl (fun k => zI ((g 0) k)))), ((q 1), .inl (cJ, 19, .inr (.inl (fun k => zL ((g 1) k))))), ((q 2), .inl (cJ, 10, .inr (.inl (fun k => zL ((g 2) k)))))] → va_S A s.heap H locs → ∀ ls : Array Slot, lv_has ls 2 [(0, .ref b)] → W p l e rm_X3_advance s m ([.ref b] : List Value).toArray below meth c H locs 0 0 Q (F0 m 8 ls [])) ((901 - i1 5 : Int).toNat + 1) i1 _ _ (by omega) (by omega) hO2 hP hD hS ls hl
  clear hP hD hS hl ls
  intro n9_1
  induction n9_1 with
  | zero =>
    intro ii H locs hI hM
    exact absurd hM (by omega)
  | succ n9_1 ih1 =>
    intro ii H locs hI1 hM1 hG hP hD hS ls hl
    have hf4 := hG
    refine lv_aload_n hx hb dX3_advance_8 rfl (lv_at hl 0 rfl) ?_
    refine r_get F hK hP 0 10 rfl rfl in_X3 (by decide) k_276 rfl dX3_advance_9 ?_
    refine lv_aload_n hx hb dX3_advance_12 rfl (lv_at hl 0 rfl) ?_
    refine r_get F hK hP 0 8 rfl rfl in_X3 (by decide) k_274 rfl dX3_advance_13 ?_
    refine rz_icmp_ge (tgt := 46) F (by omega) (by omega) dX3_advance_16 (by decide) (fun h16_4 => ?_) (fun h16_4 => ?_)
    · refine lv_aload_n hx hb dX3_advance_46 rfl (lv_at hl 0 rfl) ?_
      refine lv_aload_n hx hb dX3_advance_47 rfl (lv_at hl 0 rfl) ?_
      refine r_get F hK hP 0 10 rfl rfl in_X3 (by decide) k_276 rfl dX3_advance_48 ?_
      refine r_put F hK hP hD hS 0 11 rfl rfl in_X3 tyX3 tyX3_ok nmX3 (by decide) k_277 rfl rfl rfl (Nat.le_of_ble_eq_true rfl) dX3_advance_51 (w1 := [(b, .inr (3, [.ref (q 0), .int (zI (ii 0)), .ref (q 3), .ref (q 4), .int (zI (ii 1)), .int (zI (ii 2)), .ref (q 1), .ref (q 2), .int (zI (ii 3)), .int (zI (ii 4)), .int (zI (ii 5)), .int (zI (ii 5)), .long (zL (ii 7)), .int (zI (ii 8))])), ((q 0), .inl (cB, 900, .inl (fun k => zI ((g 0) k)))), ((q 1), .inl (cJ, 19, .inr (.inl (fun k => zL ((g 1) k))))), ((q 2), .inl (cJ, 10, .inr (.inl (fun k => zL ((g 2) k)))))]) rfl (fun H locs hP hD hS => ?_)
      refine lv_aload_n hx hb dX3_advance_54 rfl (lv_at hl 0 rfl) ?_
      refine r_get F hK hP 0 10 rfl rfl in_X3 (by decide) k_276 rfl dX3_advance_55 ?_
      refine lv_aload_n hx hb dX3_advance_58 rfl (lv_at hl 0 rfl) ?_
      refine r_get F hK hP 0 8 rfl rfl in_X3 (by decide) k_274 rfl dX3_advance_59 ?_
      refine rz_icmp_lt (tgt := 72) F (by omega) (by omega) dX3_advance_62 (by decide) (fun h62_5 => ?_) (fun h62_5 => ?_)
      · refine lv_aload_n hx hb dX3_advance_72 rfl (lv_at hl 0 rfl) ?_
        refine r_get F hK hP 0 0 rfl rfl in_X3 (by decide) k_261 rfl dX3_advance_73 ?_
        refine lv_aload_n hx hb dX3_advance_76 rfl (lv_at hl 0 rfl) ?_
        refine r_get F hK hP 0 10 rfl rfl in_X3 (by decide) k_276 rfl dX3_advance_77 ?_
        refine rz_bald F hK hP 1 1 rfl rfl (by omega) (by omega) dX3_advance_80 (fun z7 h_z7 => ?_)
        refine lv_istore_n (lv' := [(1, .int (zI z7)), (0, .ref b)]) hx hb dX3_advance_81 rfl hl (by decide) rfl (fun ls hl => ?_)
        refine lv_iload_n hx hb dX3_advance_82 rfl (lv_at hl 0 rfl) ?_
        refine lv_bipush (v := zI 97) hx hb dX3_advance_83 (by decide) ?_
        refine rz_icmp_lt (tgt := 101) F (by omega) (by omega) dX3_advance_85 (by decide) (fun h85_7 => ?_) (fun h85_7 => ?_)
        · refine lv_iload_n hx hb dX3_advance_101 rfl (lv_at hl 0 rfl) ?_
          refine lv_bipush (v := zI 48) hx hb dX3_advance_102 (by decide) ?_
          refine rz_icmp_lt (tgt := 120) F (by omega) (by omega) dX3_advance_104 (by decide) (fun h104_8 => ?_) (fun h104_8 => ?_)
          · refine lv_aload_n hx hb dX3_advance_120 rfl (lv_at hl 1 rfl) ?_
            refine lv_iload_n hx hb dX3_advance_121 rfl (lv_at hl 0 rfl) ?_
            refine lv_bipush (v := zI 59) hx hb dX3_advance_122 (by decide) ?_
            refine rz_icmp_ne (tgt := 132) F (by omega) (by omega) dX3_advance_124 (by decide) (fun h124_9 => ?_) (fun h124_9 => ?_)
            · refine lv_iload_n hx hb dX3_advance_132 rfl (lv_at hl 0 rfl) ?_
              refine lv_bipush (v := zI 44) hx hb dX3_advance_133 (by decide) ?_
              refine rz_icmp_ne (tgt := 143) F (by omega) (by omega) dX3_advance_135 (by decide) (fun h135_10 => ?_) (fun h135_10 => ?_)
              · refine lv_bipush (v := zI 23) hx hb dX3_advance_143 (by decide) ?_
                refine r_put F hK hP hD hS 0 9 rfl rfl in_X3 tyX3 tyX3_ok nmX3 (by decide) k_275 rfl rfl rfl (Nat.le_of_ble_eq_true rfl) dX3_advance_145 (w1 := [(b, .inr (3, [.ref (q 0), .int (zI (ii 0)), .ref (q 3), .ref (q 4), .int (zI (ii 1)), .int (zI (ii 2)), .ref (q 1), .ref (q 2), .int (zI (ii 3)), .int (zI 23), .int (zI (ii 5)), .int (zI (ii 5)), .long (zL (ii 7)), .int (zI (ii 8))])), ((q 0), .inl (cB, 900, .inl (fun k => zI ((g 0) k)))), ((q 1), .inl (cJ, 19, .inr (.inl (fun k => zL ((g 1) k))))), ((q 2), .inl (cJ, 10, .inr (.inl (fun k => zL ((g 2) k)))))]) rfl (fun H locs hP hD hS => ?_)
                refine lv_aload_n hx hb dX3_advance_148 rfl (lv_at hl 1 rfl) ?_
                refine lv_dup hx hb dX3_advance_149 rfl ?_
                refine r_get F hK hP 0 11 rfl rfl in_X3 (by decide) k_277 rfl dX3_advance_150 ?_
                refine lv_iconst (v := zI 1) hx hb dX3_advance_153 rfl ?_
                refine r_iadd (v := zI ((ii 5) + 1)) F dX3_advance_154 (zI_add _ _) ?_
                refine r_put F hK hP hD hS 0 11 rfl rfl in_X3 tyX3 tyX3_ok nmX3 (by decide) k_277 rfl rfl rfl (Nat.le_of_ble_eq_true rfl) dX3_advance_155 (w1 := [(b, .inr (3, [.ref (q 0), .int (zI (ii 0)), .ref (q 3), .ref (q 4), .int (zI (ii 1)), .int (zI (ii 2)), .ref (q 1), .ref (q 2), .int (zI (ii 3)), .int (zI 23), .int (zI (ii 5)), .int (zI ((ii 5) + 1)), .long (zL (ii 7)), .int (zI (ii 8))])), ((q 0), .inl (cB, 900, .inl (fun k => zI ((g 0) k)))), ((q 1), .inl (cJ, 19, .inr (.inl (fun k => zL ((g 1) k))))), ((q 2), .inl (cJ, 10, .inr (.inl (fun k => zL ((g 2) k)))))]) rfl (fun H locs hP hD hS => ?_)
                obtain ⟨i12, e_i12⟩ : ∃ i12 : Nat → Int, i12 = fun k => [(ii 0), (ii 1), (ii 2), (ii 3), 23, (ii 5), ((ii 5) + 1), (ii 7), (ii 8)].getD k 0 := ⟨_, rfl⟩
                have e_i12_0 : i12 0 = (ii 0) := by rw [e_i12]; rfl
                have e_i12_1 : i12 1 = (ii 1) := by rw [e_i12]; rfl
                have e_i12_2 : i12 2 = (ii 2) := by rw [e_i12]; rfl
                have e_i12_3 : i12 3 = (ii 3) := by rw [e_i12]; rfl
                have e_i12_4 : i12 4 = 23 := by rw [e_i12]; rfl
                have e_i12_5 : i12 5 = (ii 5) := by rw [e_i12]; rfl
                have e_i12_6 : i12 6 = ((ii 5) + 1) := by rw [e_i12]; rfl
                have e_i12_7 : i12 7 = (ii 7) := by rw [e_i12]; rfl
                have e_i12_8 : i12 8 = (ii 8) := by rw [e_i12]; rfl
                have hO13 : ReaderOk i12 := by refine ⟨?_, ?_, ?_, ?_, ?_, ?_⟩ <;> omega
                have hf14 := hO13
                have hP : va_P G vwCl [(b, .inr (3, [.ref (q 0), .int (zI (i12 0)), .ref (q 3), .ref (q 4), .int (zI (i12 1)), .int (zI (i12 2)), .ref (q 1), .ref (q 2), .int (zI (i12 3)), .int (zI (i12 4)), .int (zI (i12 5)), .int (zI (i12 6)), .long (zL (i12 7)), .int (zI (i12 8))])), ((q 0), .inl (cB, 900, .inl (fun k => zI ((g 0) k)))), ((q 1), .inl (cJ, 19, .inr (.inl (fun k => zL ((g 1) k))))), ((q 2), .inl (cJ, 10, .inr (.inl (fun k => zL ((g 2) k)))))] H := by subst e_i12; exact hP
                have hD : va_D A [(b, .inr (3, [.ref (q 0), .int (zI (i12 0)), .ref (q 3), .ref (q 4), .int (zI (i12 1)), .int (zI (i12 2)), .ref (q 1), .ref (q 2), .int (zI (i12 3)), .int (zI (i12 4)), .int (zI (i12 5)), .int (zI (i12 6)), .long (zL (i12 7)), .int (zI (i12 8))])), ((q 0), .inl (cB, 900, .inl (fun k => zI ((g 0) k)))), ((q 1), .inl (cJ, 19, .inr (.inl (fun k => zL ((g 1) k))))), ((q 2), .inl (cJ, 10, .inr (.inl (fun k => zL ((g 2) k)))))] := by subst e_i12; exact hD
                exact ret (i12, fun _ _ => 0) _ _ _ _ _ _ ⟨hO13, by dsimp only; omega⟩ (bw_subP (isC := [0, 1, 2, 3]) hP rfl) (hD.sub [0, 1, 2, 3] (by decide) rfl) hS (Nat.le_of_ble_eq_true rfl) (Nat.le_of_ble_eq_true rfl) dX3_advance_158
              · refine lv_bipush (v := zI 22) hx hb dX3_advance_138 (by decide) ?_
                refine lv_goto (tgt := 145) hx hb dX3_advance_140 (by decide) ?_
                refine r_put F hK hP hD hS 0 9 rfl rfl in_X3 tyX3 tyX3_ok nmX3 (by decide) k_275 rfl rfl rfl (Nat.le_of_ble_eq_true rfl) dX3_advance_145 (w1 := [(b, .inr (3, [.ref (q 0), .int (zI (ii 0)), .ref (q 3), .ref (q 4), .int (zI (ii 1)), .int (zI (ii 2)), .ref (q 1), .ref (q 2), .int (zI (ii 3)), .int (zI 22), .int (zI (ii 5)), .int (zI (ii 5)), .long (zL (ii 7)), .int (zI (ii 8))])), ((q 0), .inl (cB, 900, .inl (fun k => zI ((g 0) k)))), ((q 1), .inl (cJ, 19, .inr (.inl (fun k => zL ((g 1) k))))), ((q 2), .inl (cJ, 10, .inr (.inl (fun k => zL ((g 2) k)))))]) rfl (fun H locs hP hD hS => ?_)
                refine lv_aload_n hx hb dX3_advance_148 rfl (lv_at hl 1 rfl) ?_
                refine lv_dup hx hb dX3_advance_149 rfl ?_
                refine r_get F hK hP 0 11 rfl rfl in_X3 (by decide) k_277 rfl dX3_advance_150 ?_
                refine lv_iconst (v := zI 1) hx hb dX3_advance_153 rfl ?_
                refine r_iadd (v := zI ((ii 5) + 1)) F dX3_advance_154 (zI_add _ _) ?_
                refine r_put F hK hP hD hS 0 11 rfl rfl in_X3 tyX3 tyX3_ok nmX3 (by decide) k_277 rfl rfl rfl (Nat.le_of_ble_eq_true rfl) dX3_advance_155 (w1 := [(b, .inr (3, [.ref (q 0), .int (zI (ii 0)), .ref (q 3), .ref (q 4), .int (zI (ii 1)), .int (zI (ii 2)), .ref (q 1), .ref (q 2), .int (zI (ii 3)), .int (zI 22), .int (zI (ii 5)), .int (zI ((ii 5) + 1)), .long (zL (ii 7)), .int (zI (ii 8))])), ((q 0), .inl (cB, 900, .inl (fun k => zI ((g 0) k)))), ((q 1), .inl (cJ, 19, .inr (.inl (fun k => zL ((g 1) k))))), ((q 2), .inl (cJ, 10, .inr (.inl (fun k => zL ((g 2) k)))))]) rfl (fun H locs hP hD hS => ?_)
                obtain ⟨i15, e_i15⟩ : ∃ i15 : Nat → Int, i15 = fun k => [(ii 0), (ii 1), (ii 2), (ii 3), 22, (ii 5), ((ii 5) + 1), (ii 7), (ii 8)].getD k 0 := ⟨_, rfl⟩
                have e_i15_0 : i15 0 = (ii 0) := by rw [e_i15]; rfl
                have e_i15_1 : i15 1 = (ii 1) := by rw [e_i15]; rfl
                have e_i15_2 : i15 2 = (ii 2) := by rw [e_i15]; rfl
                have e_i15_3 : i15 3 = (ii 3) := by rw [e_i15]; rfl
                have e_i15_4 : i15 4 = 22 := by rw [e_i15]; rfl
                have e_i15_5 : i15 5 = (ii 5) := by rw [e_i15]; rfl
                have e_i15_6 : i15 6 = ((ii 5) + 1) := by rw [e_i15]; rfl
                have e_i15_7 : i15 7 = (ii 7) := by rw [e_i15]; rfl
                have e_i15_8 : i15 8 = (ii 8) := by rw [e_i15]; rfl
                have hO16 : ReaderOk i15 := by refine ⟨?_, ?_, ?_, ?_, ?_, ?_⟩ <;> omega
                have hf17 := hO16
                have hP : va_P G vwCl [(b, .inr (3, [.ref (q 0), .int (zI (i15 0)), .ref (q 3), .ref (q 4), .int (zI (i15 1)), .int (zI (i15 2)), .ref (q 1), .ref (q 2), .int (zI (i15 3)), .int (zI (i15 4)), .int (zI (i15 5)), .int (zI (i15 6)), .long (zL (i15 7)), .int (zI (i15 8))])), ((q 0), .inl (cB, 900, .inl (fun k => zI ((g 0) k)))), ((q 1), .inl (cJ, 19, .inr (.inl (fun k => zL ((g 1) k))))), ((q 2), .inl (cJ, 10, .inr (.inl (fun k => zL ((g 2) k)))))] H := by subst e_i15; exact hP
                have hD : va_D A [(b, .inr (3, [.ref (q 0), .int (zI (i15 0)), .ref (q 3), .ref (q 4), .int (zI (i15 1)), .int (zI (i15 2)), .ref (q 1), .ref (q 2), .int (zI (i15 3)), .int (zI (i15 4)), .int (zI (i15 5)), .int (zI (i15 6)), .long (zL (i15 7)), .int (zI (i15 8))])), ((q 0), .inl (cB, 900, .inl (fun k => zI ((g 0) k)))), ((q 1), .inl (cJ, 19, .inr (.inl (fun k => zL ((g 1) k))))), ((q 2), .inl (cJ, 10, .inr (.inl (fun k => zL ((g 2) k)))))] := by subst e_i15; exact hD
                exact ret (i15, fun _ _ => 0) _ _ _ _ _ _ ⟨hO16, by dsimp only; omega⟩ (bw_subP (isC := [0, 1, 2, 3]) hP rfl) (hD.sub [0, 1, 2, 3] (by decide) rfl) hS (Nat.le_of_ble_eq_true rfl) (Nat.le_of_ble_eq_true rfl) dX3_advance_158
            · refine lv_bipush (v := zI 21) hx hb dX3_advance_127 (by decide) ?_
              refine lv_goto (tgt := 145) hx hb dX3_advance_129 (by decide) ?_
              refine r_put F hK hP hD hS 0 9 rfl rfl in_X3 tyX3 tyX3_ok nmX3 (by decide) k_275 rfl rfl rfl (Nat.le_of_ble_eq_true rfl) dX3_advance_145 (w1 := [(b, .inr (3, [.ref (q 0), .int (zI (ii 0)), .ref (q 3), .ref (q 4), .int (zI (ii 1)), .int (zI (ii 2)), .ref (q 1), .ref (q 2), .int (zI (ii 3)), .int (zI 21), .int (zI (ii 5)), .int (zI (ii 5)), .long (zL (ii 7)), .int (zI (ii 8))])), ((q 0), .inl (cB, 900, .inl (fun k => zI ((g 0) k)))), ((q 1), .inl (cJ, 19, .inr (.inl (fun k => zL ((g 1) k))))), ((q 2), .inl (cJ, 10, .inr (.inl (fun k => zL ((g 2) k)))))]) rfl (fun H locs hP hD hS => ?_)
              refine lv_aload_n hx hb dX3_advance_148 rfl (lv_at hl 1 rfl) ?_
              refine lv_dup hx hb dX3_advance_149 rfl ?_
              refine r_get F hK hP 0 11 rfl rfl in_X3 (by decide) k_277 rfl dX3_advance_150 ?_
              refine lv_iconst (v := zI 1) hx hb dX3_advance_153 rfl ?_
              refine r_iadd (v := zI ((ii 5) + 1)) F dX3_advance_154 (zI_add _ _) ?_
              refine r_put F hK hP hD hS 0 11 rfl rfl in_X3 tyX3 tyX3_ok nmX3 (by decide) k_277 rfl rfl rfl (Nat.le_of_ble_eq_true rfl) dX3_advance_155 (w1 := [(b, .inr (3, [.ref (q 0), .int (zI (ii 0)), .ref (q 3), .ref (q 4), .int (zI (ii 1)), .int (zI (ii 2)), .ref (q 1), .ref (q 2), .int (zI (ii 3)), .int (zI 21), .int (zI (ii 5)), .int (zI ((ii 5) + 1)), .long (zL (ii 7)), .int (zI (ii 8))])), ((q 0), .inl (cB, 900, .inl (fun k => zI ((g 0) k)))), ((q 1), .inl (cJ, 19, .inr (.inl (fun k => zL ((g 1) k))))), ((q 2), .inl (cJ, 10, .inr (.inl (fun k => zL ((g 2) k)))))]) rfl (fun H locs hP hD hS => ?_)
              obtain ⟨i18, e_i18⟩ : ∃ i18 : Nat → Int, i18 = fun k => [(ii 0), (ii 1), (ii 2), (ii 3), 21, (ii 5), ((ii 5) + 1), (ii 7), (ii 8)].getD k 0 := ⟨_, rfl⟩
              have e_i18_0 : i18 0 = (ii 0) := by rw [e_i18]; rfl
              have e_i18_1 : i18 1 = (ii 1) := by rw [e_i18]; rfl
              have e_i18_2 : i18 2 = (ii 2) := by rw [e_i18]; rfl
              have e_i18_3 : i18 3 = (ii 3) := by rw [e_i18]; rfl
              have e_i18_4 : i18 4 = 21 := by rw [e_i18]; rfl
              have e_i18_5 : i18 5 = (ii 5) := by rw [e_i18]; rfl
              have e_i18_6 : i18 6 = ((ii 5) + 1) := by rw [e_i18]; rfl
              have e_i18_7 : i18 7 = (ii 7) := by rw [e_i18]; rfl
              have e_i18_8 : i18 8 = (ii 8) := by rw [e_i18]; rfl
              have hO19 : ReaderOk i18 := by refine ⟨?_, ?_, ?_, ?_, ?_, ?_⟩ <;> omega
              have hf20 := hO19
              have hP : va_P G vwCl [(b, .inr (3, [.ref (q 0), .int (zI (i18 0)), .ref (q 3), .ref (q 4), .int (zI (i18 1)), .int (zI (i18 2)), .ref (q 1), .ref (q 2), .int (zI (i18 3)), .int (zI (i18 4)), .int (zI (i18 5)), .int (zI (i18 6)), .long (zL (i18 7)), .int (zI (i18 8))])), ((q 0), .inl (cB, 900, .inl (fun k => zI ((g 0) k)))), ((q 1), .inl (cJ, 19, .inr (.inl (fun k => zL ((g 1) k))))), ((q 2), .inl (cJ, 10, .inr (.inl (fun k => zL ((g 2) k)))))] H := by subst e_i18; exact hP
              have hD : va_D A [(b, .inr (3, [.ref (q 0), .int (zI (i18 0)), .ref (q 3), .ref (q 4), .int (zI (i18 1)), .int (zI (i18 2)), .ref (q 1), .ref (q 2), .int (zI (i18 3)), .int (zI (i18 4)), .int (zI (i18 5)), .int (zI (i18 6)), .long (zL (i18 7)), .int (zI (i18 8))])), ((q 0), .inl (cB, 900, .inl (fun k => zI ((g 0) k)))), ((q 1), .inl (cJ, 19, .inr (.inl (fun k => zL ((g 1) k))))), ((q 2), .inl (cJ, 10, .inr (.inl (fun k => zL ((g 2) k)))))] := by subst e_i18; exact hD
              exact ret (i18, fun _ _ => 0) _ _ _ _ _ _ ⟨hO19, by dsimp only; omega⟩ (bw_subP (isC := [0, 1, 2, 3]) hP rfl) (hD.sub [0, 1, 2, 3] (by decide) rfl) hS (Nat.le_of_ble_eq_true rfl) (Nat.le_of_ble_eq_true rfl) dX3_advance_158
          · refine lv_iload_n hx hb dX3_advance_107 rfl (lv_at hl 0 rfl) ?_
            refine lv_bipush (v := zI 57) hx hb dX3_advance_108 (by decide) ?_
            refine rz_icmp_gt (tgt := 120) F (by omega) (by omega) dX3_advance_110 (by decide) (fun h110_20 => ?_) (fun h110_20 => ?_)
            · refine lv_aload_n hx hb dX3_advance_120 rfl (lv_at hl 1 rfl) ?_
              refine lv_iload_n hx hb dX3_advance_121 rfl (lv_at hl 0 rfl) ?_
              refine lv_bipush (v := zI 59) hx hb dX3_advance_122 (by decide) ?_
              refine rz_icmp_ne (tgt := 132) F (by omega) (by omega) dX3_advance_124 (by decide) (fun h124_21 => ?_) (fun h124_21 => ?_)
              · refine lv_iload_n hx hb dX3_advance_132 rfl (lv_at hl 0 rfl) ?_
                refine lv_bipush (v := zI 44) hx hb dX3_advance_133 (by decide) ?_
                refine rz_icmp_ne (tgt := 143) F (by omega) (by omega) dX3_advance_135 (by decide) (fun h135_22 => ?_) (fun h135_22 => ?_)
                · refine lv_bipush (v := zI 23) hx hb dX3_advance_143 (by decide) ?_
                  refine r_put F hK hP hD hS 0 9 rfl rfl in_X3 tyX3 tyX3_ok nmX3 (by decide) k_275 rfl rfl rfl (Nat.le_of_ble_eq_true rfl) dX3_advance_145 (w1 := [(b, .inr (3, [.ref (q 0), .int (zI (ii 0)), .ref (q 3), .ref (q 4), .int (zI (ii 1)), .int (zI (ii 2)), .ref (q 1), .ref (q 2), .int (zI (ii 3)), .int (zI 23), .int (zI (ii 5)), .int (zI (ii 5)), .long (zL (ii 7)), .int (zI (ii 8))])), ((q 0), .inl (cB, 900, .inl (fun k => zI ((g 0) k)))), ((q 1), .inl (cJ, 19, .inr (.inl (fun k => zL ((g 1) k))))), ((q 2), .inl (cJ, 10, .inr (.inl (fun k => zL ((g 2) k)))))]) rfl (fun H locs hP hD hS => ?_)
                  refine lv_aload_n hx hb dX3_advance_148 rfl (lv_at hl 1 rfl) ?_
                  refine lv_dup hx hb dX3_advance_149 rfl ?_
                  refine r_get F hK hP 0 11 rfl rfl in_X3 (by decide) k_277 rfl dX3_advance_150 ?_
                  refine lv_iconst (v := zI 1) hx hb dX3_advance_153 rfl ?_
                  refine r_iadd (v := zI ((ii 5) + 1)) F dX3_advance_154 (zI_add _ _) ?_
                  refine r_put F hK hP hD hS 0 11 rfl rfl in_X3 tyX3 tyX3_ok nmX3 (by decide) k_277 rfl rfl rfl (Nat.le_of_ble_eq_true rfl) dX3_advance_155 (w1 := [(b, .inr (3, [.ref (q 0), .int (zI (ii 0)), .ref (q 3), .ref (q 4), .int (zI (ii 1)), .int (zI (ii 2)), .ref (q 1), .ref (q 2), .int (zI (ii 3)), .int (zI 23), .int (zI (ii 5)), .int (zI ((ii 5) + 1)), .long (zL (ii 7)), .int (zI (ii 8))])), ((q 0), .inl (cB, 900, .inl (fun k => zI ((g 0) k)))), ((q 1), .inl (cJ, 19, .inr (.inl (fun k => zL ((g 1) k))))), ((q 2), .inl (cJ, 10, .inr (.inl (fun k => zL ((g 2) k)))))]) rfl (fun H locs hP hD hS => ?_)
                  obtain ⟨i24, e_i24⟩ : ∃ i24 : Nat → Int, i24 = fun k => [(ii 0), (ii 1), (ii 2), (ii 3), 23, (ii 5), ((ii 5) + 1), (ii 7), (ii 8)].getD k 0 := ⟨_, rfl⟩
                  have e_i24_0 : i24 0 = (ii 0) := by rw [e_i24]; rfl
                  have e_i24_1 : i24 1 = (ii 1) := by rw [e_i24]; rfl
                  have e_i24_2 : i24 2 = (ii 2) := by rw [e_i24]; rfl
                  have e_i24_3 : i24 3 = (ii 3) := by rw [e_i24]; rfl
                  have e_i24_4 : i24 4 = 23 := by rw [e_i24]; rfl
                  have e_i24_5 : i24 5 = (ii 5) := by rw [e_i24]; rfl
                  have e_i24_6 : i24 6 = ((ii 5) + 1) := by rw [e_i24]; rfl
                  have e_i24_7 : i24 7 = (ii 7) := by rw [e_i24]; rfl
                  have e_i24_8 : i24 8 = (ii 8) := by rw [e_i24]; rfl
                  have hO25 : ReaderOk i24 := by refine ⟨?_, ?_, ?_, ?_, ?_, ?_⟩ <;> omega
                  have hf26 := hO25
                  have hP : va_P G vwCl [(b, .inr (3, [.ref (q 0), .int (zI (i24 0)), .ref (q 3), .ref (q 4), .int (zI (i24 1)), .int (zI (i24 2)), .ref (q 1), .ref (q 2), .int (zI (i24 3)), .int (zI (i24 4)), .int (zI (i24 5)), .int (zI (i24 6)), .long (zL (i24 7)), .int (zI (i24 8))])), ((q 0), .inl (cB, 900, .inl (fun k => zI ((g 0) k)))), ((q 1), .inl (cJ, 19, .inr (.inl (fun k => zL ((g 1) k))))), ((q 2), .inl (cJ, 10, .inr (.inl (fun k => zL ((g 2) k)))))] H := by subst e_i24; exact hP
                  have hD : va_D A [(b, .inr (3, [.ref (q 0), .int (zI (i24 0)), .ref (q 3), .ref (q 4), .int (zI (i24 1)), .int (zI (i24 2)), .ref (q 1), .ref (q 2), .int (zI (i24 3)), .int (zI (i24 4)), .int (zI (i24 5)), .int (zI (i24 6)), .long (zL (i24 7)), .int (zI (i24 8))])), ((q 0), .inl (cB, 900, .inl (fun k => zI ((g 0) k)))), ((q 1), .inl (cJ, 19, .inr (.inl (fun k => zL ((g 1) k))))), ((q 2), .inl (cJ, 10, .inr (.inl (fun k => zL ((g 2) k)))))] := by subst e_i24; exact hD
                  exact ret (i24, fun _ _ => 0) _ _ _ _ _ _ ⟨hO25, by dsimp only; omega⟩ (bw_subP (isC := [0, 1, 2, 3]) hP rfl) (hD.sub [0, 1, 2, 3] (by decide) rfl) hS (Nat.le_of_ble_eq_true rfl) (Nat.le_of_ble_eq_true rfl) dX3_advance_158
                · refine lv_bipush (v := zI 22) hx hb dX3_advance_138 (by decide) ?_
                  refine lv_goto (tgt := 145) hx hb dX3_advance_140 (by decide) ?_
                  refine r_put F hK hP hD hS 0 9 rfl rfl in_X3 tyX3 tyX3_ok nmX3 (by decide) k_275 rfl rfl rfl (Nat.le_of_ble_eq_true rfl) dX3_advance_145 (w1 := [(b, .inr (3, [.ref (q 0), .int (zI (ii 0)), .ref (q 3), .ref (q 4), .int (zI (ii 1)), .int (zI (ii 2)), .ref (q 1), .ref (q 2), .int (zI (ii 3)), .int (zI 22), .int (zI (ii 5)), .int (zI (ii 5)), .long (zL (ii 7)), .int (zI (ii 8))])), ((q 0), .inl (cB, 900, .inl (fun k => zI ((g 0) k)))), ((q 1), .inl (cJ, 19, .inr (.inl (fun k => zL ((g 1) k))))), ((q 2), .inl (cJ, 10, .inr (.inl (fun k => zL ((g 2) k)))))]) rfl (fun H locs hP hD hS => ?_)
                  refine lv_aload_n hx hb dX3_advance_148 rfl (lv_at hl 1 rfl) ?_
                  refine lv_dup hx hb dX3_advance_149 rfl ?_
                  refine r_get F hK hP 0 11 rfl rfl in_X3 (by decide) k_277 rfl dX3_advance_150 ?_
                  refine lv_iconst (v := zI 1) hx hb dX3_advance_153 rfl ?_
                  refine r_iadd (v := zI ((ii 5) + 1)) F dX3_advance_154 (zI_add _ _) ?_
                  refine r_put F hK hP hD hS 0 11 rfl rfl in_X3 tyX3 tyX3_ok nmX3 (by decide) k_277 rfl rfl rfl (Nat.le_of_ble_eq_true rfl) dX3_advance_155 (w1 := [(b, .inr (3, [.ref (q 0), .int (zI (ii 0)), .ref (q 3), .ref (q 4), .int (zI (ii 1)), .int (zI (ii 2)), .ref (q 1), .ref (q 2), .int (zI (ii 3)), .int (zI 22), .int (zI (ii 5)), .int (zI ((ii 5) + 1)), .long (zL (ii 7)), .int (zI (ii 8))])), ((q 0), .inl (cB, 900, .inl (fun k => zI ((g 0) k)))), ((q 1), .inl (cJ, 19, .inr (.inl (fun k => zL ((g 1) k))))), ((q 2), .inl (cJ, 10, .inr (.inl (fun k => zL ((g 2) k)))))]) rfl (fun H locs hP hD hS => ?_)
                  obtain ⟨i27, e_i27⟩ : ∃ i27 : Nat → Int, i27 = fun k => [(ii 0), (ii 1), (ii 2), (ii 3), 22, (ii 5), ((ii 5) + 1), (ii 7), (ii 8)].getD k 0 := ⟨_, rfl⟩
                  have e_i27_0 : i27 0 = (ii 0) := by rw [e_i27]; rfl
                  have e_i27_1 : i27 1 = (ii 1) := by rw [e_i27]; rfl
                  have e_i27_2 : i27 2 = (ii 2) := by rw [e_i27]; rfl
                  have e_i27_3 : i27 3 = (ii 3) := by rw [e_i27]; rfl
                  have e_i27_4 : i27 4 = 22 := by rw [e_i27]; rfl
                  have e_i27_5 : i27 5 = (ii 5) := by rw [e_i27]; rfl
                  have e_i27_6 : i27 6 = ((ii 5) + 1) := by rw [e_i27]; rfl
                  have e_i27_7 : i27 7 = (ii 7) := by rw [e_i27]; rfl
                  have e_i27_8 : i27 8 = (ii 8) := by rw [e_i27]; rfl
                  have hO28 : ReaderOk i27 := by refine ⟨?_, ?_, ?_, ?_, ?_, ?_⟩ <;> omega
                  have hf29 := hO28
                  have hP : va_P G vwCl [(b, .inr (3, [.ref (q 0), .int (zI (i27 0)), .ref (q 3), .ref (q 4), .int (zI (i27 1)), .int (zI (i27 2)), .ref (q 1), .ref (q 2), .int (zI (i27 3)), .int (zI (i27 4)), .int (zI (i27 5)), .int (zI (i27 6)), .long (zL (i27 7)), .int (zI (i27 8))])), ((q 0), .inl (cB, 900, .inl (fun k => zI ((g 0) k)))), ((q 1), .inl (cJ, 19, .inr (.inl (fun k => zL ((g 1) k))))), ((q 2), .inl (cJ, 10, .inr (.inl (fun k => zL ((g 2) k)))))] H := by subst e_i27; exact hP
                  have hD : va_D A [(b, .inr (3, [.ref (q 0), .int (zI (i27 0)), .ref (q 3), .ref (q 4), .int (zI (i27 1)), .int (zI (i27 2)), .ref (q 1), .ref (q 2), .int (zI (i27 3)), .int (zI (i27 4)), .int (zI (i27 5)), .int (zI (i27 6)), .long (zL (i27 7)), .int (zI (i27 8))])), ((q 0), .inl (cB, 900, .inl (fun k => zI ((g 0) k)))), ((q 1), .inl (cJ, 19, .inr (.inl (fun k => zL ((g 1) k))))), ((q 2), .inl (cJ, 10, .inr (.inl (fun k => zL ((g 2) k)))))] := by subst e_i27; exact hD
                  exact ret (i27, fun _ _ => 0) _ _ _ _ _ _ ⟨hO28, by dsimp only; omega⟩ (bw_subP (isC := [0, 1, 2, 3]) hP rfl) (hD.sub [0, 1, 2, 3] (by decide) rfl) hS (Nat.le_of_ble_eq_true rfl) (Nat.le_of_ble_eq_true rfl) dX3_advance_158
              · refine lv_bipush (v := zI 21) hx hb dX3_advance_127 (by decide) ?_
                refine lv_goto (tgt := 145) hx hb dX3_advance_129 (by decide) ?_
                refine r_put F hK hP hD hS 0 9 rfl rfl in_X3 tyX3 tyX3_ok nmX3 (by decide) k_275 rfl rfl rfl (Nat.le_of_ble_eq_true rfl) dX3_advance_145 (w1 := [(b, .inr (3, [.ref (q 0), .int (zI (ii 0)), .ref (q 3), .ref (q 4), .int (zI (ii 1)), .int (zI (ii 2)), .ref (q 1), .ref (q 2), .int (zI (ii 3)), .int (zI 21), .int (zI (ii 5)), .int (zI (ii 5)), .long (zL (ii 7)), .int (zI (ii 8))])), ((q 0), .inl (cB, 900, .inl (fun k => zI ((g 0) k)))), ((q 1), .inl (cJ, 19, .inr (.inl (fun k => zL ((g 1) k))))), ((q 2), .inl (cJ, 10, .inr (.inl (fun k => zL ((g 2) k)))))]) rfl (fun H locs hP hD hS => ?_)
                refine lv_aload_n hx hb dX3_advance_148 rfl (lv_at hl 1 rfl) ?_
                refine lv_dup hx hb dX3_advance_149 rfl ?_
                refine r_get F hK hP 0 11 rfl rfl in_X3 (by decide) k_277 rfl dX3_advance_150 ?_
                refine lv_iconst (v := zI 1) hx hb dX3_advance_153 rfl ?_
                refine r_iadd (v := zI ((ii 5) + 1)) F dX3_advance_154 (zI_add _ _) ?_
                refine r_put F hK hP hD hS 0 11 rfl rfl in_X3 tyX3 tyX3_ok nmX3 (by decide) k_277 rfl rfl rfl (Nat.le_of_ble_eq_true rfl) dX3_advance_155 (w1 := [(b, .inr (3, [.ref (q 0), .int (zI (ii 0)), .ref (q 3), .ref (q 4), .int (zI (ii 1)), .int (zI (ii 2)), .ref (q 1), .ref (q 2), .int (zI (ii 3)), .int (zI 21), .int (zI (ii 5)), .int (zI ((ii 5) + 1)), .long (zL (ii 7)), .int (zI (ii 8))])), ((q 0), .inl (cB, 900, .inl (fun k => zI ((g 0) k)))), ((q 1), .inl (cJ, 19, .inr (.inl (fun k => zL ((g 1) k))))), ((q 2), .inl (cJ, 10, .inr (.inl (fun k => zL ((g 2) k)))))]) rfl (fun H locs hP hD hS => ?_)
                obtain ⟨i30, e_i30⟩ : ∃ i30 : Nat → Int, i30 = fun k => [(ii 0), (ii 1), (ii 2), (ii 3), 21, (ii 5), ((ii 5) + 1), (ii 7), (ii 8)].getD k 0 := ⟨_, rfl⟩
                have e_i30_0 : i30 0 = (ii 0) := by rw [e_i30]; rfl
                have e_i30_1 : i30 1 = (ii 1) := by rw [e_i30]; rfl
                have e_i30_2 : i30 2 = (ii 2) := by rw [e_i30]; rfl
                have e_i30_3 : i30 3 = (ii 3) := by rw [e_i30]; rfl
                have e_i30_4 : i30 4 = 21 := by rw [e_i30]; rfl
                have e_i30_5 : i30 5 = (ii 5) := by rw [e_i30]; rfl
                have e_i30_6 : i30 6 = ((ii 5) + 1) := by rw [e_i30]; rfl
                have e_i30_7 : i30 7 = (ii 7) := by rw [e_i30]; rfl
                have e_i30_8 : i30 8 = (ii 8) := by rw [e_i30]; rfl
                have hO31 : ReaderOk i30 := by refine ⟨?_, ?_, ?_, ?_, ?_, ?_⟩ <;> omega
                have hf32 := hO31
                have hP : va_P G vwCl [(b, .inr (3, [.ref (q 0), .int (zI (i30 0)), .ref (q 3), .ref (q 4), .int (zI (i30 1)), .int (zI (i30 2)), .ref (q 1), .ref (q 2), .int (zI (i30 3)), .int (zI (i30 4)), .int (zI (i30 5)), .int (zI (i30 6)), .long (zL (i30 7)), .int (zI (i30 8))])), ((q 0), .inl (cB, 900, .inl (fun k => zI ((g 0) k)))), ((q 1), .inl (cJ, 19, .inr (.inl (fun k => zL ((g 1) k))))), ((q 2), .inl (cJ, 10, .inr (.inl (fun k => zL ((g 2) k)))))] H := by subst e_i30; exact hP
                have hD : va_D A [(b, .inr (3, [.ref (q 0), .int (zI (i30 0)), .ref (q 3), .ref (q 4), .int (zI (i30 1)), .int (zI (i30 2)), .ref (q 1), .ref (q 2), .int (zI (i30 3)), .int (zI (i30 4)), .int (zI (i30 5)), .int (zI (i30 6)), .long (zL (i30 7)), .int (zI (i30 8))])), ((q 0), .inl (cB, 900, .inl (fun k => zI ((g 0) k)))), ((q 1), .inl (cJ, 19, .inr (.inl (fun k => zL ((g 1) k))))), ((q 2), .inl (cJ, 10, .inr (.inl (fun k => zL ((g 2) k)))))] := by subst e_i30; exact hD
                exact ret (i30, fun _ _ => 0) _ _ _ _ _ _ ⟨hO31, by dsimp only; omega⟩ (bw_subP (isC := [0, 1, 2, 3]) hP rfl) (hD.sub [0, 1, 2, 3] (by decide) rfl) hS (Nat.le_of_ble_eq_true rfl) (Nat.le_of_ble_eq_true rfl) dX3_advance_158
            · refine lv_aload_n hx hb dX3_advance_113 rfl (lv_at hl 1 rfl) ?_
              obtain ⟨i33, e_i33⟩ : ∃ i33 : Nat → Int, i33 = fun k => [(ii 0), (ii 1), (ii 2), (ii 3), (ii 4), (ii 5), (ii 5), (ii 7), (ii 8)].getD k 0 := ⟨_, rfl⟩
              have e_i33_0 : i33 0 = (ii 0) := by rw [e_i33]; rfl
              have e_i33_1 : i33 1 = (ii 1) := by rw [e_i33]; rfl
              have e_i33_2 : i33 2 = (ii 2) := by rw [e_i33]; rfl
              have e_i33_3 : i33 3 = (ii 3) := by rw [e_i33]; rfl
              have e_i33_4 : i33 4 = (ii 4) := by rw [e_i33]; rfl
              have e_i33_5 : i33 5 = (ii 5) := by rw [e_i33]; rfl
              have e_i33_6 : i33 6 = (ii 5) := by rw [e_i33]; rfl
              have e_i33_7 : i33 7 = (ii 7) := by rw [e_i33]; rfl
              have e_i33_8 : i33 8 = (ii 8) := by rw [e_i33]; rfl
              have hO34 : ReaderOk i33 := by refine ⟨?_, ?_, ?_, ?_, ?_, ?_⟩ <;> omega
              have hf35 := hO34
              have hP : va_P G vwCl [(b, .inr (3, [.ref (q 0), .int (zI (i33 0)), .ref (q 3), .ref (q 4), .int (zI (i33 1)), .int (zI (i33 2)), .ref (q 1), .ref (q 2), .int (zI (i33 3)), .int (zI (i33 4)), .int (zI (i33 5)), .int (zI (i33 6)), .long (zL (i33 7)), .int (zI (i33 8))])), ((q 0), .inl (cB, 900, .inl (fun k => zI ((g 0) k)))), ((q 1), .inl (cJ, 19, .inr (.inl (fun k => zL ((g 1) k))))), ((q 2), .inl (cJ, 10, .inr (.inl (fun k => zL ((g 2) k)))))] H := by subst e_i33; exact hP
              have hD : va_D A [(b, .inr (3, [.ref (q 0), .int (zI (i33 0)), .ref (q 3), .ref (q 4), .int (zI (i33 1)), .int (zI (i33 2)), .ref (q 1), .ref (q 2), .int (zI (i33 3)), .int (zI (i33 4)), .int (zI (i33 5)), .int (zI (i33 6)), .long (zL (i33 7)), .int (zI (i33 8))])), ((q 0), .inl (cB, 900, .inl (fun k => zI ((g 0) k)))), ((q 1), .inl (cJ, 19, .inr (.inl (fun k => zL ((g 1) k))))), ((q 2), .inl (cJ, 10, .inr (.inl (fun k => zL ((g 2) k)))))] := by subst e_i33; exact hD
              refine r_callVv (As := []) (rest := []) (wr := []) F hK hP hD hS hA hO hE (c_X3_lookAtWhole hO b q i33 g hO34) k_567 kv_X3_lookAtWhole 0 rfl (by decide +kernel) ⟨Nat.le_of_ble_eq_true rfl, Nat.le_of_ble_eq_true rfl⟩ [0, 1, 2, 3] [] rfl rfl (by decide) (by decide) (by decide) 0 3 rfl rfl rfl hl.1 rfl (Nat.le_of_ble_eq_true rfl) dX3_advance_114 ⟨Nat.le_of_ble_eq_true rfl, Nat.le_of_ble_eq_true rfl⟩ (w1 := fun u36 => [(b, .inr (3, [.ref (q 0), .int (zI (u36.1 0)), .ref (q 3), .ref (q 4), .int (zI (u36.1 1)), .int (zI (u36.1 2)), .ref (q 1), .ref (q 2), .int (zI (u36.1 3)), .int (zI (u36.1 4)), .int (zI (u36.1 5)), .int (zI (u36.1 6)), .long (zL (u36.1 7)), .int (zI (u36.1 8))])), ((q 0), .inl (cB, 900, .inl (fun k => zI ((g 0) k)))), ((q 1), .inl (cJ, 19, .inr (.inl (fun k => zL ((g 1) k))))), ((q 2), .inl (cJ, 10, .inr (.inl (fun k => zL ((g 2) k)))))]) (fun _ => rfl) (fun  u36 H locs hp37 hP hD hS => ?_)
              have hx38 := hp37.2
              have hf39 := hp37.1
              refine lv_goto (tgt := 158) hx hb dX3_advance_117 (by decide) ?_
              exact ret (u36.1, fun _ _ => 0) _ _ _ _ _ _ ⟨hp37.1, by dsimp only; omega⟩ (bw_subP (isC := [0, 1, 2, 3]) hP rfl) (hD.sub [0, 1, 2, 3] (by decide) rfl) hS (Nat.le_of_ble_eq_true rfl) (Nat.le_of_ble_eq_true rfl) dX3_advance_158
        · refine lv_iload_n hx hb dX3_advance_88 rfl (lv_at hl 0 rfl) ?_
          refine lv_bipush (v := zI 122) hx hb dX3_advance_89 (by decide) ?_
          refine rz_icmp_gt (tgt := 101) F (by omega) (by omega) dX3_advance_91 (by decide) (fun h91_39 => ?_) (fun h91_39 => ?_)
          · refine lv_iload_n hx hb dX3_advance_101 rfl (lv_at hl 0 rfl) ?_
            refine lv_bipush (v := zI 48) hx hb dX3_advance_102 (by decide) ?_
            refine rz_icmp_lt (tgt := 120) F (by omega) (by omega) dX3_advance_104 (by decide) (fun h104_40 => ?_) (fun h104_40 => ?_)
            · refine lv_aload_n hx hb dX3_advance_120 rfl (lv_at hl 1 rfl) ?_
              refine lv_iload_n hx hb dX3_advance_121 rfl (lv_at hl 0 rfl) ?_
              refine lv_bipush (v := zI 59) hx hb dX3_advance_122 (by decide) ?_
              refine rz_icmp_ne (tgt := 132) F (by omega) (by omega) dX3_advance_124 (by decide) (fun h124_41 => ?_) (fun h124_41 => ?_)
              · refine lv_iload_n hx hb dX3_advance_132 rfl (lv_at hl 0 rfl) ?_
                refine lv_bipush (v := zI 44) hx hb dX3_advance_133 (by decide) ?_
                refine rz_icmp_ne (tgt := 143) F (by omega) (by omega) dX3_advance_135 (by decide) (fun h135_42 => ?_) (fun h135_42 => ?_)
                · refine lv_bipush (v := zI 23) hx hb dX3_advance_143 (by decide) ?_
                  refine r_put F hK hP hD hS 0 9 rfl rfl in_X3 tyX3 tyX3_ok nmX3 (by decide) k_275 rfl rfl rfl (Nat.le_of_ble_eq_true rfl) dX3_advance_145 (w1 := [(b, .inr (3, [.ref (q 0), .int (zI (ii 0)), .ref (q 3), .ref (q 4), .int (zI (ii 1)), .int (zI (ii 2)), .ref (q 1), .ref (q 2), .int (zI (ii 3)), .int (zI 23), .int (zI (ii 5)), .int (zI (ii 5)), .long (zL (ii 7)), .int (zI (ii 8))])), ((q 0), .inl (cB, 900, .inl (fun k => zI ((g 0) k)))), ((q 1), .inl (cJ, 19, .inr (.inl (fun k => zL ((g 1) k))))), ((q 2), .inl (cJ, 10, .inr (.inl (fun k => zL ((g 2) k)))))]) rfl (fun H locs hP hD hS => ?_)
                  refine lv_aload_n hx hb dX3_advance_148 rfl (lv_at hl 1 rfl) ?_
                  refine lv_dup hx hb dX3_advance_149 rfl ?_
                  refine r_get F hK hP 0 11 rfl rfl in_X3 (by decide) k_277 rfl dX3_advance_150 ?_
                  refine lv_iconst (v := zI 1) hx hb dX3_advance_153 rfl ?_
                  refine r_iadd (v := zI ((ii 5) + 1)) F dX3_advance_154 (zI_add _ _) ?_
                  refine r_put F hK hP hD hS 0 11 rfl rfl in_X3 tyX3 tyX3_ok nmX3 (by decide) k_277 rfl rfl rfl (Nat.le_of_ble_eq_true rfl) dX3_advance_155 (w1 := [(b, .inr (3, [.ref (q 0), .int (zI (ii 0)), .ref (q 3), .ref (q 4), .int (zI (ii 1)), .int (zI (ii 2)), .ref (q 1), .ref (q 2), .int (zI (ii 3)), .int (zI 23), .int (zI (ii 5)), .int (zI ((ii 5) + 1)), .long (zL (ii 7)), .int (zI (ii 8))])), ((q 0), .inl (cB, 900, .inl (fun k => zI ((g 0) k)))), ((q 1), .inl (cJ, 19, .inr (.inl (fun k => zL ((g 1) k))))), ((q 2), .inl (cJ, 10, .inr (.inl (fun k => zL ((g 2) k)))))]) rfl (fun H locs hP hD hS => ?_)
                  obtain ⟨i44, e_i44⟩ : ∃ i44 : Nat → Int, i44 = fun k => [(ii 0), (ii 1), (ii 2), (ii 3), 23, (ii 5), ((ii 5) + 1), (ii 7), (ii 8)].getD k 0 := ⟨_, rfl⟩
                  have e_i44_0 : i44 0 = (ii 0) := by rw [e_i44]; rfl
                  have e_i44_1 : i44 1 = (ii 1) := by rw [e_i44]; rfl
                  have e_i44_2 : i44 2 = (ii 2) := by rw [e_i44]; rfl
                  have e_i44_3 : i44 3 = (ii 3) := by rw [e_i44]; rfl
                  have e_i44_4 : i44 4 = 23 := by rw [e_i44]; rfl
                  have e_i44_5 : i44 5 = (ii 5) := by rw [e_i44]; rfl
                  have e_i44_6 : i44 6 = ((ii 5) + 1) := by rw [e_i44]; rfl
                  have e_i44_7 : i44 7 = (ii 7) := by rw [e_i44]; rfl
                  have e_i44_8 : i44 8 = (ii 8) := by rw [e_i44]; rfl
                  have hO45 : ReaderOk i44 := by refine ⟨?_, ?_, ?_, ?_, ?_, ?_⟩ <;> omega
                  have hf46 := hO45
                  have hP : va_P G vwCl [(b, .inr (3, [.ref (q 0), .int (zI (i44 0)), .ref (q 3), .ref (q 4), .int (zI (i44 1)), .int (zI (i44 2)), .ref (q 1), .ref (q 2), .int (zI (i44 3)), .int (zI (i44 4)), .int (zI (i44 5)), .int (zI (i44 6)), .long (zL (i44 7)), .int (zI (i44 8))])), ((q 0), .inl (cB, 900, .inl (fun k => zI ((g 0) k)))), ((q 1), .inl (cJ, 19, .inr (.inl (fun k => zL ((g 1) k))))), ((q 2), .inl (cJ, 10, .inr (.inl (fun k => zL ((g 2) k)))))] H := by subst e_i44; exact hP
                  have hD : va_D A [(b, .inr (3, [.ref (q 0), .int (zI (i44 0)), .ref (q 3), .ref (q 4), .int (zI (i44 1)), .int (zI (i44 2)), .ref (q 1), .ref (q 2), .int (zI (i44 3)), .int (zI (i44 4)), .int (zI (i44 5)), .int (zI (i44 6)), .long (zL (i44 7)), .int (zI (i44 8))])), ((q 0), .inl (cB, 900, .inl (fun k => zI ((g 0) k)))), ((q 1), .inl (cJ, 19, .inr (.inl (fun k => zL ((g 1) k))))), ((q 2), .inl (cJ, 10, .inr (.inl (fun k => zL ((g 2) k)))))] := by subst e_i44; exact hD
                  exact ret (i44, fun _ _ => 0) _ _ _ _ _ _ ⟨hO45, by dsimp only; omega⟩ (bw_subP (isC := [0, 1, 2, 3]) hP rfl) (hD.sub [0, 1, 2, 3] (by decide) rfl) hS (Nat.le_of_ble_eq_true rfl) (Nat.le_of_ble_eq_true rfl) dX3_advance_158
                · refine lv_bipush (v := zI 22) hx hb dX3_advance_138 (by decide) ?_
                  refine lv_goto (tgt := 145) hx hb dX3_advance_140 (by decide) ?_
                  refine r_put F hK hP hD hS 0 9 rfl rfl in_X3 tyX3 tyX3_ok nmX3 (by decide) k_275 rfl rfl rfl (Nat.le_of_ble_eq_true rfl) dX3_advance_145 (w1 := [(b, .inr (3, [.ref (q 0), .int (zI (ii 0)), .ref (q 3), .ref (q 4), .int (zI (ii 1)), .int (zI (ii 2)), .ref (q 1), .ref (q 2), .int (zI (ii 3)), .int (zI 22), .int (zI (ii 5)), .int (zI (ii 5)), .long (zL (ii 7)), .int (zI (ii 8))])), ((q 0), .inl (cB, 900, .inl (fun k => zI ((g 0) k)))), ((q 1), .inl (cJ, 19, .inr (.inl (fun k => zL ((g 1) k))))), ((q 2), .inl (cJ, 10, .inr (.inl (fun k => zL ((g 2) k)))))]) rfl (fun H locs hP hD hS => ?_)
                  refine lv_aload_n hx hb dX3_advance_148 rfl (lv_at hl 1 rfl) ?_
                  refine lv_dup hx hb dX3_advance_149 rfl ?_
                  refine r_get F hK hP 0 11 rfl rfl in_X3 (by decide) k_277 rfl dX3_advance_150 ?_
                  refine lv_iconst (v := zI 1) hx hb dX3_advance_153 rfl ?_
                  refine r_iadd (v := zI ((ii 5) + 1)) F dX3_advance_154 (zI_add _ _) ?_
                  refine r_put F hK hP hD hS 0 11 rfl rfl in_X3 tyX3 tyX3_ok nmX3 (by decide) k_277 rfl rfl rfl (Nat.le_of_ble_eq_true rfl) dX3_advance_155 (w1 := [(b, .inr (3, [.ref (q 0), .int (zI (ii 0)), .ref (q 3), .ref (q 4), .int (zI (ii 1)), .int (zI (ii 2)), .ref (q 1), .ref (q 2), .int (zI (ii 3)), .int (zI 22), .int (zI (ii 5)), .int (zI ((ii 5) + 1)), .long (zL (ii 7)), .int (zI (ii 8))])), ((q 0), .inl (cB, 900, .inl (fun k => zI ((g 0) k)))), ((q 1), .inl (cJ, 19, .inr (.inl (fun k => zL ((g 1) k))))), ((q 2), .inl (cJ, 10, .inr (.inl (fun k => zL ((g 2) k)))))]) rfl (fun H locs hP hD hS => ?_)
                  obtain ⟨i47, e_i47⟩ : ∃ i47 : Nat → Int, i47 = fun k => [(ii 0), (ii 1), (ii 2), (ii 3), 22, (ii 5), ((ii 5) + 1), (ii 7), (ii 8)].getD k 0 := ⟨_, rfl⟩
                  have e_i47_0 : i47 0 = (ii 0) := by rw [e_i47]; rfl
                  have e_i47_1 : i47 1 = (ii 1) := by rw [e_i47]; rfl
                  have e_i47_2 : i47 2 = (ii 2) := by rw [e_i47]; rfl
                  have e_i47_3 : i47 3 = (ii 3) := by rw [e_i47]; rfl
                  have e_i47_4 : i47 4 = 22 := by rw [e_i47]; rfl
                  have e_i47_5 : i47 5 = (ii 5) := by rw [e_i47]; rfl
                  have e_i47_6 : i47 6 = ((ii 5) + 1) := by rw [e_i47]; rfl
                  have e_i47_7 : i47 7 = (ii 7) := by rw [e_i47]; rfl
                  have e_i47_8 : i47 8 = (ii 8) := by rw [e_i47]; rfl
                  have hO48 : ReaderOk i47 := by refine ⟨?_, ?_, ?_, ?_, ?_, ?_⟩ <;> omega
                  have hf49 := hO48
                  have hP : va_P G vwCl [(b, .inr (3, [.ref (q 0), .int (zI (i47 0)), .ref (q 3), .ref (q 4), .int (zI (i47 1)), .int (zI (i47 2)), .ref (q 1), .ref (q 2), .int (zI (i47 3)), .int (zI (i47 4)), .int (zI (i47 5)), .int (zI (i47 6)), .long (zL (i47 7)), .int (zI (i47 8))])), ((q 0), .inl (cB, 900, .inl (fun k => zI ((g 0) k)))), ((q 1), .inl (cJ, 19, .inr (.inl (fun k => zL ((g 1) k))))), ((q 2), .inl (cJ, 10, .inr (.inl (fun k => zL ((g 2) k)))))] H := by subst e_i47; exact hP
                  have hD : va_D A [(b, .inr (3, [.ref (q 0), .int (zI (i47 0)), .ref (q 3), .ref (q 4), .int (zI (i47 1)), .int (zI (i47 2)), .ref (q 1), .ref (q 2), .int (zI (i47 3)), .int (zI (i47 4)), .int (zI (i47 5)), .int (zI (i47 6)), .long (zL (i47 7)), .int (zI (i47 8))])), ((q 0), .inl (cB, 900, .inl (fun k => zI ((g 0) k)))), ((q 1), .inl (cJ, 19, .inr (.inl (fun k => zL ((g 1) k))))), ((q 2), .inl (cJ, 10, .inr (.inl (fun k => zL ((g 2) k)))))] := by subst e_i47; exact hD
                  exact ret (i47, fun _ _ => 0) _ _ _ _ _ _ ⟨hO48, by dsimp only; omega⟩ (bw_subP (isC := [0, 1, 2, 3]) hP rfl) (hD.sub [0, 1, 2, 3] (by decide) rfl) hS (Nat.le_of_ble_eq_true rfl) (Nat.le_of_ble_eq_true rfl) dX3_advance_158
              · refine lv_bipush (v := zI 21) hx hb dX3_advance_127 (by decide) ?_
                refine lv_goto (tgt := 145) hx hb dX3_advance_129 (by decide) ?_
                refine r_put F hK hP hD hS 0 9 rfl rfl in_X3 tyX3 tyX3_ok nmX3 (by decide) k_275 rfl rfl rfl (Nat.le_of_ble_eq_true rfl) dX3_advance_145 (w1 := [(b, .inr (3, [.ref (q 0), .int (zI (ii 0)), .ref (q 3), .ref (q 4), .int (zI (ii 1)), .int (zI (ii 2)), .ref (q 1), .ref (q 2), .int (zI (ii 3)), .int (zI 21), .int (zI (ii 5)), .int (zI (ii 5)), .long (zL (ii 7)), .int (zI (ii 8))])), ((q 0), .inl (cB, 900, .inl (fun k => zI ((g 0) k)))), ((q 1), .inl (cJ, 19, .inr (.inl (fun k => zL ((g 1) k))))), ((q 2), .inl (cJ, 10, .inr (.inl (fun k => zL ((g 2) k)))))]) rfl (fun H locs hP hD hS => ?_)
                refine lv_aload_n hx hb dX3_advance_148 rfl (lv_at hl 1 rfl) ?_
                refine lv_dup hx hb dX3_advance_149 rfl ?_
                refine r_get F hK hP 0 11 rfl rfl in_X3 (by decide) k_277 rfl dX3_advance_150 ?_
                refine lv_iconst (v := zI 1) hx hb dX3_advance_153 rfl ?_
                refine r_iadd (v := zI ((ii 5) + 1)) F dX3_advance_154 (zI_add _ _) ?_
                refine r_put F hK hP hD hS 0 11 rfl rfl in_X3 tyX3 tyX3_ok nmX3 (by decide) k_277 rfl rfl rfl (Nat.le_of_ble_eq_true rfl) dX3_advance_155 (w1 := [(b, .inr (3, [.ref (q 0), .int (zI (ii 0)), .ref (q 3), .ref (q 4), .int (zI (ii 1)), .int (zI (ii 2)), .ref (q 1), .ref (q 2), .int (zI (ii 3)), .int (zI 21), .int (zI (ii 5)), .int (zI ((ii 5) + 1)), .long (zL (ii 7)), .int (zI (ii 8))])), ((q 0), .inl (cB, 900, .inl (fun k => zI ((g 0) k)))), ((q 1), .inl (cJ, 19, .inr (.inl (fun k => zL ((g 1) k))))), ((q 2), .inl (cJ, 10, .inr (.inl (fun k => zL ((g 2) k)))))]) rfl (fun H locs hP hD hS => ?_)
                obtain ⟨i50, e_i50⟩ : ∃ i50 : Nat → Int, i50 = fun k => [(ii 0), (ii 1), (ii 2), (ii 3), 21, (ii 5), ((ii 5) + 1), (ii 7), (ii 8)].getD k 0 := ⟨_, rfl⟩
                have e_i50_0 : i50 0 = (ii 0) := by rw [e_i50]; rfl
                have e_i50_1 : i50 1 = (ii 1) := by rw [e_i50]; rfl
                have e_i50_2 : i50 2 = (ii 2) := by rw [e_i50]; rfl
                have e_i50_3 : i50 3 = (ii 3) := by rw [e_i50]; rfl
                have e_i50_4 : i50 4 = 21 := by rw [e_i50]; rfl
                have e_i50_5 : i50 5 = (ii 5) := by rw [e_i50]; rfl
                have e_i50_6 : i50 6 = ((ii 5) + 1) := by rw [e_i50]; rfl
                have e_i50_7 : i50 7 = (ii 7) := by rw [e_i50]; rfl
                have e_i50_8 : i50 8 = (ii 8) := by rw [e_i50]; rfl
                have hO51 : ReaderOk i50 := by refine ⟨?_, ?_, ?_, ?_, ?_, ?_⟩ <;> omega
                have hf52 := hO51
                have hP : va_P G vwCl [(b, .inr (3, [.ref (q 0), .int (zI (i50 0)), .ref (q 3), .ref (q 4), .int (zI (i50 1)), .int (zI (i50 2)), .ref (q 1), .ref (q 2), .int (zI (i50 3)), .int (zI (i50 4)), .int (zI (i50 5)), .int (zI (i50 6)), .long (zL (i50 7)), .int (zI (i50 8))])), ((q 0), .inl (cB, 900, .inl (fun k => zI ((g 0) k)))), ((q 1), .inl (cJ, 19, .inr (.inl (fun k => zL ((g 1) k))))), ((q 2), .inl (cJ, 10, .inr (.inl (fun k => zL ((g 2) k)))))] H := by subst e_i50; exact hP
                have hD : va_D A [(b, .inr (3, [.ref (q 0), .int (zI (i50 0)), .ref (q 3), .ref (q 4), .int (zI (i50 1)), .int (zI (i50 2)), .ref (q 1), .ref (q 2), .int (zI (i50 3)), .int (zI (i50 4)), .int (zI (i50 5)), .int (zI (i50 6)), .long (zL (i50 7)), .int (zI (i50 8))])), ((q 0), .inl (cB, 900, .inl (fun k => zI ((g 0) k)))), ((q 1), .inl (cJ, 19, .inr (.inl (fun k => zL ((g 1) k))))), ((q 2), .inl (cJ, 10, .inr (.inl (fun k => zL ((g 2) k)))))] := by subst e_i50; exact hD
                exact ret (i50, fun _ _ => 0) _ _ _ _ _ _ ⟨hO51, by dsimp only; omega⟩ (bw_subP (isC := [0, 1, 2, 3]) hP rfl) (hD.sub [0, 1, 2, 3] (by decide) rfl) hS (Nat.le_of_ble_eq_true rfl) (Nat.le_of_ble_eq_true rfl) dX3_advance_158
            · refine lv_iload_n hx hb dX3_advance_107 rfl (lv_at hl 0 rfl) ?_
              refine lv_bipush (v := zI 57) hx hb dX3_advance_108 (by decide) ?_
              refine rz_icmp_gt (tgt := 120) F (by omega) (by omega) dX3_advance_110 (by decide) (fun h110_52 => ?_) (fun h110_52 => ?_)
              · refine lv_aload_n hx hb dX3_advance_120 rfl (lv_at hl 1 rfl) ?_
                refine lv_iload_n hx hb dX3_advance_121 rfl (lv_at hl 0 rfl) ?_
                refine lv_bipush (v := zI 59) hx hb dX3_advance_122 (by decide) ?_
                refine rz_icmp_ne (tgt := 132) F (by omega) (by omega) dX3_advance_124 (by decide) (fun h124_53 => ?_) (fun h124_53 => ?_)
                · refine lv_iload_n hx hb dX3_advance_132 rfl (lv_at hl 0 rfl) ?_
                  refine lv_bipush (v := zI 44) hx hb dX3_advance_133 (by decide) ?_
                  refine rz_icmp_ne (tgt := 143) F (by omega) (by omega) dX3_advance_135 (by decide) (fun h135_54 => ?_) (fun h135_54 => ?_)
                  · refine lv_bipush (v := zI 23) hx hb dX3_advance_143 (by decide) ?_
                    refine r_put F hK hP hD hS 0 9 rfl rfl in_X3 tyX3 tyX3_ok nmX3 (by decide) k_275 rfl rfl rfl (Nat.le_of_ble_eq_true rfl) dX3_advance_145 (w1 := [(b, .inr (3, [.ref (q 0), .int (zI (ii 0)), .ref (q 3), .ref (q 4), .int (zI (ii 1)), .int (zI (ii 2)), .ref (q 1), .ref (q 2), .int (zI (ii 3)), .int (zI 23), .int (zI (ii 5)), .int (zI (ii 5)), .long (zL (ii 7)), .int (zI (ii 8))])), ((q 0), .inl (cB, 900, .inl (fun k => zI ((g 0) k)))), ((q 1), .inl (cJ, 19, .inr (.inl (fun k => zL ((g 1) k))))), ((q 2), .inl (cJ, 10, .inr (.inl (fun k => zL ((g 2) k)))))]) rfl (fun H locs hP hD hS => ?_)
                    refine lv_aload_n hx hb dX3_advance_148 rfl (lv_at hl 1 rfl) ?_
                    refine lv_dup hx hb dX3_advance_149 rfl ?_
                    refine r_get F hK hP 0 11 rfl rfl in_X3 (by decide) k_277 rfl dX3_advance_150 ?_
                    refine lv_iconst (v := zI 1) hx hb dX3_advance_153 rfl ?_
                    refine r_iadd (v := zI ((ii 5) + 1)) F dX3_advance_154 (zI_add _ _) ?_
                    refine r_put F hK hP hD hS 0 11 rfl rfl in_X3 tyX3 tyX3_ok nmX3 (by decide) k_277 rfl rfl rfl (Nat.le_of_ble_eq_true rfl) dX3_advance_155 (w1 := [(b, .inr (3, [.ref (q 0), .int (zI (ii 0)), .ref (q 3), .ref (q 4), .int (zI (ii 1)), .int (zI (ii 2)), .ref (q 1), .ref (q 2), .int (zI (ii 3)), .int (zI 23), .int (zI (ii 5)), .int (zI ((ii 5) + 1)), .long (zL (ii 7)), .int (zI (ii 8))])), ((q 0), .inl (cB, 900, .inl (fun k => zI ((g 0) k)))), ((q 1), .inl (cJ, 19, .inr (.inl (fun k => zL ((g 1) k))))), ((q 2), .inl (cJ, 10, .inr (.inl (fun k => zL ((g 2) k)))))]) rfl (fun H locs hP hD hS => ?_)
                    obtain ⟨i56, e_i56⟩ : ∃ i56 : Nat → Int, i56 = fun k => [(ii 0), (ii 1), (ii 2), (ii 3), 23, (ii 5), ((ii 5) + 1), (ii 7), (ii 8)].getD k 0 := ⟨_, rfl⟩
                    have e_i56_0 : i56 0 = (ii 0) := by rw [e_i56]; rfl
                    have e_i56_1 : i56 1 = (ii 1) := by rw [e_i56]; rfl
                    have e_i56_2 : i56 2 = (ii 2) := by rw [e_i56]; rfl
                    have e_i56_3 : i56 3 = (ii 3) := by rw [e_i56]; rfl
                    have e_i56_4 : i56 4 = 23 := by rw [e_i56]; rfl
                    have e_i56_5 : i56 5 = (ii 5) := by rw [e_i56]; rfl
                    have e_i56_6 : i56 6 = ((ii 5) + 1) := by rw [e_i56]; rfl
                    have e_i56_7 : i56 7 = (ii 7) := by rw [e_i56]; rfl
                    have e_i56_8 : i56 8 = (ii 8) := by rw [e_i56]; rfl
                    have hO57 : ReaderOk i56 := by refine ⟨?_, ?_, ?_, ?_, ?_, ?_⟩ <;> omega
                    have hf58 := hO57
                    have hP : va_P G vwCl [(b, .inr (3, [.ref (q 0), .int (zI (i56 0)), .ref (q 3), .ref (q 4), .int (zI (i56 1)), .int (zI (i56 2)), .ref (q 1), .ref (q 2), .int (zI (i56 3)), .int (zI (i56 4)), .int (zI (i56 5)), .int (zI (i56 6)), .long (zL (i56 7)), .int (zI (i56 8))])), ((q 0), .inl (cB, 900, .inl (fun k => zI ((g 0) k)))), ((q 1), .inl (cJ, 19, .inr (.inl (fun k => zL ((g 1) k))))), ((q 2), .inl (cJ, 10, .inr (.inl (fun k => zL ((g 2) k)))))] H := by subst e_i56; exact hP
                    have hD : va_D A [(b, .inr (3, [.ref (q 0), .int (zI (i56 0)), .ref (q 3), .ref (q 4), .int (zI (i56 1)), .int (zI (i56 2)), .ref (q 1), .ref (q 2), .int (zI (i56 3)), .int (zI (i56 4)), .int (zI (i56 5)), .int (zI (i56 6)), .long (zL (i56 7)), .int (zI (i56 8))])), ((q 0), .inl (cB, 900, .inl (fun k => zI ((g 0) k)))), ((q 1), .inl (cJ, 19, .inr (.inl (fun k => zL ((g 1) k))))), ((q 2), .inl (cJ, 10, .inr (.inl (fun k => zL ((g 2) k)))))] := by subst e_i56; exact hD
                    exact ret (i56, fun _ _ => 0) _ _ _ _ _ _ ⟨hO57, by dsimp only; omega⟩ (bw_subP (isC := [0, 1, 2, 3]) hP rfl) (hD.sub [0, 1, 2, 3] (by decide) rfl) hS (Nat.le_of_ble_eq_true rfl) (Nat.le_of_ble_eq_true rfl) dX3_advance_158
                  · refine lv_bipush (v := zI 22) hx hb dX3_advance_138 (by decide) ?_
                    refine lv_goto (tgt := 145) hx hb dX3_advance_140 (by decide) ?_
                    refine r_put F hK hP hD hS 0 9 rfl rfl in_X3 tyX3 tyX3_ok nmX3 (by decide) k_275 rfl rfl rfl (Nat.le_of_ble_eq_true rfl) dX3_advance_145 (w1 := [(b, .inr (3, [.ref (q 0), .int (zI (ii 0)), .ref (q 3), .ref (q 4), .int (zI (ii 1)), .int (zI (ii 2)), .ref (q 1), .ref (q 2), .int (zI (ii 3)), .int (zI 22), .int (zI (ii 5)), .int (zI (ii 5)), .long (zL (ii 7)), .int (zI (ii 8))])), ((q 0), .inl (cB, 900, .inl (fun k => zI ((g 0) k)))), ((q 1), .inl (cJ, 19, .inr (.inl (fun k => zL ((g 1) k))))), ((q 2), .inl (cJ, 10, .inr (.inl (fun k => zL ((g 2) k)))))]) rfl (fun H locs hP hD hS => ?_)
                    refine lv_aload_n hx hb dX3_advance_148 rfl (lv_at hl 1 rfl) ?_
                    refine lv_dup hx hb dX3_advance_149 rfl ?_
                    refine r_get F hK hP 0 11 rfl rfl in_X3 (by decide) k_277 rfl dX3_advance_150 ?_
                    refine lv_iconst (v := zI 1) hx hb dX3_advance_153 rfl ?_
                    refine r_iadd (v := zI ((ii 5) + 1)) F dX3_advance_154 (zI_add _ _) ?_
                    refine r_put F hK hP hD hS 0 11 rfl rfl in_X3 tyX3 tyX3_ok nmX3 (by decide) k_277 rfl rfl rfl (Nat.le_of_ble_eq_true rfl) dX3_advance_155 (w1 := [(b, .inr (3, [.ref (q 0), .int (zI (ii 0)), .ref (q 3), .ref (q 4), .int (zI (ii 1)), .int (zI (ii 2)), .ref (q 1), .ref (q 2), .int (zI (ii 3)), .int (zI 22), .int (zI (ii 5)), .int (zI ((ii 5) + 1)), .long (zL (ii 7)), .int (zI (ii 8))])), ((q 0), .inl (cB, 900, .inl (fun k => zI ((g 0) k)))), ((q 1), .inl (cJ, 19, .inr (.inl (fun k => zL ((g 1) k))))), ((q 2), .inl (cJ, 10, .inr (.inl (fun k => zL ((g 2) k)))))]) rfl (fun H locs hP hD hS => ?_)
                    obtain ⟨i59, e_i59⟩ : ∃ i59 : Nat → Int, i59 = fun k => [(ii 0), (ii 1), (ii 2), (ii 3), 22, (ii 5), ((ii 5) + 1), (ii 7), (ii 8)].getD k 0 := ⟨_, rfl⟩
                    have e_i59_0 : i59 0 = (ii 0) := by rw [e_i59]; rfl
                    have e_i59_1 : i59 1 = (ii 1) := by rw [e_i59]; rfl
                    have e_i59_2 : i59 2 = (ii 2) := by rw [e_i59]; rfl
                    have e_i59_3 : i59 3 = (ii 3) := by rw [e_i59]; rfl
                    have e_i59_4 : i59 4 = 22 := by rw [e_i59]; rfl
                    have e_i59_5 : i59 5 = (ii 5) := by rw [e_i59]; rfl
                    have e_i59_6 : i59 6 = ((ii 5) + 1) := by rw [e_i59]; rfl
                    have e_i59_7 : i59 7 = (ii 7) := by rw [e_i59]; rfl
                    have e_i59_8 : i59 8 = (ii 8) := by rw [e_i59]; rfl
                    have hO60 : ReaderOk i59 := by refine ⟨?_, ?_, ?_, ?_, ?_, ?_⟩ <;> omega
                    have hf61 := hO60
                    have hP : va_P G vwCl [(b, .inr (3, [.ref (q 0), .int (zI (i59 0)), .ref (q 3), .ref (q 4), .int (zI (i59 1)), .int (zI (i59 2)), .ref (q 1), .ref (q 2), .int (zI (i59 3)), .int (zI (i59 4)), .int (zI (i59 5)), .int (zI (i59 6)), .long (zL (i59 7)), .int (zI (i59 8))])), ((q 0), .inl (cB, 900, .inl (fun k => zI ((g 0) k)))), ((q 1), .inl (cJ, 19, .inr (.inl (fun k => zL ((g 1) k))))), ((q 2), .inl (cJ, 10, .inr (.inl (fun k => zL ((g 2) k)))))] H := by subst e_i59; exact hP
                    have hD : va_D A [(b, .inr (3, [.ref (q 0), .int (zI (i59 0)), .ref (q 3), .ref (q 4), .int (zI (i59 1)), .int (zI (i59 2)), .ref (q 1), .ref (q 2), .int (zI (i59 3)), .int (zI (i59 4)), .int (zI (i59 5)), .int (zI (i59 6)), .long (zL (i59 7)), .int (zI (i59 8))])), ((q 0), .inl (cB, 900, .inl (fun k => zI ((g 0) k)))), ((q 1), .inl (cJ, 19, .inr (.inl (fun k => zL ((g 1) k))))), ((q 2), .inl (cJ, 10, .inr (.inl (fun k => zL ((g 2) k)))))] := by subst e_i59; exact hD
                    exact ret (i59, fun _ _ => 0) _ _ _ _ _ _ ⟨hO60, by dsimp only; omega⟩ (bw_subP (isC := [0, 1, 2, 3]) hP rfl) (hD.sub [0, 1, 2, 3] (by decide) rfl) hS (Nat.le_of_ble_eq_true rfl) (Nat.le_of_ble_eq_true rfl) dX3_advance_158
                · refine lv_bipush (v := zI 21) hx hb dX3_advance_127 (by decide) ?_
                  refine lv_goto (tgt := 145) hx hb dX3_advance_129 (by decide) ?_
                  refine r_put F hK hP hD hS 0 9 rfl rfl in_X3 tyX3 tyX3_ok nmX3 (by decide) k_275 rfl rfl rfl (Nat.le_of_ble_eq_true rfl) dX3_advance_145 (w1 := [(b, .inr (3, [.ref (q 0), .int (zI (ii 0)), .ref (q 3), .ref (q 4), .int (zI (ii 1)), .int (zI (ii 2)), .ref (q 1), .ref (q 2), .int (zI (ii 3)), .int (zI 21), .int (zI (ii 5)), .int (zI (ii 5)), .long (zL (ii 7)), .int (zI (ii 8))])), ((q 0), .inl (cB, 900, .inl (fun k => zI ((g 0) k)))), ((q 1), .inl (cJ, 19, .inr (.inl (fun k => zL ((g 1) k))))), ((q 2), .inl (cJ, 10, .inr (.inl (fun k => zL ((g 2) k)))))]) rfl (fun H locs hP hD hS => ?_)
                  refine lv_aload_n hx hb dX3_advance_148 rfl (lv_at hl 1 rfl) ?_
                  refine lv_dup hx hb dX3_advance_149 rfl ?_
                  refine r_get F hK hP 0 11 rfl rfl in_X3 (by decide) k_277 rfl dX3_advance_150 ?_
                  refine lv_iconst (v := zI 1) hx hb dX3_advance_153 rfl ?_
                  refine r_iadd (v := zI ((ii 5) + 1)) F dX3_advance_154 (zI_add _ _) ?_
                  refine r_put F hK hP hD hS 0 11 rfl rfl in_X3 tyX3 tyX3_ok nmX3 (by decide) k_277 rfl rfl rfl (Nat.le_of_ble_eq_true rfl) dX3_advance_155 (w1 := [(b, .inr (3, [.ref (q 0), .int (zI (ii 0)), .ref (q 3), .ref (q 4), .int (zI (ii 1)), .int (zI (ii 2)), .ref (q 1), .ref (q 2), .int (zI (ii 3)), .int (zI 21), .int (zI (ii 5)), .int (zI ((ii 5) + 1)), .long (zL (ii 7)), .int (zI (ii 8))])), ((q 0), .inl (cB, 900, .inl (fun k => zI ((g 0) k)))), ((q 1), .inl (cJ, 19, .inr (.inl (fun k => zL ((g 1) k))))), ((q 2), .inl (cJ, 10, .inr (.inl (fun k => zL ((g 2) k)))))]) rfl (fun H locs hP hD hS => ?_)
                  obtain ⟨i62, e_i62⟩ : ∃ i62 : Nat → Int, i62 = fun k => [(ii 0), (ii 1), (ii 2), (ii 3), 21, (ii 5), ((ii 5) + 1), (ii 7), (ii 8)].getD k 0 := ⟨_, rfl⟩
                  have e_i62_0 : i62 0 = (ii 0) := by rw [e_i62]; rfl
                  have e_i62_1 : i62 1 = (ii 1) := by rw [e_i62]; rfl
                  have e_i62_2 : i62 2 = (ii 2) := by rw [e_i62]; rfl
                  have e_i62_3 : i62 3 = (ii 3) := by rw [e_i62]; rfl
                  have e_i62_4 : i62 4 = 21 := by rw [e_i62]; rfl
                  have e_i62_5 : i62 5 = (ii 5) := by rw [e_i62]; rfl
                  have e_i62_6 : i62 6 = ((ii 5) + 1) := by rw [e_i62]; rfl
                  have e_i62_7 : i62 7 = (ii 7) := by rw [e_i62]; rfl
                  have e_i62_8 : i62 8 = (ii 8) := by rw [e_i62]; rfl
                  have hO63 : ReaderOk i62 := by refine ⟨?_, ?_, ?_, ?_, ?_, ?_⟩ <;> omega
                  have hf64 := hO63
                  have hP : va_P G vwCl [(b, .inr (3, [.ref (q 0), .int (zI (i62 0)), .ref (q 3), .ref (q 4), .int (zI (i62 1)), .int (zI (i62 2)), .ref (q 1), .ref (q 2), .int (zI (i62 3)), .int (zI (i62 4)), .int (zI (i62 5)), .int (zI (i62 6)), .long (zL (i62 7)), .int (zI (i62 8))])), ((q 0), .inl (cB, 900, .inl (fun k => zI ((g 0) k)))), ((q 1), .inl (cJ, 19, .inr (.inl (fun k => zL ((g 1) k))))), ((q 2), .inl (cJ, 10, .inr (.inl (fun k => zL ((g 2) k)))))] H := by subst e_i62; exact hP
                  have hD : va_D A [(b, .inr (3, [.ref (q 0), .int (zI (i62 0)), .ref (q 3), .ref (q 4), .int (zI (i62 1)), .int (zI (i62 2)), .ref (q 1), .ref (q 2), .int (zI (i62 3)), .int (zI (i62 4)), .int (zI (i62 5)), .int (zI (i62 6)), .long (zL (i62 7)), .int (zI (i62 8))])), ((q 0), .inl (cB, 900, .inl (fun k => zI ((g 0) k)))), ((q 1), .inl (cJ, 19, .inr (.inl (fun k => zL ((g 1) k))))), ((q 2), .inl (cJ, 10, .inr (.inl (fun k => zL ((g 2) k)))))] := by subst e_i62; exact hD
                  exact ret (i62, fun _ _ => 0) _ _ _ _ _ _ ⟨hO63, by dsimp only; omega⟩ (bw_subP (isC := [0, 1, 2, 3]) hP rfl) (hD.sub [0, 1, 2, 3] (by decide) rfl) hS (Nat.le_of_ble_eq_true rfl) (Nat.le_of_ble_eq_true rfl) dX3_advance_158
              · refine lv_aload_n hx hb dX3_advance_113 rfl (lv_at hl 1 rfl) ?_
                obtain ⟨i65, e_i65⟩ : ∃ i65 : Nat → Int, i65 = fun k => [(ii 0), (ii 1), (ii 2), (ii 3), (ii 4), (ii 5), (ii 5), (ii 7), (ii 8)].getD k 0 := ⟨_, rfl⟩
                have e_i65_0 : i65 0 = (ii 0) := by rw [e_i65]; rfl
                have e_i65_1 : i65 1 = (ii 1) := by rw [e_i65]; rfl
                have e_i65_2 : i65 2 = (ii 2) := by rw [e_i65]; rfl
                have e_i65_3 : i65 3 = (ii 3) := by rw [e_i65]; rfl
                have e_i65_4 : i65 4 = (ii 4) := by rw [e_i65]; rfl
                have e_i65_5 : i65 5 = (ii 5) := by rw [e_i65]; rfl
                have e_i65_6 : i65 6 = (ii 5) := by rw [e_i65]; rfl
                have e_i65_7 : i65 7 = (ii 7) := by rw [e_i65]; rfl
                have e_i65_8 : i65 8 = (ii 8) := by rw [e_i65]; rfl
                have hO66 : ReaderOk i65 := by refine ⟨?_, ?_, ?_, ?_, ?_, ?_⟩ <;> omega
                have hf67 := hO66
                have hP : va_P G vwCl [(b, .inr (3, [.ref (q 0), .int (zI (i65 0)), .ref (q 3), .ref (q 4), .int (zI (i65 1)), .int (zI (i65 2)), .ref (q 1), .ref (q 2), .int (zI (i65 3)), .int (zI (i65 4)), .int (zI (i65 5)), .int (zI (i65 6)), .long (zL (i65 7)), .int (zI (i65 8))])), ((q 0), .inl (cB, 900, .inl (fun k => zI ((g 0) k)))), ((q 1), .inl (cJ, 19, .inr (.inl (fun k => zL ((g 1) k))))), ((q 2), .inl (cJ, 10, .inr (.inl (fun k => zL ((g 2) k)))))] H := by subst e_i65; exact hP
                have hD : va_D A [(b, .inr (3, [.ref (q 0), .int (zI (i65 0)), .ref (q 3), .ref (q 4), .int (zI (i65 1)), .int (zI (i65 2)), .ref (q 1), .ref (q 2), .int (zI (i65 3)), .int (zI (i65 4)), .int (zI (i65 5)), .int (zI (i65 6)), .long (zL (i65 7)), .int (zI (i65 8))])), ((q 0), .inl (cB, 900, .inl (fun k => zI ((g 0) k)))), ((q 1), .inl (cJ, 19, .inr (.inl (fun k => zL ((g 1) k))))), ((q 2), .inl (cJ, 10, .inr (.inl (fun k => zL ((g 2) k)))))] := by subst e_i65; exact hD
                refine r_callVv (As := []) (rest := []) (wr := []) F hK hP hD hS hA hO hE (c_X3_lookAtWhole hO b q i65 g hO66) k_567 kv_X3_lookAtWhole 0 rfl (by decide +kernel) ⟨Nat.le_of_ble_eq_true rfl, Nat.le_of_ble_eq_true rfl⟩ [0, 1, 2, 3] [] rfl rfl (by decide) (by decide) (by decide) 0 3 rfl rfl rfl hl.1 rfl (Nat.le_of_ble_eq_true rfl) dX3_advance_114 ⟨Nat.le_of_ble_eq_true rfl, Nat.le_of_ble_eq_true rfl⟩ (w1 := fun u68 => [(b, .inr (3, [.ref (q 0), .int (zI (u68.1 0)), .ref (q 3), .ref (q 4), .int (zI (u68.1 1)), .int (zI (u68.1 2)), .ref (q 1), .ref (q 2), .int (zI (u68.1 3)), .int (zI (u68.1 4)), .int (zI (u68.1 5)), .int (zI (u68.1 6)), .long (zL (u68.1 7)), .int (zI (u68.1 8))])), ((q 0), .inl (cB, 900, .inl (fun k => zI ((g 0) k)))), ((q 1), .inl (cJ, 19, .inr (.inl (fun k => zL ((g 1) k))))), ((q 2), .inl (cJ, 10, .inr (.inl (fun k => zL ((g 2) k)))))]) (fun _ => rfl) (fun  u68 H locs hp69 hP hD hS => ?_)
                have hx70 := hp69.2
                have hf71 := hp69.1
                refine lv_goto (tgt := 158) hx hb dX3_advance_117 (by decide) ?_
                exact ret (u68.1, fun _ _ => 0) _ _ _ _ _ _ ⟨hp69.1, by dsimp only; omega⟩ (bw_subP (isC := [0, 1, 2, 3]) hP rfl) (hD.sub [0, 1, 2, 3] (by decide) rfl) hS (Nat.le_of_ble_eq_true rfl) (Nat.le_of_ble_eq_true rfl) dX3_advance_158
          · refine lv_aload_n hx hb dX3_advance_94 rfl (lv_at hl 1 rfl) ?_
            obtain ⟨i72, e_i72⟩ : ∃ i72 : Nat → Int, i72 = fun k => [(ii 0), (ii 1), (ii 2), (ii 3), (ii 4), (ii 5), (ii 5), (ii 7), (ii 8)].getD k 0 := ⟨_, rfl⟩
            have e_i72_0 : i72 0 = (ii 0) := by rw [e_i72]; rfl
            have e_i72_1 : i72 1 = (ii 1) := by rw [e_i72]; rfl
            have e_i72_2 : i72 2 = (ii 2) := by rw [e_i72]; rfl
            have e_i72_3 : i72 3 = (ii 3) := by rw [e_i72]; rfl
            have e_i72_4 : i72 4 = (ii 4) := by rw [e_i72]; rfl
            have e_i72_5 : i72 5 = (ii 5) := by rw [e_i72]; rfl
            have e_i72_6 : i72 6 = (ii 5) := by rw [e_i72]; rfl
            have e_i72_7 : i72 7 = (ii 7) := by rw [e_i72]; rfl
            have e_i72_8 : i72 8 = (ii 8) := by rw [e_i72]; rfl
            have hO73 : ReaderOk i72 := by refine ⟨?_, ?_, ?_, ?_, ?_, ?_⟩ <;> omega
            have hf74 := hO73
            have hP : va_P G vwCl [(b, .inr (3, [.ref (q 0), .int (zI (i72 0)), .ref (q 3), .ref (q 4), .int (zI (i72 1)), .int (zI (i72 2)), .ref (q 1), .ref (q 2), .int (zI (i72 3)), .int (zI (i72 4)), .int (zI (i72 5)), .int (zI (i72 6)), .long (zL (i72 7)), .int (zI (i72 8))])), ((q 0), .inl (cB, 900, .inl (fun k => zI ((g 0) k)))), ((q 1), .inl (cJ, 19, .inr (.inl (fun k => zL ((g 1) k))))), ((q 2), .inl (cJ, 10, .inr (.inl (fun k => zL ((g 2) k)))))] H := by subst e_i72; exact hP
            have hD : va_D A [(b, .inr (3, [.ref (q 0), .int (zI (i72 0)), .ref (q 3), .ref (q 4), .int (zI (i72 1)), .int (zI (i72 2)), .ref (q 1), .ref (q 2), .int (zI (i72 3)), .int (zI (i72 4)), .int (zI (i72 5)), .int (zI (i72 6)), .long (zL (i72 7)), .int (zI (i72 8))])), ((q 0), .inl (cB, 900, .inl (fun k => zI ((g 0) k)))), ((q 1), .inl (cJ, 19, .inr (.inl (fun k => zL ((g 1) k))))), ((q 2), .inl (cJ, 10, .inr (.inl (fun k => zL ((g 2) k)))))] := by subst e_i72; exact hD
            refine r_callVv (As := []) (rest := []) (wr := []) F hK hP hD hS hA hO hE (c_X3_lookAtWord hO b q i72 g hO73) k_563 kv_X3_lookAtWord 0 rfl (by decide +kernel) ⟨Nat.le_of_ble_eq_true rfl, Nat.le_of_ble_eq_true rfl⟩ [0, 1, 2, 3] [] rfl rfl (by decide) (by decide) (by decide) 0 3 rfl rfl rfl hl.1 rfl (Nat.le_of_ble_eq_true rfl) dX3_advance_95 ⟨Nat.le_of_ble_eq_true rfl, Nat.le_of_ble_eq_true rfl⟩ (w1 := fun u75 => [(b, .inr (3, [.ref (q 0), .int (zI (u75.1 0)), .ref (q 3), .ref (q 4), .int (zI (u75.1 1)), .int (zI (u75.1 2)), .ref (q 1), .ref (q 2), .int (zI (u75.1 3)), .int (zI (u75.1 4)), .int (zI (u75.1 5)), .int (zI (u75.1 6)), .long (zL (u75.1 7)), .int (zI (u75.1 8))])), ((q 0), .inl (cB, 900, .inl (fun k => zI ((g 0) k)))), ((q 1), .inl (cJ, 19, .inr (.inl (fun k => zL ((g 1) k))))), ((q 2), .inl (cJ, 10, .inr (.inl (fun k => zL ((g 2) k)))))]) (fun _ => rfl) (fun  u75 H locs hp76 hP hD hS => ?_)
            have hx77 := hp76.2
            have hf78 := hp76.1
            refine lv_goto (tgt := 158) hx hb dX3_advance_98 (by decide) ?_
            exact ret (u75.1, fun _ _ => 0) _ _ _ _ _ _ ⟨hp76.1, by dsimp only; omega⟩ (bw_subP (isC := [0, 1, 2, 3]) hP rfl) (hD.sub [0, 1, 2, 3] (by decide) rfl) hS (Nat.le_of_ble_eq_true rfl) (Nat.le_of_ble_eq_true rfl) dX3_advance_158
      · refine lv_aload_n hx hb dX3_advance_65 rfl (lv_at hl 0 rfl) ?_
        refine lv_bipush (v := zI 24) hx hb dX3_advance_66 (by decide) ?_
        refine r_put F hK hP hD hS 0 9 rfl rfl in_X3 tyX3 tyX3_ok nmX3 (by decide) k_275 rfl rfl rfl (Nat.le_of_ble_eq_true rfl) dX3_advance_68 (w1 := [(b, .inr (3, [.ref (q 0), .int (zI (ii 0)), .ref (q 3), .ref (q 4), .int (zI (ii 1)), .int (zI (ii 2)), .ref (q 1), .ref (q 2), .int (zI (ii 3)), .int (zI 24), .int (zI (ii 5)), .int (zI (ii 5)), .long (zL (ii 7)), .int (zI (ii 8))])), ((q 0), .inl (cB, 900, .inl (fun k => zI ((g 0) k)))), ((q 1), .inl (cJ, 19, .inr (.inl (fun k => zL ((g 1) k))))), ((q 2), .inl (cJ, 10, .inr (.inl (fun k => zL ((g 2) k)))))]) rfl (fun H locs hP hD hS => ?_)
        obtain ⟨i79, e_i79⟩ : ∃ i79 : Nat → Int, i79 = fun k => [(ii 0), (ii 1), (ii 2), (ii 3), 24, (ii 5), (ii 5), (ii 7), (ii 8)].getD k 0 := ⟨_, rfl⟩
        have e_i79_0 : i79 0 = (ii 0) := by rw [e_i79]; rfl
        have e_i79_1 : i79 1 = (ii 1) := by rw [e_i79]; rfl
        have e_i79_2 : i79 2 = (ii 2) := by rw [e_i79]; rfl
        have e_i79_3 : i79 3 = (ii 3) := by rw [e_i79]; rfl
        have e_i79_4 : i79 4 = 24 := by rw [e_i79]; rfl
        have e_i79_5 : i79 5 = (ii 5) := by rw [e_i79]; rfl
        have e_i79_6 : i79 6 = (ii 5) := by rw [e_i79]; rfl
        have e_i79_7 : i79 7 = (ii 7) := by rw [e_i79]; rfl
        have e_i79_8 : i79 8 = (ii 8) := by rw [e_i79]; rfl
        have hO80 : ReaderOk i79 := by refine ⟨?_, ?_, ?_, ?_, ?_, ?_⟩ <;> omega
        have hf81 := hO80
        have hP : va_P G vwCl [(b, .inr (3, [.ref (q 0), .int (zI (i79 0)), .ref (q 3), .ref (q 4), .int (zI (i79 1)), .int (zI (i79 2)), .ref (q 1), .ref (q 2), .int (zI (i79 3)), .int (zI (i79 4)), .int (zI (i79 5)), .int (zI (i79 6)), .long (zL (i79 7)), .int (zI (i79 8))])), ((q 0), .inl (cB, 900, .inl (fun k => zI ((g 0) k)))), ((q 1), .inl (cJ, 19, .inr (.inl (fun k => zL ((g 1) k))))), ((q 2), .inl (cJ, 10, .inr (.inl (fun k => zL ((g 2) k)))))] H := by subst e_i79; exact hP
        have hD : va_D A [(b, .inr (3, [.ref (q 0), .int (zI (i79 0)), .ref (q 3), .ref (q 4), .int (zI (i79 1)), .int (zI (i79 2)), .ref (q 1), .ref (q 2), .int (zI (i79 3)), .int (zI (i79 4)), .int (zI (i79 5)), .int (zI (i79 6)), .long (zL (i79 7)), .int (zI (i79 8))])), ((q 0), .inl (cB, 900, .inl (fun k => zI ((g 0) k)))), ((q 1), .inl (cJ, 19, .inr (.inl (fun k => zL ((g 1) k))))), ((q 2), .inl (cJ, 10, .inr (.inl (fun k => zL ((g 2) k)))))] := by subst e_i79; exact hD
        exact ret (i79, fun _ _ => 0) _ _ _ _ _ _ ⟨hO80, by dsimp only; omega⟩ (bw_subP (isC := [0, 1, 2, 3]) hP rfl) (hD.sub [0, 1, 2, 3] (by decide) rfl) hS (Nat.le_of_ble_eq_true rfl) (Nat.le_of_ble_eq_true rfl) dX3_advance_71
    · refine lv_aload_n hx hb dX3_advance_19 rfl (lv_at hl 0 rfl) ?_
      refine r_get F hK hP 0 0 rfl rfl in_X3 (by decide) k_261 rfl dX3_advance_20 ?_
      refine lv_aload_n hx hb dX3_advance_23 rfl (lv_at hl 0 rfl) ?_
      refine r_get F hK hP 0 10 rfl rfl in_X3 (by decide) k_276 rfl dX3_advance_24 ?_
      refine rz_bald F hK hP 1 1 rfl rfl (by omega) (by omega) dX3_advance_27 (fun z82 h_z82 => ?_)
      refine lv_bipush (v := zI 32) hx hb dX3_advance_28 (by decide) ?_
      refine rz_icmp_ne (tgt := 46) F (by omega) (by omega) dX3_advance_30 (by decide) (fun h30_82 => ?_) (fun h30_82 => ?_)
      · refine lv_aload_n hx hb dX3_advance_46 rfl (lv_at hl 0 rfl) ?_
        refine lv_aload_n hx hb dX3_advance_47 rfl (lv_at hl 0 rfl) ?_
        refine r_get F hK hP 0 10 rfl rfl in_X3 (by decide) k_276 rfl dX3_advance_48 ?_
        refine r_put F hK hP hD hS 0 11 rfl rfl in_X3 tyX3 tyX3_ok nmX3 (by decide) k_277 rfl rfl rfl (Nat.le_of_ble_eq_true rfl) dX3_advance_51 (w1 := [(b, .inr (3, [.ref (q 0), .int (zI (ii 0)), .ref (q 3), .ref (q 4), .int (zI (ii 1)), .int (zI (ii 2)), .ref (q 1), .ref (q 2), .int (zI (ii 3)), .int (zI (ii 4)), .int (zI (ii 5)), .int (zI (ii 5)), .long (zL (ii 7)), .int (zI (ii 8))])), ((q 0), .inl (cB, 900, .inl (fun k => zI ((g 0) k)))), ((q 1), .inl (cJ, 19, .inr (.inl (fun k => zL ((g 1) k))))), ((q 2), .inl (cJ, 10, .inr (.inl (fun k => zL ((g 2) k)))))]) rfl (fun H locs hP hD hS => ?_)
        refine lv_aload_n hx hb dX3_advance_54 rfl (lv_at hl 0 rfl) ?_
        refine r_get F hK hP 0 10 rfl rfl in_X3 (by decide) k_276 rfl dX3_advance_55 ?_
        refine lv_aload_n hx hb dX3_advance_58 rfl (lv_at hl 0 rfl) ?_
        refine r_get F hK hP 0 8 rfl rfl in_X3 (by decide) k_274 rfl dX3_advance_59 ?_
        refine rz_icmp_lt (tgt := 72) F (by omega) (by omega) dX3_advance_62 (by decide) (fun h62_83 => ?_) (fun h62_83 => ?_)
        · refine lv_aload_n hx hb dX3_advance_72 rfl (lv_at hl 0 rfl) ?_
          refine r_get F hK hP 0 0 rfl rfl in_X3 (by decide) k_261 rfl dX3_advance_73 ?_
          refine lv_aload_n hx hb dX3_advance_76 rfl (lv_at hl 0 rfl) ?_
          refine r_get F hK hP 0 10 rfl rfl in_X3 (by decide) k_276 rfl dX3_advance_77 ?_
          refine rz_bald F hK hP 1 1 rfl rfl (by omega) (by omega) dX3_advance_80 (fun z85 h_z85 => ?_)
          refine lv_istore_n (lv' := [(1, .int (zI z85)), (0, .ref b)]) hx hb dX3_advance_81 rfl hl (by decide) rfl (fun ls hl => ?_)
          refine lv_iload_n hx hb dX3_advance_82 rfl (lv_at hl 0 rfl) ?_
          refine lv_bipush (v := zI 97) hx hb dX3_advance_83 (by decide) ?_
          refine rz_icmp_lt (tgt := 101) F (by omega) (by omega) dX3_advance_85 (by decide) (fun h85_85 => ?_) (fun h85_85 => ?_)
          · refine lv_iload_n hx hb dX3_advance_101 rfl (lv_at hl 0 rfl) ?_
            refine lv_bipush (v := zI 48) hx hb dX3_advance_102 (by decide) ?_
            refine rz_icmp_lt (tgt := 120) F (by omega) (by omega) dX3_advance_104 (by decide) (fun h104_86 => ?_) (fun h104_86 => ?_)
            · refine lv_aload_n hx hb dX3_advance_120 rfl (lv_at hl 1 rfl) ?_
              refine lv_iload_n hx hb dX3_advance_121 rfl (lv_at hl 0 rfl) ?_
              refine lv_bipush (v := zI 59) hx hb dX3_advance_122 (by decide) ?_
              refine rz_icmp_ne (tgt := 132) F (by omega) (by omega) dX3_advance_124 (by decide) (fun h124_87 => ?_) (fun h124_87 => ?_)
              · refine lv_iload_n hx hb dX3_advance_132 rfl (lv_at hl 0 rfl) ?_
                refine lv_bipush (v := zI 44) hx hb dX3_advance_133 (by decide) ?_
                refine rz_icmp_ne (tgt := 143) F (by omega) (by omega) dX3_advance_135 (by decide) (fun h135_88 => ?_) (fun h135_88 => ?_)
                · refine lv_bipush (v := zI 23) hx hb dX3_advance_143 (by decide) ?_
                  refine r_put F hK hP hD hS 0 9 rfl rfl in_X3 tyX3 tyX3_ok nmX3 (by decide) k_275 rfl rfl rfl (Nat.le_of_ble_eq_true rfl) dX3_advance_145 (w1 := [(b, .inr (3, [.ref (q 0), .int (zI (ii 0)), .ref (q 3), .ref (q 4), .int (zI (ii 1)), .int (zI (ii 2)), .ref (q 1), .ref (q 2), .int (zI (ii 3)), .int (zI 23), .int (zI (ii 5)), .int (zI (ii 5)), .long (zL (ii 7)), .int (zI (ii 8))])), ((q 0), .inl (cB, 900, .inl (fun k => zI ((g 0) k)))), ((q 1), .inl (cJ, 19, .inr (.inl (fun k => zL ((g 1) k))))), ((q 2), .inl (cJ, 10, .inr (.inl (fun k => zL ((g 2) k)))))]) rfl (fun H locs hP hD hS => ?_)
                  refine lv_aload_n hx hb dX3_advance_148 rfl (lv_at hl 1 rfl) ?_
                  refine lv_dup hx hb dX3_advance_149 rfl ?_
                  refine r_get F hK hP 0 11 rfl rfl in_X3 (by decide) k_277 rfl dX3_advance_150 ?_
                  refine lv_iconst (v := zI 1) hx hb dX3_advance_153 rfl ?_
                  refine r_iadd (v := zI ((ii 5) + 1)) F dX3_advance_154 (zI_add _ _) ?_
                  refine r_put F hK hP hD hS 0 11 rfl rfl in_X3 tyX3 tyX3_ok nmX3 (by decide) k_277 rfl rfl rfl (Nat.le_of_ble_eq_true rfl) dX3_advance_155 (w1 := [(b, .inr (3, [.ref (q 0), .int (zI (ii 0)), .ref (q 3), .ref (q 4), .int (zI (ii 1)), .int (zI (ii 2)), .ref (q 1), .ref (q 2), .int (zI (ii 3)), .int (zI 23), .int (zI (ii 5)), .int (zI ((ii 5) + 1)), .long (zL (ii 7)), .int (zI (ii 8))])), ((q 0), .inl (cB, 900, .inl (fun k => zI ((g 0) k)))), ((q 1), .inl (cJ, 19, .inr (.inl (fun k => zL ((g 1) k))))), ((q 2), .inl (cJ, 10, .inr (.inl (fun k => zL ((g 2) k)))))]) rfl (fun H locs hP hD hS => ?_)
                  obtain ⟨i90, e_i90⟩ : ∃ i90 : Nat → Int, i90 = fun k => [(ii 0), (ii 1), (ii 2), (ii 3), 23, (ii 5), ((ii 5) + 1), (ii 7), (ii 8)].getD k 0 := ⟨_, rfl⟩
                  have e_i90_0 : i90 0 = (ii 0) := by rw [e_i90]; rfl
                  have e_i90_1 : i90 1 = (ii 1) := by rw [e_i90]; rfl
                  have e_i90_2 : i90 2 = (ii 2) := by rw [e_i90]; rfl
                  have e_i90_3 : i90 3 = (ii 3) := by rw [e_i90]; rfl
                  have e_i90_4 : i90 4 = 23 := by rw [e_i90]; rfl
                  have e_i90_5 : i90 5 = (ii 5) := by rw [e_i90]; rfl
                  have e_i90_6 : i90 6 = ((ii 5) + 1) := by rw [e_i90]; rfl
                  have e_i90_7 : i90 7 = (ii 7) := by rw [e_i90]; rfl
                  have e_i90_8 : i90 8 = (ii 8) := by rw [e_i90]; rfl
                  have hO91 : ReaderOk i90 := by refine ⟨?_, ?_, ?_, ?_, ?_, ?_⟩ <;> omega
                  have hf92 := hO91
                  have hP : va_P G vwCl [(b, .inr (3, [.ref (q 0), .int (zI (i90 0)), .ref (q 3), .ref (q 4), .int (zI (i90 1)), .int (zI (i90 2)), .ref (q 1), .ref (q 2), .int (zI (i90 3)), .int (zI (i90 4)), .int (zI (i90 5)), .int (zI (i90 6)), .long (zL (i90 7)), .int (zI (i90 8))])), ((q 0), .inl (cB, 900, .inl (fun k => zI ((g 0) k)))), ((q 1), .inl (cJ, 19, .inr (.inl (fun k => zL ((g 1) k))))), ((q 2), .inl (cJ, 10, .inr (.inl (fun k => zL ((g 2) k)))))] H := by subst e_i90; exact hP
                  have hD : va_D A [(b, .inr (3, [.ref (q 0), .int (zI (i90 0)), .ref (q 3), .ref (q 4), .int (zI (i90 1)), .int (zI (i90 2)), .ref (q 1), .ref (q 2), .int (zI (i90 3)), .int (zI (i90 4)), .int (zI (i90 5)), .int (zI (i90 6)), .long (zL (i90 7)), .int (zI (i90 8))])), ((q 0), .inl (cB, 900, .inl (fun k => zI ((g 0) k)))), ((q 1), .inl (cJ, 19, .inr (.inl (fun k => zL ((g 1) k))))), ((q 2), .inl (cJ, 10, .inr (.inl (fun k => zL ((g 2) k)))))] := by subst e_i90; exact hD
                  exact ret (i90, fun _ _ => 0) _ _ _ _ _ _ ⟨hO91, by dsimp only; omega⟩ (bw_subP (isC := [0, 1, 2, 3]) hP rfl) (hD.sub [0, 1, 2, 3] (by decide) rfl) hS (Nat.le_of_ble_eq_true rfl) (Nat.le_of_ble_eq_true rfl) dX3_advance_158
                · refine lv_bipush (v := zI 22) hx hb dX3_advance_138 (by decide) ?_
                  refine lv_goto (tgt := 145) hx hb dX3_advance_140 (by decide) ?_
                  refine r_put F hK hP hD hS 0 9 rfl rfl in_X3 tyX3 tyX3_ok nmX3 (by decide) k_275 rfl rfl rfl (Nat.le_of_ble_eq_true rfl) dX3_advance_145 (w1 := [(b, .inr (3, [.ref (q 0), .int (zI (ii 0)), .ref (q 3), .ref (q 4), .int (zI (ii 1)), .int (zI (ii 2)), .ref (q 1), .ref (q 2), .int (zI (ii 3)), .int (zI 22), .int (zI (ii 5)), .int (zI (ii 5)), .long (zL (ii 7)), .int (zI (ii 8))])), ((q 0), .inl (cB, 900, .inl (fun k => zI ((g 0) k)))), ((q 1), .inl (cJ, 19, .inr (.inl (fun k => zL ((g 1) k))))), ((q 2), .inl (cJ, 10, .inr (.inl (fun k => zL ((g 2) k)))))]) rfl (fun H locs hP hD hS => ?_)
                  refine lv_aload_n hx hb dX3_advance_148 rfl (lv_at hl 1 rfl) ?_
                  refine lv_dup hx hb dX3_advance_149 rfl ?_
                  refine r_get F hK hP 0 11 rfl rfl in_X3 (by decide) k_277 rfl dX3_advance_150 ?_
                  refine lv_iconst (v := zI 1) hx hb dX3_advance_153 rfl ?_
                  refine r_iadd (v := zI ((ii 5) + 1)) F dX3_advance_154 (zI_add _ _) ?_
                  refine r_put F hK hP hD hS 0 11 rfl rfl in_X3 tyX3 tyX3_ok nmX3 (by decide) k_277 rfl rfl rfl (Nat.le_of_ble_eq_true rfl) dX3_advance_155 (w1 := [(b, .inr (3, [.ref (q 0), .int (zI (ii 0)), .ref (q 3), .ref (q 4), .int (zI (ii 1)), .int (zI (ii 2)), .ref (q 1), .ref (q 2), .int (zI (ii 3)), .int (zI 22), .int (zI (ii 5)), .int (zI ((ii 5) + 1)), .long (zL (ii 7)), .int (zI (ii 8))])), ((q 0), .inl (cB, 900, .inl (fun k => zI ((g 0) k)))), ((q 1), .inl (cJ, 19, .inr (.inl (fun k => zL ((g 1) k))))), ((q 2), .inl (cJ, 10, .inr (.inl (fun k => zL ((g 2) k)))))]) rfl (fun H locs hP hD hS => ?_)
                  obtain ⟨i93, e_i93⟩ : ∃ i93 : Nat → Int, i93 = fun k => [(ii 0), (ii 1), (ii 2), (ii 3), 22, (ii 5), ((ii 5) + 1), (ii 7), (ii 8)].getD k 0 := ⟨_, rfl⟩
                  have e_i93_0 : i93 0 = (ii 0) := by rw [e_i93]; rfl
                  have e_i93_1 : i93 1 = (ii 1) := by rw [e_i93]; rfl
                  have e_i93_2 : i93 2 = (ii 2) := by rw [e_i93]; rfl
                  have e_i93_3 : i93 3 = (ii 3) := by rw [e_i93]; rfl
                  have e_i93_4 : i93 4 = 22 := by rw [e_i93]; rfl
                  have e_i93_5 : i93 5 = (ii 5) := by rw [e_i93]; rfl
                  have e_i93_6 : i93 6 = ((ii 5) + 1) := by rw [e_i93]; rfl
                  have e_i93_7 : i93 7 = (ii 7) := by rw [e_i93]; rfl
                  have e_i93_8 : i93 8 = (ii 8) := by rw [e_i93]; rfl
                  have hO94 : ReaderOk i93 := by refine ⟨?_, ?_, ?_, ?_, ?_, ?_⟩ <;> omega
                  have hf95 := hO94
                  have hP : va_P G vwCl [(b, .inr (3, [.ref (q 0), .int (zI (i93 0)), .ref (q 3), .ref (q 4), .int (zI (i93 1)), .int (zI (i93 2)), .ref (q 1), .ref (q 2), .int (zI (i93 3)), .int (zI (i93 4)), .int (zI (i93 5)), .int (zI (i93 6)), .long (zL (i93 7)), .int (zI (i93 8))])), ((q 0), .inl (cB, 900, .inl (fun k => zI ((g 0) k)))), ((q 1), .inl (cJ, 19, .inr (.inl (fun k => zL ((g 1) k))))), ((q 2), .inl (cJ, 10, .inr (.inl (fun k => zL ((g 2) k)))))] H := by subst e_i93; exact hP
                  have hD : va_D A [(b, .inr (3, [.ref (q 0), .int (zI (i93 0)), .ref (q 3), .ref (q 4), .int (zI (i93 1)), .int (zI (i93 2)), .ref (q 1), .ref (q 2), .int (zI (i93 3)), .int (zI (i93 4)), .int (zI (i93 5)), .int (zI (i93 6)), .long (zL (i93 7)), .int (zI (i93 8))])), ((q 0), .inl (cB, 900, .inl (fun k => zI ((g 0) k)))), ((q 1), .inl (cJ, 19, .inr (.inl (fun k => zL ((g 1) k))))), ((q 2), .inl (cJ, 10, .inr (.inl (fun k => zL ((g 2) k)))))] := by subst e_i93; exact hD
                  exact ret (i93, fun _ _ => 0) _ _ _ _ _ _ ⟨hO94, by dsimp only; omega⟩ (bw_subP (isC := [0, 1, 2, 3]) hP rfl) (hD.sub [0, 1, 2, 3] (by decide) rfl) hS (Nat.le_of_ble_eq_true rfl) (Nat.le_of_ble_eq_true rfl) dX3_advance_158
              · refine lv_bipush (v := zI 21) hx hb dX3_advance_127 (by decide) ?_
                refine lv_goto (tgt := 145) hx hb dX3_advance_129 (by decide) ?_
                refine r_put F hK hP hD hS 0 9 rfl rfl in_X3 tyX3 tyX3_ok nmX3 (by decide) k_275 rfl rfl rfl (Nat.le_of_ble_eq_true rfl) dX3_advance_145 (w1 := [(b, .inr (3, [.ref (q 0), .int (zI (ii 0)), .ref (q 3), .ref (q 4), .int (zI (ii 1)), .int (zI (ii 2)), .ref (q 1), .ref (q 2), .int (zI (ii 3)), .int (zI 21), .int (zI (ii 5)), .int (zI (ii 5)), .long (zL (ii 7)), .int (zI (ii 8))])), ((q 0), .inl (cB, 900, .inl (fun k => zI ((g 0) k)))), ((q 1), .inl (cJ, 19, .inr (.inl (fun k => zL ((g 1) k))))), ((q 2), .inl (cJ, 10, .inr (.inl (fun k => zL ((g 2) k)))))]) rfl (fun H locs hP hD hS => ?_)
                refine lv_aload_n hx hb dX3_advance_148 rfl (lv_at hl 1 rfl) ?_
                refine lv_dup hx hb dX3_advance_149 rfl ?_
                refine r_get F hK hP 0 11 rfl rfl in_X3 (by decide) k_277 rfl dX3_advance_150 ?_
                refine lv_iconst (v := zI 1) hx hb dX3_advance_153 rfl ?_
                refine r_iadd (v := zI ((ii 5) + 1)) F dX3_advance_154 (zI_add _ _) ?_
                refine r_put F hK hP hD hS 0 11 rfl rfl in_X3 tyX3 tyX3_ok nmX3 (by decide) k_277 rfl rfl rfl (Nat.le_of_ble_eq_true rfl) dX3_advance_155 (w1 := [(b, .inr (3, [.ref (q 0), .int (zI (ii 0)), .ref (q 3), .ref (q 4), .int (zI (ii 1)), .int (zI (ii 2)), .ref (q 1), .ref (q 2), .int (zI (ii 3)), .int (zI 21), .int (zI (ii 5)), .int (zI ((ii 5) + 1)), .long (zL (ii 7)), .int (zI (ii 8))])), ((q 0), .inl (cB, 900, .inl (fun k => zI ((g 0) k)))), ((q 1), .inl (cJ, 19, .inr (.inl (fun k => zL ((g 1) k))))), ((q 2), .inl (cJ, 10, .inr (.inl (fun k => zL ((g 2) k)))))]) rfl (fun H locs hP hD hS => ?_)
                obtain ⟨i96, e_i96⟩ : ∃ i96 : Nat → Int, i96 = fun k => [(ii 0), (ii 1), (ii 2), (ii 3), 21, (ii 5), ((ii 5) + 1), (ii 7), (ii 8)].getD k 0 := ⟨_, rfl⟩
                have e_i96_0 : i96 0 = (ii 0) := by rw [e_i96]; rfl
                have e_i96_1 : i96 1 = (ii 1) := by rw [e_i96]; rfl
                have e_i96_2 : i96 2 = (ii 2) := by rw [e_i96]; rfl
                have e_i96_3 : i96 3 = (ii 3) := by rw [e_i96]; rfl
                have e_i96_4 : i96 4 = 21 := by rw [e_i96]; rfl
                have e_i96_5 : i96 5 = (ii 5) := by rw [e_i96]; rfl
                have e_i96_6 : i96 6 = ((ii 5) + 1) := by rw [e_i96]; rfl
                have e_i96_7 : i96 7 = (ii 7) := by rw [e_i96]; rfl
                have e_i96_8 : i96 8 = (ii 8) := by rw [e_i96]; rfl
                have hO97 : ReaderOk i96 := by refine ⟨?_, ?_, ?_, ?_, ?_, ?_⟩ <;> omega
                have hf98 := hO97
                have hP : va_P G vwCl [(b, .inr (3, [.ref (q 0), .int (zI (i96 0)), .ref (q 3), .ref (q 4), .int (zI (i96 1)), .int (zI (i96 2)), .ref (q 1), .ref (q 2), .int (zI (i96 3)), .int (zI (i96 4)), .int (zI (i96 5)), .int (zI (i96 6)), .long (zL (i96 7)), .int (zI (i96 8))])), ((q 0), .inl (cB, 900, .inl (fun k => zI ((g 0) k)))), ((q 1), .inl (cJ, 19, .inr (.inl (fun k => zL ((g 1) k))))), ((q 2), .inl (cJ, 10, .inr (.inl (fun k => zL ((g 2) k)))))] H := by subst e_i96; exact hP
                have hD : va_D A [(b, .inr (3, [.ref (q 0), .int (zI (i96 0)), .ref (q 3), .ref (q 4), .int (zI (i96 1)), .int (zI (i96 2)), .ref (q 1), .ref (q 2), .int (zI (i96 3)), .int (zI (i96 4)), .int (zI (i96 5)), .int (zI (i96 6)), .long (zL (i96 7)), .int (zI (i96 8))])), ((q 0), .inl (cB, 900, .inl (fun k => zI ((g 0) k)))), ((q 1), .inl (cJ, 19, .inr (.inl (fun k => zL ((g 1) k))))), ((q 2), .inl (cJ, 10, .inr (.inl (fun k => zL ((g 2) k)))))] := by subst e_i96; exact hD
                exact ret (i96, fun _ _ => 0) _ _ _ _ _ _ ⟨hO97, by dsimp only; omega⟩ (bw_subP (isC := [0, 1, 2, 3]) hP rfl) (hD.sub [0, 1, 2, 3] (by decide) rfl) hS (Nat.le_of_ble_eq_true rfl) (Nat.le_of_ble_eq_true rfl) dX3_advance_158
            · refine lv_iload_n hx hb dX3_advance_107 rfl (lv_at hl 0 rfl) ?_
              refine lv_bipush (v := zI 57) hx hb dX3_advance_108 (by decide) ?_
              refine rz_icmp_gt (tgt := 120) F (by omega) (by omega) dX3_advance_110 (by decide) (fun h110_98 => ?_) (fun h110_98 => ?_)
              · refine lv_aload_n hx hb dX3_advance_120 rfl (lv_at hl 1 rfl) ?_
                refine lv_iload_n hx hb dX3_advance_121 rfl (lv_at hl 0 rfl) ?_
                refine lv_bipush (v := zI 59) hx hb dX3_advance_122 (by decide) ?_
                refine rz_icmp_ne (tgt := 132) F (by omega) (by omega) dX3_advance_124 (by decide) (fun h124_99 => ?_) (fun h124_99 => ?_)
                · refine lv_iload_n hx hb dX3_advance_132 rfl (lv_at hl 0 rfl) ?_
                  refine lv_bipush (v := zI 44) hx hb dX3_advance_133 (by decide) ?_
                  refine rz_icmp_ne (tgt := 143) F (by omega) (by omega) dX3_advance_135 (by decide) (fun h135_100 => ?_) (fun h135_100 => ?_)
                  · refine lv_bipush (v := zI 23) hx hb dX3_advance_143 (by decide) ?_
                    refine r_put F hK hP hD hS 0 9 rfl rfl in_X3 tyX3 tyX3_ok nmX3 (by decide) k_275 rfl rfl rfl (Nat.le_of_ble_eq_true rfl) dX3_advance_145 (w1 := [(b, .inr (3, [.ref (q 0), .int (zI (ii 0)), .ref (q 3), .ref (q 4), .int (zI (ii 1)), .int (zI (ii 2)), .ref (q 1), .ref (q 2), .int (zI (ii 3)), .int (zI 23), .int (zI (ii 5)), .int (zI (ii 5)), .long (zL (ii 7)), .int (zI (ii 8))])), ((q 0), .inl (cB, 900, .inl (fun k => zI ((g 0) k)))), ((q 1), .inl (cJ, 19, .inr (.inl (fun k => zL ((g 1) k))))), ((q 2), .inl (cJ, 10, .inr (.inl (fun k => zL ((g 2) k)))))]) rfl (fun H locs hP hD hS => ?_)
                    refine lv_aload_n hx hb dX3_advance_148 rfl (lv_at hl 1 rfl) ?_
                    refine lv_dup hx hb dX3_advance_149 rfl ?_
                    refine r_get F hK hP 0 11 rfl rfl in_X3 (by decide) k_277 rfl dX3_advance_150 ?_
                    refine lv_iconst (v := zI 1) hx hb dX3_advance_153 rfl ?_
                    refine r_iadd (v := zI ((ii 5) + 1)) F dX3_advance_154 (zI_add _ _) ?_
                    refine r_put F hK hP hD hS 0 11 rfl rfl in_X3 tyX3 tyX3_ok nmX3 (by decide) k_277 rfl rfl rfl (Nat.le_of_ble_eq_true rfl) dX3_advance_155 (w1 := [(b, .inr (3, [.ref (q 0), .int (zI (ii 0)), .ref (q 3), .ref (q 4), .int (zI (ii 1)), .int (zI (ii 2)), .ref (q 1), .ref (q 2), .int (zI (ii 3)), .int (zI 23), .int (zI (ii 5)), .int (zI ((ii 5) + 1)), .long (zL (ii 7)), .int (zI (ii 8))])), ((q 0), .inl (cB, 900, .inl (fun k => zI ((g 0) k)))), ((q 1), .inl (cJ, 19, .inr (.inl (fun k => zL ((g 1) k))))), ((q 2), .inl (cJ, 10, .inr (.inl (fun k => zL ((g 2) k)))))]) rfl (fun H locs hP hD hS => ?_)
                    obtain ⟨i102, e_i102⟩ : ∃ i102 : Nat → Int, i102 = fun k => [(ii 0), (ii 1), (ii 2), (ii 3), 23, (ii 5), ((ii 5) + 1), (ii 7), (ii 8)].getD k 0 := ⟨_, rfl⟩
                    have e_i102_0 : i102 0 = (ii 0) := by rw [e_i102]; rfl
                    have e_i102_1 : i102 1 = (ii 1) := by rw [e_i102]; rfl
                    have e_i102_2 : i102 2 = (ii 2) := by rw [e_i102]; rfl
                    have e_i102_3 : i102 3 = (ii 3) := by rw [e_i102]; rfl
                    have e_i102_4 : i102 4 = 23 := by rw [e_i102]; rfl
                    have e_i102_5 : i102 5 = (ii 5) := by rw [e_i102]; rfl
                    have e_i102_6 : i102 6 = ((ii 5) + 1) := by rw [e_i102]; rfl
                    have e_i102_7 : i102 7 = (ii 7) := by rw [e_i102]; rfl
                    have e_i102_8 : i102 8 = (ii 8) := by rw [e_i102]; rfl
                    have hO103 : ReaderOk i102 := by refine ⟨?_, ?_, ?_, ?_, ?_, ?_⟩ <;> omega
                    have hf104 := hO103
                    have hP : va_P G vwCl [(b, .inr (3, [.ref (q 0), .int (zI (i102 0)), .ref (q 3), .ref (q 4), .int (zI (i102 1)), .int (zI (i102 2)), .ref (q 1), .ref (q 2), .int (zI (i102 3)), .int (zI (i102 4)), .int (zI (i102 5)), .int (zI (i102 6)), .long (zL (i102 7)), .int (zI (i102 8))])), ((q 0), .inl (cB, 900, .inl (fun k => zI ((g 0) k)))), ((q 1), .inl (cJ, 19, .inr (.inl (fun k => zL ((g 1) k))))), ((q 2), .inl (cJ, 10, .inr (.inl (fun k => zL ((g 2) k)))))] H := by subst e_i102; exact hP
                    have hD : va_D A [(b, .inr (3, [.ref (q 0), .int (zI (i102 0)), .ref (q 3), .ref (q 4), .int (zI (i102 1)), .int (zI (i102 2)), .ref (q 1), .ref (q 2), .int (zI (i102 3)), .int (zI (i102 4)), .int (zI (i102 5)), .int (zI (i102 6)), .long (zL (i102 7)), .int (zI (i102 8))])), ((q 0), .inl (cB, 900, .inl (fun k => zI ((g 0) k)))), ((q 1), .inl (cJ, 19, .inr (.inl (fun k => zL ((g 1) k))))), ((q 2), .inl (cJ, 10, .inr (.inl (fun k => zL ((g 2) k)))))] := by subst e_i102; exact hD
                    exact ret (i102, fun _ _ => 0) _ _ _ _ _ _ ⟨hO103, by dsimp only; omega⟩ (bw_subP (isC := [0, 1, 2, 3]) hP rfl) (hD.sub [0, 1, 2, 3] (by decide) rfl) hS (Nat.le_of_ble_eq_true rfl) (Nat.le_of_ble_eq_true rfl) dX3_advance_158
                  · refine lv_bipush (v := zI 22) hx hb dX3_advance_138 (by decide) ?_
                    refine lv_goto (tgt := 145) hx hb dX3_advance_140 (by decide) ?_
                    refine r_put F hK hP hD hS 0 9 rfl rfl in_X3 tyX3 tyX3_ok nmX3 (by decide) k_275 rfl rfl rfl (Nat.le_of_ble_eq_true rfl) dX3_advance_145 (w1 := [(b, .inr (3, [.ref (q 0), .int (zI (ii 0)), .ref (q 3), .ref (q 4), .int (zI (ii 1)), .int (zI (ii 2)), .ref (q 1), .ref (q 2), .int (zI (ii 3)), .int (zI 22), .int (zI (ii 5)), .int (zI (ii 5)), .long (zL (ii 7)), .int (zI (ii 8))])), ((q 0), .inl (cB, 900, .inl (fun k => zI ((g 0) k)))), ((q 1), .inl (cJ, 19, .inr (.inl (fun k => zL ((g 1) k))))), ((q 2), .inl (cJ, 10, .inr (.inl (fun k => zL ((g 2) k)))))]) rfl (fun H locs hP hD hS => ?_)
                    refine lv_aload_n hx hb dX3_advance_148 rfl (lv_at hl 1 rfl) ?_
                    refine lv_dup hx hb dX3_advance_149 rfl ?_
                    refine r_get F hK hP 0 11 rfl rfl in_X3 (by decide) k_277 rfl dX3_advance_150 ?_
                    refine lv_iconst (v := zI 1) hx hb dX3_advance_153 rfl ?_
                    refine r_iadd (v := zI ((ii 5) + 1)) F dX3_advance_154 (zI_add _ _) ?_
                    refine r_put F hK hP hD hS 0 11 rfl rfl in_X3 tyX3 tyX3_ok nmX3 (by decide) k_277 rfl rfl rfl (Nat.le_of_ble_eq_true rfl) dX3_advance_155 (w1 := [(b, .inr (3, [.ref (q 0), .int (zI (ii 0)), .ref (q 3), .ref (q 4), .int (zI (ii 1)), .int (zI (ii 2)), .ref (q 1), .ref (q 2), .int (zI (ii 3)), .int (zI 22), .int (zI (ii 5)), .int (zI ((ii 5) + 1)), .long (zL (ii 7)), .int (zI (ii 8))])), ((q 0), .inl (cB, 900, .inl (fun k => zI ((g 0) k)))), ((q 1), .inl (cJ, 19, .inr (.inl (fun k => zL ((g 1) k))))), ((q 2), .inl (cJ, 10, .inr (.inl (fun k => zL ((g 2) k)))))]) rfl (fun H locs hP hD hS => ?_)
                    obtain ⟨i105, e_i105⟩ : ∃ i105 : Nat → Int, i105 = fun k => [(ii 0), (ii 1), (ii 2), (ii 3), 22, (ii 5), ((ii 5) + 1), (ii 7), (ii 8)].getD k 0 := ⟨_, rfl⟩
                    have e_i105_0 : i105 0 = (ii 0) := by rw [e_i105]; rfl
                    have e_i105_1 : i105 1 = (ii 1) := by rw [e_i105]; rfl
                    have e_i105_2 : i105 2 = (ii 2) := by rw [e_i105]; rfl
                    have e_i105_3 : i105 3 = (ii 3) := by rw [e_i105]; rfl
                    have e_i105_4 : i105 4 = 22 := by rw [e_i105]; rfl
                    have e_i105_5 : i105 5 = (ii 5) := by rw [e_i105]; rfl
                    have e_i105_6 : i105 6 = ((ii 5) + 1) := by rw [e_i105]; rfl
                    have e_i105_7 : i105 7 = (ii 7) := by rw [e_i105]; rfl
                    have e_i105_8 : i105 8 = (ii 8) := by rw [e_i105]; rfl
                    have hO106 : ReaderOk i105 := by refine ⟨?_, ?_, ?_, ?_, ?_, ?_⟩ <;> omega
                    have hf107 := hO106
                    have hP : va_P G vwCl [(b, .inr (3, [.ref (q 0), .int (zI (i105 0)), .ref (q 3), .ref (q 4), .int (zI (i105 1)), .int (zI (i105 2)), .ref (q 1), .ref (q 2), .int (zI (i105 3)), .int (zI (i105 4)), .int (zI (i105 5)), .int (zI (i105 6)), .long (zL (i105 7)), .int (zI (i105 8))])), ((q 0), .inl (cB, 900, .inl (fun k => zI ((g 0) k)))), ((q 1), .inl (cJ, 19, .inr (.inl (fun k => zL ((g 1) k))))), ((q 2), .inl (cJ, 10, .inr (.inl (fun k => zL ((g 2) k)))))] H := by subst e_i105; exact hP
                    have hD : va_D A [(b, .inr (3, [.ref (q 0), .int (zI (i105 0)), .ref (q 3), .ref (q 4), .int (zI (i105 1)), .int (zI (i105 2)), .ref (q 1), .ref (q 2), .int (zI (i105 3)), .int (zI (i105 4)), .int (zI (i105 5)), .int (zI (i105 6)), .long (zL (i105 7)), .int (zI (i105 8))])), ((q 0), .inl (cB, 900, .inl (fun k => zI ((g 0) k)))), ((q 1), .inl (cJ, 19, .inr (.inl (fun k => zL ((g 1) k))))), ((q 2), .inl (cJ, 10, .inr (.inl (fun k => zL ((g 2) k)))))] := by subst e_i105; exact hD
                    exact ret (i105, fun _ _ => 0) _ _ _ _ _ _ ⟨hO106, by dsimp only; omega⟩ (bw_subP (isC := [0, 1, 2, 3]) hP rfl) (hD.sub [0, 1, 2, 3] (by decide) rfl) hS (Nat.le_of_ble_eq_true rfl) (Nat.le_of_ble_eq_true rfl) dX3_advance_158
                · refine lv_bipush (v := zI 21) hx hb dX3_advance_127 (by decide) ?_
                  refine lv_goto (tgt := 145) hx hb dX3_advance_129 (by decide) ?_
                  refine r_put F hK hP hD hS 0 9 rfl rfl in_X3 tyX3 tyX3_ok nmX3 (by decide) k_275 rfl rfl rfl (Nat.le_of_ble_eq_true rfl) dX3_advance_145 (w1 := [(b, .inr (3, [.ref (q 0), .int (zI (ii 0)), .ref (q 3), .ref (q 4), .int (zI (ii 1)), .int (zI (ii 2)), .ref (q 1), .ref (q 2), .int (zI (ii 3)), .int (zI 21), .int (zI (ii 5)), .int (zI (ii 5)), .long (zL (ii 7)), .int (zI (ii 8))])), ((q 0), .inl (cB, 900, .inl (fun k => zI ((g 0) k)))), ((q 1), .inl (cJ, 19, .inr (.inl (fun k => zL ((g 1) k))))), ((q 2), .inl (cJ, 10, .inr (.inl (fun k => zL ((g 2) k)))))]) rfl (fun H locs hP hD hS => ?_)
                  refine lv_aload_n hx hb dX3_advance_148 rfl (lv_at hl 1 rfl) ?_
                  refine lv_dup hx hb dX3_advance_149 rfl ?_
                  refine r_get F hK hP 0 11 rfl rfl in_X3 (by decide) k_277 rfl dX3_advance_150 ?_
                  refine lv_iconst (v := zI 1) hx hb dX3_advance_153 rfl ?_
                  refine r_iadd (v := zI ((ii 5) + 1)) F dX3_advance_154 (zI_add _ _) ?_
                  refine r_put F hK hP hD hS 0 11 rfl rfl in_X3 tyX3 tyX3_ok nmX3 (by decide) k_277 rfl rfl rfl (Nat.le_of_ble_eq_true rfl) dX3_advance_155 (w1 := [(b, .inr (3, [.ref (q 0), .int (zI (ii 0)), .ref (q 3), .ref (q 4), .int (zI (ii 1)), .int (zI (ii 2)), .ref (q 1), .ref (q 2), .int (zI (ii 3)), .int (zI 21), .int (zI (ii 5)), .int (zI ((ii 5) + 1)), .long (zL (ii 7)), .int (zI (ii 8))])), ((q 0), .inl (cB, 900, .inl (fun k => zI ((g 0) k)))), ((q 1), .inl (cJ, 19, .inr (.inl (fun k => zL ((g 1) k))))), ((q 2), .inl (cJ, 10, .inr (.inl (fun k => zL ((g 2) k)))))]) rfl (fun H locs hP hD hS => ?_)
                  obtain ⟨i108, e_i108⟩ : ∃ i108 : Nat → Int, i108 = fun k => [(ii 0), (ii 1), (ii 2), (ii 3), 21, (ii 5), ((ii 5) + 1), (ii 7), (ii 8)].getD k 0 := ⟨_, rfl⟩
                  have e_i108_0 : i108 0 = (ii 0) := by rw [e_i108]; rfl
                  have e_i108_1 : i108 1 = (ii 1) := by rw [e_i108]; rfl
                  have e_i108_2 : i108 2 = (ii 2) := by rw [e_i108]; rfl
                  have e_i108_3 : i108 3 = (ii 3) := by rw [e_i108]; rfl
                  have e_i108_4 : i108 4 = 21 := by rw [e_i108]; rfl
                  have e_i108_5 : i108 5 = (ii 5) := by rw [e_i108]; rfl
                  have e_i108_6 : i108 6 = ((ii 5) + 1) := by rw [e_i108]; rfl
                  have e_i108_7 : i108 7 = (ii 7) := by rw [e_i108]; rfl
                  have e_i108_8 : i108 8 = (ii 8) := by rw [e_i108]; rfl
                  have hO109 : ReaderOk i108 := by refine ⟨?_, ?_, ?_, ?_, ?_, ?_⟩ <;> omega
                  have hf110 := hO109
                  have hP : va_P G vwCl [(b, .inr (3, [.ref (q 0), .int (zI (i108 0)), .ref (q 3), .ref (q 4), .int (zI (i108 1)), .int (zI (i108 2)), .ref (q 1), .ref (q 2), .int (zI (i108 3)), .int (zI (i108 4)), .int (zI (i108 5)), .int (zI (i108 6)), .long (zL (i108 7)), .int (zI (i108 8))])), ((q 0), .inl (cB, 900, .inl (fun k => zI ((g 0) k)))), ((q 1), .inl (cJ, 19, .inr (.inl (fun k => zL ((g 1) k))))), ((q 2), .inl (cJ, 10, .inr (.inl (fun k => zL ((g 2) k)))))] H := by subst e_i108; exact hP
                  have hD : va_D A [(b, .inr (3, [.ref (q 0), .int (zI (i108 0)), .ref (q 3), .ref (q 4), .int (zI (i108 1)), .int (zI (i108 2)), .ref (q 1), .ref (q 2), .int (zI (i108 3)), .int (zI (i108 4)), .int (zI (i108 5)), .int (zI (i108 6)), .long (zL (i108 7)), .int (zI (i108 8))])), ((q 0), .inl (cB, 900, .inl (fun k => zI ((g 0) k)))), ((q 1), .inl (cJ, 19, .inr (.inl (fun k => zL ((g 1) k))))), ((q 2), .inl (cJ, 10, .inr (.inl (fun k => zL ((g 2) k)))))] := by subst e_i108; exact hD
                  exact ret (i108, fun _ _ => 0) _ _ _ _ _ _ ⟨hO109, by dsimp only; omega⟩ (bw_subP (isC := [0, 1, 2, 3]) hP rfl) (hD.sub [0, 1, 2, 3] (by decide) rfl) hS (Nat.le_of_ble_eq_true rfl) (Nat.le_of_ble_eq_true rfl) dX3_advance_158
              · refine lv_aload_n hx hb dX3_advance_113 rfl (lv_at hl 1 rfl) ?_
                obtain ⟨i111, e_i111⟩ : ∃ i111 : Nat → Int, i111 = fun k => [(ii 0), (ii 1), (ii 2), (ii 3), (ii 4), (ii 5), (ii 5), (ii 7), (ii 8)].getD k 0 := ⟨_, rfl⟩
                have e_i111_0 : i111 0 = (ii 0) := by rw [e_i111]; rfl
                have e_i111_1 : i111 1 = (ii 1) := by rw [e_i111]; rfl
                have e_i111_2 : i111 2 = (ii 2) := by rw [e_i111]; rfl
                have e_i111_3 : i111 3 = (ii 3) := by rw [e_i111]; rfl
                have e_i111_4 : i111 4 = (ii 4) := by rw [e_i111]; rfl
                have e_i111_5 : i111 5 = (ii 5) := by rw [e_i111]; rfl
                have e_i111_6 : i111 6 = (ii 5) := by rw [e_i111]; rfl
                have e_i111_7 : i111 7 = (ii 7) := by rw [e_i111]; rfl
                have e_i111_8 : i111 8 = (ii 8) := by rw [e_i111]; rfl
                have hO112 : ReaderOk i111 := by refine ⟨?_, ?_, ?_, ?_, ?_, ?_⟩ <;> omega
                have hf113 := hO112
                have hP : va_P G vwCl [(b, .inr (3, [.ref (q 0), .int (zI (i111 0)), .ref (q 3), .ref (q 4), .int (zI (i111 1)), .int (zI (i111 2)), .ref (q 1), .ref (q 2), .int (zI (i111 3)), .int (zI (i111 4)), .int (zI (i111 5)), .int (zI (i111 6)), .long (zL (i111 7)), .int (zI (i111 8))])), ((q 0), .inl (cB, 900, .inl (fun k => zI ((g 0) k)))), ((q 1), .inl (cJ, 19, .inr (.inl (fun k => zL ((g 1) k))))), ((q 2), .inl (cJ, 10, .inr (.inl (fun k => zL ((g 2) k)))))] H := by subst e_i111; exact hP
                have hD : va_D A [(b, .inr (3, [.ref (q 0), .int (zI (i111 0)), .ref (q 3), .ref (q 4), .int (zI (i111 1)), .int (zI (i111 2)), .ref (q 1), .ref (q 2), .int (zI (i111 3)), .int (zI (i111 4)), .int (zI (i111 5)), .int (zI (i111 6)), .long (zL (i111 7)), .int (zI (i111 8))])), ((q 0), .inl (cB, 900, .inl (fun k => zI ((g 0) k)))), ((q 1), .inl (cJ, 19, .inr (.inl (fun k => zL ((g 1) k))))), ((q 2), .inl (cJ, 10, .inr (.inl (fun k => zL ((g 2) k)))))] := by subst e_i111; exact hD
                refine r_callVv (As := []) (rest := []) (wr := []) F hK hP hD hS hA hO hE (c_X3_lookAtWhole hO b q i111 g hO112) k_567 kv_X3_lookAtWhole 0 rfl (by decide +kernel) ⟨Nat.le_of_ble_eq_true rfl, Nat.le_of_ble_eq_true rfl⟩ [0, 1, 2, 3] [] rfl rfl (by decide) (by decide) (by decide) 0 3 rfl rfl rfl hl.1 rfl (Nat.le_of_ble_eq_true rfl) dX3_advance_114 ⟨Nat.le_of_ble_eq_true rfl, Nat.le_of_ble_eq_true rfl⟩ (w1 := fun u114 => [(b, .inr (3, [.ref (q 0), .int (zI (u114.1 0)), .ref (q 3), .ref (q 4), .int (zI (u114.1 1)), .int (zI (u114.1 2)), .ref (q 1), .ref (q 2), .int (zI (u114.1 3)), .int (zI (u114.1 4)), .int (zI (u114.1 5)), .int (zI (u114.1 6)), .long (zL (u114.1 7)), .int (zI (u114.1 8))])), ((q 0), .inl (cB, 900, .inl (fun k => zI ((g 0) k)))), ((q 1), .inl (cJ, 19, .inr (.inl (fun k => zL ((g 1) k))))), ((q 2), .inl (cJ, 10, .inr (.inl (fun k => zL ((g 2) k)))))]) (fun _ => rfl) (fun  u114 H locs hp115 hP hD hS => ?_)
                have hx116 := hp115.2
                have hf117 := hp115.1
                refine lv_goto (tgt := 158) hx hb dX3_advance_117 (by decide) ?_
                exact ret (u114.1, fun _ _ => 0) _ _ _ _ _ _ ⟨hp115.1, by dsimp only; omega⟩ (bw_subP (isC := [0, 1, 2, 3]) hP rfl) (hD.sub [0, 1, 2, 3] (by decide) rfl) hS (Nat.le_of_ble_eq_true rfl) (Nat.le_of_ble_eq_true rfl) dX3_advance_158
          · refine lv_iload_n hx hb dX3_advance_88 rfl (lv_at hl 0 rfl) ?_
            refine lv_bipush (v := zI 122) hx hb dX3_advance_89 (by decide) ?_
            refine rz_icmp_gt (tgt := 101) F (by omega) (by omega) dX3_advance_91 (by decide) (fun h91_117 => ?_) (fun h91_117 => ?_)
            · refine lv_iload_n hx hb dX3_advance_101 rfl (lv_at hl 0 rfl) ?_
              refine lv_bipush (v := zI 48) hx hb dX3_advance_102 (by decide) ?_
              refine rz_icmp_lt (tgt := 120) F (by omega) (by omega) dX3_advance_104 (by decide) (fun h104_118 => ?_) (fun h104_118 => ?_)
              · refine lv_aload_n hx hb dX3_advance_120 rfl (lv_at hl 1 rfl) ?_
                refine lv_iload_n hx hb dX3_advance_121 rfl (lv_at hl 0 rfl) ?_
                refine lv_bipush (v := zI 59) hx hb dX3_advance_122 (by decide) ?_
                refine rz_icmp_ne (tgt := 132) F (by omega) (by omega) dX3_advance_124 (by decide) (fun h124_119 => ?_) (fun h124_119 => ?_)
                · refine lv_iload_n hx hb dX3_advance_132 rfl (lv_at hl 0 rfl) ?_
                  refine lv_bipush (v := zI 44) hx hb dX3_advance_133 (by decide) ?_
                  refine rz_icmp_ne (tgt := 143) F (by omega) (by omega) dX3_advance_135 (by decide) (fun h135_120 => ?_) (fun h135_120 => ?_)
                  · refine lv_bipush (v := zI 23) hx hb dX3_advance_143 (by decide) ?_
                    refine r_put F hK hP hD hS 0 9 rfl rfl in_X3 tyX3 tyX3_ok nmX3 (by decide) k_275 rfl rfl rfl (Nat.le_of_ble_eq_true rfl) dX3_advance_145 (w1 := [(b, .inr (3, [.ref (q 0), .int (zI (ii 0)), .ref (q 3), .ref (q 4), .int (zI (ii 1)), .int (zI (ii 2)), .ref (q 1), .ref (q 2), .int (zI (ii 3)), .int (zI 23), .int (zI (ii 5)), .int (zI (ii 5)), .long (zL (ii 7)), .int (zI (ii 8))])), ((q 0), .inl (cB, 900, .inl (fun k => zI ((g 0) k)))), ((q 1), .inl (cJ, 19, .inr (.inl (fun k => zL ((g 1) k))))), ((q 2), .inl (cJ, 10, .inr (.inl (fun k => zL ((g 2) k)))))]) rfl (fun H locs hP hD hS => ?_)
                    refine lv_aload_n hx hb dX3_advance_148 rfl (lv_at hl 1 rfl) ?_
                    refine lv_dup hx hb dX3_advance_149 rfl ?_
                    refine r_get F hK hP 0 11 rfl rfl in_X3 (by decide) k_277 rfl dX3_advance_150 ?_
                    refine lv_iconst (v := zI 1) hx hb dX3_advance_153 rfl ?_
                    refine r_iadd (v := zI ((ii 5) + 1)) F dX3_advance_154 (zI_add _ _) ?_
                    refine r_put F hK hP hD hS 0 11 rfl rfl in_X3 tyX3 tyX3_ok nmX3 (by decide) k_277 rfl rfl rfl (Nat.le_of_ble_eq_true rfl) dX3_advance_155 (w1 := [(b, .inr (3, [.ref (q 0), .int (zI (ii 0)), .ref (q 3), .ref (q 4), .int (zI (ii 1)), .int (zI (ii 2)), .ref (q 1), .ref (q 2), .int (zI (ii 3)), .int (zI 23), .int (zI (ii 5)), .int (zI ((ii 5) + 1)), .long (zL (ii 7)), .int (zI (ii 8))])), ((q 0), .inl (cB, 900, .inl (fun k => zI ((g 0) k)))), ((q 1), .inl (cJ, 19, .inr (.inl (fun k => zL ((g 1) k))))), ((q 2), .inl (cJ, 10, .inr (.inl (fun k => zL ((g 2) k)))))]) rfl (fun H locs hP hD hS => ?_)
                    obtain ⟨i122, e_i122⟩ : ∃ i122 : Nat → Int, i122 = fun k => [(ii 0), (ii 1), (ii 2), (ii 3), 23, (ii 5), ((ii 5) + 1), (ii 7), (ii 8)].getD k 0 := ⟨_, rfl⟩
                    have e_i122_0 : i122 0 = (ii 0) := by rw [e_i122]; rfl
                    have e_i122_1 : i122 1 = (ii 1) := by rw [e_i122]; rfl
                    have e_i122_2 : i122 2 = (ii 2) := by rw [e_i122]; rfl
                    have e_i122_3 : i122 3 = (ii 3) := by rw [e_i122]; rfl
                    have e_i122_4 : i122 4 = 23 := by rw [e_i122]; rfl
                    have e_i122_5 : i122 5 = (ii 5) := by rw [e_i122]; rfl
                    have e_i122_6 : i122 6 = ((ii 5) + 1) := by rw [e_i122]; rfl
                    have e_i122_7 : i122 7 = (ii 7) := by rw [e_i122]; rfl
                    have e_i122_8 : i122 8 = (ii 8) := by rw [e_i122]; rfl
                    have hO123 : ReaderOk i122 := by refine ⟨?_, ?_, ?_, ?_, ?_, ?_⟩ <;> omega
                    have hf124 := hO123
                    have hP : va_P G vwCl [(b, .inr (3, [.ref (q 0), .int (zI (i122 0)), .ref (q 3), .ref (q 4), .int (zI (i122 1)), .int (zI (i122 2)), .ref (q 1), .ref (q 2), .int (zI (i122 3)), .int (zI (i122 4)), .int (zI (i122 5)), .int (zI (i122 6)), .long (zL (i122 7)), .int (zI (i122 8))])), ((q 0), .inl (cB, 900, .inl (fun k => zI ((g 0) k)))), ((q 1), .inl (cJ, 19, .inr (.inl (fun k => zL ((g 1) k))))), ((q 2), .inl (cJ, 10, .inr (.inl (fun k => zL ((g 2) k)))))] H := by subst e_i122; exact hP
                    have hD : va_D A [(b, .inr (3, [.ref (q 0), .int (zI (i122 0)), .ref (q 3), .ref (q 4), .int (zI (i122 1)), .int (zI (i122 2)), .ref (q 1), .ref (q 2), .int (zI (i122 3)), .int (zI (i122 4)), .int (zI (i122 5)), .int (zI (i122 6)), .long (zL (i122 7)), .int (zI (i122 8))])), ((q 0), .inl (cB, 900, .inl (fun k => zI ((g 0) k)))), ((q 1), .inl (cJ, 19, .inr (.inl (fun k => zL ((g 1) k))))), ((q 2), .inl (cJ, 10, .inr (.inl (fun k => zL ((g 2) k)))))] := by subst e_i122; exact hD
                    exact ret (i122, fun _ _ => 0) _ _ _ _ _ _ ⟨hO123, by dsimp only; omega⟩ (bw_subP (isC := [0, 1, 2, 3]) hP rfl) (hD.sub [0, 1, 2, 3] (by decide) rfl) hS (Nat.le_of_ble_eq_true rfl) (Nat.le_of_ble_eq_true rfl) dX3_advance_158
                  · refine lv_bipush (v := zI 22) hx hb dX3_advance_138 (by decide) ?_
                    refine lv_goto (tgt := 145) hx hb dX3_advance_140 (by decide) ?_
                    refine r_put F hK hP hD hS 0 9 rfl rfl in_X3 tyX3 tyX3_ok nmX3 (by decide) k_275 rfl rfl rfl (Nat.le_of_ble_eq_true rfl) dX3_advance_145 (w1 := [(b, .inr (3, [.ref (q 0), .int (zI (ii 0)), .ref (q 3), .ref (q 4), .int (zI (ii 1)), .int (zI (ii 2)), .ref (q 1), .ref (q 2), .int (zI (ii 3)), .int (zI 22), .int (zI (ii 5)), .int (zI (ii 5)), .long (zL (ii 7)), .int (zI (ii 8))])), ((q 0), .inl (cB, 900, .inl (fun k => zI ((g 0) k)))), ((q 1), .inl (cJ, 19, .inr (.inl (fun k => zL ((g 1) k))))), ((q 2), .inl (cJ, 10, .inr (.inl (fun k => zL ((g 2) k)))))]) rfl (fun H locs hP hD hS => ?_)
                    refine lv_aload_n hx hb dX3_advance_148 rfl (lv_at hl 1 rfl) ?_
                    refine lv_dup hx hb dX3_advance_149 rfl ?_
                    refine r_get F hK hP 0 11 rfl rfl in_X3 (by decide) k_277 rfl dX3_advance_150 ?_
                    refine lv_iconst (v := zI 1) hx hb dX3_advance_153 rfl ?_
                    refine r_iadd (v := zI ((ii 5) + 1)) F dX3_advance_154 (zI_add _ _) ?_
                    refine r_put F hK hP hD hS 0 11 rfl rfl in_X3 tyX3 tyX3_ok nmX3 (by decide) k_277 rfl rfl rfl (Nat.le_of_ble_eq_true rfl) dX3_advance_155 (w1 := [(b, .inr (3, [.ref (q 0), .int (zI (ii 0)), .ref (q 3), .ref (q 4), .int (zI (ii 1)), .int (zI (ii 2)), .ref (q 1), .ref (q 2), .int (zI (ii 3)), .int (zI 22), .int (zI (ii 5)), .int (zI ((ii 5) + 1)), .long (zL (ii 7)), .int (zI (ii 8))])), ((q 0), .inl (cB, 900, .inl (fun k => zI ((g 0) k)))), ((q 1), .inl (cJ, 19, .inr (.inl (fun k => zL ((g 1) k))))), ((q 2), .inl (cJ, 10, .inr (.inl (fun k => zL ((g 2) k)))))]) rfl (fun H locs hP hD hS => ?_)
                    obtain ⟨i125, e_i125⟩ : ∃ i125 : Nat → Int, i125 = fun k => [(ii 0), (ii 1), (ii 2), (ii 3), 22, (ii 5), ((ii 5) + 1), (ii 7), (ii 8)].getD k 0 := ⟨_, rfl⟩
                    have e_i125_0 : i125 0 = (ii 0) := by rw [e_i125]; rfl
                    have e_i125_1 : i125 1 = (ii 1) := by rw [e_i125]; rfl
                    have e_i125_2 : i125 2 = (ii 2) := by rw [e_i125]; rfl
                    have e_i125_3 : i125 3 = (ii 3) := by rw [e_i125]; rfl
                    have e_i125_4 : i125 4 = 22 := by rw [e_i125]; rfl
                    have e_i125_5 : i125 5 = (ii 5) := by rw [e_i125]; rfl
                    have e_i125_6 : i125 6 = ((ii 5) + 1) := by rw [e_i125]; rfl
                    have e_i125_7 : i125 7 = (ii 7) := by rw [e_i125]; rfl
                    have e_i125_8 : i125 8 = (ii 8) := by rw [e_i125]; rfl
                    have hO126 : ReaderOk i125 := by refine ⟨?_, ?_, ?_, ?_, ?_, ?_⟩ <;> omega
                    have hf127 := hO126
                    have hP : va_P G vwCl [(b, .inr (3, [.ref (q 0), .int (zI (i125 0)), .ref (q 3), .ref (q 4), .int (zI (i125 1)), .int (zI (i125 2)), .ref (q 1), .ref (q 2), .int (zI (i125 3)), .int (zI (i125 4)), .int (zI (i125 5)), .int (zI (i125 6)), .long (zL (i125 7)), .int (zI (i125 8))])), ((q 0), .inl (cB, 900, .inl (fun k => zI ((g 0) k)))), ((q 1), .inl (cJ, 19, .inr (.inl (fun k => zL ((g 1) k))))), ((q 2), .inl (cJ, 10, .inr (.inl (fun k => zL ((g 2) k)))))] H := by subst e_i125; exact hP
                    have hD : va_D A [(b, .inr (3, [.ref (q 0), .int (zI (i125 0)), .ref (q 3), .ref (q 4), .int (zI (i125 1)), .int (zI (i125 2)), .ref (q 1), .ref (q 2), .int (zI (i125 3)), .int (zI (i125 4)), .int (zI (i125 5)), .int (zI (i125 6)), .long (zL (i125 7)), .int (zI (i125 8))])), ((q 0), .inl (cB, 900, .inl (fun k => zI ((g 0) k)))), ((q 1), .inl (cJ, 19, .inr (.inl (fun k => zL ((g 1) k))))), ((q 2), .inl (cJ, 10, .inr (.inl (fun k => zL ((g 2) k)))))] := by subst e_i125; exact hD
                    exact ret (i125, fun _ _ => 0) _ _ _ _ _ _ ⟨hO126, by dsimp only; omega⟩ (bw_subP (isC := [0, 1, 2, 3]) hP rfl) (hD.sub [0, 1, 2, 3] (by decide) rfl) hS (Nat.le_of_ble_eq_true rfl) (Nat.le_of_ble_eq_true rfl) dX3_advance_158
                · refine lv_bipush (v := zI 21) hx hb dX3_advance_127 (by decide) ?_
                  refine lv_goto (tgt := 145) hx hb dX3_advance_129 (by decide) ?_
                  refine r_put F hK hP hD hS 0 9 rfl rfl in_X3 tyX3 tyX3_ok nmX3 (by decide) k_275 rfl rfl rfl (Nat.le_of_ble_eq_true rfl) dX3_advance_145 (w1 := [(b, .inr (3, [.ref (q 0), .int (zI (ii 0)), .ref (q 3), .ref (q 4), .int (zI (ii 1)), .int (zI (ii 2)), .ref (q 1), .ref (q 2), .int (zI (ii 3)), .int (zI 21), .int (zI (ii 5)), .int (zI (ii 5)), .long (zL (ii 7)), .int (zI (ii 8))])), ((q 0), .inl (cB, 900, .inl (fun k => zI ((g 0) k)))), ((q 1), .inl (cJ, 19, .inr (.inl (fun k => zL ((g 1) k))))), ((q 2), .inl (cJ, 10, .inr (.inl (fun k => zL ((g 2) k)))))]) rfl (fun H locs hP hD hS => ?_)
                  refine lv_aload_n hx hb dX3_advance_148 rfl (lv_at hl 1 rfl) ?_
                  refine lv_dup hx hb dX3_advance_149 rfl ?_
                  refine r_get F hK hP 0 11 rfl rfl in_X3 (by decide) k_277 rfl dX3_advance_150 ?_
                  refine lv_iconst (v := zI 1) hx hb dX3_advance_153 rfl ?_
                  refine r_iadd (v := zI ((ii 5) + 1)) F dX3_advance_154 (zI_add _ _) ?_
                  refine r_put F hK hP hD hS 0 11 rfl rfl in_X3 tyX3 tyX3_ok nmX3 (by decide) k_277 rfl rfl rfl (Nat.le_of_ble_eq_true rfl) dX3_advance_155 (w1 := [(b, .inr (3, [.ref (q 0), .int (zI (ii 0)), .ref (q 3), .ref (q 4), .int (zI (ii 1)), .int (zI (ii 2)), .ref (q 1), .ref (q 2), .int (zI (ii 3)), .int (zI 21), .int (zI (ii 5)), .int (zI ((ii 5) + 1)), .long (zL (ii 7)), .int (zI (ii 8))])), ((q 0), .inl (cB, 900, .inl (fun k => zI ((g 0) k)))), ((q 1), .inl (cJ, 19, .inr (.inl (fun k => zL ((g 1) k))))), ((q 2), .inl (cJ, 10, .inr (.inl (fun k => zL ((g 2) k)))))]) rfl (fun H locs hP hD hS => ?_)
                  obtain ⟨i128, e_i128⟩ : ∃ i128 : Nat → Int, i128 = fun k => [(ii 0), (ii 1), (ii 2), (ii 3), 21, (ii 5), ((ii 5) + 1), (ii 7), (ii 8)].getD k 0 := ⟨_, rfl⟩
                  have e_i128_0 : i128 0 = (ii 0) := by rw [e_i128]; rfl
                  have e_i128_1 : i128 1 = (ii 1) := by rw [e_i128]; rfl
                  have e_i128_2 : i128 2 = (ii 2) := by rw [e_i128]; rfl
                  have e_i128_3 : i128 3 = (ii 3) := by rw [e_i128]; rfl
                  have e_i128_4 : i128 4 = 21 := by rw [e_i128]; rfl
                  have e_i128_5 : i128 5 = (ii 5) := by rw [e_i128]; rfl
                  have e_i128_6 : i128 6 = ((ii 5) + 1) := by rw [e_i128]; rfl
                  have e_i128_7 : i128 7 = (ii 7) := by rw [e_i128]; rfl
                  have e_i128_8 : i128 8 = (ii 8) := by rw [e_i128]; rfl
                  have hO129 : ReaderOk i128 := by refine ⟨?_, ?_, ?_, ?_, ?_, ?_⟩ <;> omega
                  have hf130 := hO129
                  have hP : va_P G vwCl [(b, .inr (3, [.ref (q 0), .int (zI (i128 0)), .ref (q 3), .ref (q 4), .int (zI (i128 1)), .int (zI (i128 2)), .ref (q 1), .ref (q 2), .int (zI (i128 3)), .int (zI (i128 4)), .int (zI (i128 5)), .int (zI (i128 6)), .long (zL (i128 7)), .int (zI (i128 8))])), ((q 0), .inl (cB, 900, .inl (fun k => zI ((g 0) k)))), ((q 1), .inl (cJ, 19, .inr (.inl (fun k => zL ((g 1) k))))), ((q 2), .inl (cJ, 10, .inr (.inl (fun k => zL ((g 2) k)))))] H := by subst e_i128; exact hP
                  have hD : va_D A [(b, .inr (3, [.ref (q 0), .int (zI (i128 0)), .ref (q 3), .ref (q 4), .int (zI (i128 1)), .int (zI (i128 2)), .ref (q 1), .ref (q 2), .int (zI (i128 3)), .int (zI (i128 4)), .int (zI (i128 5)), .int (zI (i128 6)), .long (zL (i128 7)), .int (zI (i128 8))])), ((q 0), .inl (cB, 900, .inl (fun k => zI ((g 0) k)))), ((q 1), .inl (cJ, 19, .inr (.inl (fun k => zL ((g 1) k))))), ((q 2), .inl (cJ, 10, .inr (.inl (fun k => zL ((g 2) k)))))] := by subst e_i128; exact hD
                  exact ret (i128, fun _ _ => 0) _ _ _ _ _ _ ⟨hO129, by dsimp only; omega⟩ (bw_subP (isC := [0, 1, 2, 3]) hP rfl) (hD.sub [0, 1, 2, 3] (by decide) rfl) hS (Nat.le_of_ble_eq_true rfl) (Nat.le_of_ble_eq_true rfl) dX3_advance_158
              · refine lv_iload_n hx hb dX3_advance_107 rfl (lv_at hl 0 rfl) ?_
                refine lv_bipush (v := zI 57) hx hb dX3_advance_108 (by decide) ?_
                refine rz_icmp_gt (tgt := 120) F (by omega) (by omega) dX3_advance_110 (by decide) (fun h110_130 => ?_) (fun h110_130 => ?_)
                · refine lv_aload_n hx hb dX3_advance_120 rfl (lv_at hl 1 rfl) ?_
                  refine lv_iload_n hx hb dX3_advance_121 rfl (lv_at hl 0 rfl) ?_
                  refine lv_bipush (v := zI 59) hx hb dX3_advance_122 (by decide) ?_
                  refine rz_icmp_ne (tgt := 132) F (by omega) (by omega) dX3_advance_124 (by decide) (fun h124_131 => ?_) (fun h124_131 => ?_)
                  · refine lv_iload_n hx hb dX3_advance_132 rfl (lv_at hl 0 rfl) ?_
                    refine lv_bipush (v := zI 44) hx hb dX3_advance_133 (by decide) ?_
                    refine rz_icmp_ne (tgt := 143) F (by omega) (by omega) dX3_advance_135 (by decide) (fun h135_132 => ?_) (fun h135_132 => ?_)
                    · refine lv_bipush (v := zI 23) hx hb dX3_advance_143 (by decide) ?_
                      refine r_put F hK hP hD hS 0 9 rfl rfl in_X3 tyX3 tyX3_ok nmX3 (by decide) k_275 rfl rfl rfl (Nat.le_of_ble_eq_true rfl) dX3_advance_145 (w1 := [(b, .inr (3, [.ref (q 0), .int (zI (ii 0)), .ref (q 3), .ref (q 4), .int (zI (ii 1)), .int (zI (ii 2)), .ref (q 1), .ref (q 2), .int (zI (ii 3)), .int (zI 23), .int (zI (ii 5)), .int (zI (ii 5)), .long (zL (ii 7)), .int (zI (ii 8))])), ((q 0), .inl (cB, 900, .inl (fun k => zI ((g 0) k)))), ((q 1), .inl (cJ, 19, .inr (.inl (fun k => zL ((g 1) k))))), ((q 2), .inl (cJ, 10, .inr (.inl (fun k => zL ((g 2) k)))))]) rfl (fun H locs hP hD hS => ?_)
                      refine lv_aload_n hx hb dX3_advance_148 rfl (lv_at hl 1 rfl) ?_
                      refine lv_dup hx hb dX3_advance_149 rfl ?_
                      refine r_get F hK hP 0 11 rfl rfl in_X3 (by decide) k_277 rfl dX3_advance_150 ?_
                      refine lv_iconst (v := zI 1) hx hb dX3_advance_153 rfl ?_
                      refine r_iadd (v := zI ((ii 5) + 1)) F dX3_advance_154 (zI_add _ _) ?_
                      refine r_put F hK hP hD hS 0 11 rfl rfl in_X3 tyX3 tyX3_ok nmX3 (by decide) k_277 rfl rfl rfl (Nat.le_of_ble_eq_true rfl) dX3_advance_155 (w1 := [(b, .inr (3, [.ref (q 0), .int (zI (ii 0)), .ref (q 3), .ref (q 4), .int (zI (ii 1)), .int (zI (ii 2)), .ref (q 1), .ref (q 2), .int (zI (ii 3)), .int (zI 23), .int (zI (ii 5)), .int (zI ((ii 5) + 1)), .long (zL (ii 7)), .int (zI (ii 8))])), ((q 0), .inl (cB, 900, .inl (fun k => zI ((g 0) k)))), ((q 1), .inl (cJ, 19, .inr (.inl (fun k => zL ((g 1) k))))), ((q 2), .inl (cJ, 10, .inr (.inl (fun k => zL ((g 2) k)))))]) rfl (fun H locs hP hD hS => ?_)
                      obtain ⟨i134, e_i134⟩ : ∃ i134 : Nat → Int, i134 = fun k => [(ii 0), (ii 1), (ii 2), (ii 3), 23, (ii 5), ((ii 5) + 1), (ii 7), (ii 8)].getD k 0 := ⟨_, rfl⟩
                      have e_i134_0 : i134 0 = (ii 0) := by rw [e_i134]; rfl
                      have e_i134_1 : i134 1 = (ii 1) := by rw [e_i134]; rfl
                      have e_i134_2 : i134 2 = (ii 2) := by rw [e_i134]; rfl
                      have e_i134_3 : i134 3 = (ii 3) := by rw [e_i134]; rfl
                      have e_i134_4 : i134 4 = 23 := by rw [e_i134]; rfl
                      have e_i134_5 : i134 5 = (ii 5) := by rw [e_i134]; rfl
                      have e_i134_6 : i134 6 = ((ii 5) + 1) := by rw [e_i134]; rfl
                      have e_i134_7 : i134 7 = (ii 7) := by rw [e_i134]; rfl
                      have e_i134_8 : i134 8 = (ii 8) := by rw [e_i134]; rfl
                      have hO135 : ReaderOk i134 := by refine ⟨?_, ?_, ?_, ?_, ?_, ?_⟩ <;> omega
                      have hf136 := hO135
                      have hP : va_P G vwCl [(b, .inr (3, [.ref (q 0), .int (zI (i134 0)), .ref (q 3), .ref (q 4), .int (zI (i134 1)), .int (zI (i134 2)), .ref (q 1), .ref (q 2), .int (zI (i134 3)), .int (zI (i134 4)), .int (zI (i134 5)), .int (zI (i134 6)), .long (zL (i134 7)), .int (zI (i134 8))])), ((q 0), .inl (cB, 900, .inl (fun k => zI ((g 0) k)))), ((q 1), .inl (cJ, 19, .inr (.inl (fun k => zL ((g 1) k))))), ((q 2), .inl (cJ, 10, .inr (.inl (fun k => zL ((g 2) k)))))] H := by subst e_i134; exact hP
                      have hD : va_D A [(b, .inr (3, [.ref (q 0), .int (zI (i134 0)), .ref (q 3), .ref (q 4), .int (zI (i134 1)), .int (zI (i134 2)), .ref (q 1), .ref (q 2), .int (zI (i134 3)), .int (zI (i134 4)), .int (zI (i134 5)), .int (zI (i134 6)), .long (zL (i134 7)), .int (zI (i134 8))])), ((q 0), .inl (cB, 900, .inl (fun k => zI ((g 0) k)))), ((q 1), .inl (cJ, 19, .inr (.inl (fun k => zL ((g 1) k))))), ((q 2), .inl (cJ, 10, .inr (.inl (fun k => zL ((g 2) k)))))] := by subst e_i134; exact hD
                      exact ret (i134, fun _ _ => 0) _ _ _ _ _ _ ⟨hO135, by dsimp only; omega⟩ (bw_subP (isC := [0, 1, 2, 3]) hP rfl) (hD.sub [0, 1, 2, 3] (by decide) rfl) hS (Nat.le_of_ble_eq_true rfl) (Nat.le_of_ble_eq_true rfl) dX3_advance_158
                    · refine lv_bipush (v := zI 22) hx hb dX3_advance_138 (by decide) ?_
                      refine lv_goto (tgt := 145) hx hb dX3_advance_140 (by decide) ?_
                      refine r_put F hK hP hD hS 0 9 rfl rfl in_X3 tyX3 tyX3_ok nmX3 (by decide) k_275 rfl rfl rfl (Nat.le_of_ble_eq_true rfl) dX3_advance_145 (w1 := [(b, .inr (3, [.ref (q 0), .int (zI (ii 0)), .ref (q 3), .ref (q 4), .int (zI (ii 1)), .int (zI (ii 2)), .ref (q 1), .ref (q 2), .int (zI (ii 3)), .int (zI 22), .int (zI (ii 5)), .int (zI (ii 5)), .long (zL (ii 7)), .int (zI (ii 8))])), ((q 0), .inl (cB, 900, .inl (fun k => zI ((g 0) k)))), ((q 1), .inl (cJ, 19, .inr (.inl (fun k => zL ((g 1) k))))), ((q 2), .inl (cJ, 10, .inr (.inl (fun k => zL ((g 2) k)))))]) rfl (fun H locs hP hD hS => ?_)
                      refine lv_aload_n hx hb dX3_advance_148 rfl (lv_at hl 1 rfl) ?_
                      refine lv_dup hx hb dX3_advance_149 rfl ?_
                      refine r_get F hK hP 0 11 rfl rfl in_X3 (by decide) k_277 rfl dX3_advance_150 ?_
                      refine lv_iconst (v := zI 1) hx hb dX3_advance_153 rfl ?_
                      refine r_iadd (v := zI ((ii 5) + 1)) F dX3_advance_154 (zI_add _ _) ?_
                      refine r_put F hK hP hD hS 0 11 rfl rfl in_X3 tyX3 tyX3_ok nmX3 (by decide) k_277 rfl rfl rfl (Nat.le_of_ble_eq_true rfl) dX3_advance_155 (w1 := [(b, .inr (3, [.ref (q 0), .int (zI (ii 0)), .ref (q 3), .ref (q 4), .int (zI (ii 1)), .int (zI (ii 2)), .ref (q 1), .ref (q 2), .int (zI (ii 3)), .int (zI 22), .int (zI (ii 5)), .int (zI ((ii 5) + 1)), .long (zL (ii 7)), .int (zI (ii 8))])), ((q 0), .inl (cB, 900, .inl (fun k => zI ((g 0) k)))), ((q 1), .inl (cJ, 19, .inr (.inl (fun k => zL ((g 1) k))))), ((q 2), .inl (cJ, 10, .inr (.inl (fun k => zL ((g 2) k)))))]) rfl (fun H locs hP hD hS => ?_)
                      obtain ⟨i137, e_i137⟩ : ∃ i137 : Nat → Int, i137 = fun k => [(ii 0), (ii 1), (ii 2), (ii 3), 22, (ii 5), ((ii 5) + 1), (ii 7), (ii 8)].getD k 0 := ⟨_, rfl⟩
                      have e_i137_0 : i137 0 = (ii 0) := by rw [e_i137]; rfl
                      have e_i137_1 : i137 1 = (ii 1) := by rw [e_i137]; rfl
                      have e_i137_2 : i137 2 = (ii 2) := by rw [e_i137]; rfl
                      have e_i137_3 : i137 3 = (ii 3) := by rw [e_i137]; rfl
                      have e_i137_4 : i137 4 = 22 := by rw [e_i137]; rfl
                      have e_i137_5 : i137 5 = (ii 5) := by rw [e_i137]; rfl
                      have e_i137_6 : i137 6 = ((ii 5) + 1) := by rw [e_i137]; rfl
                      have e_i137_7 : i137 7 = (ii 7) := by rw [e_i137]; rfl
                      have e_i137_8 : i137 8 = (ii 8) := by rw [e_i137]; rfl
                      have hO138 : ReaderOk i137 := by refine ⟨?_, ?_, ?_, ?_, ?_, ?_⟩ <;> omega
                      have hf139 := hO138
                      have hP : va_P G vwCl [(b, .inr (3, [.ref (q 0), .int (zI (i137 0)), .ref (q 3), .ref (q 4), .int (zI (i137 1)), .int (zI (i137 2)), .ref (q 1), .ref (q 2), .int (zI (i137 3)), .int (zI (i137 4)), .int (zI (i137 5)), .int (zI (i137 6)), .long (zL (i137 7)), .int (zI (i137 8))])), ((q 0), .inl (cB, 900, .inl (fun k => zI ((g 0) k)))), ((q 1), .inl (cJ, 19, .inr (.inl (fun k => zL ((g 1) k))))), ((q 2), .inl (cJ, 10, .inr (.inl (fun k => zL ((g 2) k)))))] H := by subst e_i137; exact hP
                      have hD : va_D A [(b, .inr (3, [.ref (q 0), .int (zI (i137 0)), .ref (q 3), .ref (q 4), .int (zI (i137 1)), .int (zI (i137 2)), .ref (q 1), .ref (q 2), .int (zI (i137 3)), .int (zI (i137 4)), .int (zI (i137 5)), .int (zI (i137 6)), .long (zL (i137 7)), .int (zI (i137 8))])), ((q 0), .inl (cB, 900, .inl (fun k => zI ((g 0) k)))), ((q 1), .inl (cJ, 19, .inr (.inl (fun k => zL ((g 1) k))))), ((q 2), .inl (cJ, 10, .inr (.inl (fun k => zL ((g 2) k)))))] := by subst e_i137; exact hD
                      exact ret (i137, fun _ _ => 0) _ _ _ _ _ _ ⟨hO138, by dsimp only; omega⟩ (bw_subP (isC := [0, 1, 2, 3]) hP rfl) (hD.sub [0, 1, 2, 3] (by decide) rfl) hS (Nat.le_of_ble_eq_true rfl) (Nat.le_of_ble_eq_true rfl) dX3_advance_158
                  · refine lv_bipush (v := zI 21) hx hb dX3_advance_127 (by decide) ?_
                    refine lv_goto (tgt := 145) hx hb dX3_advance_129 (by decide) ?_
                    refine r_put F hK hP hD hS 0 9 rfl rfl in_X3 tyX3 tyX3_ok nmX3 (by decide) k_275 rfl rfl rfl (Nat.le_of_ble_eq_true rfl) dX3_advance_145 (w1 := [(b, .inr (3, [.ref (q 0), .int (zI (ii 0)), .ref (q 3), .ref (q 4), .int (zI (ii 1)), .int (zI (ii 2)), .ref (q 1), .ref (q 2), .int (zI (ii 3)), .int (zI 21), .int (zI (ii 5)), .int (zI (ii 5)), .long (zL (ii 7)), .int (zI (ii 8))])), ((q 0), .inl (cB, 900, .inl (fun k => zI ((g 0) k)))), ((q 1), .inl (cJ, 19, .inr (.inl (fun k => zL ((g 1) k))))), ((q 2), .inl (cJ, 10, .inr (.inl (fun k => zL ((g 2) k)))))]) rfl (fun H locs hP hD hS => ?_)
                    refine lv_aload_n hx hb dX3_advance_148 rfl (lv_at hl 1 rfl) ?_
                    refine lv_dup hx hb dX3_advance_149 rfl ?_
                    refine r_get F hK hP 0 11 rfl rfl in_X3 (by decide) k_277 rfl dX3_advance_150 ?_
                    refine lv_iconst (v := zI 1) hx hb dX3_advance_153 rfl ?_
                    refine r_iadd (v := zI ((ii 5) + 1)) F dX3_advance_154 (zI_add _ _) ?_
                    refine r_put F hK hP hD hS 0 11 rfl rfl in_X3 tyX3 tyX3_ok nmX3 (by decide) k_277 rfl rfl rfl (Nat.le_of_ble_eq_true rfl) dX3_advance_155 (w1 := [(b, .inr (3, [.ref (q 0), .int (zI (ii 0)), .ref (q 3), .ref (q 4), .int (zI (ii 1)), .int (zI (ii 2)), .ref (q 1), .ref (q 2), .int (zI (ii 3)), .int (zI 21), .int (zI (ii 5)), .int (zI ((ii 5) + 1)), .long (zL (ii 7)), .int (zI (ii 8))])), ((q 0), .inl (cB, 900, .inl (fun k => zI ((g 0) k)))), ((q 1), .inl (cJ, 19, .inr (.inl (fun k => zL ((g 1) k))))), ((q 2), .inl (cJ, 10, .inr (.inl (fun k => zL ((g 2) k)))))]) rfl (fun H locs hP hD hS => ?_)
                    obtain ⟨i140, e_i140⟩ : ∃ i140 : Nat → Int, i140 = fun k => [(ii 0), (ii 1), (ii 2), (ii 3), 21, (ii 5), ((ii 5) + 1), (ii 7), (ii 8)].getD k 0 := ⟨_, rfl⟩
                    have e_i140_0 : i140 0 = (ii 0) := by rw [e_i140]; rfl
                    have e_i140_1 : i140 1 = (ii 1) := by rw [e_i140]; rfl
                    have e_i140_2 : i140 2 = (ii 2) := by rw [e_i140]; rfl
                    have e_i140_3 : i140 3 = (ii 3) := by rw [e_i140]; rfl
                    have e_i140_4 : i140 4 = 21 := by rw [e_i140]; rfl
                    have e_i140_5 : i140 5 = (ii 5) := by rw [e_i140]; rfl
                    have e_i140_6 : i140 6 = ((ii 5) + 1) := by rw [e_i140]; rfl
                    have e_i140_7 : i140 7 = (ii 7) := by rw [e_i140]; rfl
                    have e_i140_8 : i140 8 = (ii 8) := by rw [e_i140]; rfl
                    have hO141 : ReaderOk i140 := by refine ⟨?_, ?_, ?_, ?_, ?_, ?_⟩ <;> omega
                    have hf142 := hO141
                    have hP : va_P G vwCl [(b, .inr (3, [.ref (q 0), .int (zI (i140 0)), .ref (q 3), .ref (q 4), .int (zI (i140 1)), .int (zI (i140 2)), .ref (q 1), .ref (q 2), .int (zI (i140 3)), .int (zI (i140 4)), .int (zI (i140 5)), .int (zI (i140 6)), .long (zL (i140 7)), .int (zI (i140 8))])), ((q 0), .inl (cB, 900, .inl (fun k => zI ((g 0) k)))), ((q 1), .inl (cJ, 19, .inr (.inl (fun k => zL ((g 1) k))))), ((q 2), .inl (cJ, 10, .inr (.inl (fun k => zL ((g 2) k)))))] H := by subst e_i140; exact hP
                    have hD : va_D A [(b, .inr (3, [.ref (q 0), .int (zI (i140 0)), .ref (q 3), .ref (q 4), .int (zI (i140 1)), .int (zI (i140 2)), .ref (q 1), .ref (q 2), .int (zI (i140 3)), .int (zI (i140 4)), .int (zI (i140 5)), .int (zI (i140 6)), .long (zL (i140 7)), .int (zI (i140 8))])), ((q 0), .inl (cB, 900, .inl (fun k => zI ((g 0) k)))), ((q 1), .inl (cJ, 19, .inr (.inl (fun k => zL ((g 1) k))))), ((q 2), .inl (cJ, 10, .inr (.inl (fun k => zL ((g 2) k)))))] := by subst e_i140; exact hD
                    exact ret (i140, fun _ _ => 0) _ _ _ _ _ _ ⟨hO141, by dsimp only; omega⟩ (bw_subP (isC := [0, 1, 2, 3]) hP rfl) (hD.sub [0, 1, 2, 3] (by decide) rfl) hS (Nat.le_of_ble_eq_true rfl) (Nat.le_of_ble_eq_true rfl) dX3_advance_158
                · refine lv_aload_n hx hb dX3_advance_113 rfl (lv_at hl 1 rfl) ?_
                  obtain ⟨i143, e_i143⟩ : ∃ i143 : Nat → Int, i143 = fun k => [(ii 0), (ii 1), (ii 2), (ii 3), (ii 4), (ii 5), (ii 5), (ii 7), (ii 8)].getD k 0 := ⟨_, rfl⟩
                  have e_i143_0 : i143 0 = (ii 0) := by rw [e_i143]; rfl
                  have e_i143_1 : i143 1 = (ii 1) := by rw [e_i143]; rfl
                  have e_i143_2 : i143 2 = (ii 2) := by rw [e_i143]; rfl
                  have e_i143_3 : i143 3 = (ii 3) := by rw [e_i143]; rfl
                  have e_i143_4 : i143 4 = (ii 4) := by rw [e_i143]; rfl
                  have e_i143_5 : i143 5 = (ii 5) := by rw [e_i143]; rfl
                  have e_i143_6 : i143 6 = (ii 5) := by rw [e_i143]; rfl
                  have e_i143_7 : i143 7 = (ii 7) := by rw [e_i143]; rfl
                  have e_i143_8 : i143 8 = (ii 8) := by rw [e_i143]; rfl
                  have hO144 : ReaderOk i143 := by refine ⟨?_, ?_, ?_, ?_, ?_, ?_⟩ <;> omega
                  have hf145 := hO144
                  have hP : va_P G vwCl [(b, .inr (3, [.ref (q 0), .int (zI (i143 0)), .ref (q 3), .ref (q 4), .int (zI (i143 1)), .int (zI (i143 2)), .ref (q 1), .ref (q 2), .int (zI (i143 3)), .int (zI (i143 4)), .int (zI (i143 5)), .int (zI (i143 6)), .long (zL (i143 7)), .int (zI (i143 8))])), ((q 0), .inl (cB, 900, .inl (fun k => zI ((g 0) k)))), ((q 1), .inl (cJ, 19, .inr (.inl (fun k => zL ((g 1) k))))), ((q 2), .inl (cJ, 10, .inr (.inl (fun k => zL ((g 2) k)))))] H := by subst e_i143; exact hP
                  have hD : va_D A [(b, .inr (3, [.ref (q 0), .int (zI (i143 0)), .ref (q 3), .ref (q 4), .int (zI (i143 1)), .int (zI (i143 2)), .ref (q 1), .ref (q 2), .int (zI (i143 3)), .int (zI (i143 4)), .int (zI (i143 5)), .int (zI (i143 6)), .long (zL (i143 7)), .int (zI (i143 8))])), ((q 0), .inl (cB, 900, .inl (fun k => zI ((g 0) k)))), ((q 1), .inl (cJ, 19, .inr (.inl (fun k => zL ((g 1) k))))), ((q 2), .inl (cJ, 10, .inr (.inl (fun k => zL ((g 2) k)))))] := by subst e_i143; exact hD
                  refine r_callVv (As := []) (rest := []) (wr := []) F hK hP hD hS hA hO hE (c_X3_lookAtWhole hO b q i143 g hO144) k_567 kv_X3_lookAtWhole 0 rfl (by decide +kernel) ⟨Nat.le_of_ble_eq_true rfl, Nat.le_of_ble_eq_true rfl⟩ [0, 1, 2, 3] [] rfl rfl (by decide) (by decide) (by decide) 0 3 rfl rfl rfl hl.1 rfl (Nat.le_of_ble_eq_true rfl) dX3_advance_114 ⟨Nat.le_of_ble_eq_true rfl, Nat.le_of_ble_eq_true rfl⟩ (w1 := fun u146 => [(b, .inr (3, [.ref (q 0), .int (zI (u146.1 0)), .ref (q 3), .ref (q 4), .int (zI (u146.1 1)), .int (zI (u146.1 2)), .ref (q 1), .ref (q 2), .int (zI (u146.1 3)), .int (zI (u146.1 4)), .int (zI (u146.1 5)), .int (zI (u146.1 6)), .long (zL (u146.1 7)), .int (zI (u146.1 8))])), ((q 0), .inl (cB, 900, .inl (fun k => zI ((g 0) k)))), ((q 1), .inl (cJ, 19, .inr (.inl (fun k => zL ((g 1) k))))), ((q 2), .inl (cJ, 10, .inr (.inl (fun k => zL ((g 2) k)))))]) (fun _ => rfl) (fun  u146 H locs hp147 hP hD hS => ?_)
                  have hx148 := hp147.2
                  have hf149 := hp147.1
                  refine lv_goto (tgt := 158) hx hb dX3_advance_117 (by decide) ?_
                  exact ret (u146.1, fun _ _ => 0) _ _ _ _ _ _ ⟨hp147.1, by dsimp only; omega⟩ (bw_subP (isC := [0, 1, 2, 3]) hP rfl) (hD.sub [0, 1, 2, 3] (by decide) rfl) hS (Nat.le_of_ble_eq_true rfl) (Nat.le_of_ble_eq_true rfl) dX3_advance_158
            · refine lv_aload_n hx hb dX3_advance_94 rfl (lv_at hl 1 rfl) ?_
              obtain ⟨i150, e_i150⟩ : ∃ i150 : Nat → Int, i150 = fun k => [(ii 0), (ii 1), (ii 2), (ii 3), (ii 4), (ii 5), (ii 5), (ii 7), (ii 8)].getD k 0 := ⟨_, rfl⟩
              have e_i150_0 : i150 0 = (ii 0) := by rw [e_i150]; rfl
              have e_i150_1 : i150 1 = (ii 1) := by rw [e_i150]; rfl
              have e_i150_2 : i150 2 = (ii 2) := by rw [e_i150]; rfl
              have e_i150_3 : i150 3 = (ii 3) := by rw [e_i150]; rfl
              have e_i150_4 : i150 4 = (ii 4) := by rw [e_i150]; rfl
              have e_i150_5 : i150 5 = (ii 5) := by rw [e_i150]; rfl
              have e_i150_6 : i150 6 = (ii 5) := by rw [e_i150]; rfl
              have e_i150_7 : i150 7 = (ii 7) := by rw [e_i150]; rfl
              have e_i150_8 : i150 8 = (ii 8) := by rw [e_i150]; rfl
              have hO151 : ReaderOk i150 := by refine ⟨?_, ?_, ?_, ?_, ?_, ?_⟩ <;> omega
              have hf152 := hO151
              have hP : va_P G vwCl [(b, .inr (3, [.ref (q 0), .int (zI (i150 0)), .ref (q 3), .ref (q 4), .int (zI (i150 1)), .int (zI (i150 2)), .ref (q 1), .ref (q 2), .int (zI (i150 3)), .int (zI (i150 4)), .int (zI (i150 5)), .int (zI (i150 6)), .long (zL (i150 7)), .int (zI (i150 8))])), ((q 0), .inl (cB, 900, .inl (fun k => zI ((g 0) k)))), ((q 1), .inl (cJ, 19, .inr (.inl (fun k => zL ((g 1) k))))), ((q 2), .inl (cJ, 10, .inr (.inl (fun k => zL ((g 2) k)))))] H := by subst e_i150; exact hP
              have hD : va_D A [(b, .inr (3, [.ref (q 0), .int (zI (i150 0)), .ref (q 3), .ref (q 4), .int (zI (i150 1)), .int (zI (i150 2)), .ref (q 1), .ref (q 2), .int (zI (i150 3)), .int (zI (i150 4)), .int (zI (i150 5)), .int (zI (i150 6)), .long (zL (i150 7)), .int (zI (i150 8))])), ((q 0), .inl (cB, 900, .inl (fun k => zI ((g 0) k)))), ((q 1), .inl (cJ, 19, .inr (.inl (fun k => zL ((g 1) k))))), ((q 2), .inl (cJ, 10, .inr (.inl (fun k => zL ((g 2) k)))))] := by subst e_i150; exact hD
              refine r_callVv (As := []) (rest := []) (wr := []) F hK hP hD hS hA hO hE (c_X3_lookAtWord hO b q i150 g hO151) k_563 kv_X3_lookAtWord 0 rfl (by decide +kernel) ⟨Nat.le_of_ble_eq_true rfl, Nat.le_of_ble_eq_true rfl⟩ [0, 1, 2, 3] [] rfl rfl (by decide) (by decide) (by decide) 0 3 rfl rfl rfl hl.1 rfl (Nat.le_of_ble_eq_true rfl) dX3_advance_95 ⟨Nat.le_of_ble_eq_true rfl, Nat.le_of_ble_eq_true rfl⟩ (w1 := fun u153 => [(b, .inr (3, [.ref (q 0), .int (zI (u153.1 0)), .ref (q 3), .ref (q 4), .int (zI (u153.1 1)), .int (zI (u153.1 2)), .ref (q 1), .ref (q 2), .int (zI (u153.1 3)), .int (zI (u153.1 4)), .int (zI (u153.1 5)), .int (zI (u153.1 6)), .long (zL (u153.1 7)), .int (zI (u153.1 8))])), ((q 0), .inl (cB, 900, .inl (fun k => zI ((g 0) k)))), ((q 1), .inl (cJ, 19, .inr (.inl (fun k => zL ((g 1) k))))), ((q 2), .inl (cJ, 10, .inr (.inl (fun k => zL ((g 2) k)))))]) (fun _ => rfl) (fun  u153 H locs hp154 hP hD hS => ?_)
              have hx155 := hp154.2
              have hf156 := hp154.1
              refine lv_goto (tgt := 158) hx hb dX3_advance_98 (by decide) ?_
              exact ret (u153.1, fun _ _ => 0) _ _ _ _ _ _ ⟨hp154.1, by dsimp only; omega⟩ (bw_subP (isC := [0, 1, 2, 3]) hP rfl) (hD.sub [0, 1, 2, 3] (by decide) rfl) hS (Nat.le_of_ble_eq_true rfl) (Nat.le_of_ble_eq_true rfl) dX3_advance_158
        · refine lv_aload_n hx hb dX3_advance_65 rfl (lv_at hl 0 rfl) ?_
          refine lv_bipush (v := zI 24) hx hb dX3_advance_66 (by decide) ?_
          refine r_put F hK hP hD hS 0 9 rfl rfl in_X3 tyX3 tyX3_ok nmX3 (by decide) k_275 rfl rfl rfl (Nat.le_of_ble_eq_true rfl) dX3_advance_68 (w1 := [(b, .inr (3, [.ref (q 0), .int (zI (ii 0)), .ref (q 3), .ref (q 4), .int (zI (ii 1)), .int (zI (ii 2)), .ref (q 1), .ref (q 2), .int (zI (ii 3)), .int (zI 24), .int (zI (ii 5)), .int (zI (ii 5)), .long (zL (ii 7)), .int (zI (ii 8))])), ((q 0), .inl (cB, 900, .inl (fun k => zI ((g 0) k)))), ((q 1), .inl (cJ, 19, .inr (.inl (fun k => zL ((g 1) k))))), ((q 2), .inl (cJ, 10, .inr (.inl (fun k => zL ((g 2) k)))))]) rfl (fun H locs hP hD hS => ?_)
          obtain ⟨i157, e_i157⟩ : ∃ i157 : Nat → Int, i157 = fun k => [(ii 0), (ii 1), (ii 2), (ii 3), 24, (ii 5), (ii 5), (ii 7), (ii 8)].getD k 0 := ⟨_, rfl⟩
          have e_i157_0 : i157 0 = (ii 0) := by rw [e_i157]; rfl
          have e_i157_1 : i157 1 = (ii 1) := by rw [e_i157]; rfl
          have e_i157_2 : i157 2 = (ii 2) := by rw [e_i157]; rfl
          have e_i157_3 : i157 3 = (ii 3) := by rw [e_i157]; rfl
          have e_i157_4 : i157 4 = 24 := by rw [e_i157]; rfl
          have e_i157_5 : i157 5 = (ii 5) := by rw [e_i157]; rfl
          have e_i157_6 : i157 6 = (ii 5) := by rw [e_i157]; rfl
          have e_i157_7 : i157 7 = (ii 7) := by rw [e_i157]; rfl
          have e_i157_8 : i157 8 = (ii 8) := by rw [e_i157]; rfl
          have hO158 : ReaderOk i157 := by refine ⟨?_, ?_, ?_, ?_, ?_, ?_⟩ <;> omega
          have hf159 := hO158
          have hP : va_P G vwCl [(b, .inr (3, [.ref (q 0), .int (zI (i157 0)), .ref (q 3), .ref (q 4), .int (zI (i157 1)), .int (zI (i157 2)), .ref (q 1), .ref (q 2), .int (zI (i157 3)), .int (zI (i157 4)), .int (zI (i157 5)), .int (zI (i157 6)), .long (zL (i157 7)), .int (zI (i157 8))])), ((q 0), .inl (cB, 900, .inl (fun k => zI ((g 0) k)))), ((q 1), .inl (cJ, 19, .inr (.inl (fun k => zL ((g 1) k))))), ((q 2), .inl (cJ, 10, .inr (.inl (fun k => zL ((g 2) k)))))] H := by subst e_i157; exact hP
          have hD : va_D A [(b, .inr (3, [.ref (q 0), .int (zI (i157 0)), .ref (q 3), .ref (q 4), .int (zI (i157 1)), .int (zI (i157 2)), .ref (q 1), .ref (q 2), .int (zI (i157 3)), .int (zI (i157 4)), .int (zI (i157 5)), .int (zI (i157 6)), .long (zL (i157 7)), .int (zI (i157 8))])), ((q 0), .inl (cB, 900, .inl (fun k => zI ((g 0) k)))), ((q 1), .inl (cJ, 19, .inr (.inl (fun k => zL ((g 1) k))))), ((q 2), .inl (cJ, 10, .inr (.inl (fun k => zL ((g 2) k)))))] := by subst e_i157; exact hD
          exact ret (i157, fun _ _ => 0) _ _ _ _ _ _ ⟨hO158, by dsimp only; omega⟩ (bw_subP (isC := [0, 1, 2, 3]) hP rfl) (hD.sub [0, 1, 2, 3] (by decide) rfl) hS (Nat.le_of_ble_eq_true rfl) (Nat.le_of_ble_eq_true rfl) dX3_advance_71
      · refine lv_aload_n hx hb dX3_advance_33 rfl (lv_at hl 0 rfl) ?_
        refine lv_dup hx hb dX3_advance_34 rfl ?_
        refine r_get F hK hP 0 10 rfl rfl in_X3 (by decide) k_276 rfl dX3_advance_35 ?_
        refine lv_iconst (v := zI 1) hx hb dX3_advance_38 rfl ?_
        refine r_iadd (v := zI ((ii 5) + 1)) F dX3_advance_39 (zI_add _ _) ?_
        refine r_put F hK hP hD hS 0 10 rfl rfl in_X3 tyX3 tyX3_ok nmX3 (by decide) k_276 rfl rfl rfl (Nat.le_of_ble_eq_true rfl) dX3_advance_40 (w1 := [(b, .inr (3, [.ref (q 0), .int (zI (ii 0)), .ref (q 3), .ref (q 4), .int (zI (ii 1)), .int (zI (ii 2)), .ref (q 1), .ref (q 2), .int (zI (ii 3)), .int (zI (ii 4)), .int (zI ((ii 5) + 1)), .int (zI (ii 6)), .long (zL (ii 7)), .int (zI (ii 8))])), ((q 0), .inl (cB, 900, .inl (fun k => zI ((g 0) k)))), ((q 1), .inl (cJ, 19, .inr (.inl (fun k => zL ((g 1) k))))), ((q 2), .inl (cJ, 10, .inr (.inl (fun k => zL ((g 2) k)))))]) rfl (fun H locs hP hD hS => ?_)
        refine lv_goto (tgt := 8) hx hb dX3_advance_43 (by decide) ?_
        obtain ⟨i160, e_i160⟩ : ∃ i160 : Nat → Int, i160 = fun k => [(ii 0), (ii 1), (ii 2), (ii 3), (ii 4), ((ii 5) + 1), (ii 6), (ii 7), (ii 8)].getD k 0 := ⟨_, rfl⟩
        have e_i160_0 : i160 0 = (ii 0) := by rw [e_i160]; rfl
        have e_i160_1 : i160 1 = (ii 1) := by rw [e_i160]; rfl
        have e_i160_2 : i160 2 = (ii 2) := by rw [e_i160]; rfl
        have e_i160_3 : i160 3 = (ii 3) := by rw [e_i160]; rfl
        have e_i160_4 : i160 4 = (ii 4) := by rw [e_i160]; rfl
        have e_i160_5 : i160 5 = ((ii 5) + 1) := by rw [e_i160]; rfl
        have e_i160_6 : i160 6 = (ii 6) := by rw [e_i160]; rfl
        have e_i160_7 : i160 7 = (ii 7) := by rw [e_i160]; rfl
        have e_i160_8 : i160 8 = (ii 8) := by rw [e_i160]; rfl
        have hO161 : ReaderOk i160 := by refine ⟨?_, ?_, ?_, ?_, ?_, ?_⟩ <;> omega
        have hf162 := hO161
        have hP : va_P G vwCl [(b, .inr (3, [.ref (q 0), .int (zI (i160 0)), .ref (q 3), .ref (q 4), .int (zI (i160 1)), .int (zI (i160 2)), .ref (q 1), .ref (q 2), .int (zI (i160 3)), .int (zI (i160 4)), .int (zI (i160 5)), .int (zI (i160 6)), .long (zL (i160 7)), .int (zI (i160 8))])), ((q 0), .inl (cB, 900, .inl (fun k => zI ((g 0) k)))), ((q 1), .inl (cJ, 19, .inr (.inl (fun k => zL ((g 1) k))))), ((q 2), .inl (cJ, 10, .inr (.inl (fun k => zL ((g 2) k)))))] H := by subst e_i160; exact hP
        have hD : va_D A [(b, .inr (3, [.ref (q 0), .int (zI (i160 0)), .ref (q 3), .ref (q 4), .int (zI (i160 1)), .int (zI (i160 2)), .ref (q 1), .ref (q 2), .int (zI (i160 3)), .int (zI (i160 4)), .int (zI (i160 5)), .int (zI (i160 6)), .long (zL (i160 7)), .int (zI (i160 8))])), ((q 0), .inl (cB, 900, .inl (fun k => zI ((g 0) k)))), ((q 1), .inl (cJ, 19, .inr (.inl (fun k => zL ((g 1) k))))), ((q 2), .inl (cJ, 10, .inr (.inl (fun k => zL ((g 2) k)))))] := by subst e_i160; exact hD
        exact ih1 i160 _ _ (by omega) (by omega) hO161 hP hD hS ls (lv_sub hl [0] rfl)
