def bw_Words (E : (Nat → Prop) → State → Prop) (w1 w2 w3 : Nat) : Prop := ∀ (A : Nat → Prop) (U : State), E A U → vk_R RX9 154 "program" w1 U ∧ vk_R RX9 156 "line" w2 U ∧ vk_R RX9 158 "want" w3 U
theorem dX9_good_0 : decode cX9_good 0 = .ok (.aload_n 0, 1) := by decide +kernel
theorem dX9_good_1 : decode cX9_good 1 = .ok (.iconst 0, 1) := by decide +kernel
theorem dX9_good_2 : decode cX9_good 2 = .ok (.putfield 77, 3) := by decide +kernel
theorem k_1163 : Cond.fieldLink RX9 77 "BurntWaysModel" "thrown" "I" ∈ bw_T := bw_m 1163 (by decide +kernel) rfl
theorem dX9_good_5 : decode cX9_good 5 = .ok (.aload_n 0, 1) := by decide +kernel
theorem dX9_good_6 : decode cX9_good 6 = .ok (.iconst 0, 1) := by decide +kernel
theorem dX9_good_7 : decode cX9_good 7 = .ok (.putfield 80, 3) := by decide +kernel
theorem k_1174 : Cond.fieldLink RX9 80 "BurntWaysModel" "trouble" "I" ∈ bw_T := bw_m 1174 (by decide +kernel) rfl
theorem dX9_good_10 : decode cX9_good 10 = .ok (.return_, 1) := by decide +kernel
abbrev rm_X9_good : Room := { frames := 0, cells := 0, slots := 0, locals := 0 }
set_option maxRecDepth 100000 in
set_option maxHeartbeats 4000000 in
theorem c_X9_good {l : Launch} {E : (Nat → Prop) → State → Prop} (hO : bw_Ok E) {G : va_G} {cI cB cJ cN cW : ClassId} (b : Nat) (q : Nat → Nat) : bw_Cv (S := bw_U) l yX9_good (bw_ws (Cond.code yX9_good cX9_good 1 none)) rm_X9_good E G (bw_kt cI cB cJ cN cW) [.ref b] [(b, .inr (9, [.int 0, .ref (q 0), .int 0, .int 0, .int 0, .int 0, .int 0, .int 0, .int 0, .int 0, .int (-1), .int 0, .ref (q 1), .int 0, .int 0, .ref (q 2), .ref (q 3), .ref (q 4), .ref (q 5), .ref (q 6), .ref (q 7), .ref (q 8), .ref (q 9), .ref (q 10), .ref (q 11), .ref (q 12), .ref (q 13), .ref (q 14), .ref (q 15), .ref (q 16), .int 0, .int 0, .int 0, .int 0, .int 0, .int 0, .ref (q 17), .ref (q 18), .ref (q 19), .ref (q 20)]))] (fun _ => True) (fun _ => [(b, .inr (9, [.int 0, .ref (q 0), .int 0, .int 0, .int 0, .int 0, .int 0, .int 0, .int 0, .int 0, .int (-1), .int 0, .ref (q 1), .int 0, .int 0, .ref (q 2), .ref (q 3), .ref (q 4), .ref (q 5), .ref (q 6), .ref (q 7), .ref (q 8), .ref (q 9), .ref (q 10), .ref (q 11), .ref (q 12), .ref (q 13), .ref (q 14), .ref (q 15), .ref (q 16), .int 0, .int 0, .int 0, .int 0, .int 0, .int 0, .ref (q 17), .ref (q 18), .ref (q 19), .ref (q 20)]))]) := by
  refine bw_Cv.of (cc := cX9_good) (maxL := 1) (by decide) rfl (Nat.le_of_ble_eq_true rfl) ?_
  intro p e s m below meth c A Q hx hb hml hts hown hin hK hA hS hP hD hE ret ls hl
  have F : CallFix p m c cX9_good 1 s ([.ref b] : List Value).toArray bw_T RX9 := ⟨hx, hb, hml, hown, fun w h => hts w (List.mem_cons_of_mem _ h)⟩
  have hl : lv_has ls 1 [(0, .ref b)] := hl
  refine lv_aload_n hx hb dX9_good_0 rfl (lv_at hl 0 rfl) ?_
  refine lv_iconst (v := 0) hx hb dX9_good_1 (by decide) ?_
  refine r_put F hK hP hD hS 0 0 rfl rfl in_X9 tyX9 tyX9_ok nmX9 (by decide) k_1163 rfl rfl rfl (Nat.le_of_ble_eq_true rfl) dX9_good_2 (w1 := [(b, .inr (9, [.int 0, .ref (q 0), .int 0, .int 0, .int 0, .int 0, .int 0, .int 0, .int 0, .int 0, .int (-1), .int 0, .ref (q 1), .int 0, .int 0, .ref (q 2), .ref (q 3), .ref (q 4), .ref (q 5), .ref (q 6), .ref (q 7), .ref (q 8), .ref (q 9), .ref (q 10), .ref (q 11), .ref (q 12), .ref (q 13), .ref (q 14), .ref (q 15), .ref (q 16), .int 0, .int 0, .int 0, .int 0, .int 0, .int 0, .ref (q 17), .ref (q 18), .ref (q 19), .ref (q 20)]))]) rfl (fun H locs hP hD hS => ?_)
  refine lv_aload_n hx hb dX9_good_5 rfl (lv_at hl 0 rfl) ?_
  refine lv_iconst (v := 0) hx hb dX9_good_6 (by decide) ?_
  refine r_put F hK hP hD hS 0 11 rfl rfl in_X9 tyX9 tyX9_ok nmX9 (by decide) k_1174 rfl rfl rfl (Nat.le_of_ble_eq_true rfl) dX9_good_7 (w1 := [(b, .inr (9, [.int 0, .ref (q 0), .int 0, .int 0, .int 0, .int 0, .int 0, .int 0, .int 0, .int 0, .int (-1), .int 0, .ref (q 1), .int 0, .int 0, .ref (q 2), .ref (q 3), .ref (q 4), .ref (q 5), .ref (q 6), .ref (q 7), .ref (q 8), .ref (q 9), .ref (q 10), .ref (q 11), .ref (q 12), .ref (q 13), .ref (q 14), .ref (q 15), .ref (q 16), .int 0, .int 0, .int 0, .int 0, .int 0, .int 0, .ref (q 17), .ref (q 18), .ref (q 19), .ref (q 20)]))]) rfl (fun H locs hP hD hS => ?_)
  exact ret (fun _ => 0, fun _ _ => 0) _ _ _ _ _ _ trivial (bw_subP (isC := [0]) hP rfl) (hD.sub [0] (by decide) rfl) hS (Nat.le_of_ble_eq_true rfl) (Nat.le_of_ble_eq_true rfl) dX9_good_10
theorem dX9_no_0 : decode cX9_no 0 = .ok (.aload_n 0, 1) := by decide +kernel
theorem dX9_no_1 : decode cX9_no 1 = .ok (.iload_n 1, 1) := by decide +kernel
theorem dX9_no_2 : decode cX9_no 2 = .ok (.putfield 80, 3) := by decide +kernel
theorem dX9_no_5 : decode cX9_no 5 = .ok (.iconst (-1), 1) := by decide +kernel
theorem dX9_no_6 : decode cX9_no 6 = .ok (.ireturn, 1) := by decide +kernel
abbrev rm_X9_no : Room := { frames := 0, cells := 0, slots := 0, locals := 0 }
set_option maxRecDepth 100000 in
set_option maxHeartbeats 4000000 in
theorem c_X9_no {l : Launch} {E : (Nat → Prop) → State → Prop} (hO : bw_Ok E) {G : va_G} {cI cB cJ cN cW : ClassId} (b : Nat) (q : Nat → Nat) (n : Int32) : bw_Ci (S := bw_U) l yX9_no (bw_ws (Cond.code yX9_no cX9_no 2 (some .int))) rm_X9_no E G (bw_kt cI cB cJ cN cW) [.ref b, .int n] [(b, .inr (9, [.int 0, .ref (q 0), .int 0, .int 0, .int 0, .int 0, .int 0, .int 0, .int 0, .int 0, .int (-1), .int 0, .ref (q 1), .int 0, .int 0, .ref (q 2), .ref (q 3), .ref (q 4), .ref (q 5), .ref (q 6), .ref (q 7), .ref (q 8), .ref (q 9), .ref (q 10), .ref (q 11), .ref (q 12), .ref (q 13), .ref (q 14), .ref (q 15), .ref (q 16), .int 0, .int 0, .int 0, .int 0, .int 0, .int 0, .ref (q 17), .ref (q 18), .ref (q 19), .ref (q 20)]))] (fun r _ => r = -1) (fun _ => []) := by
  refine bw_Ci.of (cc := cX9_no) (maxL := 2) (ty := .int) (by decide) rfl (Nat.le_of_ble_eq_true rfl) ?_
  intro p e s m below meth c A Q hx hb hml hts hown hin hK hA hS hP hD hE ret ls hl
  have F : CallFix p m c cX9_no 2 s ([.ref b, .int n] : List Value).toArray bw_T RX9 := ⟨hx, hb, hml, hown, fun w h => hts w (List.mem_cons_of_mem _ h)⟩
  have hl : lv_has ls 2 [(0, .ref b), (1, .int n)] := hl
  refine lv_aload_n hx hb dX9_no_0 rfl (lv_at hl 0 rfl) ?_
  refine lv_iload_n hx hb dX9_no_1 rfl (lv_at hl 1 rfl) ?_
  refine r_put F hK hP hD hS 0 11 rfl rfl in_X9 tyX9 tyX9_ok nmX9 (by decide) k_1174 rfl rfl rfl (Nat.le_of_ble_eq_true rfl) dX9_no_2 (w1 := [(b, .inr (9, [.int 0, .ref (q 0), .int 0, .int 0, .int 0, .int 0, .int 0, .int 0, .int 0, .int 0, .int (-1), .int n, .ref (q 1), .int 0, .int 0, .ref (q 2), .ref (q 3), .ref (q 4), .ref (q 5), .ref (q 6), .ref (q 7), .ref (q 8), .ref (q 9), .ref (q 10), .ref (q 11), .ref (q 12), .ref (q 13), .ref (q 14), .ref (q 15), .ref (q 16), .int 0, .int 0, .int 0, .int 0, .int 0, .int 0, .ref (q 17), .ref (q 18), .ref (q 19), .ref (q 20)]))]) rfl (fun H locs hP hD hS => ?_)
  refine lv_iconst (v := (-1)) hx hb dX9_no_5 (by decide) ?_
  exact ret (-1) (fun _ => 0, fun _ _ => 0) _ _ _ _ _ _ rfl rfl (bw_subP (isC := []) hP rfl) (hD.sub [] (by decide) rfl) hS (Nat.le_of_ble_eq_true rfl) (Nat.le_of_ble_eq_true rfl) dX9_no_6
theorem dX9_isNot_0 : decode cX9_isNot 0 = .ok (.aload_n 0, 1) := by decide +kernel
theorem dX9_isNot_1 : decode cX9_isNot 1 = .ok (.iload_n 1, 1) := by decide +kernel
theorem dX9_isNot_2 : decode cX9_isNot 2 = .ok (.putfield 80, 3) := by decide +kernel
theorem dX9_isNot_5 : decode cX9_isNot 5 = .ok (.iconst 0, 1) := by decide +kernel
theorem dX9_isNot_6 : decode cX9_isNot 6 = .ok (.ireturn, 1) := by decide +kernel
abbrev rm_X9_isNot : Room := { frames := 0, cells := 0, slots := 0, locals := 0 }
set_option maxRecDepth 100000 in
set_option maxHeartbeats 4000000 in
theorem c_X9_isNot {l : Launch} {E : (Nat → Prop) → State → Prop} (hO : bw_Ok E) {G : va_G} {cI cB cJ cN cW : ClassId} (b : Nat) (q : Nat → Nat) (n : Int32) : bw_Ci (S := bw_U) l yX9_isNot (bw_ws (Cond.code yX9_isNot cX9_isNot 2 (some .boolean))) rm_X9_isNot E G (bw_kt cI cB cJ cN cW) [.ref b, .int n] [(b, .inr (9, [.int 0, .ref (q 0), .int 0, .int 0, .int 0, .int 0, .int 0, .int 0, .int 0, .int 0, .int (-1), .int 0, .ref (q 1), .int 0, .int 0, .ref (q 2), .ref (q 3), .ref (q 4), .ref (q 5), .ref (q 6), .ref (q 7), .ref (q 8), .ref (q 9), .ref (q 10), .ref (q 11), .ref (q 12), .ref (q 13), .ref (q 14), .ref (q 15), .ref (q 16), .int 0, .int 0, .int 0, .int 0, .int 0, .int 0, .ref (q 17), .ref (q 18), .ref (q 19), .ref (q 20)]))] (fun r _ => r = 0) (fun _ => []) := by
  refine bw_Ci.of (cc := cX9_isNot) (maxL := 2) (ty := .boolean) (by decide) rfl (Nat.le_of_ble_eq_true rfl) ?_
  intro p e s m below meth c A Q hx hb hml hts hown hin hK hA hS hP hD hE ret ls hl
  have F : CallFix p m c cX9_isNot 2 s ([.ref b, .int n] : List Value).toArray bw_T RX9 := ⟨hx, hb, hml, hown, fun w h => hts w (List.mem_cons_of_mem _ h)⟩
  have hl : lv_has ls 2 [(0, .ref b), (1, .int n)] := hl
  refine lv_aload_n hx hb dX9_isNot_0 rfl (lv_at hl 0 rfl) ?_
  refine lv_iload_n hx hb dX9_isNot_1 rfl (lv_at hl 1 rfl) ?_
  refine r_put F hK hP hD hS 0 11 rfl rfl in_X9 tyX9 tyX9_ok nmX9 (by decide) k_1174 rfl rfl rfl (Nat.le_of_ble_eq_true rfl) dX9_isNot_2 (w1 := [(b, .inr (9, [.int 0, .ref (q 0), .int 0, .int 0, .int 0, .int 0, .int 0, .int 0, .int 0, .int 0, .int (-1), .int n, .ref (q 1), .int 0, .int 0, .ref (q 2), .ref (q 3), .ref (q 4), .ref (q 5), .ref (q 6), .ref (q 7), .ref (q 8), .ref (q 9), .ref (q 10), .ref (q 11), .ref (q 12), .ref (q 13), .ref (q 14), .ref (q 15), .ref (q 16), .int 0, .int 0, .int 0, .int 0, .int 0, .int 0, .ref (q 17), .ref (q 18), .ref (q 19), .ref (q 20)]))]) rfl (fun H locs hP hD hS => ?_)
  refine lv_iconst (v := 0) hx hb dX9_isNot_5 (by decide) ?_
  exact ret 0 (fun _ => 0, fun _ _ => 0) _ _ _ _ _ _ rfl rfl (bw_subP (isC := []) hP rfl) (hD.sub [] (by decide) rfl) hS (Nat.le_of_ble_eq_true rfl) (Nat.le_of_ble_eq_true rfl) dX9_isNot_6
theorem dX9_within_0 : decode cX9_within 0 = .ok (.iload_n 0, 1) := by decide +kernel
theorem dX9_within_1 : decode cX9_within 1 = .ok (.iload_n 1, 1) := by decide +kernel
theorem dX9_within_2 : decode cX9_within 2 = .ok (.if_icmp .lt 12, 3) := by decide +kernel
theorem dX9_within_14 : decode cX9_within 14 = .ok (.iconst 0, 1) := by decide +kernel
theorem dX9_within_15 : decode cX9_within 15 = .ok (.ireturn, 1) := by decide +kernel
theorem dX9_within_5 : decode cX9_within 5 = .ok (.iload_n 0, 1) := by decide +kernel
theorem dX9_within_6 : decode cX9_within 6 = .ok (.iload_n 2, 1) := by decide +kernel
theorem dX9_within_7 : decode cX9_within 7 = .ok (.if_icmp .gt 7, 3) := by decide +kernel
theorem dX9_within_10 : decode cX9_within 10 = .ok (.iconst 1, 1) := by decide +kernel
theorem dX9_within_11 : decode cX9_within 11 = .ok (.goto 4, 3) := by decide +kernel
abbrev rm_X9_within : Room := { frames := 0, cells := 0, slots := 0, locals := 0 }
set_option maxRecDepth 100000 in
set_option maxHeartbeats 4000000 in
theorem c_X9_within {l : Launch} {E : (Nat → Prop) → State → Prop} (hO : bw_Ok E) {G : va_G} {cI cB cJ cN cW : ClassId} (v lo hi : Int32) : bw_Ci (S := bw_U) l yX9_within (bw_ws (Cond.code yX9_within cX9_within 3 (some .boolean))) rm_X9_within E G (bw_kt cI cB cJ cN cW) [.int v, .int lo, .int hi] [] (fun r _ => (r = 1 ∧ lo ≤ v ∧ v ≤ hi) ∨ (r = 0 ∧ ¬ (lo ≤ v ∧ v ≤ hi))) (fun _ => []) := by
  refine bw_Ci.of (cc := cX9_within) (maxL := 3) (ty := .boolean) (by decide) rfl (Nat.le_of_ble_eq_true rfl) ?_
  intro p e s m below meth c A Q hx hb hml hts hown hin hK hA hS hP hD hE ret ls hl
  have F : CallFix p m c cX9_within 3 s ([.int v, .int lo, .int hi] : List Value).toArray bw_T RX9 := ⟨hx, hb, hml, hown, fun w h => hts w (List.mem_cons_of_mem _ h)⟩
  have hl : lv_has ls 3 [(0, .int v), (1, .int lo), (2, .int hi)] := hl
  refine lv_iload_n hx hb dX9_within_0 rfl (lv_at hl 0 rfl) ?_
  refine lv_iload_n hx hb dX9_within_1 rfl (lv_at hl 1 rfl) ?_
  refine lv_icmp_lt (tgt := 14) hx hb dX9_within_2 (by decide) (fun h1 => ?_) (fun h1 => ?_)
  · refine lv_iconst (v := 0) hx hb dX9_within_14 (by decide) ?_
    exact ret 0 (fun _ => 0, fun _ _ => 0) _ _ _ _ _ _ rfl (Or.inr ⟨rfl, fun q9 => by first | exact absurd q9.1 (Int32.not_le.mpr h1) | exact absurd q9.2 (Int32.not_le.mpr h2)⟩) (bw_subP (isC := []) hP rfl) (hD.sub [] (by decide) rfl) hS (Nat.le_of_ble_eq_true rfl) (Nat.le_of_ble_eq_true rfl) dX9_within_15
  · refine lv_iload_n hx hb dX9_within_5 rfl (lv_at hl 0 rfl) ?_
    refine lv_iload_n hx hb dX9_within_6 rfl (lv_at hl 2 rfl) ?_
    refine lv_icmp_gt (tgt := 14) hx hb dX9_within_7 (by decide) (fun h2 => ?_) (fun h2 => ?_)
    · refine lv_iconst (v := 0) hx hb dX9_within_14 (by decide) ?_
      exact ret 0 (fun _ => 0, fun _ _ => 0) _ _ _ _ _ _ rfl (Or.inr ⟨rfl, fun q9 => by first | exact absurd q9.1 (Int32.not_le.mpr h1) | exact absurd q9.2 (Int32.not_le.mpr h2)⟩) (bw_subP (isC := []) hP rfl) (hD.sub [] (by decide) rfl) hS (Nat.le_of_ble_eq_true rfl) (Nat.le_of_ble_eq_true rfl) dX9_within_15
    · refine lv_iconst (v := 1) hx hb dX9_within_10 (by decide) ?_
      refine lv_goto (tgt := 15) hx hb dX9_within_11 (by decide) ?_
      exact ret 1 (fun _ => 0, fun _ _ => 0) _ _ _ _ _ _ rfl (Or.inl ⟨rfl, Int32.not_lt.mp h1, Int32.not_lt.mp h2⟩) (bw_subP (isC := []) hP rfl) (hD.sub [] (by decide) rfl) hS (Nat.le_of_ble_eq_true rfl) (Nat.le_of_ble_eq_true rfl) dX9_within_15
theorem dX9_countsWhy_0 : decode cX9_countsWhy 0 = .ok (.aload_n 0, 1) := by decide +kernel
theorem dX9_countsWhy_1 : decode cX9_countsWhy 1 = .ok (.getfield 222, 3) := by decide +kernel
theorem k_1177 : Cond.fieldLink RX9 222 "BurntWaysModel" "hasProgram" "Z" ∈ bw_T := bw_m 1177 (by decide +kernel) rfl
theorem dX9_countsWhy_4 : decode cX9_countsWhy 4 = .ok (.ifCond .ne 7, 3) := by decide +kernel
theorem dX9_countsWhy_7 : decode cX9_countsWhy 7 = .ok (.iconst 1, 1) := by decide +kernel
theorem dX9_countsWhy_8 : decode cX9_countsWhy 8 = .ok (.goto 37, 3) := by decide +kernel
theorem dX9_countsWhy_45 : decode cX9_countsWhy 45 = .ok (.ireturn, 1) := by decide +kernel
abbrev rm_X9_countsWhy : Room := { frames := 0, cells := 0, slots := 0, locals := 0 }
set_option maxRecDepth 100000 in
set_option maxHeartbeats 4000000 in
theorem c_X9_countsWhy {l : Launch} {E : (Nat → Prop) → State → Prop} (hO : bw_Ok E) {G : va_G} {cI cB cJ cN cW : ClassId} (b : Nat) (q : Nat → Nat) (a1 : Int32) (a2 : Int32) (a3 : Int32) (a4 : Int32) : bw_Ci (S := bw_U) l yX9_countsWhy (bw_ws (Cond.code yX9_countsWhy cX9_countsWhy 5 (some .int))) rm_X9_countsWhy E G (bw_kt cI cB cJ cN cW) [.ref b, .int a1, .int a2, .int a3, .int a4] [(b, .inr (9, [.int 0, .ref (q 0), .int 0, .int 0, .int 0, .int 0, .int 0, .int 0, .int 0, .int 0, .int (-1), .int 0, .ref (q 1), .int 0, .int 0, .ref (q 2), .ref (q 3), .ref (q 4), .ref (q 5), .ref (q 6), .ref (q 7), .ref (q 8), .ref (q 9), .ref (q 10), .ref (q 11), .ref (q 12), .ref (q 13), .ref (q 14), .ref (q 15), .ref (q 16), .int 0, .int 0, .int 0, .int 0, .int 0, .int 0, .ref (q 17), .ref (q 18), .ref (q 19), .ref (q 20)]))] (fun r _ => r = 1) (fun _ => [(b, .inr (9, [.int 0, .ref (q 0), .int 0, .int 0, .int 0, .int 0, .int 0, .int 0, .int 0, .int 0, .int (-1), .int 0, .ref (q 1), .int 0, .int 0, .ref (q 2), .ref (q 3), .ref (q 4), .ref (q 5), .ref (q 6), .ref (q 7), .ref (q 8), .ref (q 9), .ref (q 10), .ref (q 11), .ref (q 12), .ref (q 13), .ref (q 14), .ref (q 15), .ref (q 16), .int 0, .int 0, .int 0, .int 0, .int 0, .int 0, .ref (q 17), .ref (q 18), .ref (q 19), .ref (q 20)]))]) := by
  refine bw_Ci.of (cc := cX9_countsWhy) (maxL := 5) (ty := .int) (by decide) rfl (Nat.le_of_ble_eq_true rfl) ?_
  intro p e s m below meth c A Q hx hb hml hts hown hin hK hA hS hP hD hE ret ls hl
  have F : CallFix p m c cX9_countsWhy 5 s ([.ref b, .int a1, .int a2, .int a3, .int a4] : List Value).toArray bw_T RX9 := ⟨hx, hb, hml, hown, fun w h => hts w (List.mem_cons_of_mem _ h)⟩
  have hl : lv_has ls 5 [(0, .ref b), (1, .int a1), (2, .int a2), (3, .int a3), (4, .int a4)] := hl
  refine lv_aload_n hx hb dX9_countsWhy_0 rfl (lv_at hl 0 rfl) ?_
  refine r_get F hK hP 0 14 rfl rfl in_X9 (by decide) k_1177 rfl dX9_countsWhy_1 ?_
  refine lv_if_ne (tgt := 11) hx hb dX9_countsWhy_4 (by decide) (fun h9 => absurd (by decide) h9) (fun _ => ?_)
  refine lv_iconst (v := 1) hx hb dX9_countsWhy_7 (by decide) ?_
  refine lv_goto (tgt := 45) hx hb dX9_countsWhy_8 (by decide) ?_
  exact ret 1 (fun _ => 0, fun _ _ => 0) _ _ _ _ _ _ rfl rfl (bw_subP (isC := [0]) hP rfl) (hD.sub [0] (by decide) rfl) hS (Nat.le_of_ble_eq_true rfl) (Nat.le_of_ble_eq_true rfl) dX9_countsWhy_45
theorem dX9_isWay_0 : decode cX9_isWay 0 = .ok (.aload_n 0, 1) := by decide +kernel
theorem dX9_isWay_1 : decode cX9_isWay 1 = .ok (.getfield 222, 3) := by decide +kernel
theorem dX9_isWay_4 : decode cX9_isWay 4 = .ok (.ifCond .eq 34, 3) := by decide +kernel
theorem dX9_isWay_38 : decode cX9_isWay 38 = .ok (.iconst 0, 1) := by decide +kernel
theorem dX9_isWay_39 : decode cX9_isWay 39 = .ok (.ireturn, 1) := by decide +kernel
abbrev rm_X9_isWay : Room := { frames := 0, cells := 0, slots := 0, locals := 0 }
set_option maxRecDepth 100000 in
set_option maxHeartbeats 4000000 in
theorem c_X9_isWay {l : Launch} {E : (Nat → Prop) → State → Prop} (hO : bw_Ok E) {G : va_G} {cI cB cJ cN cW : ClassId} (b : Nat) (q : Nat → Nat) (x : Int32) : bw_Ci (S := bw_U) l yX9_isWay (bw_ws (Cond.code yX9_isWay cX9_isWay 2 (some .boolean))) rm_X9_isWay E G (bw_kt cI cB cJ cN cW) [.ref b, .int x] [(b, .inr (9, [.int 0, .ref (q 0), .int 0, .int 0, .int 0, .int 0, .int 0, .int 0, .int 0, .int 0, .int (-1), .int 0, .ref (q 1), .int 0, .int 0, .ref (q 2), .ref (q 3), .ref (q 4), .ref (q 5), .ref (q 6), .ref (q 7), .ref (q 8), .ref (q 9), .ref (q 10), .ref (q 11), .ref (q 12), .ref (q 13), .ref (q 14), .ref (q 15), .ref (q 16), .int 0, .int 0, .int 0, .int 0, .int 0, .int 0, .ref (q 17), .ref (q 18), .ref (q 19), .ref (q 20)]))] (fun r _ => r = 0) (fun _ => [(b, .inr (9, [.int 0, .ref (q 0), .int 0, .int 0, .int 0, .int 0, .int 0, .int 0, .int 0, .int 0, .int (-1), .int 0, .ref (q 1), .int 0, .int 0, .ref (q 2), .ref (q 3), .ref (q 4), .ref (q 5), .ref (q 6), .ref (q 7), .ref (q 8), .ref (q 9), .ref (q 10), .ref (q 11), .ref (q 12), .ref (q 13), .ref (q 14), .ref (q 15), .ref (q 16), .int 0, .int 0, .int 0, .int 0, .int 0, .int 0, .ref (q 17), .ref (q 18), .ref (q 19), .ref (q 20)]))]) := by
  refine bw_Ci.of (cc := cX9_isWay) (maxL := 2) (ty := .boolean) (by decide) rfl (Nat.le_of_ble_eq_true rfl) ?_
  intro p e s m below meth c A Q hx hb hml hts hown hin hK hA hS hP hD hE ret ls hl
  have F : CallFix p m c cX9_isWay 2 s ([.ref b, .int x] : List Value).toArray bw_T RX9 := ⟨hx, hb, hml, hown, fun w h => hts w (List.mem_cons_of_mem _ h)⟩
  have hl : lv_has ls 2 [(0, .ref b), (1, .int x)] := hl
  refine lv_aload_n hx hb dX9_isWay_0 rfl (lv_at hl 0 rfl) ?_
  refine r_get F hK hP 0 14 rfl rfl in_X9 (by decide) k_1177 rfl dX9_isWay_1 ?_
  refine lv_if_eq (tgt := 38) hx hb dX9_isWay_4 (by decide) (fun _ => ?_) (fun h9 => absurd (by decide) h9)
  refine lv_iconst (v := 0) hx hb dX9_isWay_38 (by decide) ?_
  exact ret 0 (fun _ => 0, fun _ _ => 0) _ _ _ _ _ _ rfl rfl (bw_subP (isC := [0]) hP rfl) (hD.sub [0] (by decide) rfl) hS (Nat.le_of_ble_eq_true rfl) (Nat.le_of_ble_eq_true rfl) dX9_isWay_39
theorem dX9_inputWhy_0 : decode cX9_inputWhy 0 = .ok (.aload_n 0, 1) := by decide +kernel
theorem dX9_inputWhy_1 : decode cX9_inputWhy 1 = .ok (.getfield 222, 3) := by decide +kernel
theorem dX9_inputWhy_4 : decode cX9_inputWhy 4 = .ok (.ifCond .ne 7, 3) := by decide +kernel
theorem dX9_inputWhy_7 : decode cX9_inputWhy 7 = .ok (.iconst 1, 1) := by decide +kernel
theorem dX9_inputWhy_8 : decode cX9_inputWhy 8 = .ok (.goto 17, 3) := by decide +kernel
theorem dX9_inputWhy_25 : decode cX9_inputWhy 25 = .ok (.ireturn, 1) := by decide +kernel
abbrev rm_X9_inputWhy : Room := { frames := 0, cells := 0, slots := 0, locals := 0 }
set_option maxRecDepth 100000 in
set_option maxHeartbeats 4000000 in
theorem c_X9_inputWhy {l : Launch} {E : (Nat → Prop) → State → Prop} (hO : bw_Ok E) {G : va_G} {cI cB cJ cN cW : ClassId} (b : Nat) (q : Nat → Nat) (x : Int32) : bw_Ci (S := bw_U) l yX9_inputWhy (bw_ws (Cond.code yX9_inputWhy cX9_inputWhy 2 (some .int))) rm_X9_inputWhy E G (bw_kt cI cB cJ cN cW) [.ref b, .int x] [(b, .inr (9, [.int 0, .ref (q 0), .int 0, .int 0, .int 0, .int 0, .int 0, .int 0, .int 0, .int 0, .int (-1), .int 0, .ref (q 1), .int 0, .int 0, .ref (q 2), .ref (q 3), .ref (q 4), .ref (q 5), .ref (q 6), .ref (q 7), .ref (q 8), .ref (q 9), .ref (q 10), .ref (q 11), .ref (q 12), .ref (q 13), .ref (q 14), .ref (q 15), .ref (q 16), .int 0, .int 0, .int 0, .int 0, .int 0, .int 0, .ref (q 17), .ref (q 18), .ref (q 19), .ref (q 20)]))] (fun r _ => r = 1) (fun _ => [(b, .inr (9, [.int 0, .ref (q 0), .int 0, .int 0, .int 0, .int 0, .int 0, .int 0, .int 0, .int 0, .int (-1), .int 0, .ref (q 1), .int 0, .int 0, .ref (q 2), .ref (q 3), .ref (q 4), .ref (q 5), .ref (q 6), .ref (q 7), .ref (q 8), .ref (q 9), .ref (q 10), .ref (q 11), .ref (q 12), .ref (q 13), .ref (q 14), .ref (q 15), .ref (q 16), .int 0, .int 0, .int 0, .int 0, .int 0, .int 0, .ref (q 17), .ref (q 18), .ref (q 19), .ref (q 20)]))]) := by
  refine bw_Ci.of (cc := cX9_inputWhy) (maxL := 2) (ty := .int) (by decide) rfl (Nat.le_of_ble_eq_true rfl) ?_
  intro p e s m below meth c A Q hx hb hml hts hown hin hK hA hS hP hD hE ret ls hl
  have F : CallFix p m c cX9_inputWhy 2 s ([.ref b, .int x] : List Value).toArray bw_T RX9 := ⟨hx, hb, hml, hown, fun w h => hts w (List.mem_cons_of_mem _ h)⟩
  have hl : lv_has ls 2 [(0, .ref b), (1, .int x)] := hl
  refine lv_aload_n hx hb dX9_inputWhy_0 rfl (lv_at hl 0 rfl) ?_
  refine r_get F hK hP 0 14 rfl rfl in_X9 (by decide) k_1177 rfl dX9_inputWhy_1 ?_
  refine lv_if_ne (tgt := 11) hx hb dX9_inputWhy_4 (by decide) (fun h9 => absurd (by decide) h9) (fun _ => ?_)
  refine lv_iconst (v := 1) hx hb dX9_inputWhy_7 (by decide) ?_
  refine lv_goto (tgt := 25) hx hb dX9_inputWhy_8 (by decide) ?_
  exact ret 1 (fun _ => 0, fun _ _ => 0) _ _ _ _ _ _ rfl rfl (bw_subP (isC := [0]) hP rfl) (hD.sub [0] (by decide) rfl) hS (Nat.le_of_ble_eq_true rfl) (Nat.le_of_ble_eq_true rfl) dX9_inputWhy_25
theorem dX9_wayWhy_0 : decode cX9_wayWhy 0 = .ok (.aload_n 0, 1) := by decide +kernel
theorem dX9_wayWhy_1 : decode cX9_wayWhy 1 = .ok (.iload_n 2, 1) := by decide +kernel
theorem dX9_wayWhy_2 : decode cX9_wayWhy 2 = .ok (.invokevirtual 301, 3) := by decide +kernel
theorem k_1485 : Cond.methodLink RX9 301 yX9_isWay ∈ bw_T := bw_m 1485 (by decide +kernel) rfl
theorem kv_X9_isWay : bw_KV RX9 yX9_isWay (Cond.code yX9_isWay cX9_isWay 2 (some .boolean)) := ⟨bw_m 1487 (by decide +kernel) rfl, bw_m 70 (by decide +kernel) rfl, bw_m 107 (by decide +kernel) rfl, bw_m 1488 (by decide +kernel) rfl⟩
theorem dX9_wayWhy_5 : decode cX9_wayWhy 5 = .ok (.ifCond .ne 7, 3) := by decide +kernel
theorem dX9_wayWhy_8 : decode cX9_wayWhy 8 = .ok (.iconst 1, 1) := by decide +kernel
theorem dX9_wayWhy_9 : decode cX9_wayWhy 9 = .ok (.goto 17, 3) := by decide +kernel
theorem dX9_wayWhy_26 : decode cX9_wayWhy 26 = .ok (.ireturn, 1) := by decide +kernel
abbrev rm_X9_wayWhy : Room := { frames := 1, cells := 0, slots := 0, locals := 21 }
set_option maxRecDepth 100000 in
set_option maxHeartbeats 4000000 in
theorem c_X9_wayWhy {l : Launch} {E : (Nat → Prop) → State → Prop} (hO : bw_Ok E) {G : va_G} {cI cB cJ cN cW : ClassId} (b : Nat) (q : Nat → Nat) (x : Int32) (y : Int32) : bw_Ci (S := bw_U) l yX9_wayWhy (bw_ws (Cond.code yX9_wayWhy cX9_wayWhy 3 (some .int))) rm_X9_wayWhy E G (bw_kt cI cB cJ cN cW) [.ref b, .int x, .int y] [(b, .inr (9, [.int 0, .ref (q 0), .int 0, .int 0, .int 0, .int 0, .int 0, .int 0, .int 0, .int 0, .int (-1), .int 0, .ref (q 1), .int 0, .int 0, .ref (q 2), .ref (q 3), .ref (q 4), .ref (q 5), .ref (q 6), .ref (q 7), .ref (q 8), .ref (q 9), .ref (q 10), .ref (q 11), .ref (q 12), .ref (q 13), .ref (q 14), .ref (q 15), .ref (q 16), .int 0, .int 0, .int 0, .int 0, .int 0, .int 0, .ref (q 17), .ref (q 18), .ref (q 19), .ref (q 20)]))] (fun r _ => r = 1) (fun _ => [(b, .inr (9, [.int 0, .ref (q 0), .int 0, .int 0, .int 0, .int 0, .int 0, .int 0, .int 0, .int 0, .int (-1), .int 0, .ref (q 1), .int 0, .int 0, .ref (q 2), .ref (q 3), .ref (q 4), .ref (q 5), .ref (q 6), .ref (q 7), .ref (q 8), .ref (q 9), .ref (q 10), .ref (q 11), .ref (q 12), .ref (q 13), .ref (q 14), .ref (q 15), .ref (q 16), .int 0, .int 0, .int 0, .int 0, .int 0, .int 0, .ref (q 17), .ref (q 18), .ref (q 19), .ref (q 20)]))]) := by
  refine bw_Ci.of (cc := cX9_wayWhy) (maxL := 3) (ty := .int) (by decide) rfl (Nat.le_of_ble_eq_true rfl) ?_
  intro p e s m below meth c A Q hx hb hml hts hown hin hK hA hS hP hD hE ret ls hl
  have F : CallFix p m c cX9_wayWhy 3 s ([.ref b, .int x, .int y] : List Value).toArray bw_T RX9 := ⟨hx, hb, hml, hown, fun w h => hts w (List.mem_cons_of_mem _ h)⟩
  have hl : lv_has ls 3 [(0, .ref b), (1, .int x), (2, .int y)] := hl
  refine lv_aload_n hx hb dX9_wayWhy_0 rfl (lv_at hl 0 rfl) ?_
  refine lv_iload_n hx hb dX9_wayWhy_1 rfl (lv_at hl 2 rfl) ?_
  refine r_callVi (As := [.int y]) (rest := []) (wr := []) F hK hP hD hS hA hO hE (c_X9_isWay hO b q y) k_1485 kv_X9_isWay 1 rfl (by decide +kernel) ⟨Nat.le_of_ble_eq_true rfl, Nat.le_of_ble_eq_true rfl⟩ [0] [] rfl rfl (by decide) (by decide) (by decide) 0 9 rfl rfl rfl hl.1 rfl (Nat.le_of_ble_eq_true rfl) dX9_wayWhy_2 ⟨Nat.le_of_ble_eq_true rfl, Nat.le_of_ble_eq_true rfl⟩ (w1 := fun u1 => [(b, .inr (9, [.int 0, .ref (q 0), .int 0, .int 0, .int 0, .int 0, .int 0, .int 0, .int 0, .int 0, .int (-1), .int 0, .ref (q 1), .int 0, .int 0, .ref (q 2), .ref (q 3), .ref (q 4), .ref (q 5), .ref (q 6), .ref (q 7), .ref (q 8), .ref (q 9), .ref (q 10), .ref (q 11), .ref (q 12), .ref (q 13), .ref (q 14), .ref (q 15), .ref (q 16), .int 0, .int 0, .int 0, .int 0, .int 0, .int 0, .ref (q 17), .ref (q 18), .ref (q 19), .ref (q 20)]))]) (fun _ => rfl) (fun r2 u1 H locs hp hP hD hS => ?_)
  subst hp
  refine lv_if_ne (tgt := 12) hx hb dX9_wayWhy_5 (by decide) (fun h9 => absurd (by decide) h9) (fun _ => ?_)
  refine lv_iconst (v := 1) hx hb dX9_wayWhy_8 (by decide) ?_
  refine lv_goto (tgt := 26) hx hb dX9_wayWhy_9 (by decide) ?_
  exact ret 1 (fun _ => 0, fun _ _ => 0) _ _ _ _ _ _ rfl rfl (bw_subP (isC := [0]) hP rfl) (hD.sub [0] (by decide) rfl) hS (Nat.le_of_ble_eq_true rfl) (Nat.le_of_ble_eq_true rfl) dX9_wayWhy_26
theorem dX9_arePair_0 : decode cX9_arePair 0 = .ok (.aload_n 0, 1) := by decide +kernel
theorem dX9_arePair_1 : decode cX9_arePair 1 = .ok (.getfield 222, 3) := by decide +kernel
theorem dX9_arePair_4 : decode cX9_arePair 4 = .ok (.ifCond .eq 40, 3) := by decide +kernel
theorem dX9_arePair_44 : decode cX9_arePair 44 = .ok (.iconst 0, 1) := by decide +kernel
theorem dX9_arePair_45 : decode cX9_arePair 45 = .ok (.ireturn, 1) := by decide +kernel
abbrev rm_X9_arePair : Room := { frames := 0, cells := 0, slots := 0, locals := 0 }
set_option maxRecDepth 100000 in
set_option maxHeartbeats 4000000 in
theorem c_X9_arePair {l : Launch} {E : (Nat → Prop) → State → Prop} (hO : bw_Ok E) {G : va_G} {cI cB cJ cN cW : ClassId} (b : Nat) (q : Nat → Nat) (x : Int32) (y : Int32) : bw_Ci (S := bw_U) l yX9_arePair (bw_ws (Cond.code yX9_arePair cX9_arePair 3 (some .boolean))) rm_X9_arePair E G (bw_kt cI cB cJ cN cW) [.ref b, .int x, .int y] [(b, .inr (9, [.int 0, .ref (q 0), .int 0, .int 0, .int 0, .int 0, .int 0, .int 0, .int 0, .int 0, .int (-1), .int 0, .ref (q 1), .int 0, .int 0, .ref (q 2), .ref (q 3), .ref (q 4), .ref (q 5), .ref (q 6), .ref (q 7), .ref (q 8), .ref (q 9), .ref (q 10), .ref (q 11), .ref (q 12), .ref (q 13), .ref (q 14), .ref (q 15), .ref (q 16), .int 0, .int 0, .int 0, .int 0, .int 0, .int 0, .ref (q 17), .ref (q 18), .ref (q 19), .ref (q 20)]))] (fun r _ => r = 0) (fun _ => [(b, .inr (9, [.int 0, .ref (q 0), .int 0, .int 0, .int 0, .int 0, .int 0, .int 0, .int 0, .int 0, .int (-1), .int 0, .ref (q 1), .int 0, .int 0, .ref (q 2), .ref (q 3), .ref (q 4), .ref (q 5), .ref (q 6), .ref (q 7), .ref (q 8), .ref (q 9), .ref (q 10), .ref (q 11), .ref (q 12), .ref (q 13), .ref (q 14), .ref (q 15), .ref (q 16), .int 0, .int 0, .int 0, .int 0, .int 0, .int 0, .ref (q 17), .ref (q 18), .ref (q 19), .ref (q 20)]))]) := by
  refine bw_Ci.of (cc := cX9_arePair) (maxL := 3) (ty := .boolean) (by decide) rfl (Nat.le_of_ble_eq_true rfl) ?_
  intro p e s m below meth c A Q hx hb hml hts hown hin hK hA hS hP hD hE ret ls hl
  have F : CallFix p m c cX9_arePair 3 s ([.ref b, .int x, .int y] : List Value).toArray bw_T RX9 := ⟨hx, hb, hml, hown, fun w h => hts w (List.mem_cons_of_mem _ h)⟩
  have hl : lv_has ls 3 [(0, .ref b), (1, .int x), (2, .int y)] := hl
  refine lv_aload_n hx hb dX9_arePair_0 rfl (lv_at hl 0 rfl) ?_
  refine r_get F hK hP 0 14 rfl rfl in_X9 (by decide) k_1177 rfl dX9_arePair_1 ?_
  refine lv_if_eq (tgt := 44) hx hb dX9_arePair_4 (by decide) (fun _ => ?_) (fun h9 => absurd (by decide) h9)
  refine lv_iconst (v := 0) hx hb dX9_arePair_44 (by decide) ?_
  exact ret 0 (fun _ => 0, fun _ _ => 0) _ _ _ _ _ _ rfl rfl (bw_subP (isC := [0]) hP rfl) (hD.sub [0] (by decide) rfl) hS (Nat.le_of_ble_eq_true rfl) (Nat.le_of_ble_eq_true rfl) dX9_arePair_45
theorem dX9_leastWhy_0 : decode cX9_leastWhy 0 = .ok (.aload_n 0, 1) := by decide +kernel
theorem dX9_leastWhy_1 : decode cX9_leastWhy 1 = .ok (.getfield 222, 3) := by decide +kernel
theorem dX9_leastWhy_4 : decode cX9_leastWhy 4 = .ok (.ifCond .ne 7, 3) := by decide +kernel
theorem dX9_leastWhy_7 : decode cX9_leastWhy 7 = .ok (.iconst 1, 1) := by decide +kernel
theorem dX9_leastWhy_8 : decode cX9_leastWhy 8 = .ok (.goto 30, 3) := by decide +kernel
theorem dX9_leastWhy_38 : decode cX9_leastWhy 38 = .ok (.ireturn, 1) := by decide +kernel
abbrev rm_X9_leastWhy : Room := { frames := 0, cells := 0, slots := 0, locals := 0 }
set_option maxRecDepth 100000 in
set_option maxHeartbeats 4000000 in
theorem c_X9_leastWhy {l : Launch} {E : (Nat → Prop) → State → Prop} (hO : bw_Ok E) {G : va_G} {cI cB cJ cN cW : ClassId} (b : Nat) (q : Nat → Nat) (x : Int32) : bw_Ci (S := bw_U) l yX9_leastWhy (bw_ws (Cond.code yX9_leastWhy cX9_leastWhy 2 (some .int))) rm_X9_leastWhy E G (bw_kt cI cB cJ cN cW) [.ref b, .int x] [(b, .inr (9, [.int 0, .ref (q 0), .int 0, .int 0, .int 0, .int 0, .int 0, .int 0, .int 0, .int 0, .int (-1), .int 0, .ref (q 1), .int 0, .int 0, .ref (q 2), .ref (q 3), .ref (q 4), .ref (q 5), .ref (q 6), .ref (q 7), .ref (q 8), .ref (q 9), .ref (q 10), .ref (q 11), .ref (q 12), .ref (q 13), .ref (q 14), .ref (q 15), .ref (q 16), .int 0, .int 0, .int 0, .int 0, .int 0, .int 0, .ref (q 17), .ref (q 18), .ref (q 19), .ref (q 20)]))] (fun r _ => r = 1) (fun _ => [(b, .inr (9, [.int 0, .ref (q 0), .int 0, .int 0, .int 0, .int 0, .int 0, .int 0, .int 0, .int 0, .int (-1), .int 0, .ref (q 1), .int 0, .int 0, .ref (q 2), .ref (q 3), .ref (q 4), .ref (q 5), .ref (q 6), .ref (q 7), .ref (q 8), .ref (q 9), .ref (q 10), .ref (q 11), .ref (q 12), .ref (q 13), .ref (q 14), .ref (q 15), .ref (q 16), .int 0, .int 0, .int 0, .int 0, .int 0, .int 0, .ref (q 17), .ref (q 18), .ref (q 19), .ref (q 20)]))]) := by
  refine bw_Ci.of (cc := cX9_leastWhy) (maxL := 2) (ty := .int) (by decide) rfl (Nat.le_of_ble_eq_true rfl) ?_
  intro p e s m below meth c A Q hx hb hml hts hown hin hK hA hS hP hD hE ret ls hl
  have F : CallFix p m c cX9_leastWhy 2 s ([.ref b, .int x] : List Value).toArray bw_T RX9 := ⟨hx, hb, hml, hown, fun w h => hts w (List.mem_cons_of_mem _ h)⟩
  have hl : lv_has ls 2 [(0, .ref b), (1, .int x)] := hl
  refine lv_aload_n hx hb dX9_leastWhy_0 rfl (lv_at hl 0 rfl) ?_
  refine r_get F hK hP 0 14 rfl rfl in_X9 (by decide) k_1177 rfl dX9_leastWhy_1 ?_
  refine lv_if_ne (tgt := 11) hx hb dX9_leastWhy_4 (by decide) (fun h9 => absurd (by decide) h9) (fun _ => ?_)
  refine lv_iconst (v := 1) hx hb dX9_leastWhy_7 (by decide) ?_
  refine lv_goto (tgt := 38) hx hb dX9_leastWhy_8 (by decide) ?_
  exact ret 1 (fun _ => 0, fun _ _ => 0) _ _ _ _ _ _ rfl rfl (bw_subP (isC := [0]) hP rfl) (hD.sub [0] (by decide) rfl) hS (Nat.le_of_ble_eq_true rfl) (Nat.le_of_ble_eq_true rfl) dX9_leastWhy_38
theorem dX9_run_0 : decode cX9_run 0 = .ok (.aload_n 0, 1) := by decide +kernel
theorem dX9_run_1 : decode cX9_run 1 = .ok (.invokevirtual 197, 3) := by decide +kernel
theorem k_1296 : Cond.methodLink RX9 197 yX9_good ∈ bw_T := bw_m 1296 (by decide +kernel) rfl
theorem kv_X9_good : bw_KV RX9 yX9_good (Cond.code yX9_good cX9_good 1 none) := ⟨bw_m 1298 (by decide +kernel) rfl, bw_m 44 (by decide +kernel) rfl, bw_m 107 (by decide +kernel) rfl, bw_m 1299 (by decide +kernel) rfl⟩
theorem dX9_run_4 : decode cX9_run 4 = .ok (.aload_n 0, 1) := by decide +kernel
theorem dX9_run_5 : decode cX9_run 5 = .ok (.getfield 222, 3) := by decide +kernel
theorem dX9_run_8 : decode cX9_run 8 = .ok (.ifCond .ne 9, 3) := by decide +kernel
theorem dX9_run_11 : decode cX9_run 11 = .ok (.aload_n 0, 1) := by decide +kernel
theorem dX9_run_12 : decode cX9_run 12 = .ok (.iconst 1, 1) := by decide +kernel
theorem dX9_run_13 : decode cX9_run 13 = .ok (.invokevirtual 200, 3) := by decide +kernel
theorem k_1303 : Cond.methodLink RX9 200 yX9_no ∈ bw_T := bw_m 1303 (by decide +kernel) rfl
theorem kv_X9_no : bw_KV RX9 yX9_no (Cond.code yX9_no cX9_no 2 (some .int)) := ⟨bw_m 1305 (by decide +kernel) rfl, bw_m 45 (by decide +kernel) rfl, bw_m 107 (by decide +kernel) rfl, bw_m 1306 (by decide +kernel) rfl⟩
theorem dX9_run_16 : decode cX9_run 16 = .ok (.ireturn, 1) := by decide +kernel
abbrev rm_X9_run : Room := { frames := 1, cells := 0, slots := 0, locals := 21 }
set_option maxRecDepth 100000 in
set_option maxHeartbeats 4000000 in
theorem c_X9_run {l : Launch} {E : (Nat → Prop) → State → Prop} (hO : bw_Ok E) {G : va_G} {cI cB cJ cN cW : ClassId} (b : Nat) (q : Nat → Nat) : bw_Ci (S := bw_U) l yX9_run (bw_ws (Cond.code yX9_run cX9_run 2 (some .int))) rm_X9_run E G (bw_kt cI cB cJ cN cW) [.ref b] [(b, .inr (9, [.int 0, .ref (q 0), .int 0, .int 0, .int 0, .int 0, .int 0, .int 0, .int 0, .int 0, .int (-1), .int 0, .ref (q 1), .int 0, .int 0, .ref (q 2), .ref (q 3), .ref (q 4), .ref (q 5), .ref (q 6), .ref (q 7), .ref (q 8), .ref (q 9), .ref (q 10), .ref (q 11), .ref (q 12), .ref (q 13), .ref (q 14), .ref (q 15), .ref (q 16), .int 0, .int 0, .int 0, .int 0, .int 0, .int 0, .ref (q 17), .ref (q 18), .ref (q 19), .ref (q 20)]))] (fun r _ => r = -1) (fun _ => []) := by
  refine bw_Ci.of (cc := cX9_run) (maxL := 2) (ty := .int) (by decide) rfl (Nat.le_of_ble_eq_true rfl) ?_
  intro p e s m below meth c A Q hx hb hml hts hown hin hK hA hS hP hD hE ret ls hl
  have F : CallFix p m c cX9_run 2 s ([.ref b] : List Value).toArray bw_T RX9 := ⟨hx, hb, hml, hown, fun w h => hts w (List.mem_cons_of_mem _ h)⟩
  have hl : lv_has ls 2 [(0, .ref b)] := hl
  refine lv_aload_n hx hb dX9_run_0 rfl (lv_at hl 0 rfl) ?_
  refine r_callVv (As := []) (rest := []) (wr := []) F hK hP hD hS hA hO hE (c_X9_good hO b q) k_1296 kv_X9_good 0 rfl (by decide +kernel) ⟨Nat.le_of_ble_eq_true rfl, Nat.le_of_ble_eq_true rfl⟩ [0] [] rfl rfl (by decide) (by decide) (by decide) 0 9 rfl rfl rfl hl.1 rfl (Nat.le_of_ble_eq_true rfl) dX9_run_1 ⟨Nat.le_of_ble_eq_true rfl, Nat.le_of_ble_eq_true rfl⟩ (w1 := fun u1 => [(b, .inr (9, [.int 0, .ref (q 0), .int 0, .int 0, .int 0, .int 0, .int 0, .int 0, .int 0, .int 0, .int (-1), .int 0, .ref (q 1), .int 0, .int 0, .ref (q 2), .ref (q 3), .ref (q 4), .ref (q 5), .ref (q 6), .ref (q 7), .ref (q 8), .ref (q 9), .ref (q 10), .ref (q 11), .ref (q 12), .ref (q 13), .ref (q 14), .ref (q 15), .ref (q 16), .int 0, .int 0, .int 0, .int 0, .int 0, .int 0, .ref (q 17), .ref (q 18), .ref (q 19), .ref (q 20)]))]) (fun _ => rfl) (fun  u1 H locs hp hP hD hS => ?_)
  refine lv_aload_n hx hb dX9_run_4 rfl (lv_at hl 0 rfl) ?_
  refine r_get F hK hP 0 14 rfl rfl in_X9 (by decide) k_1177 rfl dX9_run_5 ?_
  refine lv_if_ne (tgt := 17) hx hb dX9_run_8 (by decide) (fun h9 => absurd (by decide) h9) (fun _ => ?_)
  refine lv_aload_n hx hb dX9_run_11 rfl (lv_at hl 0 rfl) ?_
  refine lv_iconst (v := 1) hx hb dX9_run_12 (by decide) ?_
  refine r_callVi (As := [.int 1]) (rest := []) (wr := []) F hK hP hD hS hA hO hE (c_X9_no hO b q 1) k_1303 kv_X9_no 1 rfl (by decide +kernel) ⟨Nat.le_of_ble_eq_true rfl, Nat.le_of_ble_eq_true rfl⟩ [0] [] rfl rfl (by decide) (by decide) (by decide) 0 9 rfl rfl rfl hl.1 rfl (Nat.le_of_ble_eq_true rfl) dX9_run_13 ⟨Nat.le_of_ble_eq_true rfl, Nat.le_of_ble_eq_true rfl⟩ (w1 := fun u2 => []) (fun _ => rfl) (fun r3 u2 H locs hp hP hD hS => ?_)
  subst hp
  exact ret (-1) (fun _ => 0, fun _ _ => 0) _ _ _ _ _ _ rfl rfl (bw_subP (isC := []) hP rfl) (hD.sub [] (by decide) rfl) hS (Nat.le_of_ble_eq_true rfl) (Nat.le_of_ble_eq_true rfl) dX9_run_16
theorem dX9_burnt_0 : decode cX9_burnt 0 = .ok (.aload_n 0, 1) := by decide +kernel
theorem dX9_burnt_1 : decode cX9_burnt 1 = .ok (.invokevirtual 197, 3) := by decide +kernel
theorem dX9_burnt_4 : decode cX9_burnt 4 = .ok (.aload_n 0, 1) := by decide +kernel
theorem dX9_burnt_5 : decode cX9_burnt 5 = .ok (.getfield 222, 3) := by decide +kernel
theorem dX9_burnt_8 : decode cX9_burnt 8 = .ok (.ifCond .eq 14, 3) := by decide +kernel
theorem dX9_burnt_22 : decode cX9_burnt 22 = .ok (.aload_n 0, 1) := by decide +kernel
theorem dX9_burnt_23 : decode cX9_burnt 23 = .ok (.iconst 1, 1) := by decide +kernel
theorem dX9_burnt_24 : decode cX9_burnt 24 = .ok (.invokevirtual 200, 3) := by decide +kernel
theorem dX9_burnt_27 : decode cX9_burnt 27 = .ok (.ireturn, 1) := by decide +kernel
abbrev rm_X9_burnt : Room := { frames := 1, cells := 0, slots := 0, locals := 21 }
set_option maxRecDepth 100000 in
set_option maxHeartbeats 4000000 in
theorem c_X9_burnt {l : Launch} {E : (Nat → Prop) → State → Prop} (hO : bw_Ok E) {G : va_G} {cI cB cJ cN cW : ClassId} (b : Nat) (q : Nat → Nat) : bw_Ci (S := bw_U) l yX9_burnt (bw_ws (Cond.code yX9_burnt cX9_burnt 1 (some .int))) rm_X9_burnt E G (bw_kt cI cB cJ cN cW) [.ref b] [(b, .inr (9, [.int 0, .ref (q 0), .int 0, .int 0, .int 0, .int 0, .int 0, .int 0, .int 0, .int 0, .int (-1), .int 0, .ref (q 1), .int 0, .int 0, .ref (q 2), .ref (q 3), .ref (q 4), .ref (q 5), .ref (q 6), .ref (q 7), .ref (q 8), .ref (q 9), .ref (q 10), .ref (q 11), .ref (q 12), .ref (q 13), .ref (q 14), .ref (q 15), .ref (q 16), .int 0, .int 0, .int 0, .int 0, .int 0, .int 0, .ref (q 17), .ref (q 18), .ref (q 19), .ref (q 20)]))] (fun r _ => r = -1) (fun _ => []) := by
  refine bw_Ci.of (cc := cX9_burnt) (maxL := 1) (ty := .int) (by decide) rfl (Nat.le_of_ble_eq_true rfl) ?_
  intro p e s m below meth c A Q hx hb hml hts hown hin hK hA hS hP hD hE ret ls hl
  have F : CallFix p m c cX9_burnt 1 s ([.ref b] : List Value).toArray bw_T RX9 := ⟨hx, hb, hml, hown, fun w h => hts w (List.mem_cons_of_mem _ h)⟩
  have hl : lv_has ls 1 [(0, .ref b)] := hl
  refine lv_aload_n hx hb dX9_burnt_0 rfl (lv_at hl 0 rfl) ?_
  refine r_callVv (As := []) (rest := []) (wr := []) F hK hP hD hS hA hO hE (c_X9_good hO b q) k_1296 kv_X9_good 0 rfl (by decide +kernel) ⟨Nat.le_of_ble_eq_true rfl, Nat.le_of_ble_eq_true rfl⟩ [0] [] rfl rfl (by decide) (by decide) (by decide) 0 9 rfl rfl rfl hl.1 rfl (Nat.le_of_ble_eq_true rfl) dX9_burnt_1 ⟨Nat.le_of_ble_eq_true rfl, Nat.le_of_ble_eq_true rfl⟩ (w1 := fun u1 => [(b, .inr (9, [.int 0, .ref (q 0), .int 0, .int 0, .int 0, .int 0, .int 0, .int 0, .int 0, .int 0, .int (-1), .int 0, .ref (q 1), .int 0, .int 0, .ref (q 2), .ref (q 3), .ref (q 4), .ref (q 5), .ref (q 6), .ref (q 7), .ref (q 8), .ref (q 9), .ref (q 10), .ref (q 11), .ref (q 12), .ref (q 13), .ref (q 14), .ref (q 15), .ref (q 16), .int 0, .int 0, .int 0, .int 0, .int 0, .int 0, .ref (q 17), .ref (q 18), .ref (q 19), .ref (q 20)]))]) (fun _ => rfl) (fun  u1 H locs hp hP hD hS => ?_)
  refine lv_aload_n hx hb dX9_burnt_4 rfl (lv_at hl 0 rfl) ?_
  refine r_get F hK hP 0 14 rfl rfl in_X9 (by decide) k_1177 rfl dX9_burnt_5 ?_
  refine lv_if_eq (tgt := 22) hx hb dX9_burnt_8 (by decide) (fun _ => ?_) (fun h9 => absurd (by decide) h9)
  refine lv_aload_n hx hb dX9_burnt_22 rfl (lv_at hl 0 rfl) ?_
  refine lv_iconst (v := 1) hx hb dX9_burnt_23 (by decide) ?_
  refine r_callVi (As := [.int 1]) (rest := []) (wr := []) F hK hP hD hS hA hO hE (c_X9_no hO b q 1) k_1303 kv_X9_no 1 rfl (by decide +kernel) ⟨Nat.le_of_ble_eq_true rfl, Nat.le_of_ble_eq_true rfl⟩ [0] [] rfl rfl (by decide) (by decide) (by decide) 0 9 rfl rfl rfl hl.1 rfl (Nat.le_of_ble_eq_true rfl) dX9_burnt_24 ⟨Nat.le_of_ble_eq_true rfl, Nat.le_of_ble_eq_true rfl⟩ (w1 := fun u2 => []) (fun _ => rfl) (fun r3 u2 H locs hp hP hD hS => ?_)
  subst hp
  exact ret (-1) (fun _ => 0, fun _ _ => 0) _ _ _ _ _ _ rfl rfl (bw_subP (isC := []) hP rfl) (hD.sub [] (by decide) rfl) hS (Nat.le_of_ble_eq_true rfl) (Nat.le_of_ble_eq_true rfl) dX9_burnt_27
theorem dX9_wanted_0 : decode cX9_wanted 0 = .ok (.aload_n 0, 1) := by decide +kernel
theorem dX9_wanted_1 : decode cX9_wanted 1 = .ok (.invokevirtual 197, 3) := by decide +kernel
theorem dX9_wanted_4 : decode cX9_wanted 4 = .ok (.aload_n 0, 1) := by decide +kernel
theorem dX9_wanted_5 : decode cX9_wanted 5 = .ok (.getfield 222, 3) := by decide +kernel
theorem dX9_wanted_8 : decode cX9_wanted 8 = .ok (.ifCond .ne 9, 3) := by decide +kernel
theorem dX9_wanted_11 : decode cX9_wanted 11 = .ok (.aload_n 0, 1) := by decide +kernel
theorem dX9_wanted_12 : decode cX9_wanted 12 = .ok (.iconst 1, 1) := by decide +kernel
theorem dX9_wanted_13 : decode cX9_wanted 13 = .ok (.invokevirtual 200, 3) := by decide +kernel
theorem dX9_wanted_16 : decode cX9_wanted 16 = .ok (.ireturn, 1) := by decide +kernel
abbrev rm_X9_wanted : Room := { frames := 1, cells := 0, slots := 0, locals := 21 }
set_option maxRecDepth 100000 in
set_option maxHeartbeats 4000000 in
theorem c_X9_wanted {l : Launch} {E : (Nat → Prop) → State → Prop} (hO : bw_Ok E) {G : va_G} {cI cB cJ cN cW : ClassId} (b : Nat) (q : Nat → Nat) : bw_Ci (S := bw_U) l yX9_wanted (bw_ws (Cond.code yX9_wanted cX9_wanted 3 (some .int))) rm_X9_wanted E G (bw_kt cI cB cJ cN cW) [.ref b] [(b, .inr (9, [.int 0, .ref (q 0), .int 0, .int 0, .int 0, .int 0, .int 0, .int 0, .int 0, .int 0, .int (-1), .int 0, .ref (q 1), .int 0, .int 0, .ref (q 2), .ref (q 3), .ref (q 4), .ref (q 5), .ref (q 6), .ref (q 7), .ref (q 8), .ref (q 9), .ref (q 10), .ref (q 11), .ref (q 12), .ref (q 13), .ref (q 14), .ref (q 15), .ref (q 16), .int 0, .int 0, .int 0, .int 0, .int 0, .int 0, .ref (q 17), .ref (q 18), .ref (q 19), .ref (q 20)]))] (fun r _ => r = -1) (fun _ => []) := by
  refine bw_Ci.of (cc := cX9_wanted) (maxL := 3) (ty := .int) (by decide) rfl (Nat.le_of_ble_eq_true rfl) ?_
  intro p e s m below meth c A Q hx hb hml hts hown hin hK hA hS hP hD hE ret ls hl
  have F : CallFix p m c cX9_wanted 3 s ([.ref b] : List Value).toArray bw_T RX9 := ⟨hx, hb, hml, hown, fun w h => hts w (List.mem_cons_of_mem _ h)⟩
  have hl : lv_has ls 3 [(0, .ref b)] := hl
  refine lv_aload_n hx hb dX9_wanted_0 rfl (lv_at hl 0 rfl) ?_
  refine r_callVv (As := []) (rest := []) (wr := []) F hK hP hD hS hA hO hE (c_X9_good hO b q) k_1296 kv_X9_good 0 rfl (by decide +kernel) ⟨Nat.le_of_ble_eq_true rfl, Nat.le_of_ble_eq_true rfl⟩ [0] [] rfl rfl (by decide) (by decide) (by decide) 0 9 rfl rfl rfl hl.1 rfl (Nat.le_of_ble_eq_true rfl) dX9_wanted_1 ⟨Nat.le_of_ble_eq_true rfl, Nat.le_of_ble_eq_true rfl⟩ (w1 := fun u1 => [(b, .inr (9, [.int 0, .ref (q 0), .int 0, .int 0, .int 0, .int 0, .int 0, .int 0, .int 0, .int 0, .int (-1), .int 0, .ref (q 1), .int 0, .int 0, .ref (q 2), .ref (q 3), .ref (q 4), .ref (q 5), .ref (q 6), .ref (q 7), .ref (q 8), .ref (q 9), .ref (q 10), .ref (q 11), .ref (q 12), .ref (q 13), .ref (q 14), .ref (q 15), .ref (q 16), .int 0, .int 0, .int 0, .int 0, .int 0, .int 0, .ref (q 17), .ref (q 18), .ref (q 19), .ref (q 20)]))]) (fun _ => rfl) (fun  u1 H locs hp hP hD hS => ?_)
  refine lv_aload_n hx hb dX9_wanted_4 rfl (lv_at hl 0 rfl) ?_
  refine r_get F hK hP 0 14 rfl rfl in_X9 (by decide) k_1177 rfl dX9_wanted_5 ?_
  refine lv_if_ne (tgt := 17) hx hb dX9_wanted_8 (by decide) (fun h9 => absurd (by decide) h9) (fun _ => ?_)
  refine lv_aload_n hx hb dX9_wanted_11 rfl (lv_at hl 0 rfl) ?_
  refine lv_iconst (v := 1) hx hb dX9_wanted_12 (by decide) ?_
  refine r_callVi (As := [.int 1]) (rest := []) (wr := []) F hK hP hD hS hA hO hE (c_X9_no hO b q 1) k_1303 kv_X9_no 1 rfl (by decide +kernel) ⟨Nat.le_of_ble_eq_true rfl, Nat.le_of_ble_eq_true rfl⟩ [0] [] rfl rfl (by decide) (by decide) (by decide) 0 9 rfl rfl rfl hl.1 rfl (Nat.le_of_ble_eq_true rfl) dX9_wanted_13 ⟨Nat.le_of_ble_eq_true rfl, Nat.le_of_ble_eq_true rfl⟩ (w1 := fun u2 => []) (fun _ => rfl) (fun r3 u2 H locs hp hP hD hS => ?_)
  subst hp
  exact ret (-1) (fun _ => 0, fun _ _ => 0) _ _ _ _ _ _ rfl rfl (bw_subP (isC := []) hP rfl) (hD.sub [] (by decide) rfl) hS (Nat.le_of_ble_eq_true rfl) (Nat.le_of_ble_eq_true rfl) dX9_wanted_16
theorem dX9_come_0 : decode cX9_come 0 = .ok (.aload_n 0, 1) := by decide +kernel
theorem dX9_come_1 : decode cX9_come 1 = .ok (.invokevirtual 197, 3) := by decide +kernel
theorem dX9_come_4 : decode cX9_come 4 = .ok (.aload_n 0, 1) := by decide +kernel
theorem dX9_come_5 : decode cX9_come 5 = .ok (.getfield 222, 3) := by decide +kernel
theorem dX9_come_8 : decode cX9_come 8 = .ok (.ifCond .eq 11, 3) := by decide +kernel
theorem dX9_come_19 : decode cX9_come 19 = .ok (.aload_n 0, 1) := by decide +kernel
theorem dX9_come_20 : decode cX9_come 20 = .ok (.iconst 1, 1) := by decide +kernel
theorem dX9_come_21 : decode cX9_come 21 = .ok (.invokevirtual 200, 3) := by decide +kernel
theorem dX9_come_24 : decode cX9_come 24 = .ok (.ireturn, 1) := by decide +kernel
abbrev rm_X9_come : Room := { frames := 1, cells := 0, slots := 0, locals := 21 }
set_option maxRecDepth 100000 in
set_option maxHeartbeats 4000000 in
theorem c_X9_come {l : Launch} {E : (Nat → Prop) → State → Prop} (hO : bw_Ok E) {G : va_G} {cI cB cJ cN cW : ClassId} (b : Nat) (q : Nat → Nat) : bw_Ci (S := bw_U) l yX9_come (bw_ws (Cond.code yX9_come cX9_come 1 (some .int))) rm_X9_come E G (bw_kt cI cB cJ cN cW) [.ref b] [(b, .inr (9, [.int 0, .ref (q 0), .int 0, .int 0, .int 0, .int 0, .int 0, .int 0, .int 0, .int 0, .int (-1), .int 0, .ref (q 1), .int 0, .int 0, .ref (q 2), .ref (q 3), .ref (q 4), .ref (q 5), .ref (q 6), .ref (q 7), .ref (q 8), .ref (q 9), .ref (q 10), .ref (q 11), .ref (q 12), .ref (q 13), .ref (q 14), .ref (q 15), .ref (q 16), .int 0, .int 0, .int 0, .int 0, .int 0, .int 0, .ref (q 17), .ref (q 18), .ref (q 19), .ref (q 20)]))] (fun r _ => r = -1) (fun _ => []) := by
  refine bw_Ci.of (cc := cX9_come) (maxL := 1) (ty := .int) (by decide) rfl (Nat.le_of_ble_eq_true rfl) ?_
  intro p e s m below meth c A Q hx hb hml hts hown hin hK hA hS hP hD hE ret ls hl
  have F : CallFix p m c cX9_come 1 s ([.ref b] : List Value).toArray bw_T RX9 := ⟨hx, hb, hml, hown, fun w h => hts w (List.mem_cons_of_mem _ h)⟩
  have hl : lv_has ls 1 [(0, .ref b)] := hl
  refine lv_aload_n hx hb dX9_come_0 rfl (lv_at hl 0 rfl) ?_
  refine r_callVv (As := []) (rest := []) (wr := []) F hK hP hD hS hA hO hE (c_X9_good hO b q) k_1296 kv_X9_good 0 rfl (by decide +kernel) ⟨Nat.le_of_ble_eq_true rfl, Nat.le_of_ble_eq_true rfl⟩ [0] [] rfl rfl (by decide) (by decide) (by decide) 0 9 rfl rfl rfl hl.1 rfl (Nat.le_of_ble_eq_true rfl) dX9_come_1 ⟨Nat.le_of_ble_eq_true rfl, Nat.le_of_ble_eq_true rfl⟩ (w1 := fun u1 => [(b, .inr (9, [.int 0, .ref (q 0), .int 0, .int 0, .int 0, .int 0, .int 0, .int 0, .int 0, .int 0, .int (-1), .int 0, .ref (q 1), .int 0, .int 0, .ref (q 2), .ref (q 3), .ref (q 4), .ref (q 5), .ref (q 6), .ref (q 7), .ref (q 8), .ref (q 9), .ref (q 10), .ref (q 11), .ref (q 12), .ref (q 13), .ref (q 14), .ref (q 15), .ref (q 16), .int 0, .int 0, .int 0, .int 0, .int 0, .int 0, .ref (q 17), .ref (q 18), .ref (q 19), .ref (q 20)]))]) (fun _ => rfl) (fun  u1 H locs hp hP hD hS => ?_)
  refine lv_aload_n hx hb dX9_come_4 rfl (lv_at hl 0 rfl) ?_
  refine r_get F hK hP 0 14 rfl rfl in_X9 (by decide) k_1177 rfl dX9_come_5 ?_
  refine lv_if_eq (tgt := 19) hx hb dX9_come_8 (by decide) (fun _ => ?_) (fun h9 => absurd (by decide) h9)
  refine lv_aload_n hx hb dX9_come_19 rfl (lv_at hl 0 rfl) ?_
  refine lv_iconst (v := 1) hx hb dX9_come_20 (by decide) ?_
  refine r_callVi (As := [.int 1]) (rest := []) (wr := []) F hK hP hD hS hA hO hE (c_X9_no hO b q 1) k_1303 kv_X9_no 1 rfl (by decide +kernel) ⟨Nat.le_of_ble_eq_true rfl, Nat.le_of_ble_eq_true rfl⟩ [0] [] rfl rfl (by decide) (by decide) (by decide) 0 9 rfl rfl rfl hl.1 rfl (Nat.le_of_ble_eq_true rfl) dX9_come_21 ⟨Nat.le_of_ble_eq_true rfl, Nat.le_of_ble_eq_true rfl⟩ (w1 := fun u2 => []) (fun _ => rfl) (fun r3 u2 H locs hp hP hD hS => ?_)
  subst hp
  exact ret (-1) (fun _ => 0, fun _ _ => 0) _ _ _ _ _ _ rfl rfl (bw_subP (isC := []) hP rfl) (hD.sub [] (by decide) rfl) hS (Nat.le_of_ble_eq_true rfl) (Nat.le_of_ble_eq_true rfl) dX9_come_24
theorem dX9_even_0 : decode cX9_even 0 = .ok (.aload_n 0, 1) := by decide +kernel
theorem dX9_even_1 : decode cX9_even 1 = .ok (.invokevirtual 197, 3) := by decide +kernel
theorem dX9_even_4 : decode cX9_even 4 = .ok (.aload_n 0, 1) := by decide +kernel
theorem dX9_even_5 : decode cX9_even 5 = .ok (.getfield 222, 3) := by decide +kernel
theorem dX9_even_8 : decode cX9_even 8 = .ok (.ifCond .ne 9, 3) := by decide +kernel
theorem dX9_even_11 : decode cX9_even 11 = .ok (.aload_n 0, 1) := by decide +kernel
theorem dX9_even_12 : decode cX9_even 12 = .ok (.iconst 1, 1) := by decide +kernel
theorem dX9_even_13 : decode cX9_even 13 = .ok (.invokevirtual 200, 3) := by decide +kernel
theorem dX9_even_16 : decode cX9_even 16 = .ok (.ireturn, 1) := by decide +kernel
abbrev rm_X9_even : Room := { frames := 1, cells := 0, slots := 0, locals := 21 }
set_option maxRecDepth 100000 in
set_option maxHeartbeats 4000000 in
theorem c_X9_even {l : Launch} {E : (Nat → Prop) → State → Prop} (hO : bw_Ok E) {G : va_G} {cI cB cJ cN cW : ClassId} (b : Nat) (q : Nat → Nat) : bw_Ci (S := bw_U) l yX9_even (bw_ws (Cond.code yX9_even cX9_even 1 (some .int))) rm_X9_even E G (bw_kt cI cB cJ cN cW) [.ref b] [(b, .inr (9, [.int 0, .ref (q 0), .int 0, .int 0, .int 0, .int 0, .int 0, .int 0, .int 0, .int 0, .int (-1), .int 0, .ref (q 1), .int 0, .int 0, .ref (q 2), .ref (q 3), .ref (q 4), .ref (q 5), .ref (q 6), .ref (q 7), .ref (q 8), .ref (q 9), .ref (q 10), .ref (q 11), .ref (q 12), .ref (q 13), .ref (q 14), .ref (q 15), .ref (q 16), .int 0, .int 0, .int 0, .int 0, .int 0, .int 0, .ref (q 17), .ref (q 18), .ref (q 19), .ref (q 20)]))] (fun r _ => r = -1) (fun _ => []) := by
  refine bw_Ci.of (cc := cX9_even) (maxL := 1) (ty := .int) (by decide) rfl (Nat.le_of_ble_eq_true rfl) ?_
  intro p e s m below meth c A Q hx hb hml hts hown hin hK hA hS hP hD hE ret ls hl
  have F : CallFix p m c cX9_even 1 s ([.ref b] : List Value).toArray bw_T RX9 := ⟨hx, hb, hml, hown, fun w h => hts w (List.mem_cons_of_mem _ h)⟩
  have hl : lv_has ls 1 [(0, .ref b)] := hl
  refine lv_aload_n hx hb dX9_even_0 rfl (lv_at hl 0 rfl) ?_
  refine r_callVv (As := []) (rest := []) (wr := []) F hK hP hD hS hA hO hE (c_X9_good hO b q) k_1296 kv_X9_good 0 rfl (by decide +kernel) ⟨Nat.le_of_ble_eq_true rfl, Nat.le_of_ble_eq_true rfl⟩ [0] [] rfl rfl (by decide) (by decide) (by decide) 0 9 rfl rfl rfl hl.1 rfl (Nat.le_of_ble_eq_true rfl) dX9_even_1 ⟨Nat.le_of_ble_eq_true rfl, Nat.le_of_ble_eq_true rfl⟩ (w1 := fun u1 => [(b, .inr (9, [.int 0, .ref (q 0), .int 0, .int 0, .int 0, .int 0, .int 0, .int 0, .int 0, .int 0, .int (-1), .int 0, .ref (q 1), .int 0, .int 0, .ref (q 2), .ref (q 3), .ref (q 4), .ref (q 5), .ref (q 6), .ref (q 7), .ref (q 8), .ref (q 9), .ref (q 10), .ref (q 11), .ref (q 12), .ref (q 13), .ref (q 14), .ref (q 15), .ref (q 16), .int 0, .int 0, .int 0, .int 0, .int 0, .int 0, .ref (q 17), .ref (q 18), .ref (q 19), .ref (q 20)]))]) (fun _ => rfl) (fun  u1 H locs hp hP hD hS => ?_)
  refine lv_aload_n hx hb dX9_even_4 rfl (lv_at hl 0 rfl) ?_
  refine r_get F hK hP 0 14 rfl rfl in_X9 (by decide) k_1177 rfl dX9_even_5 ?_
  refine lv_if_ne (tgt := 17) hx hb dX9_even_8 (by decide) (fun h9 => absurd (by decide) h9) (fun _ => ?_)
  refine lv_aload_n hx hb dX9_even_11 rfl (lv_at hl 0 rfl) ?_
  refine lv_iconst (v := 1) hx hb dX9_even_12 (by decide) ?_
  refine r_callVi (As := [.int 1]) (rest := []) (wr := []) F hK hP hD hS hA hO hE (c_X9_no hO b q 1) k_1303 kv_X9_no 1 rfl (by decide +kernel) ⟨Nat.le_of_ble_eq_true rfl, Nat.le_of_ble_eq_true rfl⟩ [0] [] rfl rfl (by decide) (by decide) (by decide) 0 9 rfl rfl rfl hl.1 rfl (Nat.le_of_ble_eq_true rfl) dX9_even_13 ⟨Nat.le_of_ble_eq_true rfl, Nat.le_of_ble_eq_true rfl⟩ (w1 := fun u2 => []) (fun _ => rfl) (fun r3 u2 H locs hp hP hD hS => ?_)
  subst hp
  exact ret (-1) (fun _ => 0, fun _ _ => 0) _ _ _ _ _ _ rfl rfl (bw_subP (isC := []) hP rfl) (hD.sub [] (by decide) rfl) hS (Nat.le_of_ble_eq_true rfl) (Nat.le_of_ble_eq_true rfl) dX9_even_16
theorem dX9_trails_0 : decode cX9_trails 0 = .ok (.aload_n 0, 1) := by decide +kernel
theorem dX9_trails_1 : decode cX9_trails 1 = .ok (.invokevirtual 197, 3) := by decide +kernel
theorem dX9_trails_4 : decode cX9_trails 4 = .ok (.aload_n 0, 1) := by decide +kernel
theorem dX9_trails_5 : decode cX9_trails 5 = .ok (.getfield 222, 3) := by decide +kernel
theorem dX9_trails_8 : decode cX9_trails 8 = .ok (.ifCond .eq 10, 3) := by decide +kernel
theorem dX9_trails_18 : decode cX9_trails 18 = .ok (.aload_n 0, 1) := by decide +kernel
theorem dX9_trails_19 : decode cX9_trails 19 = .ok (.iconst 1, 1) := by decide +kernel
theorem dX9_trails_20 : decode cX9_trails 20 = .ok (.invokevirtual 200, 3) := by decide +kernel
theorem dX9_trails_23 : decode cX9_trails 23 = .ok (.ireturn, 1) := by decide +kernel
abbrev rm_X9_trails : Room := { frames := 1, cells := 0, slots := 0, locals := 21 }
set_option maxRecDepth 100000 in
set_option maxHeartbeats 4000000 in
theorem c_X9_trails {l : Launch} {E : (Nat → Prop) → State → Prop} (hO : bw_Ok E) {G : va_G} {cI cB cJ cN cW : ClassId} (b : Nat) (q : Nat → Nat) : bw_Ci (S := bw_U) l yX9_trails (bw_ws (Cond.code yX9_trails cX9_trails 1 (some .int))) rm_X9_trails E G (bw_kt cI cB cJ cN cW) [.ref b] [(b, .inr (9, [.int 0, .ref (q 0), .int 0, .int 0, .int 0, .int 0, .int 0, .int 0, .int 0, .int 0, .int (-1), .int 0, .ref (q 1), .int 0, .int 0, .ref (q 2), .ref (q 3), .ref (q 4), .ref (q 5), .ref (q 6), .ref (q 7), .ref (q 8), .ref (q 9), .ref (q 10), .ref (q 11), .ref (q 12), .ref (q 13), .ref (q 14), .ref (q 15), .ref (q 16), .int 0, .int 0, .int 0, .int 0, .int 0, .int 0, .ref (q 17), .ref (q 18), .ref (q 19), .ref (q 20)]))] (fun r _ => r = -1) (fun _ => []) := by
  refine bw_Ci.of (cc := cX9_trails) (maxL := 1) (ty := .int) (by decide) rfl (Nat.le_of_ble_eq_true rfl) ?_
  intro p e s m below meth c A Q hx hb hml hts hown hin hK hA hS hP hD hE ret ls hl
  have F : CallFix p m c cX9_trails 1 s ([.ref b] : List Value).toArray bw_T RX9 := ⟨hx, hb, hml, hown, fun w h => hts w (List.mem_cons_of_mem _ h)⟩
  have hl : lv_has ls 1 [(0, .ref b)] := hl
  refine lv_aload_n hx hb dX9_trails_0 rfl (lv_at hl 0 rfl) ?_
  refine r_callVv (As := []) (rest := []) (wr := []) F hK hP hD hS hA hO hE (c_X9_good hO b q) k_1296 kv_X9_good 0 rfl (by decide +kernel) ⟨Nat.le_of_ble_eq_true rfl, Nat.le_of_ble_eq_true rfl⟩ [0] [] rfl rfl (by decide) (by decide) (by decide) 0 9 rfl rfl rfl hl.1 rfl (Nat.le_of_ble_eq_true rfl) dX9_trails_1 ⟨Nat.le_of_ble_eq_true rfl, Nat.le_of_ble_eq_true rfl⟩ (w1 := fun u1 => [(b, .inr (9, [.int 0, .ref (q 0), .int 0, .int 0, .int 0, .int 0, .int 0, .int 0, .int 0, .int 0, .int (-1), .int 0, .ref (q 1), .int 0, .int 0, .ref (q 2), .ref (q 3), .ref (q 4), .ref (q 5), .ref (q 6), .ref (q 7), .ref (q 8), .ref (q 9), .ref (q 10), .ref (q 11), .ref (q 12), .ref (q 13), .ref (q 14), .ref (q 15), .ref (q 16), .int 0, .int 0, .int 0, .int 0, .int 0, .int 0, .ref (q 17), .ref (q 18), .ref (q 19), .ref (q 20)]))]) (fun _ => rfl) (fun  u1 H locs hp hP hD hS => ?_)
  refine lv_aload_n hx hb dX9_trails_4 rfl (lv_at hl 0 rfl) ?_
  refine r_get F hK hP 0 14 rfl rfl in_X9 (by decide) k_1177 rfl dX9_trails_5 ?_
  refine lv_if_eq (tgt := 18) hx hb dX9_trails_8 (by decide) (fun _ => ?_) (fun h9 => absurd (by decide) h9)
  refine lv_aload_n hx hb dX9_trails_18 rfl (lv_at hl 0 rfl) ?_
  refine lv_iconst (v := 1) hx hb dX9_trails_19 (by decide) ?_
  refine r_callVi (As := [.int 1]) (rest := []) (wr := []) F hK hP hD hS hA hO hE (c_X9_no hO b q 1) k_1303 kv_X9_no 1 rfl (by decide +kernel) ⟨Nat.le_of_ble_eq_true rfl, Nat.le_of_ble_eq_true rfl⟩ [0] [] rfl rfl (by decide) (by decide) (by decide) 0 9 rfl rfl rfl hl.1 rfl (Nat.le_of_ble_eq_true rfl) dX9_trails_20 ⟨Nat.le_of_ble_eq_true rfl, Nat.le_of_ble_eq_true rfl⟩ (w1 := fun u2 => []) (fun _ => rfl) (fun r3 u2 H locs hp hP hD hS => ?_)
  subst hp
  exact ret (-1) (fun _ => 0, fun _ _ => 0) _ _ _ _ _ _ rfl rfl (bw_subP (isC := []) hP rfl) (hD.sub [] (by decide) rfl) hS (Nat.le_of_ble_eq_true rfl) (Nat.le_of_ble_eq_true rfl) dX9_trails_23
theorem dX9_keys_0 : decode cX9_keys 0 = .ok (.aload_n 0, 1) := by decide +kernel
theorem dX9_keys_1 : decode cX9_keys 1 = .ok (.invokevirtual 197, 3) := by decide +kernel
theorem dX9_keys_4 : decode cX9_keys 4 = .ok (.aload_n 0, 1) := by decide +kernel
theorem dX9_keys_5 : decode cX9_keys 5 = .ok (.getfield 222, 3) := by decide +kernel
theorem dX9_keys_8 : decode cX9_keys 8 = .ok (.ifCond .ne 9, 3) := by decide +kernel
theorem dX9_keys_11 : decode cX9_keys 11 = .ok (.aload_n 0, 1) := by decide +kernel
theorem dX9_keys_12 : decode cX9_keys 12 = .ok (.iconst 1, 1) := by decide +kernel
theorem dX9_keys_13 : decode cX9_keys 13 = .ok (.invokevirtual 200, 3) := by decide +kernel
theorem dX9_keys_16 : decode cX9_keys 16 = .ok (.ireturn, 1) := by decide +kernel
abbrev rm_X9_keys : Room := { frames := 1, cells := 0, slots := 0, locals := 21 }
set_option maxRecDepth 100000 in
set_option maxHeartbeats 4000000 in
theorem c_X9_keys {l : Launch} {E : (Nat → Prop) → State → Prop} (hO : bw_Ok E) {G : va_G} {cI cB cJ cN cW : ClassId} (b : Nat) (q : Nat → Nat) : bw_Ci (S := bw_U) l yX9_keys (bw_ws (Cond.code yX9_keys cX9_keys 3 (some .int))) rm_X9_keys E G (bw_kt cI cB cJ cN cW) [.ref b] [(b, .inr (9, [.int 0, .ref (q 0), .int 0, .int 0, .int 0, .int 0, .int 0, .int 0, .int 0, .int 0, .int (-1), .int 0, .ref (q 1), .int 0, .int 0, .ref (q 2), .ref (q 3), .ref (q 4), .ref (q 5), .ref (q 6), .ref (q 7), .ref (q 8), .ref (q 9), .ref (q 10), .ref (q 11), .ref (q 12), .ref (q 13), .ref (q 14), .ref (q 15), .ref (q 16), .int 0, .int 0, .int 0, .int 0, .int 0, .int 0, .ref (q 17), .ref (q 18), .ref (q 19), .ref (q 20)]))] (fun r _ => r = -1) (fun _ => []) := by
  refine bw_Ci.of (cc := cX9_keys) (maxL := 3) (ty := .int) (by decide) rfl (Nat.le_of_ble_eq_true rfl) ?_
  intro p e s m below meth c A Q hx hb hml hts hown hin hK hA hS hP hD hE ret ls hl
  have F : CallFix p m c cX9_keys 3 s ([.ref b] : List Value).toArray bw_T RX9 := ⟨hx, hb, hml, hown, fun w h => hts w (List.mem_cons_of_mem _ h)⟩
  have hl : lv_has ls 3 [(0, .ref b)] := hl
  refine lv_aload_n hx hb dX9_keys_0 rfl (lv_at hl 0 rfl) ?_
  refine r_callVv (As := []) (rest := []) (wr := []) F hK hP hD hS hA hO hE (c_X9_good hO b q) k_1296 kv_X9_good 0 rfl (by decide +kernel) ⟨Nat.le_of_ble_eq_true rfl, Nat.le_of_ble_eq_true rfl⟩ [0] [] rfl rfl (by decide) (by decide) (by decide) 0 9 rfl rfl rfl hl.1 rfl (Nat.le_of_ble_eq_true rfl) dX9_keys_1 ⟨Nat.le_of_ble_eq_true rfl, Nat.le_of_ble_eq_true rfl⟩ (w1 := fun u1 => [(b, .inr (9, [.int 0, .ref (q 0), .int 0, .int 0, .int 0, .int 0, .int 0, .int 0, .int 0, .int 0, .int (-1), .int 0, .ref (q 1), .int 0, .int 0, .ref (q 2), .ref (q 3), .ref (q 4), .ref (q 5), .ref (q 6), .ref (q 7), .ref (q 8), .ref (q 9), .ref (q 10), .ref (q 11), .ref (q 12), .ref (q 13), .ref (q 14), .ref (q 15), .ref (q 16), .int 0, .int 0, .int 0, .int 0, .int 0, .int 0, .ref (q 17), .ref (q 18), .ref (q 19), .ref (q 20)]))]) (fun _ => rfl) (fun  u1 H locs hp hP hD hS => ?_)
  refine lv_aload_n hx hb dX9_keys_4 rfl (lv_at hl 0 rfl) ?_
  refine r_get F hK hP 0 14 rfl rfl in_X9 (by decide) k_1177 rfl dX9_keys_5 ?_
  refine lv_if_ne (tgt := 17) hx hb dX9_keys_8 (by decide) (fun h9 => absurd (by decide) h9) (fun _ => ?_)
  refine lv_aload_n hx hb dX9_keys_11 rfl (lv_at hl 0 rfl) ?_
  refine lv_iconst (v := 1) hx hb dX9_keys_12 (by decide) ?_
  refine r_callVi (As := [.int 1]) (rest := []) (wr := []) F hK hP hD hS hA hO hE (c_X9_no hO b q 1) k_1303 kv_X9_no 1 rfl (by decide +kernel) ⟨Nat.le_of_ble_eq_true rfl, Nat.le_of_ble_eq_true rfl⟩ [0] [] rfl rfl (by decide) (by decide) (by decide) 0 9 rfl rfl rfl hl.1 rfl (Nat.le_of_ble_eq_true rfl) dX9_keys_13 ⟨Nat.le_of_ble_eq_true rfl, Nat.le_of_ble_eq_true rfl⟩ (w1 := fun u2 => []) (fun _ => rfl) (fun r3 u2 H locs hp hP hD hS => ?_)
  subst hp
  exact ret (-1) (fun _ => 0, fun _ _ => 0) _ _ _ _ _ _ rfl rfl (bw_subP (isC := []) hP rfl) (hD.sub [] (by decide) rfl) hS (Nat.le_of_ble_eq_true rfl) (Nat.le_of_ble_eq_true rfl) dX9_keys_16
theorem dX9_mark_0 : decode cX9_mark 0 = .ok (.aload_n 0, 1) := by decide +kernel
theorem dX9_mark_1 : decode cX9_mark 1 = .ok (.invokevirtual 197, 3) := by decide +kernel
theorem dX9_mark_4 : decode cX9_mark 4 = .ok (.aload_n 0, 1) := by decide +kernel
theorem dX9_mark_5 : decode cX9_mark 5 = .ok (.getfield 222, 3) := by decide +kernel
theorem dX9_mark_8 : decode cX9_mark 8 = .ok (.ifCond .ne 9, 3) := by decide +kernel
theorem dX9_mark_11 : decode cX9_mark 11 = .ok (.aload_n 0, 1) := by decide +kernel
theorem dX9_mark_12 : decode cX9_mark 12 = .ok (.iconst 1, 1) := by decide +kernel
theorem dX9_mark_13 : decode cX9_mark 13 = .ok (.invokevirtual 200, 3) := by decide +kernel
theorem dX9_mark_16 : decode cX9_mark 16 = .ok (.ireturn, 1) := by decide +kernel
abbrev rm_X9_mark : Room := { frames := 1, cells := 0, slots := 0, locals := 21 }
set_option maxRecDepth 100000 in
set_option maxHeartbeats 4000000 in
theorem c_X9_mark {l : Launch} {E : (Nat → Prop) → State → Prop} (hO : bw_Ok E) {G : va_G} {cI cB cJ cN cW : ClassId} (b : Nat) (q : Nat → Nat) : bw_Ci (S := bw_U) l yX9_mark (bw_ws (Cond.code yX9_mark cX9_mark 2 (some .int))) rm_X9_mark E G (bw_kt cI cB cJ cN cW) [.ref b] [(b, .inr (9, [.int 0, .ref (q 0), .int 0, .int 0, .int 0, .int 0, .int 0, .int 0, .int 0, .int 0, .int (-1), .int 0, .ref (q 1), .int 0, .int 0, .ref (q 2), .ref (q 3), .ref (q 4), .ref (q 5), .ref (q 6), .ref (q 7), .ref (q 8), .ref (q 9), .ref (q 10), .ref (q 11), .ref (q 12), .ref (q 13), .ref (q 14), .ref (q 15), .ref (q 16), .int 0, .int 0, .int 0, .int 0, .int 0, .int 0, .ref (q 17), .ref (q 18), .ref (q 19), .ref (q 20)]))] (fun r _ => r = -1) (fun _ => []) := by
  refine bw_Ci.of (cc := cX9_mark) (maxL := 2) (ty := .int) (by decide) rfl (Nat.le_of_ble_eq_true rfl) ?_
  intro p e s m below meth c A Q hx hb hml hts hown hin hK hA hS hP hD hE ret ls hl
  have F : CallFix p m c cX9_mark 2 s ([.ref b] : List Value).toArray bw_T RX9 := ⟨hx, hb, hml, hown, fun w h => hts w (List.mem_cons_of_mem _ h)⟩
  have hl : lv_has ls 2 [(0, .ref b)] := hl
  refine lv_aload_n hx hb dX9_mark_0 rfl (lv_at hl 0 rfl) ?_
  refine r_callVv (As := []) (rest := []) (wr := []) F hK hP hD hS hA hO hE (c_X9_good hO b q) k_1296 kv_X9_good 0 rfl (by decide +kernel) ⟨Nat.le_of_ble_eq_true rfl, Nat.le_of_ble_eq_true rfl⟩ [0] [] rfl rfl (by decide) (by decide) (by decide) 0 9 rfl rfl rfl hl.1 rfl (Nat.le_of_ble_eq_true rfl) dX9_mark_1 ⟨Nat.le_of_ble_eq_true rfl, Nat.le_of_ble_eq_true rfl⟩ (w1 := fun u1 => [(b, .inr (9, [.int 0, .ref (q 0), .int 0, .int 0, .int 0, .int 0, .int 0, .int 0, .int 0, .int 0, .int (-1), .int 0, .ref (q 1), .int 0, .int 0, .ref (q 2), .ref (q 3), .ref (q 4), .ref (q 5), .ref (q 6), .ref (q 7), .ref (q 8), .ref (q 9), .ref (q 10), .ref (q 11), .ref (q 12), .ref (q 13), .ref (q 14), .ref (q 15), .ref (q 16), .int 0, .int 0, .int 0, .int 0, .int 0, .int 0, .ref (q 17), .ref (q 18), .ref (q 19), .ref (q 20)]))]) (fun _ => rfl) (fun  u1 H locs hp hP hD hS => ?_)
  refine lv_aload_n hx hb dX9_mark_4 rfl (lv_at hl 0 rfl) ?_
  refine r_get F hK hP 0 14 rfl rfl in_X9 (by decide) k_1177 rfl dX9_mark_5 ?_
  refine lv_if_ne (tgt := 17) hx hb dX9_mark_8 (by decide) (fun h9 => absurd (by decide) h9) (fun _ => ?_)
  refine lv_aload_n hx hb dX9_mark_11 rfl (lv_at hl 0 rfl) ?_
  refine lv_iconst (v := 1) hx hb dX9_mark_12 (by decide) ?_
  refine r_callVi (As := [.int 1]) (rest := []) (wr := []) F hK hP hD hS hA hO hE (c_X9_no hO b q 1) k_1303 kv_X9_no 1 rfl (by decide +kernel) ⟨Nat.le_of_ble_eq_true rfl, Nat.le_of_ble_eq_true rfl⟩ [0] [] rfl rfl (by decide) (by decide) (by decide) 0 9 rfl rfl rfl hl.1 rfl (Nat.le_of_ble_eq_true rfl) dX9_mark_13 ⟨Nat.le_of_ble_eq_true rfl, Nat.le_of_ble_eq_true rfl⟩ (w1 := fun u2 => []) (fun _ => rfl) (fun r3 u2 H locs hp hP hD hS => ?_)
  subst hp
  exact ret (-1) (fun _ => 0, fun _ _ => 0) _ _ _ _ _ _ rfl rfl (bw_subP (isC := []) hP rfl) (hD.sub [] (by decide) rfl) hS (Nat.le_of_ble_eq_true rfl) (Nat.le_of_ble_eq_true rfl) dX9_mark_16
theorem dX9_steps_0 : decode cX9_steps 0 = .ok (.aload_n 0, 1) := by decide +kernel
theorem dX9_steps_1 : decode cX9_steps 1 = .ok (.invokevirtual 197, 3) := by decide +kernel
theorem dX9_steps_4 : decode cX9_steps 4 = .ok (.aload_n 0, 1) := by decide +kernel
theorem dX9_steps_5 : decode cX9_steps 5 = .ok (.getfield 222, 3) := by decide +kernel
theorem dX9_steps_8 : decode cX9_steps 8 = .ok (.ifCond .ne 9, 3) := by decide +kernel
theorem dX9_steps_11 : decode cX9_steps 11 = .ok (.aload_n 0, 1) := by decide +kernel
theorem dX9_steps_12 : decode cX9_steps 12 = .ok (.iconst 1, 1) := by decide +kernel
theorem dX9_steps_13 : decode cX9_steps 13 = .ok (.invokevirtual 200, 3) := by decide +kernel
theorem dX9_steps_16 : decode cX9_steps 16 = .ok (.ireturn, 1) := by decide +kernel
abbrev rm_X9_steps : Room := { frames := 1, cells := 0, slots := 0, locals := 21 }
set_option maxRecDepth 100000 in
set_option maxHeartbeats 4000000 in
theorem c_X9_steps {l : Launch} {E : (Nat → Prop) → State → Prop} (hO : bw_Ok E) {G : va_G} {cI cB cJ cN cW : ClassId} (b : Nat) (q : Nat → Nat) (x : Int32) : bw_Ci (S := bw_U) l yX9_steps (bw_ws (Cond.code yX9_steps cX9_steps 3 (some .int))) rm_X9_steps E G (bw_kt cI cB cJ cN cW) [.ref b, .int x] [(b, .inr (9, [.int 0, .ref (q 0), .int 0, .int 0, .int 0, .int 0, .int 0, .int 0, .int 0, .int 0, .int (-1), .int 0, .ref (q 1), .int 0, .int 0, .ref (q 2), .ref (q 3), .ref (q 4), .ref (q 5), .ref (q 6), .ref (q 7), .ref (q 8), .ref (q 9), .ref (q 10), .ref (q 11), .ref (q 12), .ref (q 13), .ref (q 14), .ref (q 15), .ref (q 16), .int 0, .int 0, .int 0, .int 0, .int 0, .int 0, .ref (q 17), .ref (q 18), .ref (q 19), .ref (q 20)]))] (fun r _ => r = -1) (fun _ => []) := by
  refine bw_Ci.of (cc := cX9_steps) (maxL := 3) (ty := .int) (by decide) rfl (Nat.le_of_ble_eq_true rfl) ?_
  intro p e s m below meth c A Q hx hb hml hts hown hin hK hA hS hP hD hE ret ls hl
  have F : CallFix p m c cX9_steps 3 s ([.ref b, .int x] : List Value).toArray bw_T RX9 := ⟨hx, hb, hml, hown, fun w h => hts w (List.mem_cons_of_mem _ h)⟩
  have hl : lv_has ls 3 [(0, .ref b), (1, .int x)] := hl
  refine lv_aload_n hx hb dX9_steps_0 rfl (lv_at hl 0 rfl) ?_
  refine r_callVv (As := []) (rest := []) (wr := []) F hK hP hD hS hA hO hE (c_X9_good hO b q) k_1296 kv_X9_good 0 rfl (by decide +kernel) ⟨Nat.le_of_ble_eq_true rfl, Nat.le_of_ble_eq_true rfl⟩ [0] [] rfl rfl (by decide) (by decide) (by decide) 0 9 rfl rfl rfl hl.1 rfl (Nat.le_of_ble_eq_true rfl) dX9_steps_1 ⟨Nat.le_of_ble_eq_true rfl, Nat.le_of_ble_eq_true rfl⟩ (w1 := fun u1 => [(b, .inr (9, [.int 0, .ref (q 0), .int 0, .int 0, .int 0, .int 0, .int 0, .int 0, .int 0, .int 0, .int (-1), .int 0, .ref (q 1), .int 0, .int 0, .ref (q 2), .ref (q 3), .ref (q 4), .ref (q 5), .ref (q 6), .ref (q 7), .ref (q 8), .ref (q 9), .ref (q 10), .ref (q 11), .ref (q 12), .ref (q 13), .ref (q 14), .ref (q 15), .ref (q 16), .int 0, .int 0, .int 0, .int 0, .int 0, .int 0, .ref (q 17), .ref (q 18), .ref (q 19), .ref (q 20)]))]) (fun _ => rfl) (fun  u1 H locs hp hP hD hS => ?_)
  refine lv_aload_n hx hb dX9_steps_4 rfl (lv_at hl 0 rfl) ?_
  refine r_get F hK hP 0 14 rfl rfl in_X9 (by decide) k_1177 rfl dX9_steps_5 ?_
  refine lv_if_ne (tgt := 17) hx hb dX9_steps_8 (by decide) (fun h9 => absurd (by decide) h9) (fun _ => ?_)
  refine lv_aload_n hx hb dX9_steps_11 rfl (lv_at hl 0 rfl) ?_
  refine lv_iconst (v := 1) hx hb dX9_steps_12 (by decide) ?_
  refine r_callVi (As := [.int 1]) (rest := []) (wr := []) F hK hP hD hS hA hO hE (c_X9_no hO b q 1) k_1303 kv_X9_no 1 rfl (by decide +kernel) ⟨Nat.le_of_ble_eq_true rfl, Nat.le_of_ble_eq_true rfl⟩ [0] [] rfl rfl (by decide) (by decide) (by decide) 0 9 rfl rfl rfl hl.1 rfl (Nat.le_of_ble_eq_true rfl) dX9_steps_13 ⟨Nat.le_of_ble_eq_true rfl, Nat.le_of_ble_eq_true rfl⟩ (w1 := fun u2 => []) (fun _ => rfl) (fun r3 u2 H locs hp hP hD hS => ?_)
  subst hp
  exact ret (-1) (fun _ => 0, fun _ _ => 0) _ _ _ _ _ _ rfl rfl (bw_subP (isC := []) hP rfl) (hD.sub [] (by decide) rfl) hS (Nat.le_of_ble_eq_true rfl) (Nat.le_of_ble_eq_true rfl) dX9_steps_16
theorem dX9_now_0 : decode cX9_now 0 = .ok (.aload_n 0, 1) := by decide +kernel
theorem dX9_now_1 : decode cX9_now 1 = .ok (.invokevirtual 197, 3) := by decide +kernel
theorem dX9_now_4 : decode cX9_now 4 = .ok (.aload_n 0, 1) := by decide +kernel
theorem dX9_now_5 : decode cX9_now 5 = .ok (.getfield 222, 3) := by decide +kernel
theorem dX9_now_8 : decode cX9_now 8 = .ok (.ifCond .eq 23, 3) := by decide +kernel
theorem dX9_now_31 : decode cX9_now 31 = .ok (.aload_n 0, 1) := by decide +kernel
theorem dX9_now_32 : decode cX9_now 32 = .ok (.iconst 1, 1) := by decide +kernel
theorem dX9_now_33 : decode cX9_now 33 = .ok (.invokevirtual 200, 3) := by decide +kernel
theorem dX9_now_36 : decode cX9_now 36 = .ok (.ireturn, 1) := by decide +kernel
abbrev rm_X9_now : Room := { frames := 1, cells := 0, slots := 0, locals := 21 }
set_option maxRecDepth 100000 in
set_option maxHeartbeats 4000000 in
theorem c_X9_now {l : Launch} {E : (Nat → Prop) → State → Prop} (hO : bw_Ok E) {G : va_G} {cI cB cJ cN cW : ClassId} (b : Nat) (q : Nat → Nat) (x : Int32) : bw_Ci (S := bw_U) l yX9_now (bw_ws (Cond.code yX9_now cX9_now 2 (some .int))) rm_X9_now E G (bw_kt cI cB cJ cN cW) [.ref b, .int x] [(b, .inr (9, [.int 0, .ref (q 0), .int 0, .int 0, .int 0, .int 0, .int 0, .int 0, .int 0, .int 0, .int (-1), .int 0, .ref (q 1), .int 0, .int 0, .ref (q 2), .ref (q 3), .ref (q 4), .ref (q 5), .ref (q 6), .ref (q 7), .ref (q 8), .ref (q 9), .ref (q 10), .ref (q 11), .ref (q 12), .ref (q 13), .ref (q 14), .ref (q 15), .ref (q 16), .int 0, .int 0, .int 0, .int 0, .int 0, .int 0, .ref (q 17), .ref (q 18), .ref (q 19), .ref (q 20)]))] (fun r _ => r = -1) (fun _ => []) := by
  refine bw_Ci.of (cc := cX9_now) (maxL := 2) (ty := .int) (by decide) rfl (Nat.le_of_ble_eq_true rfl) ?_
  intro p e s m below meth c A Q hx hb hml hts hown hin hK hA hS hP hD hE ret ls hl
  have F : CallFix p m c cX9_now 2 s ([.ref b, .int x] : List Value).toArray bw_T RX9 := ⟨hx, hb, hml, hown, fun w h => hts w (List.mem_cons_of_mem _ h)⟩
  have hl : lv_has ls 2 [(0, .ref b), (1, .int x)] := hl
  refine lv_aload_n hx hb dX9_now_0 rfl (lv_at hl 0 rfl) ?_
  refine r_callVv (As := []) (rest := []) (wr := []) F hK hP hD hS hA hO hE (c_X9_good hO b q) k_1296 kv_X9_good 0 rfl (by decide +kernel) ⟨Nat.le_of_ble_eq_true rfl, Nat.le_of_ble_eq_true rfl⟩ [0] [] rfl rfl (by decide) (by decide) (by decide) 0 9 rfl rfl rfl hl.1 rfl (Nat.le_of_ble_eq_true rfl) dX9_now_1 ⟨Nat.le_of_ble_eq_true rfl, Nat.le_of_ble_eq_true rfl⟩ (w1 := fun u1 => [(b, .inr (9, [.int 0, .ref (q 0), .int 0, .int 0, .int 0, .int 0, .int 0, .int 0, .int 0, .int 0, .int (-1), .int 0, .ref (q 1), .int 0, .int 0, .ref (q 2), .ref (q 3), .ref (q 4), .ref (q 5), .ref (q 6), .ref (q 7), .ref (q 8), .ref (q 9), .ref (q 10), .ref (q 11), .ref (q 12), .ref (q 13), .ref (q 14), .ref (q 15), .ref (q 16), .int 0, .int 0, .int 0, .int 0, .int 0, .int 0, .ref (q 17), .ref (q 18), .ref (q 19), .ref (q 20)]))]) (fun _ => rfl) (fun  u1 H locs hp hP hD hS => ?_)
  refine lv_aload_n hx hb dX9_now_4 rfl (lv_at hl 0 rfl) ?_
  refine r_get F hK hP 0 14 rfl rfl in_X9 (by decide) k_1177 rfl dX9_now_5 ?_
  refine lv_if_eq (tgt := 31) hx hb dX9_now_8 (by decide) (fun _ => ?_) (fun h9 => absurd (by decide) h9)
  refine lv_aload_n hx hb dX9_now_31 rfl (lv_at hl 0 rfl) ?_
  refine lv_iconst (v := 1) hx hb dX9_now_32 (by decide) ?_
  refine r_callVi (As := [.int 1]) (rest := []) (wr := []) F hK hP hD hS hA hO hE (c_X9_no hO b q 1) k_1303 kv_X9_no 1 rfl (by decide +kernel) ⟨Nat.le_of_ble_eq_true rfl, Nat.le_of_ble_eq_true rfl⟩ [0] [] rfl rfl (by decide) (by decide) (by decide) 0 9 rfl rfl rfl hl.1 rfl (Nat.le_of_ble_eq_true rfl) dX9_now_33 ⟨Nat.le_of_ble_eq_true rfl, Nat.le_of_ble_eq_true rfl⟩ (w1 := fun u2 => []) (fun _ => rfl) (fun r3 u2 H locs hp hP hD hS => ?_)
  subst hp
  exact ret (-1) (fun _ => 0, fun _ _ => 0) _ _ _ _ _ _ rfl rfl (bw_subP (isC := []) hP rfl) (hD.sub [] (by decide) rfl) hS (Nat.le_of_ble_eq_true rfl) (Nat.le_of_ble_eq_true rfl) dX9_now_36
theorem dX9_counter_0 : decode cX9_counter 0 = .ok (.aload_n 0, 1) := by decide +kernel
theorem dX9_counter_1 : decode cX9_counter 1 = .ok (.invokevirtual 197, 3) := by decide +kernel
theorem dX9_counter_4 : decode cX9_counter 4 = .ok (.aload_n 0, 1) := by decide +kernel
theorem dX9_counter_5 : decode cX9_counter 5 = .ok (.getfield 222, 3) := by decide +kernel
theorem dX9_counter_8 : decode cX9_counter 8 = .ok (.ifCond .eq 21, 3) := by decide +kernel
theorem dX9_counter_29 : decode cX9_counter 29 = .ok (.aload_n 0, 1) := by decide +kernel
theorem dX9_counter_30 : decode cX9_counter 30 = .ok (.iconst 1, 1) := by decide +kernel
theorem dX9_counter_31 : decode cX9_counter 31 = .ok (.invokevirtual 200, 3) := by decide +kernel
theorem dX9_counter_34 : decode cX9_counter 34 = .ok (.ireturn, 1) := by decide +kernel
abbrev rm_X9_counter : Room := { frames := 1, cells := 0, slots := 0, locals := 21 }
set_option maxRecDepth 100000 in
set_option maxHeartbeats 4000000 in
theorem c_X9_counter {l : Launch} {E : (Nat → Prop) → State → Prop} (hO : bw_Ok E) {G : va_G} {cI cB cJ cN cW : ClassId} (b : Nat) (q : Nat → Nat) (x : Int32) : bw_Ci (S := bw_U) l yX9_counter (bw_ws (Cond.code yX9_counter cX9_counter 2 (some .int))) rm_X9_counter E G (bw_kt cI cB cJ cN cW) [.ref b, .int x] [(b, .inr (9, [.int 0, .ref (q 0), .int 0, .int 0, .int 0, .int 0, .int 0, .int 0, .int 0, .int 0, .int (-1), .int 0, .ref (q 1), .int 0, .int 0, .ref (q 2), .ref (q 3), .ref (q 4), .ref (q 5), .ref (q 6), .ref (q 7), .ref (q 8), .ref (q 9), .ref (q 10), .ref (q 11), .ref (q 12), .ref (q 13), .ref (q 14), .ref (q 15), .ref (q 16), .int 0, .int 0, .int 0, .int 0, .int 0, .int 0, .ref (q 17), .ref (q 18), .ref (q 19), .ref (q 20)]))] (fun r _ => r = -1) (fun _ => []) := by
  refine bw_Ci.of (cc := cX9_counter) (maxL := 2) (ty := .int) (by decide) rfl (Nat.le_of_ble_eq_true rfl) ?_
  intro p e s m below meth c A Q hx hb hml hts hown hin hK hA hS hP hD hE ret ls hl
  have F : CallFix p m c cX9_counter 2 s ([.ref b, .int x] : List Value).toArray bw_T RX9 := ⟨hx, hb, hml, hown, fun w h => hts w (List.mem_cons_of_mem _ h)⟩
  have hl : lv_has ls 2 [(0, .ref b), (1, .int x)] := hl
  refine lv_aload_n hx hb dX9_counter_0 rfl (lv_at hl 0 rfl) ?_
  refine r_callVv (As := []) (rest := []) (wr := []) F hK hP hD hS hA hO hE (c_X9_good hO b q) k_1296 kv_X9_good 0 rfl (by decide +kernel) ⟨Nat.le_of_ble_eq_true rfl, Nat.le_of_ble_eq_true rfl⟩ [0] [] rfl rfl (by decide) (by decide) (by decide) 0 9 rfl rfl rfl hl.1 rfl (Nat.le_of_ble_eq_true rfl) dX9_counter_1 ⟨Nat.le_of_ble_eq_true rfl, Nat.le_of_ble_eq_true rfl⟩ (w1 := fun u1 => [(b, .inr (9, [.int 0, .ref (q 0), .int 0, .int 0, .int 0, .int 0, .int 0, .int 0, .int 0, .int 0, .int (-1), .int 0, .ref (q 1), .int 0, .int 0, .ref (q 2), .ref (q 3), .ref (q 4), .ref (q 5), .ref (q 6), .ref (q 7), .ref (q 8), .ref (q 9), .ref (q 10), .ref (q 11), .ref (q 12), .ref (q 13), .ref (q 14), .ref (q 15), .ref (q 16), .int 0, .int 0, .int 0, .int 0, .int 0, .int 0, .ref (q 17), .ref (q 18), .ref (q 19), .ref (q 20)]))]) (fun _ => rfl) (fun  u1 H locs hp hP hD hS => ?_)
  refine lv_aload_n hx hb dX9_counter_4 rfl (lv_at hl 0 rfl) ?_
  refine r_get F hK hP 0 14 rfl rfl in_X9 (by decide) k_1177 rfl dX9_counter_5 ?_
  refine lv_if_eq (tgt := 29) hx hb dX9_counter_8 (by decide) (fun _ => ?_) (fun h9 => absurd (by decide) h9)
  refine lv_aload_n hx hb dX9_counter_29 rfl (lv_at hl 0 rfl) ?_
  refine lv_iconst (v := 1) hx hb dX9_counter_30 (by decide) ?_
  refine r_callVi (As := [.int 1]) (rest := []) (wr := []) F hK hP hD hS hA hO hE (c_X9_no hO b q 1) k_1303 kv_X9_no 1 rfl (by decide +kernel) ⟨Nat.le_of_ble_eq_true rfl, Nat.le_of_ble_eq_true rfl⟩ [0] [] rfl rfl (by decide) (by decide) (by decide) 0 9 rfl rfl rfl hl.1 rfl (Nat.le_of_ble_eq_true rfl) dX9_counter_31 ⟨Nat.le_of_ble_eq_true rfl, Nat.le_of_ble_eq_true rfl⟩ (w1 := fun u2 => []) (fun _ => rfl) (fun r3 u2 H locs hp hP hD hS => ?_)
  subst hp
  exact ret (-1) (fun _ => 0, fun _ _ => 0) _ _ _ _ _ _ rfl rfl (bw_subP (isC := []) hP rfl) (hD.sub [] (by decide) rfl) hS (Nat.le_of_ble_eq_true rfl) (Nat.le_of_ble_eq_true rfl) dX9_counter_34
theorem dX9_left_0 : decode cX9_left 0 = .ok (.aload_n 0, 1) := by decide +kernel
theorem dX9_left_1 : decode cX9_left 1 = .ok (.invokevirtual 197, 3) := by decide +kernel
theorem dX9_left_4 : decode cX9_left 4 = .ok (.aload_n 0, 1) := by decide +kernel
theorem dX9_left_5 : decode cX9_left 5 = .ok (.iload_n 1, 1) := by decide +kernel
theorem dX9_left_6 : decode cX9_left 6 = .ok (.invokevirtual 301, 3) := by decide +kernel
theorem dX9_left_9 : decode cX9_left 9 = .ok (.ifCond .eq 24, 3) := by decide +kernel
theorem dX9_left_33 : decode cX9_left 33 = .ok (.aload_n 0, 1) := by decide +kernel
theorem dX9_left_34 : decode cX9_left 34 = .ok (.iconst 1, 1) := by decide +kernel
theorem dX9_left_35 : decode cX9_left 35 = .ok (.invokevirtual 200, 3) := by decide +kernel
theorem dX9_left_38 : decode cX9_left 38 = .ok (.ireturn, 1) := by decide +kernel
abbrev rm_X9_left : Room := { frames := 1, cells := 0, slots := 0, locals := 21 }
set_option maxRecDepth 100000 in
set_option maxHeartbeats 4000000 in
theorem c_X9_left {l : Launch} {E : (Nat → Prop) → State → Prop} (hO : bw_Ok E) {G : va_G} {cI cB cJ cN cW : ClassId} (b : Nat) (q : Nat → Nat) (x : Int32) : bw_Ci (S := bw_U) l yX9_left (bw_ws (Cond.code yX9_left cX9_left 2 (some .int))) rm_X9_left E G (bw_kt cI cB cJ cN cW) [.ref b, .int x] [(b, .inr (9, [.int 0, .ref (q 0), .int 0, .int 0, .int 0, .int 0, .int 0, .int 0, .int 0, .int 0, .int (-1), .int 0, .ref (q 1), .int 0, .int 0, .ref (q 2), .ref (q 3), .ref (q 4), .ref (q 5), .ref (q 6), .ref (q 7), .ref (q 8), .ref (q 9), .ref (q 10), .ref (q 11), .ref (q 12), .ref (q 13), .ref (q 14), .ref (q 15), .ref (q 16), .int 0, .int 0, .int 0, .int 0, .int 0, .int 0, .ref (q 17), .ref (q 18), .ref (q 19), .ref (q 20)]))] (fun r _ => r = -1) (fun _ => []) := by
  refine bw_Ci.of (cc := cX9_left) (maxL := 2) (ty := .int) (by decide) rfl (Nat.le_of_ble_eq_true rfl) ?_
  intro p e s m below meth c A Q hx hb hml hts hown hin hK hA hS hP hD hE ret ls hl
  have F : CallFix p m c cX9_left 2 s ([.ref b, .int x] : List Value).toArray bw_T RX9 := ⟨hx, hb, hml, hown, fun w h => hts w (List.mem_cons_of_mem _ h)⟩
  have hl : lv_has ls 2 [(0, .ref b), (1, .int x)] := hl
  refine lv_aload_n hx hb dX9_left_0 rfl (lv_at hl 0 rfl) ?_
  refine r_callVv (As := []) (rest := []) (wr := []) F hK hP hD hS hA hO hE (c_X9_good hO b q) k_1296 kv_X9_good 0 rfl (by decide +kernel) ⟨Nat.le_of_ble_eq_true rfl, Nat.le_of_ble_eq_true rfl⟩ [0] [] rfl rfl (by decide) (by decide) (by decide) 0 9 rfl rfl rfl hl.1 rfl (Nat.le_of_ble_eq_true rfl) dX9_left_1 ⟨Nat.le_of_ble_eq_true rfl, Nat.le_of_ble_eq_true rfl⟩ (w1 := fun u1 => [(b, .inr (9, [.int 0, .ref (q 0), .int 0, .int 0, .int 0, .int 0, .int 0, .int 0, .int 0, .int 0, .int (-1), .int 0, .ref (q 1), .int 0, .int 0, .ref (q 2), .ref (q 3), .ref (q 4), .ref (q 5), .ref (q 6), .ref (q 7), .ref (q 8), .ref (q 9), .ref (q 10), .ref (q 11), .ref (q 12), .ref (q 13), .ref (q 14), .ref (q 15), .ref (q 16), .int 0, .int 0, .int 0, .int 0, .int 0, .int 0, .ref (q 17), .ref (q 18), .ref (q 19), .ref (q 20)]))]) (fun _ => rfl) (fun  u1 H locs hp hP hD hS => ?_)
  refine lv_aload_n hx hb dX9_left_4 rfl (lv_at hl 0 rfl) ?_
  refine lv_iload_n hx hb dX9_left_5 rfl (lv_at hl 1 rfl) ?_
  refine r_callVi (As := [.int x]) (rest := []) (wr := []) F hK hP hD hS hA hO hE (c_X9_isWay hO b q x) k_1485 kv_X9_isWay 1 rfl (by decide +kernel) ⟨Nat.le_of_ble_eq_true rfl, Nat.le_of_ble_eq_true rfl⟩ [0] [] rfl rfl (by decide) (by decide) (by decide) 0 9 rfl rfl rfl hl.1 rfl (Nat.le_of_ble_eq_true rfl) dX9_left_6 ⟨Nat.le_of_ble_eq_true rfl, Nat.le_of_ble_eq_true rfl⟩ (w1 := fun u2 => [(b, .inr (9, [.int 0, .ref (q 0), .int 0, .int 0, .int 0, .int 0, .int 0, .int 0, .int 0, .int 0, .int (-1), .int 0, .ref (q 1), .int 0, .int 0, .ref (q 2), .ref (q 3), .ref (q 4), .ref (q 5), .ref (q 6), .ref (q 7), .ref (q 8), .ref (q 9), .ref (q 10), .ref (q 11), .ref (q 12), .ref (q 13), .ref (q 14), .ref (q 15), .ref (q 16), .int 0, .int 0, .int 0, .int 0, .int 0, .int 0, .ref (q 17), .ref (q 18), .ref (q 19), .ref (q 20)]))]) (fun _ => rfl) (fun r3 u2 H locs hp hP hD hS => ?_)
  subst hp
  refine lv_if_eq (tgt := 33) hx hb dX9_left_9 (by decide) (fun _ => ?_) (fun h9 => absurd (by decide) h9)
  refine lv_aload_n hx hb dX9_left_33 rfl (lv_at hl 0 rfl) ?_
  refine lv_iconst (v := 1) hx hb dX9_left_34 (by decide) ?_
  refine r_callVi (As := [.int 1]) (rest := []) (wr := []) F hK hP hD hS hA hO hE (c_X9_no hO b q 1) k_1303 kv_X9_no 1 rfl (by decide +kernel) ⟨Nat.le_of_ble_eq_true rfl, Nat.le_of_ble_eq_true rfl⟩ [0] [] rfl rfl (by decide) (by decide) (by decide) 0 9 rfl rfl rfl hl.1 rfl (Nat.le_of_ble_eq_true rfl) dX9_left_35 ⟨Nat.le_of_ble_eq_true rfl, Nat.le_of_ble_eq_true rfl⟩ (w1 := fun u4 => []) (fun _ => rfl) (fun r5 u4 H locs hp hP hD hS => ?_)
  subst hp
  exact ret (-1) (fun _ => 0, fun _ _ => 0) _ _ _ _ _ _ rfl rfl (bw_subP (isC := []) hP rfl) (hD.sub [] (by decide) rfl) hS (Nat.le_of_ble_eq_true rfl) (Nat.le_of_ble_eq_true rfl) dX9_left_38
theorem dX9_path_0 : decode cX9_path 0 = .ok (.aload_n 0, 1) := by decide +kernel
theorem dX9_path_1 : decode cX9_path 1 = .ok (.invokevirtual 197, 3) := by decide +kernel
theorem dX9_path_4 : decode cX9_path 4 = .ok (.aload_n 0, 1) := by decide +kernel
theorem dX9_path_5 : decode cX9_path 5 = .ok (.getfield 222, 3) := by decide +kernel
theorem dX9_path_8 : decode cX9_path 8 = .ok (.ifCond .eq 34, 3) := by decide +kernel
theorem dX9_path_42 : decode cX9_path 42 = .ok (.aload_n 0, 1) := by decide +kernel
theorem dX9_path_43 : decode cX9_path 43 = .ok (.iconst 1, 1) := by decide +kernel
theorem dX9_path_44 : decode cX9_path 44 = .ok (.invokevirtual 200, 3) := by decide +kernel
theorem dX9_path_47 : decode cX9_path 47 = .ok (.ireturn, 1) := by decide +kernel
abbrev rm_X9_path : Room := { frames := 1, cells := 0, slots := 0, locals := 21 }
set_option maxRecDepth 100000 in
set_option maxHeartbeats 4000000 in
theorem c_X9_path {l : Launch} {E : (Nat → Prop) → State → Prop} (hO : bw_Ok E) {G : va_G} {cI cB cJ cN cW : ClassId} (b : Nat) (q : Nat → Nat) (x : Int32) : bw_Ci (S := bw_U) l yX9_path (bw_ws (Cond.code yX9_path cX9_path 2 (some .int))) rm_X9_path E G (bw_kt cI cB cJ cN cW) [.ref b, .int x] [(b, .inr (9, [.int 0, .ref (q 0), .int 0, .int 0, .int 0, .int 0, .int 0, .int 0, .int 0, .int 0, .int (-1), .int 0, .ref (q 1), .int 0, .int 0, .ref (q 2), .ref (q 3), .ref (q 4), .ref (q 5), .ref (q 6), .ref (q 7), .ref (q 8), .ref (q 9), .ref (q 10), .ref (q 11), .ref (q 12), .ref (q 13), .ref (q 14), .ref (q 15), .ref (q 16), .int 0, .int 0, .int 0, .int 0, .int 0, .int 0, .ref (q 17), .ref (q 18), .ref (q 19), .ref (q 20)]))] (fun r _ => r = -1) (fun _ => []) := by
  refine bw_Ci.of (cc := cX9_path) (maxL := 2) (ty := .int) (by decide) rfl (Nat.le_of_ble_eq_true rfl) ?_
  intro p e s m below meth c A Q hx hb hml hts hown hin hK hA hS hP hD hE ret ls hl
  have F : CallFix p m c cX9_path 2 s ([.ref b, .int x] : List Value).toArray bw_T RX9 := ⟨hx, hb, hml, hown, fun w h => hts w (List.mem_cons_of_mem _ h)⟩
  have hl : lv_has ls 2 [(0, .ref b), (1, .int x)] := hl
  refine lv_aload_n hx hb dX9_path_0 rfl (lv_at hl 0 rfl) ?_
  refine r_callVv (As := []) (rest := []) (wr := []) F hK hP hD hS hA hO hE (c_X9_good hO b q) k_1296 kv_X9_good 0 rfl (by decide +kernel) ⟨Nat.le_of_ble_eq_true rfl, Nat.le_of_ble_eq_true rfl⟩ [0] [] rfl rfl (by decide) (by decide) (by decide) 0 9 rfl rfl rfl hl.1 rfl (Nat.le_of_ble_eq_true rfl) dX9_path_1 ⟨Nat.le_of_ble_eq_true rfl, Nat.le_of_ble_eq_true rfl⟩ (w1 := fun u1 => [(b, .inr (9, [.int 0, .ref (q 0), .int 0, .int 0, .int 0, .int 0, .int 0, .int 0, .int 0, .int 0, .int (-1), .int 0, .ref (q 1), .int 0, .int 0, .ref (q 2), .ref (q 3), .ref (q 4), .ref (q 5), .ref (q 6), .ref (q 7), .ref (q 8), .ref (q 9), .ref (q 10), .ref (q 11), .ref (q 12), .ref (q 13), .ref (q 14), .ref (q 15), .ref (q 16), .int 0, .int 0, .int 0, .int 0, .int 0, .int 0, .ref (q 17), .ref (q 18), .ref (q 19), .ref (q 20)]))]) (fun _ => rfl) (fun  u1 H locs hp hP hD hS => ?_)
  refine lv_aload_n hx hb dX9_path_4 rfl (lv_at hl 0 rfl) ?_
  refine r_get F hK hP 0 14 rfl rfl in_X9 (by decide) k_1177 rfl dX9_path_5 ?_
  refine lv_if_eq (tgt := 42) hx hb dX9_path_8 (by decide) (fun _ => ?_) (fun h9 => absurd (by decide) h9)
  refine lv_aload_n hx hb dX9_path_42 rfl (lv_at hl 0 rfl) ?_
  refine lv_iconst (v := 1) hx hb dX9_path_43 (by decide) ?_
  refine r_callVi (As := [.int 1]) (rest := []) (wr := []) F hK hP hD hS hA hO hE (c_X9_no hO b q 1) k_1303 kv_X9_no 1 rfl (by decide +kernel) ⟨Nat.le_of_ble_eq_true rfl, Nat.le_of_ble_eq_true rfl⟩ [0] [] rfl rfl (by decide) (by decide) (by decide) 0 9 rfl rfl rfl hl.1 rfl (Nat.le_of_ble_eq_true rfl) dX9_path_44 ⟨Nat.le_of_ble_eq_true rfl, Nat.le_of_ble_eq_true rfl⟩ (w1 := fun u2 => []) (fun _ => rfl) (fun r3 u2 H locs hp hP hD hS => ?_)
  subst hp
  exact ret (-1) (fun _ => 0, fun _ _ => 0) _ _ _ _ _ _ rfl rfl (bw_subP (isC := []) hP rfl) (hD.sub [] (by decide) rfl) hS (Nat.le_of_ble_eq_true rfl) (Nat.le_of_ble_eq_true rfl) dX9_path_47
theorem dX9_must_0 : decode cX9_must 0 = .ok (.aload_n 0, 1) := by decide +kernel
theorem dX9_must_1 : decode cX9_must 1 = .ok (.invokevirtual 197, 3) := by decide +kernel
theorem dX9_must_4 : decode cX9_must 4 = .ok (.aload_n 0, 1) := by decide +kernel
theorem dX9_must_5 : decode cX9_must 5 = .ok (.iload_n 1, 1) := by decide +kernel
theorem dX9_must_6 : decode cX9_must 6 = .ok (.invokevirtual 314, 3) := by decide +kernel
theorem k_1530 : Cond.methodLink RX9 314 yX9_inputWhy ∈ bw_T := bw_m 1530 (by decide +kernel) rfl
theorem kv_X9_inputWhy : bw_KV RX9 yX9_inputWhy (Cond.code yX9_inputWhy cX9_inputWhy 2 (some .int)) := ⟨bw_m 1532 (by decide +kernel) rfl, bw_m 72 (by decide +kernel) rfl, bw_m 107 (by decide +kernel) rfl, bw_m 1533 (by decide +kernel) rfl⟩
theorem dX9_must_9 : decode cX9_must 9 = .ok (.istore_n 2, 1) := by decide +kernel
theorem dX9_must_10 : decode cX9_must 10 = .ok (.iload_n 2, 1) := by decide +kernel
theorem dX9_must_11 : decode cX9_must 11 = .ok (.ifCond .eq 9, 3) := by decide +kernel
theorem dX9_must_14 : decode cX9_must 14 = .ok (.aload_n 0, 1) := by decide +kernel
theorem dX9_must_15 : decode cX9_must 15 = .ok (.iload_n 2, 1) := by decide +kernel
theorem dX9_must_16 : decode cX9_must 16 = .ok (.invokevirtual 200, 3) := by decide +kernel
theorem dX9_must_19 : decode cX9_must 19 = .ok (.ireturn, 1) := by decide +kernel
abbrev rm_X9_must : Room := { frames := 1, cells := 0, slots := 0, locals := 21 }
set_option maxRecDepth 100000 in
set_option maxHeartbeats 4000000 in
theorem c_X9_must {l : Launch} {E : (Nat → Prop) → State → Prop} (hO : bw_Ok E) {G : va_G} {cI cB cJ cN cW : ClassId} (b : Nat) (q : Nat → Nat) (x : Int32) : bw_Ci (S := bw_U) l yX9_must (bw_ws (Cond.code yX9_must cX9_must 5 (some .int))) rm_X9_must E G (bw_kt cI cB cJ cN cW) [.ref b, .int x] [(b, .inr (9, [.int 0, .ref (q 0), .int 0, .int 0, .int 0, .int 0, .int 0, .int 0, .int 0, .int 0, .int (-1), .int 0, .ref (q 1), .int 0, .int 0, .ref (q 2), .ref (q 3), .ref (q 4), .ref (q 5), .ref (q 6), .ref (q 7), .ref (q 8), .ref (q 9), .ref (q 10), .ref (q 11), .ref (q 12), .ref (q 13), .ref (q 14), .ref (q 15), .ref (q 16), .int 0, .int 0, .int 0, .int 0, .int 0, .int 0, .ref (q 17), .ref (q 18), .ref (q 19), .ref (q 20)]))] (fun r _ => r = -1) (fun _ => []) := by
  refine bw_Ci.of (cc := cX9_must) (maxL := 5) (ty := .int) (by decide) rfl (Nat.le_of_ble_eq_true rfl) ?_
  intro p e s m below meth c A Q hx hb hml hts hown hin hK hA hS hP hD hE ret ls hl
  have F : CallFix p m c cX9_must 5 s ([.ref b, .int x] : List Value).toArray bw_T RX9 := ⟨hx, hb, hml, hown, fun w h => hts w (List.mem_cons_of_mem _ h)⟩
  have hl : lv_has ls 5 [(0, .ref b), (1, .int x)] := hl
  refine lv_aload_n hx hb dX9_must_0 rfl (lv_at hl 0 rfl) ?_
  refine r_callVv (As := []) (rest := []) (wr := []) F hK hP hD hS hA hO hE (c_X9_good hO b q) k_1296 kv_X9_good 0 rfl (by decide +kernel) ⟨Nat.le_of_ble_eq_true rfl, Nat.le_of_ble_eq_true rfl⟩ [0] [] rfl rfl (by decide) (by decide) (by decide) 0 9 rfl rfl rfl hl.1 rfl (Nat.le_of_ble_eq_true rfl) dX9_must_1 ⟨Nat.le_of_ble_eq_true rfl, Nat.le_of_ble_eq_true rfl⟩ (w1 := fun u1 => [(b, .inr (9, [.int 0, .ref (q 0), .int 0, .int 0, .int 0, .int 0, .int 0, .int 0, .int 0, .int 0, .int (-1), .int 0, .ref (q 1), .int 0, .int 0, .ref (q 2), .ref (q 3), .ref (q 4), .ref (q 5), .ref (q 6), .ref (q 7), .ref (q 8), .ref (q 9), .ref (q 10), .ref (q 11), .ref (q 12), .ref (q 13), .ref (q 14), .ref (q 15), .ref (q 16), .int 0, .int 0, .int 0, .int 0, .int 0, .int 0, .ref (q 17), .ref (q 18), .ref (q 19), .ref (q 20)]))]) (fun _ => rfl) (fun  u1 H locs hp hP hD hS => ?_)
  refine lv_aload_n hx hb dX9_must_4 rfl (lv_at hl 0 rfl) ?_
  refine lv_iload_n hx hb dX9_must_5 rfl (lv_at hl 1 rfl) ?_
  refine r_callVi (As := [.int x]) (rest := []) (wr := []) F hK hP hD hS hA hO hE (c_X9_inputWhy hO b q x) k_1530 kv_X9_inputWhy 1 rfl (by decide +kernel) ⟨Nat.le_of_ble_eq_true rfl, Nat.le_of_ble_eq_true rfl⟩ [0] [] rfl rfl (by decide) (by decide) (by decide) 0 9 rfl rfl rfl hl.1 rfl (Nat.le_of_ble_eq_true rfl) dX9_must_6 ⟨Nat.le_of_ble_eq_true rfl, Nat.le_of_ble_eq_true rfl⟩ (w1 := fun u2 => [(b, .inr (9, [.int 0, .ref (q 0), .int 0, .int 0, .int 0, .int 0, .int 0, .int 0, .int 0, .int 0, .int (-1), .int 0, .ref (q 1), .int 0, .int 0, .ref (q 2), .ref (q 3), .ref (q 4), .ref (q 5), .ref (q 6), .ref (q 7), .ref (q 8), .ref (q 9), .ref (q 10), .ref (q 11), .ref (q 12), .ref (q 13), .ref (q 14), .ref (q 15), .ref (q 16), .int 0, .int 0, .int 0, .int 0, .int 0, .int 0, .ref (q 17), .ref (q 18), .ref (q 19), .ref (q 20)]))]) (fun _ => rfl) (fun r3 u2 H locs hp hP hD hS => ?_)
  subst hp
  refine lv_istore_n (lv' := [(2, .int 1), (0, .ref b), (1, .int x)]) hx hb dX9_must_9 rfl hl (by decide) rfl (fun ls hl => ?_)
  refine lv_iload_n hx hb dX9_must_10 rfl (lv_at hl 0 rfl) ?_
  refine lv_if_eq (tgt := 20) hx hb dX9_must_11 (by decide) (fun h9 => absurd h9 (by decide)) (fun _ => ?_)
  refine lv_aload_n hx hb dX9_must_14 rfl (lv_at hl 1 rfl) ?_
  refine lv_iload_n hx hb dX9_must_15 rfl (lv_at hl 0 rfl) ?_
  refine r_callVi (As := [.int 1]) (rest := []) (wr := []) F hK hP hD hS hA hO hE (c_X9_no hO b q 1) k_1303 kv_X9_no 1 rfl (by decide +kernel) ⟨Nat.le_of_ble_eq_true rfl, Nat.le_of_ble_eq_true rfl⟩ [0] [] rfl rfl (by decide) (by decide) (by decide) 0 9 rfl rfl rfl hl.1 rfl (Nat.le_of_ble_eq_true rfl) dX9_must_16 ⟨Nat.le_of_ble_eq_true rfl, Nat.le_of_ble_eq_true rfl⟩ (w1 := fun u4 => []) (fun _ => rfl) (fun r5 u4 H locs hp hP hD hS => ?_)
  subst hp
  exact ret (-1) (fun _ => 0, fun _ _ => 0) _ _ _ _ _ _ rfl rfl (bw_subP (isC := []) hP rfl) (hD.sub [] (by decide) rfl) hS (Nat.le_of_ble_eq_true rfl) (Nat.le_of_ble_eq_true rfl) dX9_must_19
theorem dX9_unburnt_0 : decode cX9_unburnt 0 = .ok (.aload_n 0, 1) := by decide +kernel
theorem dX9_unburnt_1 : decode cX9_unburnt 1 = .ok (.invokevirtual 197, 3) := by decide +kernel
theorem dX9_unburnt_4 : decode cX9_unburnt 4 = .ok (.aload_n 0, 1) := by decide +kernel
theorem dX9_unburnt_5 : decode cX9_unburnt 5 = .ok (.iload_n 1, 1) := by decide +kernel
theorem dX9_unburnt_6 : decode cX9_unburnt 6 = .ok (.invokevirtual 314, 3) := by decide +kernel
theorem dX9_unburnt_9 : decode cX9_unburnt 9 = .ok (.istore_n 2, 1) := by decide +kernel
theorem dX9_unburnt_10 : decode cX9_unburnt 10 = .ok (.iload_n 2, 1) := by decide +kernel
theorem dX9_unburnt_11 : decode cX9_unburnt 11 = .ok (.ifCond .eq 9, 3) := by decide +kernel
theorem dX9_unburnt_14 : decode cX9_unburnt 14 = .ok (.aload_n 0, 1) := by decide +kernel
theorem dX9_unburnt_15 : decode cX9_unburnt 15 = .ok (.iload_n 2, 1) := by decide +kernel
theorem dX9_unburnt_16 : decode cX9_unburnt 16 = .ok (.invokevirtual 200, 3) := by decide +kernel
theorem dX9_unburnt_19 : decode cX9_unburnt 19 = .ok (.ireturn, 1) := by decide +kernel
abbrev rm_X9_unburnt : Room := { frames := 1, cells := 0, slots := 0, locals := 21 }
set_option maxRecDepth 100000 in
set_option maxHeartbeats 4000000 in
theorem c_X9_unburnt {l : Launch} {E : (Nat → Prop) → State → Prop} (hO : bw_Ok E) {G : va_G} {cI cB cJ cN cW : ClassId} (b : Nat) (q : Nat → Nat) (x : Int32) : bw_Ci (S := bw_U) l yX9_unburnt (bw_ws (Cond.code yX9_unburnt cX9_unburnt 5 (some .int))) rm_X9_unburnt E G (bw_kt cI cB cJ cN cW) [.ref b, .int x] [(b, .inr (9, [.int 0, .ref (q 0), .int 0, .int 0, .int 0, .int 0, .int 0, .int 0, .int 0, .int 0, .int (-1), .int 0, .ref (q 1), .int 0, .int 0, .ref (q 2), .ref (q 3), .ref (q 4), .ref (q 5), .ref (q 6), .ref (q 7), .ref (q 8), .ref (q 9), .ref (q 10), .ref (q 11), .ref (q 12), .ref (q 13), .ref (q 14), .ref (q 15), .ref (q 16), .int 0, .int 0, .int 0, .int 0, .int 0, .int 0, .ref (q 17), .ref (q 18), .ref (q 19), .ref (q 20)]))] (fun r _ => r = -1) (fun _ => []) := by
  refine bw_Ci.of (cc := cX9_unburnt) (maxL := 5) (ty := .int) (by decide) rfl (Nat.le_of_ble_eq_true rfl) ?_
  intro p e s m below meth c A Q hx hb hml hts hown hin hK hA hS hP hD hE ret ls hl
  have F : CallFix p m c cX9_unburnt 5 s ([.ref b, .int x] : List Value).toArray bw_T RX9 := ⟨hx, hb, hml, hown, fun w h => hts w (List.mem_cons_of_mem _ h)⟩
  have hl : lv_has ls 5 [(0, .ref b), (1, .int x)] := hl
  refine lv_aload_n hx hb dX9_unburnt_0 rfl (lv_at hl 0 rfl) ?_
  refine r_callVv (As := []) (rest := []) (wr := []) F hK hP hD hS hA hO hE (c_X9_good hO b q) k_1296 kv_X9_good 0 rfl (by decide +kernel) ⟨Nat.le_of_ble_eq_true rfl, Nat.le_of_ble_eq_true rfl⟩ [0] [] rfl rfl (by decide) (by decide) (by decide) 0 9 rfl rfl rfl hl.1 rfl (Nat.le_of_ble_eq_true rfl) dX9_unburnt_1 ⟨Nat.le_of_ble_eq_true rfl, Nat.le_of_ble_eq_true rfl⟩ (w1 := fun u1 => [(b, .inr (9, [.int 0, .ref (q 0), .int 0, .int 0, .int 0, .int 0, .int 0, .int 0, .int 0, .int 0, .int (-1), .int 0, .ref (q 1), .int 0, .int 0, .ref (q 2), .ref (q 3), .ref (q 4), .ref (q 5), .ref (q 6), .ref (q 7), .ref (q 8), .ref (q 9), .ref (q 10), .ref (q 11), .ref (q 12), .ref (q 13), .ref (q 14), .ref (q 15), .ref (q 16), .int 0, .int 0, .int 0, .int 0, .int 0, .int 0, .ref (q 17), .ref (q 18), .ref (q 19), .ref (q 20)]))]) (fun _ => rfl) (fun  u1 H locs hp hP hD hS => ?_)
  refine lv_aload_n hx hb dX9_unburnt_4 rfl (lv_at hl 0 rfl) ?_
  refine lv_iload_n hx hb dX9_unburnt_5 rfl (lv_at hl 1 rfl) ?_
  refine r_callVi (As := [.int x]) (rest := []) (wr := []) F hK hP hD hS hA hO hE (c_X9_inputWhy hO b q x) k_1530 kv_X9_inputWhy 1 rfl (by decide +kernel) ⟨Nat.le_of_ble_eq_true rfl, Nat.le_of_ble_eq_true rfl⟩ [0] [] rfl rfl (by decide) (by decide) (by decide) 0 9 rfl rfl rfl hl.1 rfl (Nat.le_of_ble_eq_true rfl) dX9_unburnt_6 ⟨Nat.le_of_ble_eq_true rfl, Nat.le_of_ble_eq_true rfl⟩ (w1 := fun u2 => [(b, .inr (9, [.int 0, .ref (q 0), .int 0, .int 0, .int 0, .int 0, .int 0, .int 0, .int 0, .int 0, .int (-1), .int 0, .ref (q 1), .int 0, .int 0, .ref (q 2), .ref (q 3), .ref (q 4), .ref (q 5), .ref (q 6), .ref (q 7), .ref (q 8), .ref (q 9), .ref (q 10), .ref (q 11), .ref (q 12), .ref (q 13), .ref (q 14), .ref (q 15), .ref (q 16), .int 0, .int 0, .int 0, .int 0, .int 0, .int 0, .ref (q 17), .ref (q 18), .ref (q 19), .ref (q 20)]))]) (fun _ => rfl) (fun r3 u2 H locs hp hP hD hS => ?_)
  subst hp
  refine lv_istore_n (lv' := [(2, .int 1), (0, .ref b), (1, .int x)]) hx hb dX9_unburnt_9 rfl hl (by decide) rfl (fun ls hl => ?_)
  refine lv_iload_n hx hb dX9_unburnt_10 rfl (lv_at hl 0 rfl) ?_
  refine lv_if_eq (tgt := 20) hx hb dX9_unburnt_11 (by decide) (fun h9 => absurd h9 (by decide)) (fun _ => ?_)
  refine lv_aload_n hx hb dX9_unburnt_14 rfl (lv_at hl 1 rfl) ?_
  refine lv_iload_n hx hb dX9_unburnt_15 rfl (lv_at hl 0 rfl) ?_
  refine r_callVi (As := [.int 1]) (rest := []) (wr := []) F hK hP hD hS hA hO hE (c_X9_no hO b q 1) k_1303 kv_X9_no 1 rfl (by decide +kernel) ⟨Nat.le_of_ble_eq_true rfl, Nat.le_of_ble_eq_true rfl⟩ [0] [] rfl rfl (by decide) (by decide) (by decide) 0 9 rfl rfl rfl hl.1 rfl (Nat.le_of_ble_eq_true rfl) dX9_unburnt_16 ⟨Nat.le_of_ble_eq_true rfl, Nat.le_of_ble_eq_true rfl⟩ (w1 := fun u4 => []) (fun _ => rfl) (fun r5 u4 H locs hp hP hD hS => ?_)
  subst hp
  exact ret (-1) (fun _ => 0, fun _ _ => 0) _ _ _ _ _ _ rfl rfl (bw_subP (isC := []) hP rfl) (hD.sub [] (by decide) rfl) hS (Nat.le_of_ble_eq_true rfl) (Nat.le_of_ble_eq_true rfl) dX9_unburnt_19
theorem dX9_whole_0 : decode cX9_whole 0 = .ok (.aload_n 0, 1) := by decide +kernel
theorem dX9_whole_1 : decode cX9_whole 1 = .ok (.invokevirtual 197, 3) := by decide +kernel
theorem dX9_whole_4 : decode cX9_whole 4 = .ok (.aload_n 0, 1) := by decide +kernel
theorem dX9_whole_5 : decode cX9_whole 5 = .ok (.iload_n 1, 1) := by decide +kernel
theorem dX9_whole_6 : decode cX9_whole 6 = .ok (.invokevirtual 314, 3) := by decide +kernel
theorem dX9_whole_9 : decode cX9_whole 9 = .ok (.istore_n 2, 1) := by decide +kernel
theorem dX9_whole_10 : decode cX9_whole 10 = .ok (.iload_n 2, 1) := by decide +kernel
theorem dX9_whole_11 : decode cX9_whole 11 = .ok (.ifCond .eq 9, 3) := by decide +kernel
theorem dX9_whole_14 : decode cX9_whole 14 = .ok (.aload_n 0, 1) := by decide +kernel
theorem dX9_whole_15 : decode cX9_whole 15 = .ok (.iload_n 2, 1) := by decide +kernel
theorem dX9_whole_16 : decode cX9_whole 16 = .ok (.invokevirtual 200, 3) := by decide +kernel
theorem dX9_whole_19 : decode cX9_whole 19 = .ok (.ireturn, 1) := by decide +kernel
abbrev rm_X9_whole : Room := { frames := 1, cells := 0, slots := 0, locals := 21 }
set_option maxRecDepth 100000 in
set_option maxHeartbeats 4000000 in
theorem c_X9_whole {l : Launch} {E : (Nat → Prop) → State → Prop} (hO : bw_Ok E) {G : va_G} {cI cB cJ cN cW : ClassId} (b : Nat) (q : Nat → Nat) (x : Int32) : bw_Ci (S := bw_U) l yX9_whole (bw_ws (Cond.code yX9_whole cX9_whole 4 (some .int))) rm_X9_whole E G (bw_kt cI cB cJ cN cW) [.ref b, .int x] [(b, .inr (9, [.int 0, .ref (q 0), .int 0, .int 0, .int 0, .int 0, .int 0, .int 0, .int 0, .int 0, .int (-1), .int 0, .ref (q 1), .int 0, .int 0, .ref (q 2), .ref (q 3), .ref (q 4), .ref (q 5), .ref (q 6), .ref (q 7), .ref (q 8), .ref (q 9), .ref (q 10), .ref (q 11), .ref (q 12), .ref (q 13), .ref (q 14), .ref (q 15), .ref (q 16), .int 0, .int 0, .int 0, .int 0, .int 0, .int 0, .ref (q 17), .ref (q 18), .ref (q 19), .ref (q 20)]))] (fun r _ => r = -1) (fun _ => []) := by
  refine bw_Ci.of (cc := cX9_whole) (maxL := 4) (ty := .int) (by decide) rfl (Nat.le_of_ble_eq_true rfl) ?_
  intro p e s m below meth c A Q hx hb hml hts hown hin hK hA hS hP hD hE ret ls hl
  have F : CallFix p m c cX9_whole 4 s ([.ref b, .int x] : List Value).toArray bw_T RX9 := ⟨hx, hb, hml, hown, fun w h => hts w (List.mem_cons_of_mem _ h)⟩
  have hl : lv_has ls 4 [(0, .ref b), (1, .int x)] := hl
  refine lv_aload_n hx hb dX9_whole_0 rfl (lv_at hl 0 rfl) ?_
  refine r_callVv (As := []) (rest := []) (wr := []) F hK hP hD hS hA hO hE (c_X9_good hO b q) k_1296 kv_X9_good 0 rfl (by decide +kernel) ⟨Nat.le_of_ble_eq_true rfl, Nat.le_of_ble_eq_true rfl⟩ [0] [] rfl rfl (by decide) (by decide) (by decide) 0 9 rfl rfl rfl hl.1 rfl (Nat.le_of_ble_eq_true rfl) dX9_whole_1 ⟨Nat.le_of_ble_eq_true rfl, Nat.le_of_ble_eq_true rfl⟩ (w1 := fun u1 => [(b, .inr (9, [.int 0, .ref (q 0), .int 0, .int 0, .int 0, .int 0, .int 0, .int 0, .int 0, .int 0, .int (-1), .int 0, .ref (q 1), .int 0, .int 0, .ref (q 2), .ref (q 3), .ref (q 4), .ref (q 5), .ref (q 6), .ref (q 7), .ref (q 8), .ref (q 9), .ref (q 10), .ref (q 11), .ref (q 12), .ref (q 13), .ref (q 14), .ref (q 15), .ref (q 16), .int 0, .int 0, .int 0, .int 0, .int 0, .int 0, .ref (q 17), .ref (q 18), .ref (q 19), .ref (q 20)]))]) (fun _ => rfl) (fun  u1 H locs hp hP hD hS => ?_)
  refine lv_aload_n hx hb dX9_whole_4 rfl (lv_at hl 0 rfl) ?_
  refine lv_iload_n hx hb dX9_whole_5 rfl (lv_at hl 1 rfl) ?_
  refine r_callVi (As := [.int x]) (rest := []) (wr := []) F hK hP hD hS hA hO hE (c_X9_inputWhy hO b q x) k_1530 kv_X9_inputWhy 1 rfl (by decide +kernel) ⟨Nat.le_of_ble_eq_true rfl, Nat.le_of_ble_eq_true rfl⟩ [0] [] rfl rfl (by decide) (by decide) (by decide) 0 9 rfl rfl rfl hl.1 rfl (Nat.le_of_ble_eq_true rfl) dX9_whole_6 ⟨Nat.le_of_ble_eq_true rfl, Nat.le_of_ble_eq_true rfl⟩ (w1 := fun u2 => [(b, .inr (9, [.int 0, .ref (q 0), .int 0, .int 0, .int 0, .int 0, .int 0, .int 0, .int 0, .int 0, .int (-1), .int 0, .ref (q 1), .int 0, .int 0, .ref (q 2), .ref (q 3), .ref (q 4), .ref (q 5), .ref (q 6), .ref (q 7), .ref (q 8), .ref (q 9), .ref (q 10), .ref (q 11), .ref (q 12), .ref (q 13), .ref (q 14), .ref (q 15), .ref (q 16), .int 0, .int 0, .int 0, .int 0, .int 0, .int 0, .ref (q 17), .ref (q 18), .ref (q 19), .ref (q 20)]))]) (fun _ => rfl) (fun r3 u2 H locs hp hP hD hS => ?_)
  subst hp
  refine lv_istore_n (lv' := [(2, .int 1), (0, .ref b), (1, .int x)]) hx hb dX9_whole_9 rfl hl (by decide) rfl (fun ls hl => ?_)
  refine lv_iload_n hx hb dX9_whole_10 rfl (lv_at hl 0 rfl) ?_
  refine lv_if_eq (tgt := 20) hx hb dX9_whole_11 (by decide) (fun h9 => absurd h9 (by decide)) (fun _ => ?_)
  refine lv_aload_n hx hb dX9_whole_14 rfl (lv_at hl 1 rfl) ?_
  refine lv_iload_n hx hb dX9_whole_15 rfl (lv_at hl 0 rfl) ?_
  refine r_callVi (As := [.int 1]) (rest := []) (wr := []) F hK hP hD hS hA hO hE (c_X9_no hO b q 1) k_1303 kv_X9_no 1 rfl (by decide +kernel) ⟨Nat.le_of_ble_eq_true rfl, Nat.le_of_ble_eq_true rfl⟩ [0] [] rfl rfl (by decide) (by decide) (by decide) 0 9 rfl rfl rfl hl.1 rfl (Nat.le_of_ble_eq_true rfl) dX9_whole_16 ⟨Nat.le_of_ble_eq_true rfl, Nat.le_of_ble_eq_true rfl⟩ (w1 := fun u4 => []) (fun _ => rfl) (fun r5 u4 H locs hp hP hD hS => ?_)
  subst hp
  exact ret (-1) (fun _ => 0, fun _ _ => 0) _ _ _ _ _ _ rfl rfl (bw_subP (isC := []) hP rfl) (hD.sub [] (by decide) rfl) hS (Nat.le_of_ble_eq_true rfl) (Nat.le_of_ble_eq_true rfl) dX9_whole_19
theorem dX9_longest_0 : decode cX9_longest 0 = .ok (.aload_n 0, 1) := by decide +kernel
theorem dX9_longest_1 : decode cX9_longest 1 = .ok (.invokevirtual 197, 3) := by decide +kernel
theorem dX9_longest_4 : decode cX9_longest 4 = .ok (.aload_n 0, 1) := by decide +kernel
theorem dX9_longest_5 : decode cX9_longest 5 = .ok (.iload_n 1, 1) := by decide +kernel
theorem dX9_longest_6 : decode cX9_longest 6 = .ok (.invokevirtual 314, 3) := by decide +kernel
theorem dX9_longest_9 : decode cX9_longest 9 = .ok (.istore_n 2, 1) := by decide +kernel
theorem dX9_longest_10 : decode cX9_longest 10 = .ok (.iload_n 2, 1) := by decide +kernel
theorem dX9_longest_11 : decode cX9_longest 11 = .ok (.ifCond .eq 11, 3) := by decide +kernel
theorem dX9_longest_14 : decode cX9_longest 14 = .ok (.aload_n 0, 1) := by decide +kernel
theorem dX9_longest_15 : decode cX9_longest 15 = .ok (.iload_n 2, 1) := by decide +kernel
theorem dX9_longest_16 : decode cX9_longest 16 = .ok (.invokevirtual 200, 3) := by decide +kernel
theorem dX9_longest_19 : decode cX9_longest 19 = .ok (.goto 8, 3) := by decide +kernel
theorem dX9_longest_27 : decode cX9_longest 27 = .ok (.ireturn, 1) := by decide +kernel
abbrev rm_X9_longest : Room := { frames := 1, cells := 0, slots := 0, locals := 21 }
set_option maxRecDepth 100000 in
set_option maxHeartbeats 4000000 in
theorem c_X9_longest {l : Launch} {E : (Nat → Prop) → State → Prop} (hO : bw_Ok E) {G : va_G} {cI cB cJ cN cW : ClassId} (b : Nat) (q : Nat → Nat) (x : Int32) : bw_Ci (S := bw_U) l yX9_longest (bw_ws (Cond.code yX9_longest cX9_longest 3 (some .int))) rm_X9_longest E G (bw_kt cI cB cJ cN cW) [.ref b, .int x] [(b, .inr (9, [.int 0, .ref (q 0), .int 0, .int 0, .int 0, .int 0, .int 0, .int 0, .int 0, .int 0, .int (-1), .int 0, .ref (q 1), .int 0, .int 0, .ref (q 2), .ref (q 3), .ref (q 4), .ref (q 5), .ref (q 6), .ref (q 7), .ref (q 8), .ref (q 9), .ref (q 10), .ref (q 11), .ref (q 12), .ref (q 13), .ref (q 14), .ref (q 15), .ref (q 16), .int 0, .int 0, .int 0, .int 0, .int 0, .int 0, .ref (q 17), .ref (q 18), .ref (q 19), .ref (q 20)]))] (fun r _ => r = -1) (fun _ => []) := by
  refine bw_Ci.of (cc := cX9_longest) (maxL := 3) (ty := .int) (by decide) rfl (Nat.le_of_ble_eq_true rfl) ?_
  intro p e s m below meth c A Q hx hb hml hts hown hin hK hA hS hP hD hE ret ls hl
  have F : CallFix p m c cX9_longest 3 s ([.ref b, .int x] : List Value).toArray bw_T RX9 := ⟨hx, hb, hml, hown, fun w h => hts w (List.mem_cons_of_mem _ h)⟩
  have hl : lv_has ls 3 [(0, .ref b), (1, .int x)] := hl
  refine lv_aload_n hx hb dX9_longest_0 rfl (lv_at hl 0 rfl) ?_
  refine r_callVv (As := []) (rest := []) (wr := []) F hK hP hD hS hA hO hE (c_X9_good hO b q) k_1296 kv_X9_good 0 rfl (by decide +kernel) ⟨Nat.le_of_ble_eq_true rfl, Nat.le_of_ble_eq_true rfl⟩ [0] [] rfl rfl (by decide) (by decide) (by decide) 0 9 rfl rfl rfl hl.1 rfl (Nat.le_of_ble_eq_true rfl) dX9_longest_1 ⟨Nat.le_of_ble_eq_true rfl, Nat.le_of_ble_eq_true rfl⟩ (w1 := fun u1 => [(b, .inr (9, [.int 0, .ref (q 0), .int 0, .int 0, .int 0, .int 0, .int 0, .int 0, .int 0, .int 0, .int (-1), .int 0, .ref (q 1), .int 0, .int 0, .ref (q 2), .ref (q 3), .ref (q 4), .ref (q 5), .ref (q 6), .ref (q 7), .ref (q 8), .ref (q 9), .ref (q 10), .ref (q 11), .ref (q 12), .ref (q 13), .ref (q 14), .ref (q 15), .ref (q 16), .int 0, .int 0, .int 0, .int 0, .int 0, .int 0, .ref (q 17), .ref (q 18), .ref (q 19), .ref (q 20)]))]) (fun _ => rfl) (fun  u1 H locs hp hP hD hS => ?_)
  refine lv_aload_n hx hb dX9_longest_4 rfl (lv_at hl 0 rfl) ?_
  refine lv_iload_n hx hb dX9_longest_5 rfl (lv_at hl 1 rfl) ?_
  refine r_callVi (As := [.int x]) (rest := []) (wr := []) F hK hP hD hS hA hO hE (c_X9_inputWhy hO b q x) k_1530 kv_X9_inputWhy 1 rfl (by decide +kernel) ⟨Nat.le_of_ble_eq_true rfl, Nat.le_of_ble_eq_true rfl⟩ [0] [] rfl rfl (by decide) (by decide) (by decide) 0 9 rfl rfl rfl hl.1 rfl (Nat.le_of_ble_eq_true rfl) dX9_longest_6 ⟨Nat.le_of_ble_eq_true rfl, Nat.le_of_ble_eq_true rfl⟩ (w1 := fun u2 => [(b, .inr (9, [.int 0, .ref (q 0), .int 0, .int 0, .int 0, .int 0, .int 0, .int 0, .int 0, .int 0, .int (-1), .int 0, .ref (q 1), .int 0, .int 0, .ref (q 2), .ref (q 3), .ref (q 4), .ref (q 5), .ref (q 6), .ref (q 7), .ref (q 8), .ref (q 9), .ref (q 10), .ref (q 11), .ref (q 12), .ref (q 13), .ref (q 14), .ref (q 15), .ref (q 16), .int 0, .int 0, .int 0, .int 0, .int 0, .int 0, .ref (q 17), .ref (q 18), .ref (q 19), .ref (q 20)]))]) (fun _ => rfl) (fun r3 u2 H locs hp hP hD hS => ?_)
  subst hp
  refine lv_istore_n (lv' := [(2, .int 1), (0, .ref b), (1, .int x)]) hx hb dX9_longest_9 rfl hl (by decide) rfl (fun ls hl => ?_)
  refine lv_iload_n hx hb dX9_longest_10 rfl (lv_at hl 0 rfl) ?_
  refine lv_if_eq (tgt := 22) hx hb dX9_longest_11 (by decide) (fun h9 => absurd h9 (by decide)) (fun _ => ?_)
  refine lv_aload_n hx hb dX9_longest_14 rfl (lv_at hl 1 rfl) ?_
  refine lv_iload_n hx hb dX9_longest_15 rfl (lv_at hl 0 rfl) ?_
  refine r_callVi (As := [.int 1]) (rest := []) (wr := []) F hK hP hD hS hA hO hE (c_X9_no hO b q 1) k_1303 kv_X9_no 1 rfl (by decide +kernel) ⟨Nat.le_of_ble_eq_true rfl, Nat.le_of_ble_eq_true rfl⟩ [0] [] rfl rfl (by decide) (by decide) (by decide) 0 9 rfl rfl rfl hl.1 rfl (Nat.le_of_ble_eq_true rfl) dX9_longest_16 ⟨Nat.le_of_ble_eq_true rfl, Nat.le_of_ble_eq_true rfl⟩ (w1 := fun u4 => []) (fun _ => rfl) (fun r5 u4 H locs hp hP hD hS => ?_)
  subst hp
  refine lv_goto (tgt := 27) hx hb dX9_longest_19 (by decide) ?_
  exact ret (-1) (fun _ => 0, fun _ _ => 0) _ _ _ _ _ _ rfl rfl (bw_subP (isC := []) hP rfl) (hD.sub [] (by decide) rfl) hS (Nat.le_of_ble_eq_true rfl) (Nat.le_of_ble_eq_true rfl) dX9_longest_27
theorem dX9_longestAt_0 : decode cX9_longestAt 0 = .ok (.aload_n 0, 1) := by decide +kernel
theorem dX9_longestAt_1 : decode cX9_longestAt 1 = .ok (.invokevirtual 197, 3) := by decide +kernel
theorem dX9_longestAt_4 : decode cX9_longestAt 4 = .ok (.aload_n 0, 1) := by decide +kernel
theorem dX9_longestAt_5 : decode cX9_longestAt 5 = .ok (.iload_n 1, 1) := by decide +kernel
theorem dX9_longestAt_6 : decode cX9_longestAt 6 = .ok (.invokevirtual 314, 3) := by decide +kernel
theorem dX9_longestAt_9 : decode cX9_longestAt 9 = .ok (.istore_n 2, 1) := by decide +kernel
theorem dX9_longestAt_10 : decode cX9_longestAt 10 = .ok (.iload_n 2, 1) := by decide +kernel
theorem dX9_longestAt_11 : decode cX9_longestAt 11 = .ok (.ifCond .eq 9, 3) := by decide +kernel
theorem dX9_longestAt_14 : decode cX9_longestAt 14 = .ok (.aload_n 0, 1) := by decide +kernel
theorem dX9_longestAt_15 : decode cX9_longestAt 15 = .ok (.iload_n 2, 1) := by decide +kernel
theorem dX9_longestAt_16 : decode cX9_longestAt 16 = .ok (.invokevirtual 200, 3) := by decide +kernel
theorem dX9_longestAt_19 : decode cX9_longestAt 19 = .ok (.ireturn, 1) := by decide +kernel
abbrev rm_X9_longestAt : Room := { frames := 1, cells := 0, slots := 0, locals := 21 }
set_option maxRecDepth 100000 in
set_option maxHeartbeats 4000000 in
theorem c_X9_longestAt {l : Launch} {E : (Nat → Prop) → State → Prop} (hO : bw_Ok E) {G : va_G} {cI cB cJ cN cW : ClassId} (b : Nat) (q : Nat → Nat) (x : Int32) : bw_Ci (S := bw_U) l yX9_longestAt (bw_ws (Cond.code yX9_longestAt cX9_longestAt 3 (some .int))) rm_X9_longestAt E G (bw_kt cI cB cJ cN cW) [.ref b, .int x] [(b, .inr (9, [.int 0, .ref (q 0), .int 0, .int 0, .int 0, .int 0, .int 0, .int 0, .int 0, .int 0, .int (-1), .int 0, .ref (q 1), .int 0, .int 0, .ref (q 2), .ref (q 3), .ref (q 4), .ref (q 5), .ref (q 6), .ref (q 7), .ref (q 8), .ref (q 9), .ref (q 10), .ref (q 11), .ref (q 12), .ref (q 13), .ref (q 14), .ref (q 15), .ref (q 16), .int 0, .int 0, .int 0, .int 0, .int 0, .int 0, .ref (q 17), .ref (q 18), .ref (q 19), .ref (q 20)]))] (fun r _ => r = -1) (fun _ => []) := by
  refine bw_Ci.of (cc := cX9_longestAt) (maxL := 3) (ty := .int) (by decide) rfl (Nat.le_of_ble_eq_true rfl) ?_
  intro p e s m below meth c A Q hx hb hml hts hown hin hK hA hS hP hD hE ret ls hl
  have F : CallFix p m c cX9_longestAt 3 s ([.ref b, .int x] : List Value).toArray bw_T RX9 := ⟨hx, hb, hml, hown, fun w h => hts w (List.mem_cons_of_mem _ h)⟩
  have hl : lv_has ls 3 [(0, .ref b), (1, .int x)] := hl
  refine lv_aload_n hx hb dX9_longestAt_0 rfl (lv_at hl 0 rfl) ?_
  refine r_callVv (As := []) (rest := []) (wr := []) F hK hP hD hS hA hO hE (c_X9_good hO b q) k_1296 kv_X9_good 0 rfl (by decide +kernel) ⟨Nat.le_of_ble_eq_true rfl, Nat.le_of_ble_eq_true rfl⟩ [0] [] rfl rfl (by decide) (by decide) (by decide) 0 9 rfl rfl rfl hl.1 rfl (Nat.le_of_ble_eq_true rfl) dX9_longestAt_1 ⟨Nat.le_of_ble_eq_true rfl, Nat.le_of_ble_eq_true rfl⟩ (w1 := fun u1 => [(b, .inr (9, [.int 0, .ref (q 0), .int 0, .int 0, .int 0, .int 0, .int 0, .int 0, .int 0, .int 0, .int (-1), .int 0, .ref (q 1), .int 0, .int 0, .ref (q 2), .ref (q 3), .ref (q 4), .ref (q 5), .ref (q 6), .ref (q 7), .ref (q 8), .ref (q 9), .ref (q 10), .ref (q 11), .ref (q 12), .ref (q 13), .ref (q 14), .ref (q 15), .ref (q 16), .int 0, .int 0, .int 0, .int 0, .int 0, .int 0, .ref (q 17), .ref (q 18), .ref (q 19), .ref (q 20)]))]) (fun _ => rfl) (fun  u1 H locs hp hP hD hS => ?_)
  refine lv_aload_n hx hb dX9_longestAt_4 rfl (lv_at hl 0 rfl) ?_
  refine lv_iload_n hx hb dX9_longestAt_5 rfl (lv_at hl 1 rfl) ?_
  refine r_callVi (As := [.int x]) (rest := []) (wr := []) F hK hP hD hS hA hO hE (c_X9_inputWhy hO b q x) k_1530 kv_X9_inputWhy 1 rfl (by decide +kernel) ⟨Nat.le_of_ble_eq_true rfl, Nat.le_of_ble_eq_true rfl⟩ [0] [] rfl rfl (by decide) (by decide) (by decide) 0 9 rfl rfl rfl hl.1 rfl (Nat.le_of_ble_eq_true rfl) dX9_longestAt_6 ⟨Nat.le_of_ble_eq_true rfl, Nat.le_of_ble_eq_true rfl⟩ (w1 := fun u2 => [(b, .inr (9, [.int 0, .ref (q 0), .int 0, .int 0, .int 0, .int 0, .int 0, .int 0, .int 0, .int 0, .int (-1), .int 0, .ref (q 1), .int 0, .int 0, .ref (q 2), .ref (q 3), .ref (q 4), .ref (q 5), .ref (q 6), .ref (q 7), .ref (q 8), .ref (q 9), .ref (q 10), .ref (q 11), .ref (q 12), .ref (q 13), .ref (q 14), .ref (q 15), .ref (q 16), .int 0, .int 0, .int 0, .int 0, .int 0, .int 0, .ref (q 17), .ref (q 18), .ref (q 19), .ref (q 20)]))]) (fun _ => rfl) (fun r3 u2 H locs hp hP hD hS => ?_)
  subst hp
  refine lv_istore_n (lv' := [(2, .int 1), (0, .ref b), (1, .int x)]) hx hb dX9_longestAt_9 rfl hl (by decide) rfl (fun ls hl => ?_)
  refine lv_iload_n hx hb dX9_longestAt_10 rfl (lv_at hl 0 rfl) ?_
  refine lv_if_eq (tgt := 20) hx hb dX9_longestAt_11 (by decide) (fun h9 => absurd h9 (by decide)) (fun _ => ?_)
  refine lv_aload_n hx hb dX9_longestAt_14 rfl (lv_at hl 1 rfl) ?_
  refine lv_iload_n hx hb dX9_longestAt_15 rfl (lv_at hl 0 rfl) ?_
  refine r_callVi (As := [.int 1]) (rest := []) (wr := []) F hK hP hD hS hA hO hE (c_X9_no hO b q 1) k_1303 kv_X9_no 1 rfl (by decide +kernel) ⟨Nat.le_of_ble_eq_true rfl, Nat.le_of_ble_eq_true rfl⟩ [0] [] rfl rfl (by decide) (by decide) (by decide) 0 9 rfl rfl rfl hl.1 rfl (Nat.le_of_ble_eq_true rfl) dX9_longestAt_16 ⟨Nat.le_of_ble_eq_true rfl, Nat.le_of_ble_eq_true rfl⟩ (w1 := fun u4 => []) (fun _ => rfl) (fun r5 u4 H locs hp hP hD hS => ?_)
  subst hp
  exact ret (-1) (fun _ => 0, fun _ _ => 0) _ _ _ _ _ _ rfl rfl (bw_subP (isC := []) hP rfl) (hD.sub [] (by decide) rfl) hS (Nat.le_of_ble_eq_true rfl) (Nat.le_of_ble_eq_true rfl) dX9_longestAt_19
theorem dX9_trail_0 : decode cX9_trail 0 = .ok (.aload_n 0, 1) := by decide +kernel
theorem dX9_trail_1 : decode cX9_trail 1 = .ok (.invokevirtual 197, 3) := by decide +kernel
theorem dX9_trail_4 : decode cX9_trail 4 = .ok (.aload_n 0, 1) := by decide +kernel
theorem dX9_trail_5 : decode cX9_trail 5 = .ok (.getfield 222, 3) := by decide +kernel
theorem dX9_trail_8 : decode cX9_trail 8 = .ok (.ifCond .eq 7, 3) := by decide +kernel
theorem dX9_trail_15 : decode cX9_trail 15 = .ok (.aload_n 0, 1) := by decide +kernel
theorem dX9_trail_16 : decode cX9_trail 16 = .ok (.iconst 1, 1) := by decide +kernel
theorem dX9_trail_17 : decode cX9_trail 17 = .ok (.invokevirtual 200, 3) := by decide +kernel
theorem dX9_trail_20 : decode cX9_trail 20 = .ok (.ireturn, 1) := by decide +kernel
abbrev rm_X9_trail : Room := { frames := 1, cells := 0, slots := 0, locals := 21 }
set_option maxRecDepth 100000 in
set_option maxHeartbeats 4000000 in
theorem c_X9_trail {l : Launch} {E : (Nat → Prop) → State → Prop} (hO : bw_Ok E) {G : va_G} {cI cB cJ cN cW : ClassId} (b : Nat) (q : Nat → Nat) (x : Int32) : bw_Ci (S := bw_U) l yX9_trail (bw_ws (Cond.code yX9_trail cX9_trail 3 (some .int))) rm_X9_trail E G (bw_kt cI cB cJ cN cW) [.ref b, .int x] [(b, .inr (9, [.int 0, .ref (q 0), .int 0, .int 0, .int 0, .int 0, .int 0, .int 0, .int 0, .int 0, .int (-1), .int 0, .ref (q 1), .int 0, .int 0, .ref (q 2), .ref (q 3), .ref (q 4), .ref (q 5), .ref (q 6), .ref (q 7), .ref (q 8), .ref (q 9), .ref (q 10), .ref (q 11), .ref (q 12), .ref (q 13), .ref (q 14), .ref (q 15), .ref (q 16), .int 0, .int 0, .int 0, .int 0, .int 0, .int 0, .ref (q 17), .ref (q 18), .ref (q 19), .ref (q 20)]))] (fun r _ => r = -1) (fun _ => []) := by
  refine bw_Ci.of (cc := cX9_trail) (maxL := 3) (ty := .int) (by decide) rfl (Nat.le_of_ble_eq_true rfl) ?_
  intro p e s m below meth c A Q hx hb hml hts hown hin hK hA hS hP hD hE ret ls hl
  have F : CallFix p m c cX9_trail 3 s ([.ref b, .int x] : List Value).toArray bw_T RX9 := ⟨hx, hb, hml, hown, fun w h => hts w (List.mem_cons_of_mem _ h)⟩
  have hl : lv_has ls 3 [(0, .ref b), (1, .int x)] := hl
  refine lv_aload_n hx hb dX9_trail_0 rfl (lv_at hl 0 rfl) ?_
  refine r_callVv (As := []) (rest := []) (wr := []) F hK hP hD hS hA hO hE (c_X9_good hO b q) k_1296 kv_X9_good 0 rfl (by decide +kernel) ⟨Nat.le_of_ble_eq_true rfl, Nat.le_of_ble_eq_true rfl⟩ [0] [] rfl rfl (by decide) (by decide) (by decide) 0 9 rfl rfl rfl hl.1 rfl (Nat.le_of_ble_eq_true rfl) dX9_trail_1 ⟨Nat.le_of_ble_eq_true rfl, Nat.le_of_ble_eq_true rfl⟩ (w1 := fun u1 => [(b, .inr (9, [.int 0, .ref (q 0), .int 0, .int 0, .int 0, .int 0, .int 0, .int 0, .int 0, .int 0, .int (-1), .int 0, .ref (q 1), .int 0, .int 0, .ref (q 2), .ref (q 3), .ref (q 4), .ref (q 5), .ref (q 6), .ref (q 7), .ref (q 8), .ref (q 9), .ref (q 10), .ref (q 11), .ref (q 12), .ref (q 13), .ref (q 14), .ref (q 15), .ref (q 16), .int 0, .int 0, .int 0, .int 0, .int 0, .int 0, .ref (q 17), .ref (q 18), .ref (q 19), .ref (q 20)]))]) (fun _ => rfl) (fun  u1 H locs hp hP hD hS => ?_)
  refine lv_aload_n hx hb dX9_trail_4 rfl (lv_at hl 0 rfl) ?_
  refine r_get F hK hP 0 14 rfl rfl in_X9 (by decide) k_1177 rfl dX9_trail_5 ?_
  refine lv_if_eq (tgt := 15) hx hb dX9_trail_8 (by decide) (fun _ => ?_) (fun h9 => absurd (by decide) h9)
  refine lv_aload_n hx hb dX9_trail_15 rfl (lv_at hl 0 rfl) ?_
  refine lv_iconst (v := 1) hx hb dX9_trail_16 (by decide) ?_
  refine r_callVi (As := [.int 1]) (rest := []) (wr := []) F hK hP hD hS hA hO hE (c_X9_no hO b q 1) k_1303 kv_X9_no 1 rfl (by decide +kernel) ⟨Nat.le_of_ble_eq_true rfl, Nat.le_of_ble_eq_true rfl⟩ [0] [] rfl rfl (by decide) (by decide) (by decide) 0 9 rfl rfl rfl hl.1 rfl (Nat.le_of_ble_eq_true rfl) dX9_trail_17 ⟨Nat.le_of_ble_eq_true rfl, Nat.le_of_ble_eq_true rfl⟩ (w1 := fun u2 => []) (fun _ => rfl) (fun r3 u2 H locs hp hP hD hS => ?_)
  subst hp
  exact ret (-1) (fun _ => 0, fun _ _ => 0) _ _ _ _ _ _ rfl rfl (bw_subP (isC := []) hP rfl) (hD.sub [] (by decide) rfl) hS (Nat.le_of_ble_eq_true rfl) (Nat.le_of_ble_eq_true rfl) dX9_trail_20
theorem dX9_seen_0 : decode cX9_seen 0 = .ok (.aload_n 0, 1) := by decide +kernel
theorem dX9_seen_1 : decode cX9_seen 1 = .ok (.invokevirtual 197, 3) := by decide +kernel
theorem dX9_seen_4 : decode cX9_seen 4 = .ok (.aload_n 0, 1) := by decide +kernel
theorem dX9_seen_5 : decode cX9_seen 5 = .ok (.iload_n 1, 1) := by decide +kernel
theorem dX9_seen_6 : decode cX9_seen 6 = .ok (.invokevirtual 314, 3) := by decide +kernel
theorem dX9_seen_9 : decode cX9_seen 9 = .ok (.istore_n 2, 1) := by decide +kernel
theorem dX9_seen_10 : decode cX9_seen 10 = .ok (.iload_n 2, 1) := by decide +kernel
theorem dX9_seen_11 : decode cX9_seen 11 = .ok (.ifCond .eq 9, 3) := by decide +kernel
theorem dX9_seen_14 : decode cX9_seen 14 = .ok (.aload_n 0, 1) := by decide +kernel
theorem dX9_seen_15 : decode cX9_seen 15 = .ok (.iload_n 2, 1) := by decide +kernel
theorem dX9_seen_16 : decode cX9_seen 16 = .ok (.invokevirtual 200, 3) := by decide +kernel
theorem dX9_seen_19 : decode cX9_seen 19 = .ok (.ireturn, 1) := by decide +kernel
abbrev rm_X9_seen : Room := { frames := 1, cells := 0, slots := 0, locals := 21 }
set_option maxRecDepth 100000 in
set_option maxHeartbeats 4000000 in
theorem c_X9_seen {l : Launch} {E : (Nat → Prop) → State → Prop} (hO : bw_Ok E) {G : va_G} {cI cB cJ cN cW : ClassId} (b : Nat) (q : Nat → Nat) (x : Int32) : bw_Ci (S := bw_U) l yX9_seen (bw_ws (Cond.code yX9_seen cX9_seen 5 (some .int))) rm_X9_seen E G (bw_kt cI cB cJ cN cW) [.ref b, .int x] [(b, .inr (9, [.int 0, .ref (q 0), .int 0, .int 0, .int 0, .int 0, .int 0, .int 0, .int 0, .int 0, .int (-1), .int 0, .ref (q 1), .int 0, .int 0, .ref (q 2), .ref (q 3), .ref (q 4), .ref (q 5), .ref (q 6), .ref (q 7), .ref (q 8), .ref (q 9), .ref (q 10), .ref (q 11), .ref (q 12), .ref (q 13), .ref (q 14), .ref (q 15), .ref (q 16), .int 0, .int 0, .int 0, .int 0, .int 0, .int 0, .ref (q 17), .ref (q 18), .ref (q 19), .ref (q 20)]))] (fun r _ => r = -1) (fun _ => []) := by
  refine bw_Ci.of (cc := cX9_seen) (maxL := 5) (ty := .int) (by decide) rfl (Nat.le_of_ble_eq_true rfl) ?_
  intro p e s m below meth c A Q hx hb hml hts hown hin hK hA hS hP hD hE ret ls hl
  have F : CallFix p m c cX9_seen 5 s ([.ref b, .int x] : List Value).toArray bw_T RX9 := ⟨hx, hb, hml, hown, fun w h => hts w (List.mem_cons_of_mem _ h)⟩
  have hl : lv_has ls 5 [(0, .ref b), (1, .int x)] := hl
  refine lv_aload_n hx hb dX9_seen_0 rfl (lv_at hl 0 rfl) ?_
  refine r_callVv (As := []) (rest := []) (wr := []) F hK hP hD hS hA hO hE (c_X9_good hO b q) k_1296 kv_X9_good 0 rfl (by decide +kernel) ⟨Nat.le_of_ble_eq_true rfl, Nat.le_of_ble_eq_true rfl⟩ [0] [] rfl rfl (by decide) (by decide) (by decide) 0 9 rfl rfl rfl hl.1 rfl (Nat.le_of_ble_eq_true rfl) dX9_seen_1 ⟨Nat.le_of_ble_eq_true rfl, Nat.le_of_ble_eq_true rfl⟩ (w1 := fun u1 => [(b, .inr (9, [.int 0, .ref (q 0), .int 0, .int 0, .int 0, .int 0, .int 0, .int 0, .int 0, .int 0, .int (-1), .int 0, .ref (q 1), .int 0, .int 0, .ref (q 2), .ref (q 3), .ref (q 4), .ref (q 5), .ref (q 6), .ref (q 7), .ref (q 8), .ref (q 9), .ref (q 10), .ref (q 11), .ref (q 12), .ref (q 13), .ref (q 14), .ref (q 15), .ref (q 16), .int 0, .int 0, .int 0, .int 0, .int 0, .int 0, .ref (q 17), .ref (q 18), .ref (q 19), .ref (q 20)]))]) (fun _ => rfl) (fun  u1 H locs hp hP hD hS => ?_)
  refine lv_aload_n hx hb dX9_seen_4 rfl (lv_at hl 0 rfl) ?_
  refine lv_iload_n hx hb dX9_seen_5 rfl (lv_at hl 1 rfl) ?_
  refine r_callVi (As := [.int x]) (rest := []) (wr := []) F hK hP hD hS hA hO hE (c_X9_inputWhy hO b q x) k_1530 kv_X9_inputWhy 1 rfl (by decide +kernel) ⟨Nat.le_of_ble_eq_true rfl, Nat.le_of_ble_eq_true rfl⟩ [0] [] rfl rfl (by decide) (by decide) (by decide) 0 9 rfl rfl rfl hl.1 rfl (Nat.le_of_ble_eq_true rfl) dX9_seen_6 ⟨Nat.le_of_ble_eq_true rfl, Nat.le_of_ble_eq_true rfl⟩ (w1 := fun u2 => [(b, .inr (9, [.int 0, .ref (q 0), .int 0, .int 0, .int 0, .int 0, .int 0, .int 0, .int 0, .int 0, .int (-1), .int 0, .ref (q 1), .int 0, .int 0, .ref (q 2), .ref (q 3), .ref (q 4), .ref (q 5), .ref (q 6), .ref (q 7), .ref (q 8), .ref (q 9), .ref (q 10), .ref (q 11), .ref (q 12), .ref (q 13), .ref (q 14), .ref (q 15), .ref (q 16), .int 0, .int 0, .int 0, .int 0, .int 0, .int 0, .ref (q 17), .ref (q 18), .ref (q 19), .ref (q 20)]))]) (fun _ => rfl) (fun r3 u2 H locs hp hP hD hS => ?_)
  subst hp
  refine lv_istore_n (lv' := [(2, .int 1), (0, .ref b), (1, .int x)]) hx hb dX9_seen_9 rfl hl (by decide) rfl (fun ls hl => ?_)
  refine lv_iload_n hx hb dX9_seen_10 rfl (lv_at hl 0 rfl) ?_
  refine lv_if_eq (tgt := 20) hx hb dX9_seen_11 (by decide) (fun h9 => absurd h9 (by decide)) (fun _ => ?_)
  refine lv_aload_n hx hb dX9_seen_14 rfl (lv_at hl 1 rfl) ?_
  refine lv_iload_n hx hb dX9_seen_15 rfl (lv_at hl 0 rfl) ?_
  refine r_callVi (As := [.int 1]) (rest := []) (wr := []) F hK hP hD hS hA hO hE (c_X9_no hO b q 1) k_1303 kv_X9_no 1 rfl (by decide +kernel) ⟨Nat.le_of_ble_eq_true rfl, Nat.le_of_ble_eq_true rfl⟩ [0] [] rfl rfl (by decide) (by decide) (by decide) 0 9 rfl rfl rfl hl.1 rfl (Nat.le_of_ble_eq_true rfl) dX9_seen_16 ⟨Nat.le_of_ble_eq_true rfl, Nat.le_of_ble_eq_true rfl⟩ (w1 := fun u4 => []) (fun _ => rfl) (fun r5 u4 H locs hp hP hD hS => ?_)
  subst hp
  exact ret (-1) (fun _ => 0, fun _ _ => 0) _ _ _ _ _ _ rfl rfl (bw_subP (isC := []) hP rfl) (hD.sub [] (by decide) rfl) hS (Nat.le_of_ble_eq_true rfl) (Nat.le_of_ble_eq_true rfl) dX9_seen_19
theorem dX9_fold_0 : decode cX9_fold 0 = .ok (.aload_n 0, 1) := by decide +kernel
theorem dX9_fold_1 : decode cX9_fold 1 = .ok (.invokevirtual 197, 3) := by decide +kernel
theorem dX9_fold_4 : decode cX9_fold 4 = .ok (.aload_n 0, 1) := by decide +kernel
theorem dX9_fold_5 : decode cX9_fold 5 = .ok (.iload_n 1, 1) := by decide +kernel
theorem dX9_fold_6 : decode cX9_fold 6 = .ok (.invokevirtual 314, 3) := by decide +kernel
theorem dX9_fold_9 : decode cX9_fold 9 = .ok (.istore_n 2, 1) := by decide +kernel
theorem dX9_fold_10 : decode cX9_fold 10 = .ok (.iload_n 2, 1) := by decide +kernel
theorem dX9_fold_11 : decode cX9_fold 11 = .ok (.ifCond .eq 9, 3) := by decide +kernel
theorem dX9_fold_14 : decode cX9_fold 14 = .ok (.aload_n 0, 1) := by decide +kernel
theorem dX9_fold_15 : decode cX9_fold 15 = .ok (.iload_n 2, 1) := by decide +kernel
theorem dX9_fold_16 : decode cX9_fold 16 = .ok (.invokevirtual 200, 3) := by decide +kernel
theorem dX9_fold_19 : decode cX9_fold 19 = .ok (.ireturn, 1) := by decide +kernel
abbrev rm_X9_fold : Room := { frames := 1, cells := 0, slots := 0, locals := 21 }
set_option maxRecDepth 100000 in
set_option maxHeartbeats 4000000 in
theorem c_X9_fold {l : Launch} {E : (Nat → Prop) → State → Prop} (hO : bw_Ok E) {G : va_G} {cI cB cJ cN cW : ClassId} (b : Nat) (q : Nat → Nat) (x : Int32) : bw_Ci (S := bw_U) l yX9_fold (bw_ws (Cond.code yX9_fold cX9_fold 4 (some .int))) rm_X9_fold E G (bw_kt cI cB cJ cN cW) [.ref b, .int x] [(b, .inr (9, [.int 0, .ref (q 0), .int 0, .int 0, .int 0, .int 0, .int 0, .int 0, .int 0, .int 0, .int (-1), .int 0, .ref (q 1), .int 0, .int 0, .ref (q 2), .ref (q 3), .ref (q 4), .ref (q 5), .ref (q 6), .ref (q 7), .ref (q 8), .ref (q 9), .ref (q 10), .ref (q 11), .ref (q 12), .ref (q 13), .ref (q 14), .ref (q 15), .ref (q 16), .int 0, .int 0, .int 0, .int 0, .int 0, .int 0, .ref (q 17), .ref (q 18), .ref (q 19), .ref (q 20)]))] (fun r _ => r = -1) (fun _ => []) := by
  refine bw_Ci.of (cc := cX9_fold) (maxL := 4) (ty := .int) (by decide) rfl (Nat.le_of_ble_eq_true rfl) ?_
  intro p e s m below meth c A Q hx hb hml hts hown hin hK hA hS hP hD hE ret ls hl
  have F : CallFix p m c cX9_fold 4 s ([.ref b, .int x] : List Value).toArray bw_T RX9 := ⟨hx, hb, hml, hown, fun w h => hts w (List.mem_cons_of_mem _ h)⟩
  have hl : lv_has ls 4 [(0, .ref b), (1, .int x)] := hl
  refine lv_aload_n hx hb dX9_fold_0 rfl (lv_at hl 0 rfl) ?_
  refine r_callVv (As := []) (rest := []) (wr := []) F hK hP hD hS hA hO hE (c_X9_good hO b q) k_1296 kv_X9_good 0 rfl (by decide +kernel) ⟨Nat.le_of_ble_eq_true rfl, Nat.le_of_ble_eq_true rfl⟩ [0] [] rfl rfl (by decide) (by decide) (by decide) 0 9 rfl rfl rfl hl.1 rfl (Nat.le_of_ble_eq_true rfl) dX9_fold_1 ⟨Nat.le_of_ble_eq_true rfl, Nat.le_of_ble_eq_true rfl⟩ (w1 := fun u1 => [(b, .inr (9, [.int 0, .ref (q 0), .int 0, .int 0, .int 0, .int 0, .int 0, .int 0, .int 0, .int 0, .int (-1), .int 0, .ref (q 1), .int 0, .int 0, .ref (q 2), .ref (q 3), .ref (q 4), .ref (q 5), .ref (q 6), .ref (q 7), .ref (q 8), .ref (q 9), .ref (q 10), .ref (q 11), .ref (q 12), .ref (q 13), .ref (q 14), .ref (q 15), .ref (q 16), .int 0, .int 0, .int 0, .int 0, .int 0, .int 0, .ref (q 17), .ref (q 18), .ref (q 19), .ref (q 20)]))]) (fun _ => rfl) (fun  u1 H locs hp hP hD hS => ?_)
  refine lv_aload_n hx hb dX9_fold_4 rfl (lv_at hl 0 rfl) ?_
  refine lv_iload_n hx hb dX9_fold_5 rfl (lv_at hl 1 rfl) ?_
  refine r_callVi (As := [.int x]) (rest := []) (wr := []) F hK hP hD hS hA hO hE (c_X9_inputWhy hO b q x) k_1530 kv_X9_inputWhy 1 rfl (by decide +kernel) ⟨Nat.le_of_ble_eq_true rfl, Nat.le_of_ble_eq_true rfl⟩ [0] [] rfl rfl (by decide) (by decide) (by decide) 0 9 rfl rfl rfl hl.1 rfl (Nat.le_of_ble_eq_true rfl) dX9_fold_6 ⟨Nat.le_of_ble_eq_true rfl, Nat.le_of_ble_eq_true rfl⟩ (w1 := fun u2 => [(b, .inr (9, [.int 0, .ref (q 0), .int 0, .int 0, .int 0, .int 0, .int 0, .int 0, .int 0, .int 0, .int (-1), .int 0, .ref (q 1), .int 0, .int 0, .ref (q 2), .ref (q 3), .ref (q 4), .ref (q 5), .ref (q 6), .ref (q 7), .ref (q 8), .ref (q 9), .ref (q 10), .ref (q 11), .ref (q 12), .ref (q 13), .ref (q 14), .ref (q 15), .ref (q 16), .int 0, .int 0, .int 0, .int 0, .int 0, .int 0, .ref (q 17), .ref (q 18), .ref (q 19), .ref (q 20)]))]) (fun _ => rfl) (fun r3 u2 H locs hp hP hD hS => ?_)
  subst hp
  refine lv_istore_n (lv' := [(2, .int 1), (0, .ref b), (1, .int x)]) hx hb dX9_fold_9 rfl hl (by decide) rfl (fun ls hl => ?_)
  refine lv_iload_n hx hb dX9_fold_10 rfl (lv_at hl 0 rfl) ?_
  refine lv_if_eq (tgt := 20) hx hb dX9_fold_11 (by decide) (fun h9 => absurd h9 (by decide)) (fun _ => ?_)
  refine lv_aload_n hx hb dX9_fold_14 rfl (lv_at hl 1 rfl) ?_
  refine lv_iload_n hx hb dX9_fold_15 rfl (lv_at hl 0 rfl) ?_
  refine r_callVi (As := [.int 1]) (rest := []) (wr := []) F hK hP hD hS hA hO hE (c_X9_no hO b q 1) k_1303 kv_X9_no 1 rfl (by decide +kernel) ⟨Nat.le_of_ble_eq_true rfl, Nat.le_of_ble_eq_true rfl⟩ [0] [] rfl rfl (by decide) (by decide) (by decide) 0 9 rfl rfl rfl hl.1 rfl (Nat.le_of_ble_eq_true rfl) dX9_fold_16 ⟨Nat.le_of_ble_eq_true rfl, Nat.le_of_ble_eq_true rfl⟩ (w1 := fun u4 => []) (fun _ => rfl) (fun r5 u4 H locs hp hP hD hS => ?_)
  subst hp
  exact ret (-1) (fun _ => 0, fun _ _ => 0) _ _ _ _ _ _ rfl rfl (bw_subP (isC := []) hP rfl) (hD.sub [] (by decide) rfl) hS (Nat.le_of_ble_eq_true rfl) (Nat.le_of_ble_eq_true rfl) dX9_fold_19
theorem dX9_same_0 : decode cX9_same 0 = .ok (.aload_n 0, 1) := by decide +kernel
theorem dX9_same_1 : decode cX9_same 1 = .ok (.invokevirtual 197, 3) := by decide +kernel
theorem dX9_same_4 : decode cX9_same 4 = .ok (.aload_n 0, 1) := by decide +kernel
theorem dX9_same_5 : decode cX9_same 5 = .ok (.iload_n 1, 1) := by decide +kernel
theorem dX9_same_6 : decode cX9_same 6 = .ok (.invokevirtual 314, 3) := by decide +kernel
theorem dX9_same_9 : decode cX9_same 9 = .ok (.istore_n 2, 1) := by decide +kernel
theorem dX9_same_10 : decode cX9_same 10 = .ok (.iload_n 2, 1) := by decide +kernel
theorem dX9_same_11 : decode cX9_same 11 = .ok (.ifCond .eq 9, 3) := by decide +kernel
theorem dX9_same_14 : decode cX9_same 14 = .ok (.aload_n 0, 1) := by decide +kernel
theorem dX9_same_15 : decode cX9_same 15 = .ok (.iload_n 2, 1) := by decide +kernel
theorem dX9_same_16 : decode cX9_same 16 = .ok (.invokevirtual 200, 3) := by decide +kernel
theorem dX9_same_19 : decode cX9_same 19 = .ok (.ireturn, 1) := by decide +kernel
abbrev rm_X9_same : Room := { frames := 1, cells := 0, slots := 0, locals := 21 }
set_option maxRecDepth 100000 in
set_option maxHeartbeats 4000000 in
theorem c_X9_same {l : Launch} {E : (Nat → Prop) → State → Prop} (hO : bw_Ok E) {G : va_G} {cI cB cJ cN cW : ClassId} (b : Nat) (q : Nat → Nat) (x : Int32) : bw_Ci (S := bw_U) l yX9_same (bw_ws (Cond.code yX9_same cX9_same 7 (some .int))) rm_X9_same E G (bw_kt cI cB cJ cN cW) [.ref b, .int x] [(b, .inr (9, [.int 0, .ref (q 0), .int 0, .int 0, .int 0, .int 0, .int 0, .int 0, .int 0, .int 0, .int (-1), .int 0, .ref (q 1), .int 0, .int 0, .ref (q 2), .ref (q 3), .ref (q 4), .ref (q 5), .ref (q 6), .ref (q 7), .ref (q 8), .ref (q 9), .ref (q 10), .ref (q 11), .ref (q 12), .ref (q 13), .ref (q 14), .ref (q 15), .ref (q 16), .int 0, .int 0, .int 0, .int 0, .int 0, .int 0, .ref (q 17), .ref (q 18), .ref (q 19), .ref (q 20)]))] (fun r _ => r = -1) (fun _ => []) := by
  refine bw_Ci.of (cc := cX9_same) (maxL := 7) (ty := .int) (by decide) rfl (Nat.le_of_ble_eq_true rfl) ?_
  intro p e s m below meth c A Q hx hb hml hts hown hin hK hA hS hP hD hE ret ls hl
  have F : CallFix p m c cX9_same 7 s ([.ref b, .int x] : List Value).toArray bw_T RX9 := ⟨hx, hb, hml, hown, fun w h => hts w (List.mem_cons_of_mem _ h)⟩
  have hl : lv_has ls 7 [(0, .ref b), (1, .int x)] := hl
  refine lv_aload_n hx hb dX9_same_0 rfl (lv_at hl 0 rfl) ?_
  refine r_callVv (As := []) (rest := []) (wr := []) F hK hP hD hS hA hO hE (c_X9_good hO b q) k_1296 kv_X9_good 0 rfl (by decide +kernel) ⟨Nat.le_of_ble_eq_true rfl, Nat.le_of_ble_eq_true rfl⟩ [0] [] rfl rfl (by decide) (by decide) (by decide) 0 9 rfl rfl rfl hl.1 rfl (Nat.le_of_ble_eq_true rfl) dX9_same_1 ⟨Nat.le_of_ble_eq_true rfl, Nat.le_of_ble_eq_true rfl⟩ (w1 := fun u1 => [(b, .inr (9, [.int 0, .ref (q 0), .int 0, .int 0, .int 0, .int 0, .int 0, .int 0, .int 0, .int 0, .int (-1), .int 0, .ref (q 1), .int 0, .int 0, .ref (q 2), .ref (q 3), .ref (q 4), .ref (q 5), .ref (q 6), .ref (q 7), .ref (q 8), .ref (q 9), .ref (q 10), .ref (q 11), .ref (q 12), .ref (q 13), .ref (q 14), .ref (q 15), .ref (q 16), .int 0, .int 0, .int 0, .int 0, .int 0, .int 0, .ref (q 17), .ref (q 18), .ref (q 19), .ref (q 20)]))]) (fun _ => rfl) (fun  u1 H locs hp hP hD hS => ?_)
  refine lv_aload_n hx hb dX9_same_4 rfl (lv_at hl 0 rfl) ?_
  refine lv_iload_n hx hb dX9_same_5 rfl (lv_at hl 1 rfl) ?_
  refine r_callVi (As := [.int x]) (rest := []) (wr := []) F hK hP hD hS hA hO hE (c_X9_inputWhy hO b q x) k_1530 kv_X9_inputWhy 1 rfl (by decide +kernel) ⟨Nat.le_of_ble_eq_true rfl, Nat.le_of_ble_eq_true rfl⟩ [0] [] rfl rfl (by decide) (by decide) (by decide) 0 9 rfl rfl rfl hl.1 rfl (Nat.le_of_ble_eq_true rfl) dX9_same_6 ⟨Nat.le_of_ble_eq_true rfl, Nat.le_of_ble_eq_true rfl⟩ (w1 := fun u2 => [(b, .inr (9, [.int 0, .ref (q 0), .int 0, .int 0, .int 0, .int 0, .int 0, .int 0, .int 0, .int 0, .int (-1), .int 0, .ref (q 1), .int 0, .int 0, .ref (q 2), .ref (q 3), .ref (q 4), .ref (q 5), .ref (q 6), .ref (q 7), .ref (q 8), .ref (q 9), .ref (q 10), .ref (q 11), .ref (q 12), .ref (q 13), .ref (q 14), .ref (q 15), .ref (q 16), .int 0, .int 0, .int 0, .int 0, .int 0, .int 0, .ref (q 17), .ref (q 18), .ref (q 19), .ref (q 20)]))]) (fun _ => rfl) (fun r3 u2 H locs hp hP hD hS => ?_)
  subst hp
  refine lv_istore_n (lv' := [(2, .int 1), (0, .ref b), (1, .int x)]) hx hb dX9_same_9 rfl hl (by decide) rfl (fun ls hl => ?_)
  refine lv_iload_n hx hb dX9_same_10 rfl (lv_at hl 0 rfl) ?_
  refine lv_if_eq (tgt := 20) hx hb dX9_same_11 (by decide) (fun h9 => absurd h9 (by decide)) (fun _ => ?_)
  refine lv_aload_n hx hb dX9_same_14 rfl (lv_at hl 1 rfl) ?_
  refine lv_iload_n hx hb dX9_same_15 rfl (lv_at hl 0 rfl) ?_
  refine r_callVi (As := [.int 1]) (rest := []) (wr := []) F hK hP hD hS hA hO hE (c_X9_no hO b q 1) k_1303 kv_X9_no 1 rfl (by decide +kernel) ⟨Nat.le_of_ble_eq_true rfl, Nat.le_of_ble_eq_true rfl⟩ [0] [] rfl rfl (by decide) (by decide) (by decide) 0 9 rfl rfl rfl hl.1 rfl (Nat.le_of_ble_eq_true rfl) dX9_same_16 ⟨Nat.le_of_ble_eq_true rfl, Nat.le_of_ble_eq_true rfl⟩ (w1 := fun u4 => []) (fun _ => rfl) (fun r5 u4 H locs hp hP hD hS => ?_)
  subst hp
  exact ret (-1) (fun _ => 0, fun _ _ => 0) _ _ _ _ _ _ rfl rfl (bw_subP (isC := []) hP rfl) (hD.sub [] (by decide) rfl) hS (Nat.le_of_ble_eq_true rfl) (Nat.le_of_ble_eq_true rfl) dX9_same_19
theorem dX9_least_0 : decode cX9_least 0 = .ok (.aload_n 0, 1) := by decide +kernel
theorem dX9_least_1 : decode cX9_least 1 = .ok (.invokevirtual 197, 3) := by decide +kernel
theorem dX9_least_4 : decode cX9_least 4 = .ok (.aload_n 0, 1) := by decide +kernel
theorem dX9_least_5 : decode cX9_least 5 = .ok (.iload_n 1, 1) := by decide +kernel
theorem dX9_least_6 : decode cX9_least 6 = .ok (.invokevirtual 379, 3) := by decide +kernel
theorem k_1685 : Cond.methodLink RX9 379 yX9_leastWhy ∈ bw_T := bw_m 1685 (by decide +kernel) rfl
theorem kv_X9_leastWhy : bw_KV RX9 yX9_leastWhy (Cond.code yX9_leastWhy cX9_leastWhy 2 (some .int)) := ⟨bw_m 1687 (by decide +kernel) rfl, bw_m 88 (by decide +kernel) rfl, bw_m 107 (by decide +kernel) rfl, bw_m 1688 (by decide +kernel) rfl⟩
theorem dX9_least_9 : decode cX9_least 9 = .ok (.istore_n 2, 1) := by decide +kernel
theorem dX9_least_10 : decode cX9_least 10 = .ok (.iload_n 2, 1) := by decide +kernel
theorem dX9_least_11 : decode cX9_least 11 = .ok (.ifCond .eq 11, 3) := by decide +kernel
theorem dX9_least_14 : decode cX9_least 14 = .ok (.aload_n 0, 1) := by decide +kernel
theorem dX9_least_15 : decode cX9_least 15 = .ok (.iload_n 2, 1) := by decide +kernel
theorem dX9_least_16 : decode cX9_least 16 = .ok (.invokevirtual 200, 3) := by decide +kernel
theorem dX9_least_19 : decode cX9_least 19 = .ok (.goto 8, 3) := by decide +kernel
theorem dX9_least_27 : decode cX9_least 27 = .ok (.ireturn, 1) := by decide +kernel
abbrev rm_X9_least : Room := { frames := 1, cells := 0, slots := 0, locals := 21 }
set_option maxRecDepth 100000 in
set_option maxHeartbeats 4000000 in
theorem c_X9_least {l : Launch} {E : (Nat → Prop) → State → Prop} (hO : bw_Ok E) {G : va_G} {cI cB cJ cN cW : ClassId} (b : Nat) (q : Nat → Nat) (x : Int32) : bw_Ci (S := bw_U) l yX9_least (bw_ws (Cond.code yX9_least cX9_least 3 (some .int))) rm_X9_least E G (bw_kt cI cB cJ cN cW) [.ref b, .int x] [(b, .inr (9, [.int 0, .ref (q 0), .int 0, .int 0, .int 0, .int 0, .int 0, .int 0, .int 0, .int 0, .int (-1), .int 0, .ref (q 1), .int 0, .int 0, .ref (q 2), .ref (q 3), .ref (q 4), .ref (q 5), .ref (q 6), .ref (q 7), .ref (q 8), .ref (q 9), .ref (q 10), .ref (q 11), .ref (q 12), .ref (q 13), .ref (q 14), .ref (q 15), .ref (q 16), .int 0, .int 0, .int 0, .int 0, .int 0, .int 0, .ref (q 17), .ref (q 18), .ref (q 19), .ref (q 20)]))] (fun r _ => r = -1) (fun _ => []) := by
  refine bw_Ci.of (cc := cX9_least) (maxL := 3) (ty := .int) (by decide) rfl (Nat.le_of_ble_eq_true rfl) ?_
  intro p e s m below meth c A Q hx hb hml hts hown hin hK hA hS hP hD hE ret ls hl
  have F : CallFix p m c cX9_least 3 s ([.ref b, .int x] : List Value).toArray bw_T RX9 := ⟨hx, hb, hml, hown, fun w h => hts w (List.mem_cons_of_mem _ h)⟩
  have hl : lv_has ls 3 [(0, .ref b), (1, .int x)] := hl
  refine lv_aload_n hx hb dX9_least_0 rfl (lv_at hl 0 rfl) ?_
  refine r_callVv (As := []) (rest := []) (wr := []) F hK hP hD hS hA hO hE (c_X9_good hO b q) k_1296 kv_X9_good 0 rfl (by decide +kernel) ⟨Nat.le_of_ble_eq_true rfl, Nat.le_of_ble_eq_true rfl⟩ [0] [] rfl rfl (by decide) (by decide) (by decide) 0 9 rfl rfl rfl hl.1 rfl (Nat.le_of_ble_eq_true rfl) dX9_least_1 ⟨Nat.le_of_ble_eq_true rfl, Nat.le_of_ble_eq_true rfl⟩ (w1 := fun u1 => [(b, .inr (9, [.int 0, .ref (q 0), .int 0, .int 0, .int 0, .int 0, .int 0, .int 0, .int 0, .int 0, .int (-1), .int 0, .ref (q 1), .int 0, .int 0, .ref (q 2), .ref (q 3), .ref (q 4), .ref (q 5), .ref (q 6), .ref (q 7), .ref (q 8), .ref (q 9), .ref (q 10), .ref (q 11), .ref (q 12), .ref (q 13), .ref (q 14), .ref (q 15), .ref (q 16), .int 0, .int 0, .int 0, .int 0, .int 0, .int 0, .ref (q 17), .ref (q 18), .ref (q 19), .ref (q 20)]))]) (fun _ => rfl) (fun  u1 H locs hp hP hD hS => ?_)
  refine lv_aload_n hx hb dX9_least_4 rfl (lv_at hl 0 rfl) ?_
  refine lv_iload_n hx hb dX9_least_5 rfl (lv_at hl 1 rfl) ?_
  refine r_callVi (As := [.int x]) (rest := []) (wr := []) F hK hP hD hS hA hO hE (c_X9_leastWhy hO b q x) k_1685 kv_X9_leastWhy 1 rfl (by decide +kernel) ⟨Nat.le_of_ble_eq_true rfl, Nat.le_of_ble_eq_true rfl⟩ [0] [] rfl rfl (by decide) (by decide) (by decide) 0 9 rfl rfl rfl hl.1 rfl (Nat.le_of_ble_eq_true rfl) dX9_least_6 ⟨Nat.le_of_ble_eq_true rfl, Nat.le_of_ble_eq_true rfl⟩ (w1 := fun u2 => [(b, .inr (9, [.int 0, .ref (q 0), .int 0, .int 0, .int 0, .int 0, .int 0, .int 0, .int 0, .int 0, .int (-1), .int 0, .ref (q 1), .int 0, .int 0, .ref (q 2), .ref (q 3), .ref (q 4), .ref (q 5), .ref (q 6), .ref (q 7), .ref (q 8), .ref (q 9), .ref (q 10), .ref (q 11), .ref (q 12), .ref (q 13), .ref (q 14), .ref (q 15), .ref (q 16), .int 0, .int 0, .int 0, .int 0, .int 0, .int 0, .ref (q 17), .ref (q 18), .ref (q 19), .ref (q 20)]))]) (fun _ => rfl) (fun r3 u2 H locs hp hP hD hS => ?_)
  subst hp
  refine lv_istore_n (lv' := [(2, .int 1), (0, .ref b), (1, .int x)]) hx hb dX9_least_9 rfl hl (by decide) rfl (fun ls hl => ?_)
  refine lv_iload_n hx hb dX9_least_10 rfl (lv_at hl 0 rfl) ?_
  refine lv_if_eq (tgt := 22) hx hb dX9_least_11 (by decide) (fun h9 => absurd h9 (by decide)) (fun _ => ?_)
  refine lv_aload_n hx hb dX9_least_14 rfl (lv_at hl 1 rfl) ?_
  refine lv_iload_n hx hb dX9_least_15 rfl (lv_at hl 0 rfl) ?_
  refine r_callVi (As := [.int 1]) (rest := []) (wr := []) F hK hP hD hS hA hO hE (c_X9_no hO b q 1) k_1303 kv_X9_no 1 rfl (by decide +kernel) ⟨Nat.le_of_ble_eq_true rfl, Nat.le_of_ble_eq_true rfl⟩ [0] [] rfl rfl (by decide) (by decide) (by decide) 0 9 rfl rfl rfl hl.1 rfl (Nat.le_of_ble_eq_true rfl) dX9_least_16 ⟨Nat.le_of_ble_eq_true rfl, Nat.le_of_ble_eq_true rfl⟩ (w1 := fun u4 => []) (fun _ => rfl) (fun r5 u4 H locs hp hP hD hS => ?_)
  subst hp
  refine lv_goto (tgt := 27) hx hb dX9_least_19 (by decide) ?_
  exact ret (-1) (fun _ => 0, fun _ _ => 0) _ _ _ _ _ _ rfl rfl (bw_subP (isC := []) hP rfl) (hD.sub [] (by decide) rfl) hS (Nat.le_of_ble_eq_true rfl) (Nat.le_of_ble_eq_true rfl) dX9_least_27
theorem dX9_parted_0 : decode cX9_parted 0 = .ok (.aload_n 0, 1) := by decide +kernel
theorem dX9_parted_1 : decode cX9_parted 1 = .ok (.invokevirtual 197, 3) := by decide +kernel
theorem dX9_parted_4 : decode cX9_parted 4 = .ok (.aload_n 0, 1) := by decide +kernel
theorem dX9_parted_5 : decode cX9_parted 5 = .ok (.getfield 222, 3) := by decide +kernel
theorem dX9_parted_8 : decode cX9_parted 8 = .ok (.ifCond .eq 31, 3) := by decide +kernel
theorem dX9_parted_39 : decode cX9_parted 39 = .ok (.aload_n 0, 1) := by decide +kernel
theorem dX9_parted_40 : decode cX9_parted 40 = .ok (.iconst 1, 1) := by decide +kernel
theorem dX9_parted_41 : decode cX9_parted 41 = .ok (.invokevirtual 200, 3) := by decide +kernel
theorem dX9_parted_44 : decode cX9_parted 44 = .ok (.ireturn, 1) := by decide +kernel
abbrev rm_X9_parted : Room := { frames := 1, cells := 0, slots := 0, locals := 21 }
set_option maxRecDepth 100000 in
set_option maxHeartbeats 4000000 in
theorem c_X9_parted {l : Launch} {E : (Nat → Prop) → State → Prop} (hO : bw_Ok E) {G : va_G} {cI cB cJ cN cW : ClassId} (b : Nat) (q : Nat → Nat) (x : Int32) (y : Int32) : bw_Ci (S := bw_U) l yX9_parted (bw_ws (Cond.code yX9_parted cX9_parted 4 (some .int))) rm_X9_parted E G (bw_kt cI cB cJ cN cW) [.ref b, .int x, .int y] [(b, .inr (9, [.int 0, .ref (q 0), .int 0, .int 0, .int 0, .int 0, .int 0, .int 0, .int 0, .int 0, .int (-1), .int 0, .ref (q 1), .int 0, .int 0, .ref (q 2), .ref (q 3), .ref (q 4), .ref (q 5), .ref (q 6), .ref (q 7), .ref (q 8), .ref (q 9), .ref (q 10), .ref (q 11), .ref (q 12), .ref (q 13), .ref (q 14), .ref (q 15), .ref (q 16), .int 0, .int 0, .int 0, .int 0, .int 0, .int 0, .ref (q 17), .ref (q 18), .ref (q 19), .ref (q 20)]))] (fun r _ => r = -1) (fun _ => []) := by
  refine bw_Ci.of (cc := cX9_parted) (maxL := 4) (ty := .int) (by decide) rfl (Nat.le_of_ble_eq_true rfl) ?_
  intro p e s m below meth c A Q hx hb hml hts hown hin hK hA hS hP hD hE ret ls hl
  have F : CallFix p m c cX9_parted 4 s ([.ref b, .int x, .int y] : List Value).toArray bw_T RX9 := ⟨hx, hb, hml, hown, fun w h => hts w (List.mem_cons_of_mem _ h)⟩
  have hl : lv_has ls 4 [(0, .ref b), (1, .int x), (2, .int y)] := hl
  refine lv_aload_n hx hb dX9_parted_0 rfl (lv_at hl 0 rfl) ?_
  refine r_callVv (As := []) (rest := []) (wr := []) F hK hP hD hS hA hO hE (c_X9_good hO b q) k_1296 kv_X9_good 0 rfl (by decide +kernel) ⟨Nat.le_of_ble_eq_true rfl, Nat.le_of_ble_eq_true rfl⟩ [0] [] rfl rfl (by decide) (by decide) (by decide) 0 9 rfl rfl rfl hl.1 rfl (Nat.le_of_ble_eq_true rfl) dX9_parted_1 ⟨Nat.le_of_ble_eq_true rfl, Nat.le_of_ble_eq_true rfl⟩ (w1 := fun u1 => [(b, .inr (9, [.int 0, .ref (q 0), .int 0, .int 0, .int 0, .int 0, .int 0, .int 0, .int 0, .int 0, .int (-1), .int 0, .ref (q 1), .int 0, .int 0, .ref (q 2), .ref (q 3), .ref (q 4), .ref (q 5), .ref (q 6), .ref (q 7), .ref (q 8), .ref (q 9), .ref (q 10), .ref (q 11), .ref (q 12), .ref (q 13), .ref (q 14), .ref (q 15), .ref (q 16), .int 0, .int 0, .int 0, .int 0, .int 0, .int 0, .ref (q 17), .ref (q 18), .ref (q 19), .ref (q 20)]))]) (fun _ => rfl) (fun  u1 H locs hp hP hD hS => ?_)
  refine lv_aload_n hx hb dX9_parted_4 rfl (lv_at hl 0 rfl) ?_
  refine r_get F hK hP 0 14 rfl rfl in_X9 (by decide) k_1177 rfl dX9_parted_5 ?_
  refine lv_if_eq (tgt := 39) hx hb dX9_parted_8 (by decide) (fun _ => ?_) (fun h9 => absurd (by decide) h9)
  refine lv_aload_n hx hb dX9_parted_39 rfl (lv_at hl 0 rfl) ?_
  refine lv_iconst (v := 1) hx hb dX9_parted_40 (by decide) ?_
  refine r_callVi (As := [.int 1]) (rest := []) (wr := []) F hK hP hD hS hA hO hE (c_X9_no hO b q 1) k_1303 kv_X9_no 1 rfl (by decide +kernel) ⟨Nat.le_of_ble_eq_true rfl, Nat.le_of_ble_eq_true rfl⟩ [0] [] rfl rfl (by decide) (by decide) (by decide) 0 9 rfl rfl rfl hl.1 rfl (Nat.le_of_ble_eq_true rfl) dX9_parted_41 ⟨Nat.le_of_ble_eq_true rfl, Nat.le_of_ble_eq_true rfl⟩ (w1 := fun u2 => []) (fun _ => rfl) (fun r3 u2 H locs hp hP hD hS => ?_)
  subst hp
  exact ret (-1) (fun _ => 0, fun _ _ => 0) _ _ _ _ _ _ rfl rfl (bw_subP (isC := []) hP rfl) (hD.sub [] (by decide) rfl) hS (Nat.le_of_ble_eq_true rfl) (Nat.le_of_ble_eq_true rfl) dX9_parted_44
theorem dX9_ends_0 : decode cX9_ends 0 = .ok (.aload_n 0, 1) := by decide +kernel
theorem dX9_ends_1 : decode cX9_ends 1 = .ok (.invokevirtual 197, 3) := by decide +kernel
theorem dX9_ends_4 : decode cX9_ends 4 = .ok (.aload_n 0, 1) := by decide +kernel
theorem dX9_ends_5 : decode cX9_ends 5 = .ok (.getfield 222, 3) := by decide +kernel
theorem dX9_ends_8 : decode cX9_ends 8 = .ok (.ifCond .eq 12, 3) := by decide +kernel
theorem dX9_ends_20 : decode cX9_ends 20 = .ok (.aload_n 0, 1) := by decide +kernel
theorem dX9_ends_21 : decode cX9_ends 21 = .ok (.iconst 1, 1) := by decide +kernel
theorem dX9_ends_22 : decode cX9_ends 22 = .ok (.invokevirtual 200, 3) := by decide +kernel
theorem dX9_ends_25 : decode cX9_ends 25 = .ok (.ireturn, 1) := by decide +kernel
abbrev rm_X9_ends : Room := { frames := 1, cells := 0, slots := 0, locals := 21 }
set_option maxRecDepth 100000 in
set_option maxHeartbeats 4000000 in
theorem c_X9_ends {l : Launch} {E : (Nat → Prop) → State → Prop} (hO : bw_Ok E) {G : va_G} {cI cB cJ cN cW : ClassId} (b : Nat) (q : Nat → Nat) (x : Int32) (y : Int32) : bw_Ci (S := bw_U) l yX9_ends (bw_ws (Cond.code yX9_ends cX9_ends 5 (some .int))) rm_X9_ends E G (bw_kt cI cB cJ cN cW) [.ref b, .int x, .int y] [(b, .inr (9, [.int 0, .ref (q 0), .int 0, .int 0, .int 0, .int 0, .int 0, .int 0, .int 0, .int 0, .int (-1), .int 0, .ref (q 1), .int 0, .int 0, .ref (q 2), .ref (q 3), .ref (q 4), .ref (q 5), .ref (q 6), .ref (q 7), .ref (q 8), .ref (q 9), .ref (q 10), .ref (q 11), .ref (q 12), .ref (q 13), .ref (q 14), .ref (q 15), .ref (q 16), .int 0, .int 0, .int 0, .int 0, .int 0, .int 0, .ref (q 17), .ref (q 18), .ref (q 19), .ref (q 20)]))] (fun r _ => r = -1) (fun _ => []) := by
  refine bw_Ci.of (cc := cX9_ends) (maxL := 5) (ty := .int) (by decide) rfl (Nat.le_of_ble_eq_true rfl) ?_
  intro p e s m below meth c A Q hx hb hml hts hown hin hK hA hS hP hD hE ret ls hl
  have F : CallFix p m c cX9_ends 5 s ([.ref b, .int x, .int y] : List Value).toArray bw_T RX9 := ⟨hx, hb, hml, hown, fun w h => hts w (List.mem_cons_of_mem _ h)⟩
  have hl : lv_has ls 5 [(0, .ref b), (1, .int x), (2, .int y)] := hl
  refine lv_aload_n hx hb dX9_ends_0 rfl (lv_at hl 0 rfl) ?_
  refine r_callVv (As := []) (rest := []) (wr := []) F hK hP hD hS hA hO hE (c_X9_good hO b q) k_1296 kv_X9_good 0 rfl (by decide +kernel) ⟨Nat.le_of_ble_eq_true rfl, Nat.le_of_ble_eq_true rfl⟩ [0] [] rfl rfl (by decide) (by decide) (by decide) 0 9 rfl rfl rfl hl.1 rfl (Nat.le_of_ble_eq_true rfl) dX9_ends_1 ⟨Nat.le_of_ble_eq_true rfl, Nat.le_of_ble_eq_true rfl⟩ (w1 := fun u1 => [(b, .inr (9, [.int 0, .ref (q 0), .int 0, .int 0, .int 0, .int 0, .int 0, .int 0, .int 0, .int 0, .int (-1), .int 0, .ref (q 1), .int 0, .int 0, .ref (q 2), .ref (q 3), .ref (q 4), .ref (q 5), .ref (q 6), .ref (q 7), .ref (q 8), .ref (q 9), .ref (q 10), .ref (q 11), .ref (q 12), .ref (q 13), .ref (q 14), .ref (q 15), .ref (q 16), .int 0, .int 0, .int 0, .int 0, .int 0, .int 0, .ref (q 17), .ref (q 18), .ref (q 19), .ref (q 20)]))]) (fun _ => rfl) (fun  u1 H locs hp hP hD hS => ?_)
  refine lv_aload_n hx hb dX9_ends_4 rfl (lv_at hl 0 rfl) ?_
  refine r_get F hK hP 0 14 rfl rfl in_X9 (by decide) k_1177 rfl dX9_ends_5 ?_
  refine lv_if_eq (tgt := 20) hx hb dX9_ends_8 (by decide) (fun _ => ?_) (fun h9 => absurd (by decide) h9)
  refine lv_aload_n hx hb dX9_ends_20 rfl (lv_at hl 0 rfl) ?_
  refine lv_iconst (v := 1) hx hb dX9_ends_21 (by decide) ?_
  refine r_callVi (As := [.int 1]) (rest := []) (wr := []) F hK hP hD hS hA hO hE (c_X9_no hO b q 1) k_1303 kv_X9_no 1 rfl (by decide +kernel) ⟨Nat.le_of_ble_eq_true rfl, Nat.le_of_ble_eq_true rfl⟩ [0] [] rfl rfl (by decide) (by decide) (by decide) 0 9 rfl rfl rfl hl.1 rfl (Nat.le_of_ble_eq_true rfl) dX9_ends_22 ⟨Nat.le_of_ble_eq_true rfl, Nat.le_of_ble_eq_true rfl⟩ (w1 := fun u2 => []) (fun _ => rfl) (fun r3 u2 H locs hp hP hD hS => ?_)
  subst hp
  exact ret (-1) (fun _ => 0, fun _ _ => 0) _ _ _ _ _ _ rfl rfl (bw_subP (isC := []) hP rfl) (hD.sub [] (by decide) rfl) hS (Nat.le_of_ble_eq_true rfl) (Nat.le_of_ble_eq_true rfl) dX9_ends_25
theorem dX9_first_0 : decode cX9_first 0 = .ok (.aload_n 0, 1) := by decide +kernel
theorem dX9_first_1 : decode cX9_first 1 = .ok (.invokevirtual 197, 3) := by decide +kernel
theorem dX9_first_4 : decode cX9_first 4 = .ok (.aload_n 0, 1) := by decide +kernel
theorem dX9_first_5 : decode cX9_first 5 = .ok (.getfield 222, 3) := by decide +kernel
theorem dX9_first_8 : decode cX9_first 8 = .ok (.ifCond .eq 17, 3) := by decide +kernel
theorem dX9_first_25 : decode cX9_first 25 = .ok (.aload_n 0, 1) := by decide +kernel
theorem dX9_first_26 : decode cX9_first 26 = .ok (.iconst 1, 1) := by decide +kernel
theorem dX9_first_27 : decode cX9_first 27 = .ok (.invokevirtual 200, 3) := by decide +kernel
theorem dX9_first_30 : decode cX9_first 30 = .ok (.ireturn, 1) := by decide +kernel
abbrev rm_X9_first : Room := { frames := 1, cells := 0, slots := 0, locals := 21 }
set_option maxRecDepth 100000 in
set_option maxHeartbeats 4000000 in
theorem c_X9_first {l : Launch} {E : (Nat → Prop) → State → Prop} (hO : bw_Ok E) {G : va_G} {cI cB cJ cN cW : ClassId} (b : Nat) (q : Nat → Nat) (x : Int32) (y : Int32) : bw_Ci (S := bw_U) l yX9_first (bw_ws (Cond.code yX9_first cX9_first 4 (some .int))) rm_X9_first E G (bw_kt cI cB cJ cN cW) [.ref b, .int x, .int y] [(b, .inr (9, [.int 0, .ref (q 0), .int 0, .int 0, .int 0, .int 0, .int 0, .int 0, .int 0, .int 0, .int (-1), .int 0, .ref (q 1), .int 0, .int 0, .ref (q 2), .ref (q 3), .ref (q 4), .ref (q 5), .ref (q 6), .ref (q 7), .ref (q 8), .ref (q 9), .ref (q 10), .ref (q 11), .ref (q 12), .ref (q 13), .ref (q 14), .ref (q 15), .ref (q 16), .int 0, .int 0, .int 0, .int 0, .int 0, .int 0, .ref (q 17), .ref (q 18), .ref (q 19), .ref (q 20)]))] (fun r _ => r = -1) (fun _ => []) := by
  refine bw_Ci.of (cc := cX9_first) (maxL := 4) (ty := .int) (by decide) rfl (Nat.le_of_ble_eq_true rfl) ?_
  intro p e s m below meth c A Q hx hb hml hts hown hin hK hA hS hP hD hE ret ls hl
  have F : CallFix p m c cX9_first 4 s ([.ref b, .int x, .int y] : List Value).toArray bw_T RX9 := ⟨hx, hb, hml, hown, fun w h => hts w (List.mem_cons_of_mem _ h)⟩
  have hl : lv_has ls 4 [(0, .ref b), (1, .int x), (2, .int y)] := hl
  refine lv_aload_n hx hb dX9_first_0 rfl (lv_at hl 0 rfl) ?_
  refine r_callVv (As := []) (rest := []) (wr := []) F hK hP hD hS hA hO hE (c_X9_good hO b q) k_1296 kv_X9_good 0 rfl (by decide +kernel) ⟨Nat.le_of_ble_eq_true rfl, Nat.le_of_ble_eq_true rfl⟩ [0] [] rfl rfl (by decide) (by decide) (by decide) 0 9 rfl rfl rfl hl.1 rfl (Nat.le_of_ble_eq_true rfl) dX9_first_1 ⟨Nat.le_of_ble_eq_true rfl, Nat.le_of_ble_eq_true rfl⟩ (w1 := fun u1 => [(b, .inr (9, [.int 0, .ref (q 0), .int 0, .int 0, .int 0, .int 0, .int 0, .int 0, .int 0, .int 0, .int (-1), .int 0, .ref (q 1), .int 0, .int 0, .ref (q 2), .ref (q 3), .ref (q 4), .ref (q 5), .ref (q 6), .ref (q 7), .ref (q 8), .ref (q 9), .ref (q 10), .ref (q 11), .ref (q 12), .ref (q 13), .ref (q 14), .ref (q 15), .ref (q 16), .int 0, .int 0, .int 0, .int 0, .int 0, .int 0, .ref (q 17), .ref (q 18), .ref (q 19), .ref (q 20)]))]) (fun _ => rfl) (fun  u1 H locs hp hP hD hS => ?_)
  refine lv_aload_n hx hb dX9_first_4 rfl (lv_at hl 0 rfl) ?_
  refine r_get F hK hP 0 14 rfl rfl in_X9 (by decide) k_1177 rfl dX9_first_5 ?_
  refine lv_if_eq (tgt := 25) hx hb dX9_first_8 (by decide) (fun _ => ?_) (fun h9 => absurd (by decide) h9)
  refine lv_aload_n hx hb dX9_first_25 rfl (lv_at hl 0 rfl) ?_
  refine lv_iconst (v := 1) hx hb dX9_first_26 (by decide) ?_
  refine r_callVi (As := [.int 1]) (rest := []) (wr := []) F hK hP hD hS hA hO hE (c_X9_no hO b q 1) k_1303 kv_X9_no 1 rfl (by decide +kernel) ⟨Nat.le_of_ble_eq_true rfl, Nat.le_of_ble_eq_true rfl⟩ [0] [] rfl rfl (by decide) (by decide) (by decide) 0 9 rfl rfl rfl hl.1 rfl (Nat.le_of_ble_eq_true rfl) dX9_first_27 ⟨Nat.le_of_ble_eq_true rfl, Nat.le_of_ble_eq_true rfl⟩ (w1 := fun u2 => []) (fun _ => rfl) (fun r3 u2 H locs hp hP hD hS => ?_)
  subst hp
  exact ret (-1) (fun _ => 0, fun _ _ => 0) _ _ _ _ _ _ rfl rfl (bw_subP (isC := []) hP rfl) (hD.sub [] (by decide) rfl) hS (Nat.le_of_ble_eq_true rfl) (Nat.le_of_ble_eq_true rfl) dX9_first_30
theorem dX9_most_0 : decode cX9_most 0 = .ok (.aload_n 0, 1) := by decide +kernel
theorem dX9_most_1 : decode cX9_most 1 = .ok (.invokevirtual 197, 3) := by decide +kernel
theorem dX9_most_4 : decode cX9_most 4 = .ok (.aload_n 0, 1) := by decide +kernel
theorem dX9_most_5 : decode cX9_most 5 = .ok (.iload_n 1, 1) := by decide +kernel
theorem dX9_most_6 : decode cX9_most 6 = .ok (.iload_n 2, 1) := by decide +kernel
theorem dX9_most_7 : decode cX9_most 7 = .ok (.invokevirtual 351, 3) := by decide +kernel
theorem k_1633 : Cond.methodLink RX9 351 yX9_wayWhy ∈ bw_T := bw_m 1633 (by decide +kernel) rfl
theorem kv_X9_wayWhy : bw_KV RX9 yX9_wayWhy (Cond.code yX9_wayWhy cX9_wayWhy 3 (some .int)) := ⟨bw_m 1635 (by decide +kernel) rfl, bw_m 82 (by decide +kernel) rfl, bw_m 107 (by decide +kernel) rfl, bw_m 1636 (by decide +kernel) rfl⟩
theorem dX9_most_10 : decode cX9_most 10 = .ok (.istore_n 3, 1) := by decide +kernel
theorem dX9_most_11 : decode cX9_most 11 = .ok (.iload_n 3, 1) := by decide +kernel
theorem dX9_most_12 : decode cX9_most 12 = .ok (.ifCond .eq 9, 3) := by decide +kernel
theorem dX9_most_15 : decode cX9_most 15 = .ok (.aload_n 0, 1) := by decide +kernel
theorem dX9_most_16 : decode cX9_most 16 = .ok (.iload_n 3, 1) := by decide +kernel
theorem dX9_most_17 : decode cX9_most 17 = .ok (.invokevirtual 200, 3) := by decide +kernel
theorem dX9_most_20 : decode cX9_most 20 = .ok (.ireturn, 1) := by decide +kernel
abbrev rm_X9_most : Room := { frames := 2, cells := 0, slots := 0, locals := 43 }
set_option maxRecDepth 100000 in
set_option maxHeartbeats 4000000 in
theorem c_X9_most {l : Launch} {E : (Nat → Prop) → State → Prop} (hO : bw_Ok E) {G : va_G} {cI cB cJ cN cW : ClassId} (b : Nat) (q : Nat → Nat) (x : Int32) (y : Int32) : bw_Ci (S := bw_U) l yX9_most (bw_ws (Cond.code yX9_most cX9_most 6 (some .int))) rm_X9_most E G (bw_kt cI cB cJ cN cW) [.ref b, .int x, .int y] [(b, .inr (9, [.int 0, .ref (q 0), .int 0, .int 0, .int 0, .int 0, .int 0, .int 0, .int 0, .int 0, .int (-1), .int 0, .ref (q 1), .int 0, .int 0, .ref (q 2), .ref (q 3), .ref (q 4), .ref (q 5), .ref (q 6), .ref (q 7), .ref (q 8), .ref (q 9), .ref (q 10), .ref (q 11), .ref (q 12), .ref (q 13), .ref (q 14), .ref (q 15), .ref (q 16), .int 0, .int 0, .int 0, .int 0, .int 0, .int 0, .ref (q 17), .ref (q 18), .ref (q 19), .ref (q 20)]))] (fun r _ => r = -1) (fun _ => []) := by
  refine bw_Ci.of (cc := cX9_most) (maxL := 6) (ty := .int) (by decide) rfl (Nat.le_of_ble_eq_true rfl) ?_
  intro p e s m below meth c A Q hx hb hml hts hown hin hK hA hS hP hD hE ret ls hl
  have F : CallFix p m c cX9_most 6 s ([.ref b, .int x, .int y] : List Value).toArray bw_T RX9 := ⟨hx, hb, hml, hown, fun w h => hts w (List.mem_cons_of_mem _ h)⟩
  have hl : lv_has ls 6 [(0, .ref b), (1, .int x), (2, .int y)] := hl
  refine lv_aload_n hx hb dX9_most_0 rfl (lv_at hl 0 rfl) ?_
  refine r_callVv (As := []) (rest := []) (wr := []) F hK hP hD hS hA hO hE (c_X9_good hO b q) k_1296 kv_X9_good 0 rfl (by decide +kernel) ⟨Nat.le_of_ble_eq_true rfl, Nat.le_of_ble_eq_true rfl⟩ [0] [] rfl rfl (by decide) (by decide) (by decide) 0 9 rfl rfl rfl hl.1 rfl (Nat.le_of_ble_eq_true rfl) dX9_most_1 ⟨Nat.le_of_ble_eq_true rfl, Nat.le_of_ble_eq_true rfl⟩ (w1 := fun u1 => [(b, .inr (9, [.int 0, .ref (q 0), .int 0, .int 0, .int 0, .int 0, .int 0, .int 0, .int 0, .int 0, .int (-1), .int 0, .ref (q 1), .int 0, .int 0, .ref (q 2), .ref (q 3), .ref (q 4), .ref (q 5), .ref (q 6), .ref (q 7), .ref (q 8), .ref (q 9), .ref (q 10), .ref (q 11), .ref (q 12), .ref (q 13), .ref (q 14), .ref (q 15), .ref (q 16), .int 0, .int 0, .int 0, .int 0, .int 0, .int 0, .ref (q 17), .ref (q 18), .ref (q 19), .ref (q 20)]))]) (fun _ => rfl) (fun  u1 H locs hp hP hD hS => ?_)
  refine lv_aload_n hx hb dX9_most_4 rfl (lv_at hl 0 rfl) ?_
  refine lv_iload_n hx hb dX9_most_5 rfl (lv_at hl 1 rfl) ?_
  refine lv_iload_n hx hb dX9_most_6 rfl (lv_at hl 2 rfl) ?_
  refine r_callVi (As := [.int x, .int y]) (rest := []) (wr := []) F hK hP hD hS hA hO hE (c_X9_wayWhy hO b q x y) k_1633 kv_X9_wayWhy 2 rfl (by decide +kernel) ⟨Nat.le_of_ble_eq_true rfl, Nat.le_of_ble_eq_true rfl⟩ [0] [] rfl rfl (by decide) (by decide) (by decide) 0 9 rfl rfl rfl hl.1 rfl (Nat.le_of_ble_eq_true rfl) dX9_most_7 ⟨Nat.le_of_ble_eq_true rfl, Nat.le_of_ble_eq_true rfl⟩ (w1 := fun u2 => [(b, .inr (9, [.int 0, .ref (q 0), .int 0, .int 0, .int 0, .int 0, .int 0, .int 0, .int 0, .int 0, .int (-1), .int 0, .ref (q 1), .int 0, .int 0, .ref (q 2), .ref (q 3), .ref (q 4), .ref (q 5), .ref (q 6), .ref (q 7), .ref (q 8), .ref (q 9), .ref (q 10), .ref (q 11), .ref (q 12), .ref (q 13), .ref (q 14), .ref (q 15), .ref (q 16), .int 0, .int 0, .int 0, .int 0, .int 0, .int 0, .ref (q 17), .ref (q 18), .ref (q 19), .ref (q 20)]))]) (fun _ => rfl) (fun r3 u2 H locs hp hP hD hS => ?_)
  subst hp
  refine lv_istore_n (lv' := [(3, .int 1), (0, .ref b), (1, .int x), (2, .int y)]) hx hb dX9_most_10 rfl hl (by decide) rfl (fun ls hl => ?_)
  refine lv_iload_n hx hb dX9_most_11 rfl (lv_at hl 0 rfl) ?_
  refine lv_if_eq (tgt := 21) hx hb dX9_most_12 (by decide) (fun h9 => absurd h9 (by decide)) (fun _ => ?_)
  refine lv_aload_n hx hb dX9_most_15 rfl (lv_at hl 1 rfl) ?_
  refine lv_iload_n hx hb dX9_most_16 rfl (lv_at hl 0 rfl) ?_
  refine r_callVi (As := [.int 1]) (rest := []) (wr := []) F hK hP hD hS hA hO hE (c_X9_no hO b q 1) k_1303 kv_X9_no 1 rfl (by decide +kernel) ⟨Nat.le_of_ble_eq_true rfl, Nat.le_of_ble_eq_true rfl⟩ [0] [] rfl rfl (by decide) (by decide) (by decide) 0 9 rfl rfl rfl hl.1 rfl (Nat.le_of_ble_eq_true rfl) dX9_most_17 ⟨Nat.le_of_ble_eq_true rfl, Nat.le_of_ble_eq_true rfl⟩ (w1 := fun u4 => []) (fun _ => rfl) (fun r5 u4 H locs hp hP hD hS => ?_)
  subst hp
  exact ret (-1) (fun _ => 0, fun _ _ => 0) _ _ _ _ _ _ rfl rfl (bw_subP (isC := []) hP rfl) (hD.sub [] (by decide) rfl) hS (Nat.le_of_ble_eq_true rfl) (Nat.le_of_ble_eq_true rfl) dX9_most_20
theorem dX9_spare_0 : decode cX9_spare 0 = .ok (.aload_n 0, 1) := by decide +kernel
theorem dX9_spare_1 : decode cX9_spare 1 = .ok (.invokevirtual 197, 3) := by decide +kernel
theorem dX9_spare_4 : decode cX9_spare 4 = .ok (.aload_n 0, 1) := by decide +kernel
theorem dX9_spare_5 : decode cX9_spare 5 = .ok (.iload_n 1, 1) := by decide +kernel
theorem dX9_spare_6 : decode cX9_spare 6 = .ok (.iload_n 2, 1) := by decide +kernel
theorem dX9_spare_7 : decode cX9_spare 7 = .ok (.invokevirtual 351, 3) := by decide +kernel
theorem dX9_spare_10 : decode cX9_spare 10 = .ok (.istore_n 3, 1) := by decide +kernel
theorem dX9_spare_11 : decode cX9_spare 11 = .ok (.iload_n 3, 1) := by decide +kernel
theorem dX9_spare_12 : decode cX9_spare 12 = .ok (.ifCond .eq 9, 3) := by decide +kernel
theorem dX9_spare_15 : decode cX9_spare 15 = .ok (.aload_n 0, 1) := by decide +kernel
theorem dX9_spare_16 : decode cX9_spare 16 = .ok (.iload_n 3, 1) := by decide +kernel
theorem dX9_spare_17 : decode cX9_spare 17 = .ok (.invokevirtual 200, 3) := by decide +kernel
theorem dX9_spare_20 : decode cX9_spare 20 = .ok (.ireturn, 1) := by decide +kernel
abbrev rm_X9_spare : Room := { frames := 2, cells := 0, slots := 0, locals := 43 }
set_option maxRecDepth 100000 in
set_option maxHeartbeats 4000000 in
theorem c_X9_spare {l : Launch} {E : (Nat → Prop) → State → Prop} (hO : bw_Ok E) {G : va_G} {cI cB cJ cN cW : ClassId} (b : Nat) (q : Nat → Nat) (x : Int32) (y : Int32) : bw_Ci (S := bw_U) l yX9_spare (bw_ws (Cond.code yX9_spare cX9_spare 7 (some .int))) rm_X9_spare E G (bw_kt cI cB cJ cN cW) [.ref b, .int x, .int y] [(b, .inr (9, [.int 0, .ref (q 0), .int 0, .int 0, .int 0, .int 0, .int 0, .int 0, .int 0, .int 0, .int (-1), .int 0, .ref (q 1), .int 0, .int 0, .ref (q 2), .ref (q 3), .ref (q 4), .ref (q 5), .ref (q 6), .ref (q 7), .ref (q 8), .ref (q 9), .ref (q 10), .ref (q 11), .ref (q 12), .ref (q 13), .ref (q 14), .ref (q 15), .ref (q 16), .int 0, .int 0, .int 0, .int 0, .int 0, .int 0, .ref (q 17), .ref (q 18), .ref (q 19), .ref (q 20)]))] (fun r _ => r = -1) (fun _ => []) := by
  refine bw_Ci.of (cc := cX9_spare) (maxL := 7) (ty := .int) (by decide) rfl (Nat.le_of_ble_eq_true rfl) ?_
  intro p e s m below meth c A Q hx hb hml hts hown hin hK hA hS hP hD hE ret ls hl
  have F : CallFix p m c cX9_spare 7 s ([.ref b, .int x, .int y] : List Value).toArray bw_T RX9 := ⟨hx, hb, hml, hown, fun w h => hts w (List.mem_cons_of_mem _ h)⟩
  have hl : lv_has ls 7 [(0, .ref b), (1, .int x), (2, .int y)] := hl
  refine lv_aload_n hx hb dX9_spare_0 rfl (lv_at hl 0 rfl) ?_
  refine r_callVv (As := []) (rest := []) (wr := []) F hK hP hD hS hA hO hE (c_X9_good hO b q) k_1296 kv_X9_good 0 rfl (by decide +kernel) ⟨Nat.le_of_ble_eq_true rfl, Nat.le_of_ble_eq_true rfl⟩ [0] [] rfl rfl (by decide) (by decide) (by decide) 0 9 rfl rfl rfl hl.1 rfl (Nat.le_of_ble_eq_true rfl) dX9_spare_1 ⟨Nat.le_of_ble_eq_true rfl, Nat.le_of_ble_eq_true rfl⟩ (w1 := fun u1 => [(b, .inr (9, [.int 0, .ref (q 0), .int 0, .int 0, .int 0, .int 0, .int 0, .int 0, .int 0, .int 0, .int (-1), .int 0, .ref (q 1), .int 0, .int 0, .ref (q 2), .ref (q 3), .ref (q 4), .ref (q 5), .ref (q 6), .ref (q 7), .ref (q 8), .ref (q 9), .ref (q 10), .ref (q 11), .ref (q 12), .ref (q 13), .ref (q 14), .ref (q 15), .ref (q 16), .int 0, .int 0, .int 0, .int 0, .int 0, .int 0, .ref (q 17), .ref (q 18), .ref (q 19), .ref (q 20)]))]) (fun _ => rfl) (fun  u1 H locs hp hP hD hS => ?_)
  refine lv_aload_n hx hb dX9_spare_4 rfl (lv_at hl 0 rfl) ?_
  refine lv_iload_n hx hb dX9_spare_5 rfl (lv_at hl 1 rfl) ?_
  refine lv_iload_n hx hb dX9_spare_6 rfl (lv_at hl 2 rfl) ?_
  refine r_callVi (As := [.int x, .int y]) (rest := []) (wr := []) F hK hP hD hS hA hO hE (c_X9_wayWhy hO b q x y) k_1633 kv_X9_wayWhy 2 rfl (by decide +kernel) ⟨Nat.le_of_ble_eq_true rfl, Nat.le_of_ble_eq_true rfl⟩ [0] [] rfl rfl (by decide) (by decide) (by decide) 0 9 rfl rfl rfl hl.1 rfl (Nat.le_of_ble_eq_true rfl) dX9_spare_7 ⟨Nat.le_of_ble_eq_true rfl, Nat.le_of_ble_eq_true rfl⟩ (w1 := fun u2 => [(b, .inr (9, [.int 0, .ref (q 0), .int 0, .int 0, .int 0, .int 0, .int 0, .int 0, .int 0, .int 0, .int (-1), .int 0, .ref (q 1), .int 0, .int 0, .ref (q 2), .ref (q 3), .ref (q 4), .ref (q 5), .ref (q 6), .ref (q 7), .ref (q 8), .ref (q 9), .ref (q 10), .ref (q 11), .ref (q 12), .ref (q 13), .ref (q 14), .ref (q 15), .ref (q 16), .int 0, .int 0, .int 0, .int 0, .int 0, .int 0, .ref (q 17), .ref (q 18), .ref (q 19), .ref (q 20)]))]) (fun _ => rfl) (fun r3 u2 H locs hp hP hD hS => ?_)
  subst hp
  refine lv_istore_n (lv' := [(3, .int 1), (0, .ref b), (1, .int x), (2, .int y)]) hx hb dX9_spare_10 rfl hl (by decide) rfl (fun ls hl => ?_)
  refine lv_iload_n hx hb dX9_spare_11 rfl (lv_at hl 0 rfl) ?_
  refine lv_if_eq (tgt := 21) hx hb dX9_spare_12 (by decide) (fun h9 => absurd h9 (by decide)) (fun _ => ?_)
  refine lv_aload_n hx hb dX9_spare_15 rfl (lv_at hl 1 rfl) ?_
  refine lv_iload_n hx hb dX9_spare_16 rfl (lv_at hl 0 rfl) ?_
  refine r_callVi (As := [.int 1]) (rest := []) (wr := []) F hK hP hD hS hA hO hE (c_X9_no hO b q 1) k_1303 kv_X9_no 1 rfl (by decide +kernel) ⟨Nat.le_of_ble_eq_true rfl, Nat.le_of_ble_eq_true rfl⟩ [0] [] rfl rfl (by decide) (by decide) (by decide) 0 9 rfl rfl rfl hl.1 rfl (Nat.le_of_ble_eq_true rfl) dX9_spare_17 ⟨Nat.le_of_ble_eq_true rfl, Nat.le_of_ble_eq_true rfl⟩ (w1 := fun u4 => []) (fun _ => rfl) (fun r5 u4 H locs hp hP hD hS => ?_)
  subst hp
  exact ret (-1) (fun _ => 0, fun _ _ => 0) _ _ _ _ _ _ rfl rfl (bw_subP (isC := []) hP rfl) (hD.sub [] (by decide) rfl) hS (Nat.le_of_ble_eq_true rfl) (Nat.le_of_ble_eq_true rfl) dX9_spare_20
theorem dX9_alike_0 : decode cX9_alike 0 = .ok (.aload_n 0, 1) := by decide +kernel
theorem dX9_alike_1 : decode cX9_alike 1 = .ok (.invokevirtual 197, 3) := by decide +kernel
theorem dX9_alike_4 : decode cX9_alike 4 = .ok (.aload_n 0, 1) := by decide +kernel
theorem dX9_alike_5 : decode cX9_alike 5 = .ok (.iload_n 1, 1) := by decide +kernel
theorem dX9_alike_6 : decode cX9_alike 6 = .ok (.iload_n 2, 1) := by decide +kernel
theorem dX9_alike_7 : decode cX9_alike 7 = .ok (.invokevirtual 358, 3) := by decide +kernel
theorem k_1653 : Cond.methodLink RX9 358 yX9_arePair ∈ bw_T := bw_m 1653 (by decide +kernel) rfl
theorem kv_X9_arePair : bw_KV RX9 yX9_arePair (Cond.code yX9_arePair cX9_arePair 3 (some .boolean)) := ⟨bw_m 1655 (by decide +kernel) rfl, bw_m 84 (by decide +kernel) rfl, bw_m 107 (by decide +kernel) rfl, bw_m 1656 (by decide +kernel) rfl⟩
theorem dX9_alike_10 : decode cX9_alike 10 = .ok (.ifCond .eq 24, 3) := by decide +kernel
theorem dX9_alike_34 : decode cX9_alike 34 = .ok (.aload_n 0, 1) := by decide +kernel
theorem dX9_alike_35 : decode cX9_alike 35 = .ok (.iconst 1, 1) := by decide +kernel
theorem dX9_alike_36 : decode cX9_alike 36 = .ok (.invokevirtual 200, 3) := by decide +kernel
theorem dX9_alike_39 : decode cX9_alike 39 = .ok (.ireturn, 1) := by decide +kernel
abbrev rm_X9_alike : Room := { frames := 1, cells := 0, slots := 0, locals := 22 }
set_option maxRecDepth 100000 in
set_option maxHeartbeats 4000000 in
theorem c_X9_alike {l : Launch} {E : (Nat → Prop) → State → Prop} (hO : bw_Ok E) {G : va_G} {cI cB cJ cN cW : ClassId} (b : Nat) (q : Nat → Nat) (x : Int32) (y : Int32) : bw_Ci (S := bw_U) l yX9_alike (bw_ws (Cond.code yX9_alike cX9_alike 3 (some .int))) rm_X9_alike E G (bw_kt cI cB cJ cN cW) [.ref b, .int x, .int y] [(b, .inr (9, [.int 0, .ref (q 0), .int 0, .int 0, .int 0, .int 0, .int 0, .int 0, .int 0, .int 0, .int (-1), .int 0, .ref (q 1), .int 0, .int 0, .ref (q 2), .ref (q 3), .ref (q 4), .ref (q 5), .ref (q 6), .ref (q 7), .ref (q 8), .ref (q 9), .ref (q 10), .ref (q 11), .ref (q 12), .ref (q 13), .ref (q 14), .ref (q 15), .ref (q 16), .int 0, .int 0, .int 0, .int 0, .int 0, .int 0, .ref (q 17), .ref (q 18), .ref (q 19), .ref (q 20)]))] (fun r _ => r = -1) (fun _ => []) := by
  refine bw_Ci.of (cc := cX9_alike) (maxL := 3) (ty := .int) (by decide) rfl (Nat.le_of_ble_eq_true rfl) ?_
  intro p e s m below meth c A Q hx hb hml hts hown hin hK hA hS hP hD hE ret ls hl
  have F : CallFix p m c cX9_alike 3 s ([.ref b, .int x, .int y] : List Value).toArray bw_T RX9 := ⟨hx, hb, hml, hown, fun w h => hts w (List.mem_cons_of_mem _ h)⟩
  have hl : lv_has ls 3 [(0, .ref b), (1, .int x), (2, .int y)] := hl
  refine lv_aload_n hx hb dX9_alike_0 rfl (lv_at hl 0 rfl) ?_
  refine r_callVv (As := []) (rest := []) (wr := []) F hK hP hD hS hA hO hE (c_X9_good hO b q) k_1296 kv_X9_good 0 rfl (by decide +kernel) ⟨Nat.le_of_ble_eq_true rfl, Nat.le_of_ble_eq_true rfl⟩ [0] [] rfl rfl (by decide) (by decide) (by decide) 0 9 rfl rfl rfl hl.1 rfl (Nat.le_of_ble_eq_true rfl) dX9_alike_1 ⟨Nat.le_of_ble_eq_true rfl, Nat.le_of_ble_eq_true rfl⟩ (w1 := fun u1 => [(b, .inr (9, [.int 0, .ref (q 0), .int 0, .int 0, .int 0, .int 0, .int 0, .int 0, .int 0, .int 0, .int (-1), .int 0, .ref (q 1), .int 0, .int 0, .ref (q 2), .ref (q 3), .ref (q 4), .ref (q 5), .ref (q 6), .ref (q 7), .ref (q 8), .ref (q 9), .ref (q 10), .ref (q 11), .ref (q 12), .ref (q 13), .ref (q 14), .ref (q 15), .ref (q 16), .int 0, .int 0, .int 0, .int 0, .int 0, .int 0, .ref (q 17), .ref (q 18), .ref (q 19), .ref (q 20)]))]) (fun _ => rfl) (fun  u1 H locs hp hP hD hS => ?_)
  refine lv_aload_n hx hb dX9_alike_4 rfl (lv_at hl 0 rfl) ?_
  refine lv_iload_n hx hb dX9_alike_5 rfl (lv_at hl 1 rfl) ?_
  refine lv_iload_n hx hb dX9_alike_6 rfl (lv_at hl 2 rfl) ?_
  refine r_callVi (As := [.int x, .int y]) (rest := []) (wr := []) F hK hP hD hS hA hO hE (c_X9_arePair hO b q x y) k_1653 kv_X9_arePair 2 rfl (by decide +kernel) ⟨Nat.le_of_ble_eq_true rfl, Nat.le_of_ble_eq_true rfl⟩ [0] [] rfl rfl (by decide) (by decide) (by decide) 0 9 rfl rfl rfl hl.1 rfl (Nat.le_of_ble_eq_true rfl) dX9_alike_7 ⟨Nat.le_of_ble_eq_true rfl, Nat.le_of_ble_eq_true rfl⟩ (w1 := fun u2 => [(b, .inr (9, [.int 0, .ref (q 0), .int 0, .int 0, .int 0, .int 0, .int 0, .int 0, .int 0, .int 0, .int (-1), .int 0, .ref (q 1), .int 0, .int 0, .ref (q 2), .ref (q 3), .ref (q 4), .ref (q 5), .ref (q 6), .ref (q 7), .ref (q 8), .ref (q 9), .ref (q 10), .ref (q 11), .ref (q 12), .ref (q 13), .ref (q 14), .ref (q 15), .ref (q 16), .int 0, .int 0, .int 0, .int 0, .int 0, .int 0, .ref (q 17), .ref (q 18), .ref (q 19), .ref (q 20)]))]) (fun _ => rfl) (fun r3 u2 H locs hp hP hD hS => ?_)
  subst hp
  refine lv_if_eq (tgt := 34) hx hb dX9_alike_10 (by decide) (fun _ => ?_) (fun h9 => absurd (by decide) h9)
  refine lv_aload_n hx hb dX9_alike_34 rfl (lv_at hl 0 rfl) ?_
  refine lv_iconst (v := 1) hx hb dX9_alike_35 (by decide) ?_
  refine r_callVi (As := [.int 1]) (rest := []) (wr := []) F hK hP hD hS hA hO hE (c_X9_no hO b q 1) k_1303 kv_X9_no 1 rfl (by decide +kernel) ⟨Nat.le_of_ble_eq_true rfl, Nat.le_of_ble_eq_true rfl⟩ [0] [] rfl rfl (by decide) (by decide) (by decide) 0 9 rfl rfl rfl hl.1 rfl (Nat.le_of_ble_eq_true rfl) dX9_alike_36 ⟨Nat.le_of_ble_eq_true rfl, Nat.le_of_ble_eq_true rfl⟩ (w1 := fun u4 => []) (fun _ => rfl) (fun r5 u4 H locs hp hP hD hS => ?_)
  subst hp
  exact ret (-1) (fun _ => 0, fun _ _ => 0) _ _ _ _ _ _ rfl rfl (bw_subP (isC := []) hP rfl) (hD.sub [] (by decide) rfl) hS (Nat.le_of_ble_eq_true rfl) (Nat.le_of_ble_eq_true rfl) dX9_alike_39
theorem dX9_line_0 : decode cX9_line 0 = .ok (.aload_n 0, 1) := by decide +kernel
theorem dX9_line_1 : decode cX9_line 1 = .ok (.invokevirtual 197, 3) := by decide +kernel
theorem dX9_line_4 : decode cX9_line 4 = .ok (.aload_n 0, 1) := by decide +kernel
theorem dX9_line_5 : decode cX9_line 5 = .ok (.getfield 222, 3) := by decide +kernel
theorem dX9_line_8 : decode cX9_line 8 = .ok (.ifCond .eq 27, 3) := by decide +kernel
theorem dX9_line_35 : decode cX9_line 35 = .ok (.aload_n 0, 1) := by decide +kernel
theorem dX9_line_36 : decode cX9_line 36 = .ok (.iconst 1, 1) := by decide +kernel
theorem dX9_line_37 : decode cX9_line 37 = .ok (.invokevirtual 200, 3) := by decide +kernel
theorem dX9_line_40 : decode cX9_line 40 = .ok (.ireturn, 1) := by decide +kernel
abbrev rm_X9_line : Room := { frames := 1, cells := 0, slots := 0, locals := 21 }
set_option maxRecDepth 100000 in
set_option maxHeartbeats 4000000 in
theorem c_X9_line {l : Launch} {E : (Nat → Prop) → State → Prop} (hO : bw_Ok E) {G : va_G} {cI cB cJ cN cW : ClassId} (b : Nat) (q : Nat → Nat) (x : Int32) (y : Int32) : bw_Ci (S := bw_U) l yX9_line (bw_ws (Cond.code yX9_line cX9_line 5 (some .int))) rm_X9_line E G (bw_kt cI cB cJ cN cW) [.ref b, .int x, .int y] [(b, .inr (9, [.int 0, .ref (q 0), .int 0, .int 0, .int 0, .int 0, .int 0, .int 0, .int 0, .int 0, .int (-1), .int 0, .ref (q 1), .int 0, .int 0, .ref (q 2), .ref (q 3), .ref (q 4), .ref (q 5), .ref (q 6), .ref (q 7), .ref (q 8), .ref (q 9), .ref (q 10), .ref (q 11), .ref (q 12), .ref (q 13), .ref (q 14), .ref (q 15), .ref (q 16), .int 0, .int 0, .int 0, .int 0, .int 0, .int 0, .ref (q 17), .ref (q 18), .ref (q 19), .ref (q 20)]))] (fun r _ => r = -1) (fun _ => []) := by
  refine bw_Ci.of (cc := cX9_line) (maxL := 5) (ty := .int) (by decide) rfl (Nat.le_of_ble_eq_true rfl) ?_
  intro p e s m below meth c A Q hx hb hml hts hown hin hK hA hS hP hD hE ret ls hl
  have F : CallFix p m c cX9_line 5 s ([.ref b, .int x, .int y] : List Value).toArray bw_T RX9 := ⟨hx, hb, hml, hown, fun w h => hts w (List.mem_cons_of_mem _ h)⟩
  have hl : lv_has ls 5 [(0, .ref b), (1, .int x), (2, .int y)] := hl
  refine lv_aload_n hx hb dX9_line_0 rfl (lv_at hl 0 rfl) ?_
  refine r_callVv (As := []) (rest := []) (wr := []) F hK hP hD hS hA hO hE (c_X9_good hO b q) k_1296 kv_X9_good 0 rfl (by decide +kernel) ⟨Nat.le_of_ble_eq_true rfl, Nat.le_of_ble_eq_true rfl⟩ [0] [] rfl rfl (by decide) (by decide) (by decide) 0 9 rfl rfl rfl hl.1 rfl (Nat.le_of_ble_eq_true rfl) dX9_line_1 ⟨Nat.le_of_ble_eq_true rfl, Nat.le_of_ble_eq_true rfl⟩ (w1 := fun u1 => [(b, .inr (9, [.int 0, .ref (q 0), .int 0, .int 0, .int 0, .int 0, .int 0, .int 0, .int 0, .int 0, .int (-1), .int 0, .ref (q 1), .int 0, .int 0, .ref (q 2), .ref (q 3), .ref (q 4), .ref (q 5), .ref (q 6), .ref (q 7), .ref (q 8), .ref (q 9), .ref (q 10), .ref (q 11), .ref (q 12), .ref (q 13), .ref (q 14), .ref (q 15), .ref (q 16), .int 0, .int 0, .int 0, .int 0, .int 0, .int 0, .ref (q 17), .ref (q 18), .ref (q 19), .ref (q 20)]))]) (fun _ => rfl) (fun  u1 H locs hp hP hD hS => ?_)
  refine lv_aload_n hx hb dX9_line_4 rfl (lv_at hl 0 rfl) ?_
  refine r_get F hK hP 0 14 rfl rfl in_X9 (by decide) k_1177 rfl dX9_line_5 ?_
  refine lv_if_eq (tgt := 35) hx hb dX9_line_8 (by decide) (fun _ => ?_) (fun h9 => absurd (by decide) h9)
  refine lv_aload_n hx hb dX9_line_35 rfl (lv_at hl 0 rfl) ?_
  refine lv_iconst (v := 1) hx hb dX9_line_36 (by decide) ?_
  refine r_callVi (As := [.int 1]) (rest := []) (wr := []) F hK hP hD hS hA hO hE (c_X9_no hO b q 1) k_1303 kv_X9_no 1 rfl (by decide +kernel) ⟨Nat.le_of_ble_eq_true rfl, Nat.le_of_ble_eq_true rfl⟩ [0] [] rfl rfl (by decide) (by decide) (by decide) 0 9 rfl rfl rfl hl.1 rfl (Nat.le_of_ble_eq_true rfl) dX9_line_37 ⟨Nat.le_of_ble_eq_true rfl, Nat.le_of_ble_eq_true rfl⟩ (w1 := fun u2 => []) (fun _ => rfl) (fun r3 u2 H locs hp hP hD hS => ?_)
  subst hp
  exact ret (-1) (fun _ => 0, fun _ _ => 0) _ _ _ _ _ _ rfl rfl (bw_subP (isC := []) hP rfl) (hD.sub [] (by decide) rfl) hS (Nat.le_of_ble_eq_true rfl) (Nat.le_of_ble_eq_true rfl) dX9_line_40
theorem dX9_unfair_0 : decode cX9_unfair 0 = .ok (.aload_n 0, 1) := by decide +kernel
theorem dX9_unfair_1 : decode cX9_unfair 1 = .ok (.invokevirtual 197, 3) := by decide +kernel
theorem dX9_unfair_4 : decode cX9_unfair 4 = .ok (.aload_n 0, 1) := by decide +kernel
theorem dX9_unfair_5 : decode cX9_unfair 5 = .ok (.iload_n 1, 1) := by decide +kernel
theorem dX9_unfair_6 : decode cX9_unfair 6 = .ok (.iload_n 2, 1) := by decide +kernel
theorem dX9_unfair_7 : decode cX9_unfair 7 = .ok (.invokevirtual 358, 3) := by decide +kernel
theorem dX9_unfair_10 : decode cX9_unfair 10 = .ok (.ifCond .ne 9, 3) := by decide +kernel
theorem dX9_unfair_13 : decode cX9_unfair 13 = .ok (.aload_n 0, 1) := by decide +kernel
theorem dX9_unfair_14 : decode cX9_unfair 14 = .ok (.iconst 1, 1) := by decide +kernel
theorem dX9_unfair_15 : decode cX9_unfair 15 = .ok (.invokevirtual 200, 3) := by decide +kernel
theorem dX9_unfair_18 : decode cX9_unfair 18 = .ok (.ireturn, 1) := by decide +kernel
abbrev rm_X9_unfair : Room := { frames := 1, cells := 0, slots := 0, locals := 22 }
set_option maxRecDepth 100000 in
set_option maxHeartbeats 4000000 in
theorem c_X9_unfair {l : Launch} {E : (Nat → Prop) → State → Prop} (hO : bw_Ok E) {G : va_G} {cI cB cJ cN cW : ClassId} (b : Nat) (q : Nat → Nat) (x : Int32) (y : Int32) (z : Int32) : bw_Ci (S := bw_U) l yX9_unfair (bw_ws (Cond.code yX9_unfair cX9_unfair 4 (some .int))) rm_X9_unfair E G (bw_kt cI cB cJ cN cW) [.ref b, .int x, .int y, .int z] [(b, .inr (9, [.int 0, .ref (q 0), .int 0, .int 0, .int 0, .int 0, .int 0, .int 0, .int 0, .int 0, .int (-1), .int 0, .ref (q 1), .int 0, .int 0, .ref (q 2), .ref (q 3), .ref (q 4), .ref (q 5), .ref (q 6), .ref (q 7), .ref (q 8), .ref (q 9), .ref (q 10), .ref (q 11), .ref (q 12), .ref (q 13), .ref (q 14), .ref (q 15), .ref (q 16), .int 0, .int 0, .int 0, .int 0, .int 0, .int 0, .ref (q 17), .ref (q 18), .ref (q 19), .ref (q 20)]))] (fun r _ => r = -1) (fun _ => []) := by
  refine bw_Ci.of (cc := cX9_unfair) (maxL := 4) (ty := .int) (by decide) rfl (Nat.le_of_ble_eq_true rfl) ?_
  intro p e s m below meth c A Q hx hb hml hts hown hin hK hA hS hP hD hE ret ls hl
  have F : CallFix p m c cX9_unfair 4 s ([.ref b, .int x, .int y, .int z] : List Value).toArray bw_T RX9 := ⟨hx, hb, hml, hown, fun w h => hts w (List.mem_cons_of_mem _ h)⟩
  have hl : lv_has ls 4 [(0, .ref b), (1, .int x), (2, .int y), (3, .int z)] := hl
  refine lv_aload_n hx hb dX9_unfair_0 rfl (lv_at hl 0 rfl) ?_
  refine r_callVv (As := []) (rest := []) (wr := []) F hK hP hD hS hA hO hE (c_X9_good hO b q) k_1296 kv_X9_good 0 rfl (by decide +kernel) ⟨Nat.le_of_ble_eq_true rfl, Nat.le_of_ble_eq_true rfl⟩ [0] [] rfl rfl (by decide) (by decide) (by decide) 0 9 rfl rfl rfl hl.1 rfl (Nat.le_of_ble_eq_true rfl) dX9_unfair_1 ⟨Nat.le_of_ble_eq_true rfl, Nat.le_of_ble_eq_true rfl⟩ (w1 := fun u1 => [(b, .inr (9, [.int 0, .ref (q 0), .int 0, .int 0, .int 0, .int 0, .int 0, .int 0, .int 0, .int 0, .int (-1), .int 0, .ref (q 1), .int 0, .int 0, .ref (q 2), .ref (q 3), .ref (q 4), .ref (q 5), .ref (q 6), .ref (q 7), .ref (q 8), .ref (q 9), .ref (q 10), .ref (q 11), .ref (q 12), .ref (q 13), .ref (q 14), .ref (q 15), .ref (q 16), .int 0, .int 0, .int 0, .int 0, .int 0, .int 0, .ref (q 17), .ref (q 18), .ref (q 19), .ref (q 20)]))]) (fun _ => rfl) (fun  u1 H locs hp hP hD hS => ?_)
  refine lv_aload_n hx hb dX9_unfair_4 rfl (lv_at hl 0 rfl) ?_
  refine lv_iload_n hx hb dX9_unfair_5 rfl (lv_at hl 1 rfl) ?_
  refine lv_iload_n hx hb dX9_unfair_6 rfl (lv_at hl 2 rfl) ?_
  refine r_callVi (As := [.int x, .int y]) (rest := []) (wr := []) F hK hP hD hS hA hO hE (c_X9_arePair hO b q x y) k_1653 kv_X9_arePair 2 rfl (by decide +kernel) ⟨Nat.le_of_ble_eq_true rfl, Nat.le_of_ble_eq_true rfl⟩ [0] [] rfl rfl (by decide) (by decide) (by decide) 0 9 rfl rfl rfl hl.1 rfl (Nat.le_of_ble_eq_true rfl) dX9_unfair_7 ⟨Nat.le_of_ble_eq_true rfl, Nat.le_of_ble_eq_true rfl⟩ (w1 := fun u2 => [(b, .inr (9, [.int 0, .ref (q 0), .int 0, .int 0, .int 0, .int 0, .int 0, .int 0, .int 0, .int 0, .int (-1), .int 0, .ref (q 1), .int 0, .int 0, .ref (q 2), .ref (q 3), .ref (q 4), .ref (q 5), .ref (q 6), .ref (q 7), .ref (q 8), .ref (q 9), .ref (q 10), .ref (q 11), .ref (q 12), .ref (q 13), .ref (q 14), .ref (q 15), .ref (q 16), .int 0, .int 0, .int 0, .int 0, .int 0, .int 0, .ref (q 17), .ref (q 18), .ref (q 19), .ref (q 20)]))]) (fun _ => rfl) (fun r3 u2 H locs hp hP hD hS => ?_)
  subst hp
  refine lv_if_ne (tgt := 19) hx hb dX9_unfair_10 (by decide) (fun h9 => absurd (by decide) h9) (fun _ => ?_)
  refine lv_aload_n hx hb dX9_unfair_13 rfl (lv_at hl 0 rfl) ?_
  refine lv_iconst (v := 1) hx hb dX9_unfair_14 (by decide) ?_
  refine r_callVi (As := [.int 1]) (rest := []) (wr := []) F hK hP hD hS hA hO hE (c_X9_no hO b q 1) k_1303 kv_X9_no 1 rfl (by decide +kernel) ⟨Nat.le_of_ble_eq_true rfl, Nat.le_of_ble_eq_true rfl⟩ [0] [] rfl rfl (by decide) (by decide) (by decide) 0 9 rfl rfl rfl hl.1 rfl (Nat.le_of_ble_eq_true rfl) dX9_unfair_15 ⟨Nat.le_of_ble_eq_true rfl, Nat.le_of_ble_eq_true rfl⟩ (w1 := fun u4 => []) (fun _ => rfl) (fun r5 u4 H locs hp hP hD hS => ?_)
  subst hp
  exact ret (-1) (fun _ => 0, fun _ _ => 0) _ _ _ _ _ _ rfl rfl (bw_subP (isC := []) hP rfl) (hD.sub [] (by decide) rfl) hS (Nat.le_of_ble_eq_true rfl) (Nat.le_of_ble_eq_true rfl) dX9_unfair_18
theorem dX9_leastLine_0 : decode cX9_leastLine 0 = .ok (.aload_n 0, 1) := by decide +kernel
theorem dX9_leastLine_1 : decode cX9_leastLine 1 = .ok (.invokevirtual 197, 3) := by decide +kernel
theorem dX9_leastLine_4 : decode cX9_leastLine 4 = .ok (.iload_n 2, 1) := by decide +kernel
theorem dX9_leastLine_5 : decode cX9_leastLine 5 = .ok (.ifCond .ge 9, 3) := by decide +kernel
theorem dX9_leastLine_14 : decode cX9_leastLine 14 = .ok (.aload_n 0, 1) := by decide +kernel
theorem dX9_leastLine_15 : decode cX9_leastLine 15 = .ok (.iload_n 1, 1) := by decide +kernel
theorem dX9_leastLine_16 : decode cX9_leastLine 16 = .ok (.invokevirtual 379, 3) := by decide +kernel
theorem dX9_leastLine_19 : decode cX9_leastLine 19 = .ok (.istore_n 3, 1) := by decide +kernel
theorem dX9_leastLine_20 : decode cX9_leastLine 20 = .ok (.iload_n 3, 1) := by decide +kernel
theorem dX9_leastLine_21 : decode cX9_leastLine 21 = .ok (.ifCond .eq 9, 3) := by decide +kernel
theorem dX9_leastLine_24 : decode cX9_leastLine 24 = .ok (.aload_n 0, 1) := by decide +kernel
theorem dX9_leastLine_25 : decode cX9_leastLine 25 = .ok (.iload_n 3, 1) := by decide +kernel
theorem dX9_leastLine_26 : decode cX9_leastLine 26 = .ok (.invokevirtual 200, 3) := by decide +kernel
theorem dX9_leastLine_29 : decode cX9_leastLine 29 = .ok (.ireturn, 1) := by decide +kernel
theorem dX9_leastLine_8 : decode cX9_leastLine 8 = .ok (.aload_n 0, 1) := by decide +kernel
theorem dX9_leastLine_9 : decode cX9_leastLine 9 = .ok (.iconst 1, 1) := by decide +kernel
theorem dX9_leastLine_10 : decode cX9_leastLine 10 = .ok (.invokevirtual 200, 3) := by decide +kernel
theorem dX9_leastLine_13 : decode cX9_leastLine 13 = .ok (.ireturn, 1) := by decide +kernel
abbrev rm_X9_leastLine : Room := { frames := 1, cells := 0, slots := 0, locals := 21 }
set_option maxRecDepth 100000 in
set_option maxHeartbeats 4000000 in
theorem c_X9_leastLine {l : Launch} {E : (Nat → Prop) → State → Prop} (hO : bw_Ok E) {G : va_G} {cI cB cJ cN cW : ClassId} (b : Nat) (q : Nat → Nat) (x : Int32) (y : Int32) : bw_Ci (S := bw_U) l yX9_leastLine (bw_ws (Cond.code yX9_leastLine cX9_leastLine 5 (some .int))) rm_X9_leastLine E G (bw_kt cI cB cJ cN cW) [.ref b, .int x, .int y] [(b, .inr (9, [.int 0, .ref (q 0), .int 0, .int 0, .int 0, .int 0, .int 0, .int 0, .int 0, .int 0, .int (-1), .int 0, .ref (q 1), .int 0, .int 0, .ref (q 2), .ref (q 3), .ref (q 4), .ref (q 5), .ref (q 6), .ref (q 7), .ref (q 8), .ref (q 9), .ref (q 10), .ref (q 11), .ref (q 12), .ref (q 13), .ref (q 14), .ref (q 15), .ref (q 16), .int 0, .int 0, .int 0, .int 0, .int 0, .int 0, .ref (q 17), .ref (q 18), .ref (q 19), .ref (q 20)]))] (fun r _ => r = -1) (fun _ => []) := by
  refine bw_Ci.of (cc := cX9_leastLine) (maxL := 5) (ty := .int) (by decide) rfl (Nat.le_of_ble_eq_true rfl) ?_
  intro p e s m below meth c A Q hx hb hml hts hown hin hK hA hS hP hD hE ret ls hl
  have F : CallFix p m c cX9_leastLine 5 s ([.ref b, .int x, .int y] : List Value).toArray bw_T RX9 := ⟨hx, hb, hml, hown, fun w h => hts w (List.mem_cons_of_mem _ h)⟩
  have hl : lv_has ls 5 [(0, .ref b), (1, .int x), (2, .int y)] := hl
  refine lv_aload_n hx hb dX9_leastLine_0 rfl (lv_at hl 0 rfl) ?_
  refine r_callVv (As := []) (rest := []) (wr := []) F hK hP hD hS hA hO hE (c_X9_good hO b q) k_1296 kv_X9_good 0 rfl (by decide +kernel) ⟨Nat.le_of_ble_eq_true rfl, Nat.le_of_ble_eq_true rfl⟩ [0] [] rfl rfl (by decide) (by decide) (by decide) 0 9 rfl rfl rfl hl.1 rfl (Nat.le_of_ble_eq_true rfl) dX9_leastLine_1 ⟨Nat.le_of_ble_eq_true rfl, Nat.le_of_ble_eq_true rfl⟩ (w1 := fun u1 => [(b, .inr (9, [.int 0, .ref (q 0), .int 0, .int 0, .int 0, .int 0, .int 0, .int 0, .int 0, .int 0, .int (-1), .int 0, .ref (q 1), .int 0, .int 0, .ref (q 2), .ref (q 3), .ref (q 4), .ref (q 5), .ref (q 6), .ref (q 7), .ref (q 8), .ref (q 9), .ref (q 10), .ref (q 11), .ref (q 12), .ref (q 13), .ref (q 14), .ref (q 15), .ref (q 16), .int 0, .int 0, .int 0, .int 0, .int 0, .int 0, .ref (q 17), .ref (q 18), .ref (q 19), .ref (q 20)]))]) (fun _ => rfl) (fun  u1 H locs hp hP hD hS => ?_)
  refine lv_iload_n hx hb dX9_leastLine_4 rfl (lv_at hl 2 rfl) ?_
  refine lv_if_ge (tgt := 14) hx hb dX9_leastLine_5 (by decide) (fun h1 => ?_) (fun h1 => ?_)
  · refine lv_aload_n hx hb dX9_leastLine_14 rfl (lv_at hl 0 rfl) ?_
    refine lv_iload_n hx hb dX9_leastLine_15 rfl (lv_at hl 1 rfl) ?_
    refine r_callVi (As := [.int x]) (rest := []) (wr := []) F hK hP hD hS hA hO hE (c_X9_leastWhy hO b q x) k_1685 kv_X9_leastWhy 1 rfl (by decide +kernel) ⟨Nat.le_of_ble_eq_true rfl, Nat.le_of_ble_eq_true rfl⟩ [0] [] rfl rfl (by decide) (by decide) (by decide) 0 9 rfl rfl rfl hl.1 rfl (Nat.le_of_ble_eq_true rfl) dX9_leastLine_16 ⟨Nat.le_of_ble_eq_true rfl, Nat.le_of_ble_eq_true rfl⟩ (w1 := fun u2 => [(b, .inr (9, [.int 0, .ref (q 0), .int 0, .int 0, .int 0, .int 0, .int 0, .int 0, .int 0, .int 0, .int (-1), .int 0, .ref (q 1), .int 0, .int 0, .ref (q 2), .ref (q 3), .ref (q 4), .ref (q 5), .ref (q 6), .ref (q 7), .ref (q 8), .ref (q 9), .ref (q 10), .ref (q 11), .ref (q 12), .ref (q 13), .ref (q 14), .ref (q 15), .ref (q 16), .int 0, .int 0, .int 0, .int 0, .int 0, .int 0, .ref (q 17), .ref (q 18), .ref (q 19), .ref (q 20)]))]) (fun _ => rfl) (fun r3 u2 H locs hp hP hD hS => ?_)
    subst hp
    refine lv_istore_n (lv' := [(3, .int 1), (0, .ref b), (1, .int x), (2, .int y)]) hx hb dX9_leastLine_19 rfl hl (by decide) rfl (fun ls hl => ?_)
    refine lv_iload_n hx hb dX9_leastLine_20 rfl (lv_at hl 0 rfl) ?_
    refine lv_if_eq (tgt := 30) hx hb dX9_leastLine_21 (by decide) (fun h9 => absurd h9 (by decide)) (fun _ => ?_)
    refine lv_aload_n hx hb dX9_leastLine_24 rfl (lv_at hl 1 rfl) ?_
    refine lv_iload_n hx hb dX9_leastLine_25 rfl (lv_at hl 0 rfl) ?_
    refine r_callVi (As := [.int 1]) (rest := []) (wr := []) F hK hP hD hS hA hO hE (c_X9_no hO b q 1) k_1303 kv_X9_no 1 rfl (by decide +kernel) ⟨Nat.le_of_ble_eq_true rfl, Nat.le_of_ble_eq_true rfl⟩ [0] [] rfl rfl (by decide) (by decide) (by decide) 0 9 rfl rfl rfl hl.1 rfl (Nat.le_of_ble_eq_true rfl) dX9_leastLine_26 ⟨Nat.le_of_ble_eq_true rfl, Nat.le_of_ble_eq_true rfl⟩ (w1 := fun u4 => []) (fun _ => rfl) (fun r5 u4 H locs hp hP hD hS => ?_)
    subst hp
    exact ret (-1) (fun _ => 0, fun _ _ => 0) _ _ _ _ _ _ rfl rfl (bw_subP (isC := []) hP rfl) (hD.sub [] (by decide) rfl) hS (Nat.le_of_ble_eq_true rfl) (Nat.le_of_ble_eq_true rfl) dX9_leastLine_29
  · refine lv_aload_n hx hb dX9_leastLine_8 rfl (lv_at hl 0 rfl) ?_
    refine lv_iconst (v := 1) hx hb dX9_leastLine_9 (by decide) ?_
    refine r_callVi (As := [.int 1]) (rest := []) (wr := []) F hK hP hD hS hA hO hE (c_X9_no hO b q 1) k_1303 kv_X9_no 1 rfl (by decide +kernel) ⟨Nat.le_of_ble_eq_true rfl, Nat.le_of_ble_eq_true rfl⟩ [0] [] rfl rfl (by decide) (by decide) (by decide) 0 9 rfl rfl rfl hl.1 rfl (Nat.le_of_ble_eq_true rfl) dX9_leastLine_10 ⟨Nat.le_of_ble_eq_true rfl, Nat.le_of_ble_eq_true rfl⟩ (w1 := fun u2 => []) (fun _ => rfl) (fun r3 u2 H locs hp hP hD hS => ?_)
    subst hp
    exact ret (-1) (fun _ => 0, fun _ _ => 0) _ _ _ _ _ _ rfl rfl (bw_subP (isC := []) hP rfl) (hD.sub [] (by decide) rfl) hS (Nat.le_of_ble_eq_true rfl) (Nat.le_of_ble_eq_true rfl) dX9_leastLine_13
theorem dX9_start_0 : decode cX9_start 0 = .ok (.aload_n 0, 1) := by decide +kernel
theorem dX9_start_1 : decode cX9_start 1 = .ok (.invokevirtual 197, 3) := by decide +kernel
theorem dX9_start_4 : decode cX9_start 4 = .ok (.aload_n 0, 1) := by decide +kernel
theorem dX9_start_5 : decode cX9_start 5 = .ok (.iload_n 1, 1) := by decide +kernel
theorem dX9_start_6 : decode cX9_start 6 = .ok (.iload_n 2, 1) := by decide +kernel
theorem dX9_start_7 : decode cX9_start 7 = .ok (.iload_n 3, 1) := by decide +kernel
theorem dX9_start_8 : decode cX9_start 8 = .ok (.iload 4, 2) := by decide +kernel
theorem dX9_start_10 : decode cX9_start 10 = .ok (.invokevirtual 287, 3) := by decide +kernel
theorem k_1439 : Cond.methodLink RX9 287 yX9_countsWhy ∈ bw_T := bw_m 1439 (by decide +kernel) rfl
theorem kv_X9_countsWhy : bw_KV RX9 yX9_countsWhy (Cond.code yX9_countsWhy cX9_countsWhy 5 (some .int)) := ⟨bw_m 1441 (by decide +kernel) rfl, bw_m 68 (by decide +kernel) rfl, bw_m 107 (by decide +kernel) rfl, bw_m 1442 (by decide +kernel) rfl⟩
theorem dX9_start_13 : decode cX9_start 13 = .ok (.istore 5, 2) := by decide +kernel
theorem dX9_start_15 : decode cX9_start 15 = .ok (.iload 5, 2) := by decide +kernel
theorem dX9_start_17 : decode cX9_start 17 = .ok (.ifCond .eq 10, 3) := by decide +kernel
theorem dX9_start_20 : decode cX9_start 20 = .ok (.aload_n 0, 1) := by decide +kernel
theorem dX9_start_21 : decode cX9_start 21 = .ok (.iload 5, 2) := by decide +kernel
theorem dX9_start_23 : decode cX9_start 23 = .ok (.invokevirtual 291, 3) := by decide +kernel
theorem k_1446 : Cond.methodLink RX9 291 yX9_isNot ∈ bw_T := bw_m 1446 (by decide +kernel) rfl
theorem kv_X9_isNot : bw_KV RX9 yX9_isNot (Cond.code yX9_isNot cX9_isNot 2 (some .boolean)) := ⟨bw_m 1448 (by decide +kernel) rfl, bw_m 69 (by decide +kernel) rfl, bw_m 107 (by decide +kernel) rfl, bw_m 1449 (by decide +kernel) rfl⟩
theorem dX9_start_26 : decode cX9_start 26 = .ok (.ireturn, 1) := by decide +kernel
abbrev rm_X9_start : Room := { frames := 1, cells := 0, slots := 0, locals := 24 }
set_option maxRecDepth 100000 in
set_option maxHeartbeats 4000000 in
theorem c_X9_start {l : Launch} {E : (Nat → Prop) → State → Prop} (hO : bw_Ok E) {G : va_G} {cI cB cJ cN cW : ClassId} (b : Nat) (q : Nat → Nat) (a1 : Int32) (a2 : Int32) (a3 : Int32) (a4 : Int32) : bw_Ci (S := bw_U) l yX9_start (bw_ws (Cond.code yX9_start cX9_start 6 (some .boolean))) rm_X9_start E G (bw_kt cI cB cJ cN cW) [.ref b, .int a1, .int a2, .int a3, .int a4] [(b, .inr (9, [.int 0, .ref (q 0), .int 0, .int 0, .int 0, .int 0, .int 0, .int 0, .int 0, .int 0, .int (-1), .int 0, .ref (q 1), .int 0, .int 0, .ref (q 2), .ref (q 3), .ref (q 4), .ref (q 5), .ref (q 6), .ref (q 7), .ref (q 8), .ref (q 9), .ref (q 10), .ref (q 11), .ref (q 12), .ref (q 13), .ref (q 14), .ref (q 15), .ref (q 16), .int 0, .int 0, .int 0, .int 0, .int 0, .int 0, .ref (q 17), .ref (q 18), .ref (q 19), .ref (q 20)]))] (fun r _ => r = 0) (fun _ => []) := by
  refine bw_Ci.of (cc := cX9_start) (maxL := 6) (ty := .boolean) (by decide) rfl (Nat.le_of_ble_eq_true rfl) ?_
  intro p e s m below meth c A Q hx hb hml hts hown hin hK hA hS hP hD hE ret ls hl
  have F : CallFix p m c cX9_start 6 s ([.ref b, .int a1, .int a2, .int a3, .int a4] : List Value).toArray bw_T RX9 := ⟨hx, hb, hml, hown, fun w h => hts w (List.mem_cons_of_mem _ h)⟩
  have hl : lv_has ls 6 [(0, .ref b), (1, .int a1), (2, .int a2), (3, .int a3), (4, .int a4)] := hl
  refine lv_aload_n hx hb dX9_start_0 rfl (lv_at hl 0 rfl) ?_
  refine r_callVv (As := []) (rest := []) (wr := []) F hK hP hD hS hA hO hE (c_X9_good hO b q) k_1296 kv_X9_good 0 rfl (by decide +kernel) ⟨Nat.le_of_ble_eq_true rfl, Nat.le_of_ble_eq_true rfl⟩ [0] [] rfl rfl (by decide) (by decide) (by decide) 0 9 rfl rfl rfl hl.1 rfl (Nat.le_of_ble_eq_true rfl) dX9_start_1 ⟨Nat.le_of_ble_eq_true rfl, Nat.le_of_ble_eq_true rfl⟩ (w1 := fun u1 => [(b, .inr (9, [.int 0, .ref (q 0), .int 0, .int 0, .int 0, .int 0, .int 0, .int 0, .int 0, .int 0, .int (-1), .int 0, .ref (q 1), .int 0, .int 0, .ref (q 2), .ref (q 3), .ref (q 4), .ref (q 5), .ref (q 6), .ref (q 7), .ref (q 8), .ref (q 9), .ref (q 10), .ref (q 11), .ref (q 12), .ref (q 13), .ref (q 14), .ref (q 15), .ref (q 16), .int 0, .int 0, .int 0, .int 0, .int 0, .int 0, .ref (q 17), .ref (q 18), .ref (q 19), .ref (q 20)]))]) (fun _ => rfl) (fun  u1 H locs hp hP hD hS => ?_)
  refine lv_aload_n hx hb dX9_start_4 rfl (lv_at hl 0 rfl) ?_
  refine lv_iload_n hx hb dX9_start_5 rfl (lv_at hl 1 rfl) ?_
  refine lv_iload_n hx hb dX9_start_6 rfl (lv_at hl 2 rfl) ?_
  refine lv_iload_n hx hb dX9_start_7 rfl (lv_at hl 3 rfl) ?_
  refine lv_iload hx hb dX9_start_8 (lv_at hl 4 rfl) ?_
  refine r_callVi (As := [.int a1, .int a2, .int a3, .int a4]) (rest := []) (wr := []) F hK hP hD hS hA hO hE (c_X9_countsWhy hO b q a1 a2 a3 a4) k_1439 kv_X9_countsWhy 4 rfl (by decide +kernel) ⟨Nat.le_of_ble_eq_true rfl, Nat.le_of_ble_eq_true rfl⟩ [0] [] rfl rfl (by decide) (by decide) (by decide) 0 9 rfl rfl rfl hl.1 rfl (Nat.le_of_ble_eq_true rfl) dX9_start_10 ⟨Nat.le_of_ble_eq_true rfl, Nat.le_of_ble_eq_true rfl⟩ (w1 := fun u2 => [(b, .inr (9, [.int 0, .ref (q 0), .int 0, .int 0, .int 0, .int 0, .int 0, .int 0, .int 0, .int 0, .int (-1), .int 0, .ref (q 1), .int 0, .int 0, .ref (q 2), .ref (q 3), .ref (q 4), .ref (q 5), .ref (q 6), .ref (q 7), .ref (q 8), .ref (q 9), .ref (q 10), .ref (q 11), .ref (q 12), .ref (q 13), .ref (q 14), .ref (q 15), .ref (q 16), .int 0, .int 0, .int 0, .int 0, .int 0, .int 0, .ref (q 17), .ref (q 18), .ref (q 19), .ref (q 20)]))]) (fun _ => rfl) (fun r3 u2 H locs hp hP hD hS => ?_)
  subst hp
  refine lv_istore (lv' := [(5, .int 1), (0, .ref b), (1, .int a1), (2, .int a2), (3, .int a3), (4, .int a4)]) hx hb dX9_start_13 hl (by decide) rfl (fun ls hl => ?_)
  refine lv_iload hx hb dX9_start_15 (lv_at hl 0 rfl) ?_
  refine lv_if_eq (tgt := 27) hx hb dX9_start_17 (by decide) (fun h9 => absurd h9 (by decide)) (fun _ => ?_)
  refine lv_aload_n hx hb dX9_start_20 rfl (lv_at hl 1 rfl) ?_
  refine lv_iload hx hb dX9_start_21 (lv_at hl 0 rfl) ?_
  refine r_callVi (As := [.int 1]) (rest := []) (wr := []) F hK hP hD hS hA hO hE (c_X9_isNot hO b q 1) k_1446 kv_X9_isNot 1 rfl (by decide +kernel) ⟨Nat.le_of_ble_eq_true rfl, Nat.le_of_ble_eq_true rfl⟩ [0] [] rfl rfl (by decide) (by decide) (by decide) 0 9 rfl rfl rfl hl.1 rfl (Nat.le_of_ble_eq_true rfl) dX9_start_23 ⟨Nat.le_of_ble_eq_true rfl, Nat.le_of_ble_eq_true rfl⟩ (w1 := fun u4 => []) (fun _ => rfl) (fun r5 u4 H locs hp hP hD hS => ?_)
  subst hp
  exact ret 0 (fun _ => 0, fun _ _ => 0) _ _ _ _ _ _ rfl rfl (bw_subP (isC := []) hP rfl) (hD.sub [] (by decide) rfl) hS (Nat.le_of_ble_eq_true rfl) (Nat.le_of_ble_eq_true rfl) dX9_start_26
theorem dX9_answer_0 : decode cX9_answer 0 = .ok (.aload_n 0, 1) := by decide +kernel
theorem dX9_answer_1 : decode cX9_answer 1 = .ok (.invokevirtual 197, 3) := by decide +kernel
theorem dX9_answer_4 : decode cX9_answer 4 = .ok (.aload_n 0, 1) := by decide +kernel
theorem dX9_answer_5 : decode cX9_answer 5 = .ok (.iload_n 1, 1) := by decide +kernel
theorem dX9_answer_6 : decode cX9_answer 6 = .ok (.iload_n 2, 1) := by decide +kernel
theorem dX9_answer_7 : decode cX9_answer 7 = .ok (.iload_n 3, 1) := by decide +kernel
theorem dX9_answer_8 : decode cX9_answer 8 = .ok (.iload 4, 2) := by decide +kernel
theorem dX9_answer_10 : decode cX9_answer 10 = .ok (.invokevirtual 287, 3) := by decide +kernel
theorem dX9_answer_13 : decode cX9_answer 13 = .ok (.istore 5, 2) := by decide +kernel
theorem dX9_answer_15 : decode cX9_answer 15 = .ok (.iload 5, 2) := by decide +kernel
theorem dX9_answer_17 : decode cX9_answer 17 = .ok (.ifCond .eq 10, 3) := by decide +kernel
theorem dX9_answer_20 : decode cX9_answer 20 = .ok (.aload_n 0, 1) := by decide +kernel
theorem dX9_answer_21 : decode cX9_answer 21 = .ok (.iload 5, 2) := by decide +kernel
theorem dX9_answer_23 : decode cX9_answer 23 = .ok (.invokevirtual 200, 3) := by decide +kernel
theorem dX9_answer_26 : decode cX9_answer 26 = .ok (.ireturn, 1) := by decide +kernel
abbrev rm_X9_answer : Room := { frames := 1, cells := 0, slots := 0, locals := 24 }
set_option maxRecDepth 100000 in
set_option maxHeartbeats 4000000 in
theorem c_X9_answer {l : Launch} {E : (Nat → Prop) → State → Prop} (hO : bw_Ok E) {G : va_G} {cI cB cJ cN cW : ClassId} (b : Nat) (q : Nat → Nat) (a1 : Int32) (a2 : Int32) (a3 : Int32) (a4 : Int32) : bw_Ci (S := bw_U) l yX9_answer (bw_ws (Cond.code yX9_answer cX9_answer 6 (some .int))) rm_X9_answer E G (bw_kt cI cB cJ cN cW) [.ref b, .int a1, .int a2, .int a3, .int a4] [(b, .inr (9, [.int 0, .ref (q 0), .int 0, .int 0, .int 0, .int 0, .int 0, .int 0, .int 0, .int 0, .int (-1), .int 0, .ref (q 1), .int 0, .int 0, .ref (q 2), .ref (q 3), .ref (q 4), .ref (q 5), .ref (q 6), .ref (q 7), .ref (q 8), .ref (q 9), .ref (q 10), .ref (q 11), .ref (q 12), .ref (q 13), .ref (q 14), .ref (q 15), .ref (q 16), .int 0, .int 0, .int 0, .int 0, .int 0, .int 0, .ref (q 17), .ref (q 18), .ref (q 19), .ref (q 20)]))] (fun r _ => r = -1) (fun _ => []) := by
  refine bw_Ci.of (cc := cX9_answer) (maxL := 6) (ty := .int) (by decide) rfl (Nat.le_of_ble_eq_true rfl) ?_
  intro p e s m below meth c A Q hx hb hml hts hown hin hK hA hS hP hD hE ret ls hl
  have F : CallFix p m c cX9_answer 6 s ([.ref b, .int a1, .int a2, .int a3, .int a4] : List Value).toArray bw_T RX9 := ⟨hx, hb, hml, hown, fun w h => hts w (List.mem_cons_of_mem _ h)⟩
  have hl : lv_has ls 6 [(0, .ref b), (1, .int a1), (2, .int a2), (3, .int a3), (4, .int a4)] := hl
  refine lv_aload_n hx hb dX9_answer_0 rfl (lv_at hl 0 rfl) ?_
  refine r_callVv (As := []) (rest := []) (wr := []) F hK hP hD hS hA hO hE (c_X9_good hO b q) k_1296 kv_X9_good 0 rfl (by decide +kernel) ⟨Nat.le_of_ble_eq_true rfl, Nat.le_of_ble_eq_true rfl⟩ [0] [] rfl rfl (by decide) (by decide) (by decide) 0 9 rfl rfl rfl hl.1 rfl (Nat.le_of_ble_eq_true rfl) dX9_answer_1 ⟨Nat.le_of_ble_eq_true rfl, Nat.le_of_ble_eq_true rfl⟩ (w1 := fun u1 => [(b, .inr (9, [.int 0, .ref (q 0), .int 0, .int 0, .int 0, .int 0, .int 0, .int 0, .int 0, .int 0, .int (-1), .int 0, .ref (q 1), .int 0, .int 0, .ref (q 2), .ref (q 3), .ref (q 4), .ref (q 5), .ref (q 6), .ref (q 7), .ref (q 8), .ref (q 9), .ref (q 10), .ref (q 11), .ref (q 12), .ref (q 13), .ref (q 14), .ref (q 15), .ref (q 16), .int 0, .int 0, .int 0, .int 0, .int 0, .int 0, .ref (q 17), .ref (q 18), .ref (q 19), .ref (q 20)]))]) (fun _ => rfl) (fun  u1 H locs hp hP hD hS => ?_)
  refine lv_aload_n hx hb dX9_answer_4 rfl (lv_at hl 0 rfl) ?_
  refine lv_iload_n hx hb dX9_answer_5 rfl (lv_at hl 1 rfl) ?_
  refine lv_iload_n hx hb dX9_answer_6 rfl (lv_at hl 2 rfl) ?_
  refine lv_iload_n hx hb dX9_answer_7 rfl (lv_at hl 3 rfl) ?_
  refine lv_iload hx hb dX9_answer_8 (lv_at hl 4 rfl) ?_
  refine r_callVi (As := [.int a1, .int a2, .int a3, .int a4]) (rest := []) (wr := []) F hK hP hD hS hA hO hE (c_X9_countsWhy hO b q a1 a2 a3 a4) k_1439 kv_X9_countsWhy 4 rfl (by decide +kernel) ⟨Nat.le_of_ble_eq_true rfl, Nat.le_of_ble_eq_true rfl⟩ [0] [] rfl rfl (by decide) (by decide) (by decide) 0 9 rfl rfl rfl hl.1 rfl (Nat.le_of_ble_eq_true rfl) dX9_answer_10 ⟨Nat.le_of_ble_eq_true rfl, Nat.le_of_ble_eq_true rfl⟩ (w1 := fun u2 => [(b, .inr (9, [.int 0, .ref (q 0), .int 0, .int 0, .int 0, .int 0, .int 0, .int 0, .int 0, .int 0, .int (-1), .int 0, .ref (q 1), .int 0, .int 0, .ref (q 2), .ref (q 3), .ref (q 4), .ref (q 5), .ref (q 6), .ref (q 7), .ref (q 8), .ref (q 9), .ref (q 10), .ref (q 11), .ref (q 12), .ref (q 13), .ref (q 14), .ref (q 15), .ref (q 16), .int 0, .int 0, .int 0, .int 0, .int 0, .int 0, .ref (q 17), .ref (q 18), .ref (q 19), .ref (q 20)]))]) (fun _ => rfl) (fun r3 u2 H locs hp hP hD hS => ?_)
  subst hp
  refine lv_istore (lv' := [(5, .int 1), (0, .ref b), (1, .int a1), (2, .int a2), (3, .int a3), (4, .int a4)]) hx hb dX9_answer_13 hl (by decide) rfl (fun ls hl => ?_)
  refine lv_iload hx hb dX9_answer_15 (lv_at hl 0 rfl) ?_
  refine lv_if_eq (tgt := 27) hx hb dX9_answer_17 (by decide) (fun h9 => absurd h9 (by decide)) (fun _ => ?_)
  refine lv_aload_n hx hb dX9_answer_20 rfl (lv_at hl 1 rfl) ?_
  refine lv_iload hx hb dX9_answer_21 (lv_at hl 0 rfl) ?_
  refine r_callVi (As := [.int 1]) (rest := []) (wr := []) F hK hP hD hS hA hO hE (c_X9_no hO b q 1) k_1303 kv_X9_no 1 rfl (by decide +kernel) ⟨Nat.le_of_ble_eq_true rfl, Nat.le_of_ble_eq_true rfl⟩ [0] [] rfl rfl (by decide) (by decide) (by decide) 0 9 rfl rfl rfl hl.1 rfl (Nat.le_of_ble_eq_true rfl) dX9_answer_23 ⟨Nat.le_of_ble_eq_true rfl, Nat.le_of_ble_eq_true rfl⟩ (w1 := fun u4 => []) (fun _ => rfl) (fun r5 u4 H locs hp hP hD hS => ?_)
  subst hp
  exact ret (-1) (fun _ => 0, fun _ _ => 0) _ _ _ _ _ _ rfl rfl (bw_subP (isC := []) hP rfl) (hD.sub [] (by decide) rfl) hS (Nat.le_of_ble_eq_true rfl) (Nat.le_of_ble_eq_true rfl) dX9_answer_26
theorem dX9_degree_0 : decode cX9_degree 0 = .ok (.aload_n 0, 1) := by decide +kernel
theorem dX9_degree_1 : decode cX9_degree 1 = .ok (.invokevirtual 197, 3) := by decide +kernel
theorem dX9_degree_4 : decode cX9_degree 4 = .ok (.aload_n 0, 1) := by decide +kernel
theorem dX9_degree_5 : decode cX9_degree 5 = .ok (.getfield 222, 3) := by decide +kernel
theorem dX9_degree_8 : decode cX9_degree 8 = .ok (.ifCond .eq 17, 3) := by decide +kernel
theorem dX9_degree_25 : decode cX9_degree 25 = .ok (.aload_n 0, 1) := by decide +kernel
theorem dX9_degree_26 : decode cX9_degree 26 = .ok (.iconst 1, 1) := by decide +kernel
theorem dX9_degree_27 : decode cX9_degree 27 = .ok (.putfield 80, 3) := by decide +kernel
theorem dX9_degree_30 : decode cX9_degree 30 = .ok (.sipush (-1000), 3) := by decide +kernel
theorem dX9_degree_33 : decode cX9_degree 33 = .ok (.ireturn, 1) := by decide +kernel
abbrev rm_X9_degree : Room := { frames := 1, cells := 0, slots := 0, locals := 20 }
set_option maxRecDepth 100000 in
set_option maxHeartbeats 4000000 in
theorem c_X9_degree {l : Launch} {E : (Nat → Prop) → State → Prop} (hO : bw_Ok E) {G : va_G} {cI cB cJ cN cW : ClassId} (b : Nat) (q : Nat → Nat) (x : Int32) : bw_Ci (S := bw_U) l yX9_degree (bw_ws (Cond.code yX9_degree cX9_degree 5 (some .int))) rm_X9_degree E G (bw_kt cI cB cJ cN cW) [.ref b, .int x] [(b, .inr (9, [.int 0, .ref (q 0), .int 0, .int 0, .int 0, .int 0, .int 0, .int 0, .int 0, .int 0, .int (-1), .int 0, .ref (q 1), .int 0, .int 0, .ref (q 2), .ref (q 3), .ref (q 4), .ref (q 5), .ref (q 6), .ref (q 7), .ref (q 8), .ref (q 9), .ref (q 10), .ref (q 11), .ref (q 12), .ref (q 13), .ref (q 14), .ref (q 15), .ref (q 16), .int 0, .int 0, .int 0, .int 0, .int 0, .int 0, .ref (q 17), .ref (q 18), .ref (q 19), .ref (q 20)]))] (fun r _ => r = -1000) (fun _ => []) := by
  refine bw_Ci.of (cc := cX9_degree) (maxL := 5) (ty := .int) (by decide) rfl (Nat.le_of_ble_eq_true rfl) ?_
  intro p e s m below meth c A Q hx hb hml hts hown hin hK hA hS hP hD hE ret ls hl
  have F : CallFix p m c cX9_degree 5 s ([.ref b, .int x] : List Value).toArray bw_T RX9 := ⟨hx, hb, hml, hown, fun w h => hts w (List.mem_cons_of_mem _ h)⟩
  have hl : lv_has ls 5 [(0, .ref b), (1, .int x)] := hl
  refine lv_aload_n hx hb dX9_degree_0 rfl (lv_at hl 0 rfl) ?_
  refine r_callVv (As := []) (rest := []) (wr := []) F hK hP hD hS hA hO hE (c_X9_good hO b q) k_1296 kv_X9_good 0 rfl (by decide +kernel) ⟨Nat.le_of_ble_eq_true rfl, Nat.le_of_ble_eq_true rfl⟩ [0] [] rfl rfl (by decide) (by decide) (by decide) 0 9 rfl rfl rfl hl.1 rfl (Nat.le_of_ble_eq_true rfl) dX9_degree_1 ⟨Nat.le_of_ble_eq_true rfl, Nat.le_of_ble_eq_true rfl⟩ (w1 := fun u1 => [(b, .inr (9, [.int 0, .ref (q 0), .int 0, .int 0, .int 0, .int 0, .int 0, .int 0, .int 0, .int 0, .int (-1), .int 0, .ref (q 1), .int 0, .int 0, .ref (q 2), .ref (q 3), .ref (q 4), .ref (q 5), .ref (q 6), .ref (q 7), .ref (q 8), .ref (q 9), .ref (q 10), .ref (q 11), .ref (q 12), .ref (q 13), .ref (q 14), .ref (q 15), .ref (q 16), .int 0, .int 0, .int 0, .int 0, .int 0, .int 0, .ref (q 17), .ref (q 18), .ref (q 19), .ref (q 20)]))]) (fun _ => rfl) (fun  u1 H locs hp hP hD hS => ?_)
  refine lv_aload_n hx hb dX9_degree_4 rfl (lv_at hl 0 rfl) ?_
  refine r_get F hK hP 0 14 rfl rfl in_X9 (by decide) k_1177 rfl dX9_degree_5 ?_
  refine lv_if_eq (tgt := 25) hx hb dX9_degree_8 (by decide) (fun _ => ?_) (fun h9 => absurd (by decide) h9)
  refine lv_aload_n hx hb dX9_degree_25 rfl (lv_at hl 0 rfl) ?_
  refine lv_iconst (v := 1) hx hb dX9_degree_26 (by decide) ?_
  refine r_put F hK hP hD hS 0 11 rfl rfl in_X9 tyX9 tyX9_ok nmX9 (by decide) k_1174 rfl rfl rfl (Nat.le_of_ble_eq_true rfl) dX9_degree_27 (w1 := [(b, .inr (9, [.int 0, .ref (q 0), .int 0, .int 0, .int 0, .int 0, .int 0, .int 0, .int 0, .int 0, .int (-1), .int 1, .ref (q 1), .int 0, .int 0, .ref (q 2), .ref (q 3), .ref (q 4), .ref (q 5), .ref (q 6), .ref (q 7), .ref (q 8), .ref (q 9), .ref (q 10), .ref (q 11), .ref (q 12), .ref (q 13), .ref (q 14), .ref (q 15), .ref (q 16), .int 0, .int 0, .int 0, .int 0, .int 0, .int 0, .ref (q 17), .ref (q 18), .ref (q 19), .ref (q 20)]))]) rfl (fun H locs hP hD hS => ?_)
  refine lv_sipush (v := (-1000)) hx hb dX9_degree_30 (by decide) ?_
  exact ret (-1000) (fun _ => 0, fun _ _ => 0) _ _ _ _ _ _ rfl rfl (bw_subP (isC := []) hP rfl) (hD.sub [] (by decide) rfl) hS (Nat.le_of_ble_eq_true rfl) (Nat.le_of_ble_eq_true rfl) dX9_degree_33
theorem dX9_trouble_0 : decode cX9_trouble 0 = .ok (.aload_n 0, 1) := by decide +kernel
theorem dX9_trouble_1 : decode cX9_trouble 1 = .ok (.iconst 0, 1) := by decide +kernel
theorem dX9_trouble_2 : decode cX9_trouble 2 = .ok (.putfield 77, 3) := by decide +kernel
theorem dX9_trouble_5 : decode cX9_trouble 5 = .ok (.aload_n 0, 1) := by decide +kernel
theorem dX9_trouble_6 : decode cX9_trouble 6 = .ok (.getfield 80, 3) := by decide +kernel
theorem dX9_trouble_9 : decode cX9_trouble 9 = .ok (.ireturn, 1) := by decide +kernel
abbrev rm_X9_trouble : Room := { frames := 0, cells := 0, slots := 0, locals := 0 }
set_option maxRecDepth 100000 in
set_option maxHeartbeats 4000000 in
theorem c_X9_trouble {l : Launch} {E : (Nat → Prop) → State → Prop} (hO : bw_Ok E) {G : va_G} {cI cB cJ cN cW : ClassId} (b : Nat) (q : Nat → Nat) : bw_Ci (S := bw_U) l yX9_trouble (bw_ws (Cond.code yX9_trouble cX9_trouble 1 (some .int))) rm_X9_trouble E G (bw_kt cI cB cJ cN cW) [.ref b] [(b, .inr (9, [.int 0, .ref (q 0), .int 0, .int 0, .int 0, .int 0, .int 0, .int 0, .int 0, .int 0, .int (-1), .int 0, .ref (q 1), .int 0, .int 0, .ref (q 2), .ref (q 3), .ref (q 4), .ref (q 5), .ref (q 6), .ref (q 7), .ref (q 8), .ref (q 9), .ref (q 10), .ref (q 11), .ref (q 12), .ref (q 13), .ref (q 14), .ref (q 15), .ref (q 16), .int 0, .int 0, .int 0, .int 0, .int 0, .int 0, .ref (q 17), .ref (q 18), .ref (q 19), .ref (q 20)]))] (fun r _ => r = 0) (fun _ => []) := by
  refine bw_Ci.of (cc := cX9_trouble) (maxL := 1) (ty := .int) (by decide) rfl (Nat.le_of_ble_eq_true rfl) ?_
  intro p e s m below meth c A Q hx hb hml hts hown hin hK hA hS hP hD hE ret ls hl
  have F : CallFix p m c cX9_trouble 1 s ([.ref b] : List Value).toArray bw_T RX9 := ⟨hx, hb, hml, hown, fun w h => hts w (List.mem_cons_of_mem _ h)⟩
  have hl : lv_has ls 1 [(0, .ref b)] := hl
  refine lv_aload_n hx hb dX9_trouble_0 rfl (lv_at hl 0 rfl) ?_
  refine lv_iconst (v := 0) hx hb dX9_trouble_1 (by decide) ?_
  refine r_put F hK hP hD hS 0 0 rfl rfl in_X9 tyX9 tyX9_ok nmX9 (by decide) k_1163 rfl rfl rfl (Nat.le_of_ble_eq_true rfl) dX9_trouble_2 (w1 := [(b, .inr (9, [.int 0, .ref (q 0), .int 0, .int 0, .int 0, .int 0, .int 0, .int 0, .int 0, .int 0, .int (-1), .int 0, .ref (q 1), .int 0, .int 0, .ref (q 2), .ref (q 3), .ref (q 4), .ref (q 5), .ref (q 6), .ref (q 7), .ref (q 8), .ref (q 9), .ref (q 10), .ref (q 11), .ref (q 12), .ref (q 13), .ref (q 14), .ref (q 15), .ref (q 16), .int 0, .int 0, .int 0, .int 0, .int 0, .int 0, .ref (q 17), .ref (q 18), .ref (q 19), .ref (q 20)]))]) rfl (fun H locs hP hD hS => ?_)
  refine lv_aload_n hx hb dX9_trouble_5 rfl (lv_at hl 0 rfl) ?_
  refine r_get F hK hP 0 11 rfl rfl in_X9 (by decide) k_1174 rfl dX9_trouble_6 ?_
  exact ret 0 (fun _ => 0, fun _ _ => 0) _ _ _ _ _ _ rfl rfl (bw_subP (isC := []) hP rfl) (hD.sub [] (by decide) rfl) hS (Nat.le_of_ble_eq_true rfl) (Nat.le_of_ble_eq_true rfl) dX9_trouble_9
theorem dX9_where_0 : decode cX9_where 0 = .ok (.aload_n 0, 1) := by decide +kernel
theorem dX9_where_1 : decode cX9_where 1 = .ok (.iconst 0, 1) := by decide +kernel
theorem dX9_where_2 : decode cX9_where 2 = .ok (.putfield 77, 3) := by decide +kernel
theorem dX9_where_5 : decode cX9_where 5 = .ok (.aload_n 0, 1) := by decide +kernel
theorem dX9_where_6 : decode cX9_where 6 = .ok (.getfield 80, 3) := by decide +kernel
theorem dX9_where_9 : decode cX9_where 9 = .ok (.iconst 4, 1) := by decide +kernel
theorem dX9_where_10 : decode cX9_where 10 = .ok (.if_icmp .ne 10, 3) := by decide +kernel
theorem dX9_where_20 : decode cX9_where 20 = .ok (.iconst (-1), 1) := by decide +kernel
theorem dX9_where_21 : decode cX9_where 21 = .ok (.ireturn, 1) := by decide +kernel
abbrev rm_X9_where : Room := { frames := 0, cells := 0, slots := 0, locals := 0 }
set_option maxRecDepth 100000 in
set_option maxHeartbeats 4000000 in
theorem c_X9_where {l : Launch} {E : (Nat → Prop) → State → Prop} (hO : bw_Ok E) {G : va_G} {cI cB cJ cN cW : ClassId} (b : Nat) (q : Nat → Nat) : bw_Ci (S := bw_U) l yX9_where (bw_ws (Cond.code yX9_where cX9_where 1 (some .int))) rm_X9_where E G (bw_kt cI cB cJ cN cW) [.ref b] [(b, .inr (9, [.int 0, .ref (q 0), .int 0, .int 0, .int 0, .int 0, .int 0, .int 0, .int 0, .int 0, .int (-1), .int 0, .ref (q 1), .int 0, .int 0, .ref (q 2), .ref (q 3), .ref (q 4), .ref (q 5), .ref (q 6), .ref (q 7), .ref (q 8), .ref (q 9), .ref (q 10), .ref (q 11), .ref (q 12), .ref (q 13), .ref (q 14), .ref (q 15), .ref (q 16), .int 0, .int 0, .int 0, .int 0, .int 0, .int 0, .ref (q 17), .ref (q 18), .ref (q 19), .ref (q 20)]))] (fun r _ => r = -1) (fun _ => []) := by
  refine bw_Ci.of (cc := cX9_where) (maxL := 1) (ty := .int) (by decide) rfl (Nat.le_of_ble_eq_true rfl) ?_
  intro p e s m below meth c A Q hx hb hml hts hown hin hK hA hS hP hD hE ret ls hl
  have F : CallFix p m c cX9_where 1 s ([.ref b] : List Value).toArray bw_T RX9 := ⟨hx, hb, hml, hown, fun w h => hts w (List.mem_cons_of_mem _ h)⟩
  have hl : lv_has ls 1 [(0, .ref b)] := hl
  refine lv_aload_n hx hb dX9_where_0 rfl (lv_at hl 0 rfl) ?_
  refine lv_iconst (v := 0) hx hb dX9_where_1 (by decide) ?_
  refine r_put F hK hP hD hS 0 0 rfl rfl in_X9 tyX9 tyX9_ok nmX9 (by decide) k_1163 rfl rfl rfl (Nat.le_of_ble_eq_true rfl) dX9_where_2 (w1 := [(b, .inr (9, [.int 0, .ref (q 0), .int 0, .int 0, .int 0, .int 0, .int 0, .int 0, .int 0, .int 0, .int (-1), .int 0, .ref (q 1), .int 0, .int 0, .ref (q 2), .ref (q 3), .ref (q 4), .ref (q 5), .ref (q 6), .ref (q 7), .ref (q 8), .ref (q 9), .ref (q 10), .ref (q 11), .ref (q 12), .ref (q 13), .ref (q 14), .ref (q 15), .ref (q 16), .int 0, .int 0, .int 0, .int 0, .int 0, .int 0, .ref (q 17), .ref (q 18), .ref (q 19), .ref (q 20)]))]) rfl (fun H locs hP hD hS => ?_)
  refine lv_aload_n hx hb dX9_where_5 rfl (lv_at hl 0 rfl) ?_
  refine r_get F hK hP 0 11 rfl rfl in_X9 (by decide) k_1174 rfl dX9_where_6 ?_
  refine lv_iconst (v := 4) hx hb dX9_where_9 (by decide) ?_
  refine lv_icmp_ne (tgt := 20) hx hb dX9_where_10 (by decide) (fun _ => ?_) (fun h9 => absurd h9 (by decide))
  refine lv_iconst (v := (-1)) hx hb dX9_where_20 (by decide) ?_
  exact ret (-1) (fun _ => 0, fun _ _ => 0) _ _ _ _ _ _ rfl rfl (bw_subP (isC := []) hP rfl) (hD.sub [] (by decide) rfl) hS (Nat.le_of_ble_eq_true rfl) (Nat.le_of_ble_eq_true rfl) dX9_where_21
theorem dX9_fault_0 : decode cX9_fault 0 = .ok (.aload_n 0, 1) := by decide +kernel
theorem dX9_fault_1 : decode cX9_fault 1 = .ok (.iconst 0, 1) := by decide +kernel
theorem dX9_fault_2 : decode cX9_fault 2 = .ok (.putfield 77, 3) := by decide +kernel
theorem dX9_fault_5 : decode cX9_fault 5 = .ok (.aload_n 0, 1) := by decide +kernel
theorem dX9_fault_6 : decode cX9_fault 6 = .ok (.getfield 119, 3) := by decide +kernel
theorem k_1172 : Cond.fieldLink RX9 119 "BurntWaysModel" "fault" "I" ∈ bw_T := bw_m 1172 (by decide +kernel) rfl
theorem dX9_fault_9 : decode cX9_fault 9 = .ok (.ireturn, 1) := by decide +kernel
abbrev rm_X9_fault : Room := { frames := 0, cells := 0, slots := 0, locals := 0 }
set_option maxRecDepth 100000 in
set_option maxHeartbeats 4000000 in
theorem c_X9_fault {l : Launch} {E : (Nat → Prop) → State → Prop} (hO : bw_Ok E) {G : va_G} {cI cB cJ cN cW : ClassId} (b : Nat) (q : Nat → Nat) : bw_Ci (S := bw_U) l yX9_fault (bw_ws (Cond.code yX9_fault cX9_fault 1 (some .int))) rm_X9_fault E G (bw_kt cI cB cJ cN cW) [.ref b] [(b, .inr (9, [.int 0, .ref (q 0), .int 0, .int 0, .int 0, .int 0, .int 0, .int 0, .int 0, .int 0, .int (-1), .int 0, .ref (q 1), .int 0, .int 0, .ref (q 2), .ref (q 3), .ref (q 4), .ref (q 5), .ref (q 6), .ref (q 7), .ref (q 8), .ref (q 9), .ref (q 10), .ref (q 11), .ref (q 12), .ref (q 13), .ref (q 14), .ref (q 15), .ref (q 16), .int 0, .int 0, .int 0, .int 0, .int 0, .int 0, .ref (q 17), .ref (q 18), .ref (q 19), .ref (q 20)]))] (fun r _ => r = 0) (fun _ => []) := by
  refine bw_Ci.of (cc := cX9_fault) (maxL := 1) (ty := .int) (by decide) rfl (Nat.le_of_ble_eq_true rfl) ?_
  intro p e s m below meth c A Q hx hb hml hts hown hin hK hA hS hP hD hE ret ls hl
  have F : CallFix p m c cX9_fault 1 s ([.ref b] : List Value).toArray bw_T RX9 := ⟨hx, hb, hml, hown, fun w h => hts w (List.mem_cons_of_mem _ h)⟩
  have hl : lv_has ls 1 [(0, .ref b)] := hl
  refine lv_aload_n hx hb dX9_fault_0 rfl (lv_at hl 0 rfl) ?_
  refine lv_iconst (v := 0) hx hb dX9_fault_1 (by decide) ?_
  refine r_put F hK hP hD hS 0 0 rfl rfl in_X9 tyX9 tyX9_ok nmX9 (by decide) k_1163 rfl rfl rfl (Nat.le_of_ble_eq_true rfl) dX9_fault_2 (w1 := [(b, .inr (9, [.int 0, .ref (q 0), .int 0, .int 0, .int 0, .int 0, .int 0, .int 0, .int 0, .int 0, .int (-1), .int 0, .ref (q 1), .int 0, .int 0, .ref (q 2), .ref (q 3), .ref (q 4), .ref (q 5), .ref (q 6), .ref (q 7), .ref (q 8), .ref (q 9), .ref (q 10), .ref (q 11), .ref (q 12), .ref (q 13), .ref (q 14), .ref (q 15), .ref (q 16), .int 0, .int 0, .int 0, .int 0, .int 0, .int 0, .ref (q 17), .ref (q 18), .ref (q 19), .ref (q 20)]))]) rfl (fun H locs hP hD hS => ?_)
  refine lv_aload_n hx hb dX9_fault_5 rfl (lv_at hl 0 rfl) ?_
  refine r_get F hK hP 0 9 rfl rfl in_X9 (by decide) k_1172 rfl dX9_fault_6 ?_
  exact ret 0 (fun _ => 0, fun _ _ => 0) _ _ _ _ _ _ rfl rfl (bw_subP (isC := []) hP rfl) (hD.sub [] (by decide) rfl) hS (Nat.le_of_ble_eq_true rfl) (Nat.le_of_ble_eq_true rfl) dX9_fault_9
theorem dX9_back_0 : decode cX9_back 0 = .ok (.aload_n 0, 1) := by decide +kernel
theorem dX9_back_1 : decode cX9_back 1 = .ok (.invokevirtual 197, 3) := by decide +kernel
theorem dX9_back_4 : decode cX9_back 4 = .ok (.iload_n 1, 1) := by decide +kernel
theorem dX9_back_5 : decode cX9_back 5 = .ok (.iconst 0, 1) := by decide +kernel
theorem dX9_back_6 : decode cX9_back 6 = .ok (.aload_n 0, 1) := by decide +kernel
theorem dX9_back_7 : decode cX9_back 7 = .ok (.getfield 219, 3) := by decide +kernel
theorem k_1197 : Cond.fieldLink RX9 219 "BurntWaysModel" "marks" "I" ∈ bw_T := bw_m 1197 (by decide +kernel) rfl
theorem dX9_back_10 : decode cX9_back 10 = .ok (.iconst 1, 1) := by decide +kernel
theorem dX9_back_11 : decode cX9_back 11 = .ok (.isub, 1) := by decide +kernel
theorem dX9_back_12 : decode cX9_back 12 = .ok (.invokestatic 146, 3) := by decide +kernel
theorem k_1300 : Cond.methodLink RX9 146 yX9_within ∈ bw_T := bw_m 1300 (by decide +kernel) rfl
theorem ks_X9_within : bw_KS RX9 yX9_within (Cond.code yX9_within cX9_within 3 (some .boolean)) := ⟨bw_m 1301 (by decide +kernel) rfl, bw_m 107 (by decide +kernel) rfl, bw_m 1302 (by decide +kernel) rfl⟩
theorem dX9_back_15 : decode cX9_back 15 = .ok (.ifCond .ne 9, 3) := by decide +kernel
theorem dX9_back_18 : decode cX9_back 18 = .ok (.aload_n 0, 1) := by decide +kernel
theorem dX9_back_19 : decode cX9_back 19 = .ok (.iconst 1, 1) := by decide +kernel
theorem dX9_back_20 : decode cX9_back 20 = .ok (.invokevirtual 291, 3) := by decide +kernel
theorem dX9_back_23 : decode cX9_back 23 = .ok (.ireturn, 1) := by decide +kernel
abbrev rm_X9_back : Room := { frames := 1, cells := 0, slots := 0, locals := 22 }
set_option maxRecDepth 100000 in
set_option maxHeartbeats 4000000 in
theorem c_X9_back {l : Launch} {E : (Nat → Prop) → State → Prop} (hO : bw_Ok E) {G : va_G} {cI cB cJ cN cW : ClassId} (b : Nat) (q : Nat → Nat) (x : Int32) : bw_Ci (S := bw_U) l yX9_back (bw_ws (Cond.code yX9_back cX9_back 3 (some .boolean))) rm_X9_back E G (bw_kt cI cB cJ cN cW) [.ref b, .int x] [(b, .inr (9, [.int 0, .ref (q 0), .int 0, .int 0, .int 0, .int 0, .int 0, .int 0, .int 0, .int 0, .int (-1), .int 0, .ref (q 1), .int 0, .int 0, .ref (q 2), .ref (q 3), .ref (q 4), .ref (q 5), .ref (q 6), .ref (q 7), .ref (q 8), .ref (q 9), .ref (q 10), .ref (q 11), .ref (q 12), .ref (q 13), .ref (q 14), .ref (q 15), .ref (q 16), .int 0, .int 0, .int 0, .int 0, .int 0, .int 0, .ref (q 17), .ref (q 18), .ref (q 19), .ref (q 20)]))] (fun r _ => r = 0) (fun _ => []) := by
  refine bw_Ci.of (cc := cX9_back) (maxL := 3) (ty := .boolean) (by decide) rfl (Nat.le_of_ble_eq_true rfl) ?_
  intro p e s m below meth c A Q hx hb hml hts hown hin hK hA hS hP hD hE ret ls hl
  have F : CallFix p m c cX9_back 3 s ([.ref b, .int x] : List Value).toArray bw_T RX9 := ⟨hx, hb, hml, hown, fun w h => hts w (List.mem_cons_of_mem _ h)⟩
  have hl : lv_has ls 3 [(0, .ref b), (1, .int x)] := hl
  refine lv_aload_n hx hb dX9_back_0 rfl (lv_at hl 0 rfl) ?_
  refine r_callVv (As := []) (rest := []) (wr := []) F hK hP hD hS hA hO hE (c_X9_good hO b q) k_1296 kv_X9_good 0 rfl (by decide +kernel) ⟨Nat.le_of_ble_eq_true rfl, Nat.le_of_ble_eq_true rfl⟩ [0] [] rfl rfl (by decide) (by decide) (by decide) 0 9 rfl rfl rfl hl.1 rfl (Nat.le_of_ble_eq_true rfl) dX9_back_1 ⟨Nat.le_of_ble_eq_true rfl, Nat.le_of_ble_eq_true rfl⟩ (w1 := fun u1 => [(b, .inr (9, [.int 0, .ref (q 0), .int 0, .int 0, .int 0, .int 0, .int 0, .int 0, .int 0, .int 0, .int (-1), .int 0, .ref (q 1), .int 0, .int 0, .ref (q 2), .ref (q 3), .ref (q 4), .ref (q 5), .ref (q 6), .ref (q 7), .ref (q 8), .ref (q 9), .ref (q 10), .ref (q 11), .ref (q 12), .ref (q 13), .ref (q 14), .ref (q 15), .ref (q 16), .int 0, .int 0, .int 0, .int 0, .int 0, .int 0, .ref (q 17), .ref (q 18), .ref (q 19), .ref (q 20)]))]) (fun _ => rfl) (fun  u1 H locs hp hP hD hS => ?_)
  refine lv_iload_n hx hb dX9_back_4 rfl (lv_at hl 1 rfl) ?_
  refine lv_iconst (v := 0) hx hb dX9_back_5 (by decide) ?_
  refine lv_aload_n hx hb dX9_back_6 rfl (lv_at hl 0 rfl) ?_
  refine r_get F hK hP 0 34 rfl rfl in_X9 (by decide) k_1197 rfl dX9_back_7 ?_
  refine lv_iconst (v := 1) hx hb dX9_back_10 (by decide) ?_
  refine r_isub (v := (-1)) F dX9_back_11 (by decide) ?_
  refine r_callSi (As := [.int x, .int 0, .int (-1)]) (rest := []) (wr := [(b, .inr (9, [.int 0, .ref (q 0), .int 0, .int 0, .int 0, .int 0, .int 0, .int 0, .int 0, .int 0, .int (-1), .int 0, .ref (q 1), .int 0, .int 0, .ref (q 2), .ref (q 3), .ref (q 4), .ref (q 5), .ref (q 6), .ref (q 7), .ref (q 8), .ref (q 9), .ref (q 10), .ref (q 11), .ref (q 12), .ref (q 13), .ref (q 14), .ref (q 15), .ref (q 16), .int 0, .int 0, .int 0, .int 0, .int 0, .int 0, .ref (q 17), .ref (q 18), .ref (q 19), .ref (q 20)]))]) F hK hP hD hS hA hO hE (c_X9_within hO x 0 (-1)) k_1300 ks_X9_within 3 rfl (by decide +kernel) ⟨Nat.le_of_ble_eq_true rfl, Nat.le_of_ble_eq_true rfl⟩ [] [0] rfl rfl (by decide) (by decide) (by decide) hl.1 rfl (Nat.le_of_ble_eq_true rfl) dX9_back_12 ⟨Nat.le_of_ble_eq_true rfl, Nat.le_of_ble_eq_true rfl⟩ (w1 := fun u2 => [(b, .inr (9, [.int 0, .ref (q 0), .int 0, .int 0, .int 0, .int 0, .int 0, .int 0, .int 0, .int 0, .int (-1), .int 0, .ref (q 1), .int 0, .int 0, .ref (q 2), .ref (q 3), .ref (q 4), .ref (q 5), .ref (q 6), .ref (q 7), .ref (q 8), .ref (q 9), .ref (q 10), .ref (q 11), .ref (q 12), .ref (q 13), .ref (q 14), .ref (q 15), .ref (q 16), .int 0, .int 0, .int 0, .int 0, .int 0, .int 0, .ref (q 17), .ref (q 18), .ref (q 19), .ref (q 20)]))]) (fun _ => rfl) (fun r3 u2 H locs hp hP hD hS => ?_)
  rcases hp with ⟨rfl, g1, g2⟩ | ⟨rfl, g0⟩
  · exact absurd (Int32.le_trans g1 g2) (by decide)
  · refine lv_if_ne (tgt := 24) hx hb dX9_back_15 (by decide) (fun h9 => absurd (by decide) h9) (fun _ => ?_)
    refine lv_aload_n hx hb dX9_back_18 rfl (lv_at hl 0 rfl) ?_
    refine lv_iconst (v := 1) hx hb dX9_back_19 (by decide) ?_
    refine r_callVi (As := [.int 1]) (rest := []) (wr := []) F hK hP hD hS hA hO hE (c_X9_isNot hO b q 1) k_1446 kv_X9_isNot 1 rfl (by decide +kernel) ⟨Nat.le_of_ble_eq_true rfl, Nat.le_of_ble_eq_true rfl⟩ [0] [] rfl rfl (by decide) (by decide) (by decide) 0 9 rfl rfl rfl hl.1 rfl (Nat.le_of_ble_eq_true rfl) dX9_back_20 ⟨Nat.le_of_ble_eq_true rfl, Nat.le_of_ble_eq_true rfl⟩ (w1 := fun u4 => []) (fun _ => rfl) (fun r5 u4 H locs hp hP hD hS => ?_)
    subst hp
    exact ret 0 (fun _ => 0, fun _ _ => 0) _ _ _ _ _ _ rfl rfl (bw_subP (isC := []) hP rfl) (hD.sub [] (by decide) rfl) hS (Nat.le_of_ble_eq_true rfl) (Nat.le_of_ble_eq_true rfl) dX9_back_23
theorem dX9_size_0 : decode cX9_size 0 = .ok (.aload_n 0, 1) := by decide +kernel
theorem dX9_size_1 : decode cX9_size 1 = .ok (.iconst 0, 1) := by decide +kernel
theorem dX9_size_2 : decode cX9_size 2 = .ok (.putfield 77, 3) := by decide +kernel
theorem dX9_size_5 : decode cX9_size 5 = .ok (.iload_n 1, 1) := by decide +kernel
theorem dX9_size_6 : decode cX9_size 6 = .ok (.iconst 5, 1) := by decide +kernel
theorem dX9_size_7 : decode cX9_size 7 = .ok (.if_icmp .ne 8, 3) := by decide +kernel
theorem dX9_size_15 : decode cX9_size 15 = .ok (.aload_n 0, 1) := by decide +kernel
theorem dX9_size_16 : decode cX9_size 16 = .ok (.getfield 222, 3) := by decide +kernel
theorem dX9_size_19 : decode cX9_size 19 = .ok (.ifCond .ne 19, 3) := by decide +kernel
theorem dX9_size_22 : decode cX9_size 22 = .ok (.iload_n 1, 1) := by decide +kernel
theorem dX9_size_23 : decode cX9_size 23 = .ok (.iconst 0, 1) := by decide +kernel
theorem dX9_size_24 : decode cX9_size 24 = .ok (.bipush 6, 2) := by decide +kernel
theorem dX9_size_26 : decode cX9_size 26 = .ok (.invokestatic 146, 3) := by decide +kernel
theorem dX9_size_29 : decode cX9_size 29 = .ok (.ifCond .eq 7, 3) := by decide +kernel
theorem dX9_size_32 : decode cX9_size 32 = .ok (.iconst 0, 1) := by decide +kernel
theorem dX9_size_33 : decode cX9_size 33 = .ok (.goto 4, 3) := by decide +kernel
theorem dX9_size_37 : decode cX9_size 37 = .ok (.ireturn, 1) := by decide +kernel
theorem dX9_size_36 : decode cX9_size 36 = .ok (.iconst (-1), 1) := by decide +kernel
theorem dX9_size_10 : decode cX9_size 10 = .ok (.aload_n 0, 1) := by decide +kernel
theorem dX9_size_11 : decode cX9_size 11 = .ok (.getfield 83, 3) := by decide +kernel
theorem k_1165 : Cond.fieldLink RX9 83 "BurntWaysModel" "taped" "I" ∈ bw_T := bw_m 1165 (by decide +kernel) rfl
theorem dX9_size_14 : decode cX9_size 14 = .ok (.ireturn, 1) := by decide +kernel
abbrev rm_X9_size : Room := { frames := 1, cells := 0, slots := 0, locals := 22 }
set_option maxRecDepth 100000 in
set_option maxHeartbeats 4000000 in
theorem c_X9_size {l : Launch} {E : (Nat → Prop) → State → Prop} (hO : bw_Ok E) {G : va_G} {cI cB cJ cN cW : ClassId} (b : Nat) (q : Nat → Nat) (w : Int32) : bw_Ci (S := bw_U) l yX9_size (bw_ws (Cond.code yX9_size cX9_size 5 (some .int))) rm_X9_size E G (bw_kt cI cB cJ cN cW) [.ref b, .int w] [(b, .inr (9, [.int 0, .ref (q 0), .int 0, .int 0, .int 0, .int 0, .int 0, .int 0, .int 0, .int 0, .int (-1), .int 0, .ref (q 1), .int 0, .int 0, .ref (q 2), .ref (q 3), .ref (q 4), .ref (q 5), .ref (q 6), .ref (q 7), .ref (q 8), .ref (q 9), .ref (q 10), .ref (q 11), .ref (q 12), .ref (q 13), .ref (q 14), .ref (q 15), .ref (q 16), .int 0, .int 0, .int 0, .int 0, .int 0, .int 0, .ref (q 17), .ref (q 18), .ref (q 19), .ref (q 20)]))] (fun r _ => r = bw_size w) (fun _ => []) := by
  refine bw_Ci.of (cc := cX9_size) (maxL := 5) (ty := .int) (by decide) rfl (Nat.le_of_ble_eq_true rfl) ?_
  intro p e s m below meth c A Q hx hb hml hts hown hin hK hA hS hP hD hE ret ls hl
  have F : CallFix p m c cX9_size 5 s ([.ref b, .int w] : List Value).toArray bw_T RX9 := ⟨hx, hb, hml, hown, fun w h => hts w (List.mem_cons_of_mem _ h)⟩
  have hl : lv_has ls 5 [(0, .ref b), (1, .int w)] := hl
  refine lv_aload_n hx hb dX9_size_0 rfl (lv_at hl 0 rfl) ?_
  refine lv_iconst (v := 0) hx hb dX9_size_1 (by decide) ?_
  refine r_put F hK hP hD hS 0 0 rfl rfl in_X9 tyX9 tyX9_ok nmX9 (by decide) k_1163 rfl rfl rfl (Nat.le_of_ble_eq_true rfl) dX9_size_2 (w1 := [(b, .inr (9, [.int 0, .ref (q 0), .int 0, .int 0, .int 0, .int 0, .int 0, .int 0, .int 0, .int 0, .int (-1), .int 0, .ref (q 1), .int 0, .int 0, .ref (q 2), .ref (q 3), .ref (q 4), .ref (q 5), .ref (q 6), .ref (q 7), .ref (q 8), .ref (q 9), .ref (q 10), .ref (q 11), .ref (q 12), .ref (q 13), .ref (q 14), .ref (q 15), .ref (q 16), .int 0, .int 0, .int 0, .int 0, .int 0, .int 0, .ref (q 17), .ref (q 18), .ref (q 19), .ref (q 20)]))]) rfl (fun H locs hP hD hS => ?_)
  refine lv_iload_n hx hb dX9_size_5 rfl (lv_at hl 1 rfl) ?_
  refine lv_iconst (v := 5) hx hb dX9_size_6 (by decide) ?_
  refine lv_icmp_ne (tgt := 15) hx hb dX9_size_7 (by decide) (fun h5 => ?_) (fun h5 => ?_)
  · refine lv_aload_n hx hb dX9_size_15 rfl (lv_at hl 0 rfl) ?_
    refine r_get F hK hP 0 14 rfl rfl in_X9 (by decide) k_1177 rfl dX9_size_16 ?_
    refine lv_if_ne (tgt := 38) hx hb dX9_size_19 (by decide) (fun h9 => absurd (by decide) h9) (fun _ => ?_)
    refine lv_iload_n hx hb dX9_size_22 rfl (lv_at hl 1 rfl) ?_
    refine lv_iconst (v := 0) hx hb dX9_size_23 (by decide) ?_
    refine lv_bipush (v := 6) hx hb dX9_size_24 (by decide) ?_
    refine r_callSi (As := [.int w, .int 0, .int 6]) (rest := []) (wr := [(b, .inr (9, [.int 0, .ref (q 0), .int 0, .int 0, .int 0, .int 0, .int 0, .int 0, .int 0, .int 0, .int (-1), .int 0, .ref (q 1), .int 0, .int 0, .ref (q 2), .ref (q 3), .ref (q 4), .ref (q 5), .ref (q 6), .ref (q 7), .ref (q 8), .ref (q 9), .ref (q 10), .ref (q 11), .ref (q 12), .ref (q 13), .ref (q 14), .ref (q 15), .ref (q 16), .int 0, .int 0, .int 0, .int 0, .int 0, .int 0, .ref (q 17), .ref (q 18), .ref (q 19), .ref (q 20)]))]) F hK hP hD hS hA hO hE (c_X9_within hO w 0 6) k_1300 ks_X9_within 3 rfl (by decide +kernel) ⟨Nat.le_of_ble_eq_true rfl, Nat.le_of_ble_eq_true rfl⟩ [] [0] rfl rfl (by decide) (by decide) (by decide) hl.1 rfl (Nat.le_of_ble_eq_true rfl) dX9_size_26 ⟨Nat.le_of_ble_eq_true rfl, Nat.le_of_ble_eq_true rfl⟩ (w1 := fun u1 => [(b, .inr (9, [.int 0, .ref (q 0), .int 0, .int 0, .int 0, .int 0, .int 0, .int 0, .int 0, .int 0, .int (-1), .int 0, .ref (q 1), .int 0, .int 0, .ref (q 2), .ref (q 3), .ref (q 4), .ref (q 5), .ref (q 6), .ref (q 7), .ref (q 8), .ref (q 9), .ref (q 10), .ref (q 11), .ref (q 12), .ref (q 13), .ref (q 14), .ref (q 15), .ref (q 16), .int 0, .int 0, .int 0, .int 0, .int 0, .int 0, .ref (q 17), .ref (q 18), .ref (q 19), .ref (q 20)]))]) (fun _ => rfl) (fun r2 u1 H locs hp hP hD hS => ?_)
    rcases hp with ⟨rfl, g1, g2⟩ | ⟨rfl, g0⟩
    · refine lv_if_eq (tgt := 36) hx hb dX9_size_29 (by decide) (fun h9 => absurd h9 (by decide)) (fun _ => ?_)
      refine lv_iconst (v := 0) hx hb dX9_size_32 (by decide) ?_
      refine lv_goto (tgt := 37) hx hb dX9_size_33 (by decide) ?_
      exact ret 0 (fun _ => 0, fun _ _ => 0) _ _ _ _ _ _ rfl (if_pos ⟨g1, g2⟩).symm (bw_subP (isC := []) hP rfl) (hD.sub [] (by decide) rfl) hS (Nat.le_of_ble_eq_true rfl) (Nat.le_of_ble_eq_true rfl) dX9_size_37
    · refine lv_if_eq (tgt := 36) hx hb dX9_size_29 (by decide) (fun _ => ?_) (fun h9 => absurd (by decide) h9)
      refine lv_iconst (v := (-1)) hx hb dX9_size_36 (by decide) ?_
      exact ret (-1) (fun _ => 0, fun _ _ => 0) _ _ _ _ _ _ rfl (if_neg g0).symm (bw_subP (isC := []) hP rfl) (hD.sub [] (by decide) rfl) hS (Nat.le_of_ble_eq_true rfl) (Nat.le_of_ble_eq_true rfl) dX9_size_37
  · refine lv_aload_n hx hb dX9_size_10 rfl (lv_at hl 0 rfl) ?_
    refine r_get F hK hP 0 2 rfl rfl in_X9 (by decide) k_1165 rfl dX9_size_11 ?_
    exact ret 0 (fun _ => 0, fun _ _ => 0) _ _ _ _ _ _ rfl (by rw [h5]; decide) (bw_subP (isC := []) hP rfl) (hD.sub [] (by decide) rfl) hS (Nat.le_of_ble_eq_true rfl) (Nat.le_of_ble_eq_true rfl) dX9_size_14
theorem dX9_loop_0 : decode cX9_loop 0 = .ok (.aload_n 0, 1) := by decide +kernel
theorem dX9_loop_1 : decode cX9_loop 1 = .ok (.invokevirtual 197, 3) := by decide +kernel
theorem dX9_loop_4 : decode cX9_loop 4 = .ok (.iload_n 1, 1) := by decide +kernel
theorem dX9_loop_5 : decode cX9_loop 5 = .ok (.iconst 1, 1) := by decide +kernel
theorem dX9_loop_6 : decode cX9_loop 6 = .ok (.bipush 9, 2) := by decide +kernel
theorem dX9_loop_8 : decode cX9_loop 8 = .ok (.invokestatic 146, 3) := by decide +kernel
theorem dX9_loop_11 : decode cX9_loop 11 = .ok (.ifCond .eq 13, 3) := by decide +kernel
theorem dX9_loop_14 : decode cX9_loop 14 = .ok (.iload_n 2, 1) := by decide +kernel
theorem dX9_loop_15 : decode cX9_loop 15 = .ok (.iconst 1, 1) := by decide +kernel
theorem dX9_loop_16 : decode cX9_loop 16 = .ok (.bipush 99, 2) := by decide +kernel
theorem dX9_loop_18 : decode cX9_loop 18 = .ok (.invokestatic 146, 3) := by decide +kernel
theorem dX9_loop_21 : decode cX9_loop 21 = .ok (.ifCond .ne 9, 3) := by decide +kernel
theorem dX9_loop_30 : decode cX9_loop 30 = .ok (.iload_n 1, 1) := by decide +kernel
theorem dX9_loop_31 : decode cX9_loop 31 = .ok (.iconst 1, 1) := by decide +kernel
theorem dX9_loop_32 : decode cX9_loop 32 = .ok (.if_icmp .ne 8, 3) := by decide +kernel
theorem dX9_loop_40 : decode cX9_loop 40 = .ok (.bipush 9, 2) := by decide +kernel
theorem dX9_loop_42 : decode cX9_loop 42 = .ok (.istore_n 3, 1) := by decide +kernel
theorem dX9_loop_43 : decode cX9_loop 43 = .ok (.iload_n 1, 1) := by decide +kernel
theorem dX9_loop_44 : decode cX9_loop 44 = .ok (.iload_n 2, 1) := by decide +kernel
theorem dX9_loop_45 : decode cX9_loop 45 = .ok (.iload_n 3, 1) := by decide +kernel
theorem dX9_loop_46 : decode cX9_loop 46 = .ok (.iadd, 1) := by decide +kernel
theorem dX9_loop_47 : decode cX9_loop 47 = .ok (.iconst 1, 1) := by decide +kernel
theorem dX9_loop_48 : decode cX9_loop 48 = .ok (.isub, 1) := by decide +kernel
theorem dX9_loop_49 : decode cX9_loop 49 = .ok (.iload_n 3, 1) := by decide +kernel
theorem dX9_loop_50 : decode cX9_loop 50 = .ok (.idiv, 1) := by decide +kernel
theorem dX9_loop_51 : decode cX9_loop 51 = .ok (.imul, 1) := by decide +kernel
theorem dX9_loop_52 : decode cX9_loop 52 = .ok (.ireturn, 1) := by decide +kernel
theorem dX9_loop_35 : decode cX9_loop 35 = .ok (.bipush 10, 2) := by decide +kernel
theorem dX9_loop_37 : decode cX9_loop 37 = .ok (.goto 5, 3) := by decide +kernel
theorem dX9_loop_24 : decode cX9_loop 24 = .ok (.aload_n 0, 1) := by decide +kernel
theorem dX9_loop_25 : decode cX9_loop 25 = .ok (.iconst 2, 1) := by decide +kernel
theorem dX9_loop_26 : decode cX9_loop 26 = .ok (.invokevirtual 200, 3) := by decide +kernel
theorem dX9_loop_29 : decode cX9_loop 29 = .ok (.ireturn, 1) := by decide +kernel
abbrev rm_X9_loop : Room := { frames := 1, cells := 0, slots := 0, locals := 22 }
set_option maxRecDepth 100000 in
set_option maxHeartbeats 4000000 in
theorem c_X9_loop {l : Launch} {E : (Nat → Prop) → State → Prop} (hO : bw_Ok E) {G : va_G} {cI cB cJ cN cW : ClassId} (b : Nat) (q : Nat → Nat) (x : Int32) (y : Int32) : bw_Ci (S := bw_U) l yX9_loop (bw_ws (Cond.code yX9_loop cX9_loop 4 (some .int))) rm_X9_loop E G (bw_kt cI cB cJ cN cW) [.ref b, .int x, .int y] [(b, .inr (9, [.int 0, .ref (q 0), .int 0, .int 0, .int 0, .int 0, .int 0, .int 0, .int 0, .int 0, .int (-1), .int 0, .ref (q 1), .int 0, .int 0, .ref (q 2), .ref (q 3), .ref (q 4), .ref (q 5), .ref (q 6), .ref (q 7), .ref (q 8), .ref (q 9), .ref (q 10), .ref (q 11), .ref (q 12), .ref (q 13), .ref (q 14), .ref (q 15), .ref (q 16), .int 0, .int 0, .int 0, .int 0, .int 0, .int 0, .ref (q 17), .ref (q 18), .ref (q 19), .ref (q 20)]))] (fun r _ => r = bw_loop x y) (fun _ => []) := by
  refine bw_Ci.of (cc := cX9_loop) (maxL := 4) (ty := .int) (by decide) rfl (Nat.le_of_ble_eq_true rfl) ?_
  intro p e s m below meth c A Q hx hb hml hts hown hin hK hA hS hP hD hE ret ls hl
  have F : CallFix p m c cX9_loop 4 s ([.ref b, .int x, .int y] : List Value).toArray bw_T RX9 := ⟨hx, hb, hml, hown, fun w h => hts w (List.mem_cons_of_mem _ h)⟩
  have hl : lv_has ls 4 [(0, .ref b), (1, .int x), (2, .int y)] := hl
  refine lv_aload_n hx hb dX9_loop_0 rfl (lv_at hl 0 rfl) ?_
  refine r_callVv (As := []) (rest := []) (wr := []) F hK hP hD hS hA hO hE (c_X9_good hO b q) k_1296 kv_X9_good 0 rfl (by decide +kernel) ⟨Nat.le_of_ble_eq_true rfl, Nat.le_of_ble_eq_true rfl⟩ [0] [] rfl rfl (by decide) (by decide) (by decide) 0 9 rfl rfl rfl hl.1 rfl (Nat.le_of_ble_eq_true rfl) dX9_loop_1 ⟨Nat.le_of_ble_eq_true rfl, Nat.le_of_ble_eq_true rfl⟩ (w1 := fun u1 => [(b, .inr (9, [.int 0, .ref (q 0), .int 0, .int 0, .int 0, .int 0, .int 0, .int 0, .int 0, .int 0, .int (-1), .int 0, .ref (q 1), .int 0, .int 0, .ref (q 2), .ref (q 3), .ref (q 4), .ref (q 5), .ref (q 6), .ref (q 7), .ref (q 8), .ref (q 9), .ref (q 10), .ref (q 11), .ref (q 12), .ref (q 13), .ref (q 14), .ref (q 15), .ref (q 16), .int 0, .int 0, .int 0, .int 0, .int 0, .int 0, .ref (q 17), .ref (q 18), .ref (q 19), .ref (q 20)]))]) (fun _ => rfl) (fun  u1 H locs hp hP hD hS => ?_)
  refine lv_iload_n hx hb dX9_loop_4 rfl (lv_at hl 1 rfl) ?_
  refine lv_iconst (v := 1) hx hb dX9_loop_5 (by decide) ?_
  refine lv_bipush (v := 9) hx hb dX9_loop_6 (by decide) ?_
  refine r_callSi (As := [.int x, .int 1, .int 9]) (rest := []) (wr := [(b, .inr (9, [.int 0, .ref (q 0), .int 0, .int 0, .int 0, .int 0, .int 0, .int 0, .int 0, .int 0, .int (-1), .int 0, .ref (q 1), .int 0, .int 0, .ref (q 2), .ref (q 3), .ref (q 4), .ref (q 5), .ref (q 6), .ref (q 7), .ref (q 8), .ref (q 9), .ref (q 10), .ref (q 11), .ref (q 12), .ref (q 13), .ref (q 14), .ref (q 15), .ref (q 16), .int 0, .int 0, .int 0, .int 0, .int 0, .int 0, .ref (q 17), .ref (q 18), .ref (q 19), .ref (q 20)]))]) F hK hP hD hS hA hO hE (c_X9_within hO x 1 9) k_1300 ks_X9_within 3 rfl (by decide +kernel) ⟨Nat.le_of_ble_eq_true rfl, Nat.le_of_ble_eq_true rfl⟩ [] [0] rfl rfl (by decide) (by decide) (by decide) hl.1 rfl (Nat.le_of_ble_eq_true rfl) dX9_loop_8 ⟨Nat.le_of_ble_eq_true rfl, Nat.le_of_ble_eq_true rfl⟩ (w1 := fun u2 => [(b, .inr (9, [.int 0, .ref (q 0), .int 0, .int 0, .int 0, .int 0, .int 0, .int 0, .int 0, .int 0, .int (-1), .int 0, .ref (q 1), .int 0, .int 0, .ref (q 2), .ref (q 3), .ref (q 4), .ref (q 5), .ref (q 6), .ref (q 7), .ref (q 8), .ref (q 9), .ref (q 10), .ref (q 11), .ref (q 12), .ref (q 13), .ref (q 14), .ref (q 15), .ref (q 16), .int 0, .int 0, .int 0, .int 0, .int 0, .int 0, .ref (q 17), .ref (q 18), .ref (q 19), .ref (q 20)]))]) (fun _ => rfl) (fun r3 u2 H locs hp hP hD hS => ?_)
  rcases hp with ⟨rfl, g1, g2⟩ | ⟨rfl, g0⟩
  · refine lv_if_eq (tgt := 24) hx hb dX9_loop_11 (by decide) (fun h9 => absurd h9 (by decide)) (fun _ => ?_)
    refine lv_iload_n hx hb dX9_loop_14 rfl (lv_at hl 2 rfl) ?_
    refine lv_iconst (v := 1) hx hb dX9_loop_15 (by decide) ?_
    refine lv_bipush (v := 99) hx hb dX9_loop_16 (by decide) ?_
    refine r_callSi (As := [.int y, .int 1, .int 99]) (rest := []) (wr := [(b, .inr (9, [.int 0, .ref (q 0), .int 0, .int 0, .int 0, .int 0, .int 0, .int 0, .int 0, .int 0, .int (-1), .int 0, .ref (q 1), .int 0, .int 0, .ref (q 2), .ref (q 3), .ref (q 4), .ref (q 5), .ref (q 6), .ref (q 7), .ref (q 8), .ref (q 9), .ref (q 10), .ref (q 11), .ref (q 12), .ref (q 13), .ref (q 14), .ref (q 15), .ref (q 16), .int 0, .int 0, .int 0, .int 0, .int 0, .int 0, .ref (q 17), .ref (q 18), .ref (q 19), .ref (q 20)]))]) F hK hP hD hS hA hO hE (c_X9_within hO y 1 99) k_1300 ks_X9_within 3 rfl (by decide +kernel) ⟨Nat.le_of_ble_eq_true rfl, Nat.le_of_ble_eq_true rfl⟩ [] [0] rfl rfl (by decide) (by decide) (by decide) hl.1 rfl (Nat.le_of_ble_eq_true rfl) dX9_loop_18 ⟨Nat.le_of_ble_eq_true rfl, Nat.le_of_ble_eq_true rfl⟩ (w1 := fun u4 => [(b, .inr (9, [.int 0, .ref (q 0), .int 0, .int 0, .int 0, .int 0, .int 0, .int 0, .int 0, .int 0, .int (-1), .int 0, .ref (q 1), .int 0, .int 0, .ref (q 2), .ref (q 3), .ref (q 4), .ref (q 5), .ref (q 6), .ref (q 7), .ref (q 8), .ref (q 9), .ref (q 10), .ref (q 11), .ref (q 12), .ref (q 13), .ref (q 14), .ref (q 15), .ref (q 16), .int 0, .int 0, .int 0, .int 0, .int 0, .int 0, .ref (q 17), .ref (q 18), .ref (q 19), .ref (q 20)]))]) (fun _ => rfl) (fun r5 u4 H locs hp hP hD hS => ?_)
    rcases hp with ⟨rfl, k1, k2⟩ | ⟨rfl, k0⟩
    · refine lv_if_ne (tgt := 30) hx hb dX9_loop_21 (by decide) (fun _ => ?_) (fun h9 => absurd h9 (by decide))
      refine lv_iload_n hx hb dX9_loop_30 rfl (lv_at hl 1 rfl) ?_
      refine lv_iconst (v := 1) hx hb dX9_loop_31 (by decide) ?_
      refine lv_icmp_ne (tgt := 40) hx hb dX9_loop_32 (by decide) (fun h5 => ?_) (fun h5 => ?_)
      · refine lv_bipush (v := 9) hx hb dX9_loop_40 (by decide) ?_
        refine lv_istore_n (lv' := [(3, .int 9), (0, .ref b), (1, .int x), (2, .int y)]) hx hb dX9_loop_42 rfl hl (by decide) rfl (fun ls hl => ?_)
        refine lv_iload_n hx hb dX9_loop_43 rfl (lv_at hl 2 rfl) ?_
        refine lv_iload_n hx hb dX9_loop_44 rfl (lv_at hl 3 rfl) ?_
        refine lv_iload_n hx hb dX9_loop_45 rfl (lv_at hl 0 rfl) ?_
        refine r_iadd (v := (y + 9)) F dX9_loop_46 rfl ?_
        refine lv_iconst (v := 1) hx hb dX9_loop_47 (by decide) ?_
        refine r_isub (v := ((y + 9) - 1)) F dX9_loop_48 rfl ?_
        refine lv_iload_n hx hb dX9_loop_49 rfl (lv_at hl 0 rfl) ?_
        refine r_idiv (v := (((y + 9) - 1) / 9)) F dX9_loop_50 (by decide) rfl ?_
        refine r_imul (v := (x * (((y + 9) - 1) / 9))) F dX9_loop_51 rfl ?_
        exact ret (x * (((y + 9) - 1) / 9)) (fun _ => 0, fun _ _ => 0) _ _ _ _ _ _ rfl (bw_loop_n ⟨⟨g1, g2⟩, k1, k2⟩ h5).symm (bw_subP (isC := []) hP rfl) (hD.sub [] (by decide) rfl) hS (Nat.le_of_ble_eq_true rfl) (Nat.le_of_ble_eq_true rfl) dX9_loop_52
      · refine lv_bipush (v := 10) hx hb dX9_loop_35 (by decide) ?_
        refine lv_goto (tgt := 42) hx hb dX9_loop_37 (by decide) ?_
        refine lv_istore_n (lv' := [(3, .int 10), (0, .ref b), (1, .int x), (2, .int y)]) hx hb dX9_loop_42 rfl hl (by decide) rfl (fun ls hl => ?_)
        refine lv_iload_n hx hb dX9_loop_43 rfl (lv_at hl 2 rfl) ?_
        refine lv_iload_n hx hb dX9_loop_44 rfl (lv_at hl 3 rfl) ?_
        refine lv_iload_n hx hb dX9_loop_45 rfl (lv_at hl 0 rfl) ?_
        refine r_iadd (v := (y + 10)) F dX9_loop_46 rfl ?_
        refine lv_iconst (v := 1) hx hb dX9_loop_47 (by decide) ?_
        refine r_isub (v := ((y + 10) - 1)) F dX9_loop_48 rfl ?_
        refine lv_iload_n hx hb dX9_loop_49 rfl (lv_at hl 0 rfl) ?_
        refine r_idiv (v := (((y + 10) - 1) / 10)) F dX9_loop_50 (by decide) rfl ?_
        refine r_imul (v := (x * (((y + 10) - 1) / 10))) F dX9_loop_51 rfl ?_
        exact ret (x * (((y + 10) - 1) / 10)) (fun _ => 0, fun _ _ => 0) _ _ _ _ _ _ rfl (bw_loop_1' ⟨⟨g1, g2⟩, k1, k2⟩ h5) (bw_subP (isC := []) hP rfl) (hD.sub [] (by decide) rfl) hS (Nat.le_of_ble_eq_true rfl) (Nat.le_of_ble_eq_true rfl) dX9_loop_52
    · refine lv_if_ne (tgt := 30) hx hb dX9_loop_21 (by decide) (fun h9 => absurd (by decide) h9) (fun _ => ?_)
      refine lv_aload_n hx hb dX9_loop_24 rfl (lv_at hl 0 rfl) ?_
      refine lv_iconst (v := 2) hx hb dX9_loop_25 (by decide) ?_
      refine r_callVi (As := [.int 2]) (rest := []) (wr := []) F hK hP hD hS hA hO hE (c_X9_no hO b q 2) k_1303 kv_X9_no 1 rfl (by decide +kernel) ⟨Nat.le_of_ble_eq_true rfl, Nat.le_of_ble_eq_true rfl⟩ [0] [] rfl rfl (by decide) (by decide) (by decide) 0 9 rfl rfl rfl hl.1 rfl (Nat.le_of_ble_eq_true rfl) dX9_loop_26 ⟨Nat.le_of_ble_eq_true rfl, Nat.le_of_ble_eq_true rfl⟩ (w1 := fun u6 => []) (fun _ => rfl) (fun r7 u6 H locs hp hP hD hS => ?_)
      subst hp
      exact ret (-1) (fun _ => 0, fun _ _ => 0) _ _ _ _ _ _ rfl (by refine (bw_loop_no (fun q9 => ?_)).symm; first | exact g0 q9.1 | exact k0 q9.2) (bw_subP (isC := []) hP rfl) (hD.sub [] (by decide) rfl) hS (Nat.le_of_ble_eq_true rfl) (Nat.le_of_ble_eq_true rfl) dX9_loop_29
  · refine lv_if_eq (tgt := 24) hx hb dX9_loop_11 (by decide) (fun _ => ?_) (fun h9 => absurd (by decide) h9)
    refine lv_aload_n hx hb dX9_loop_24 rfl (lv_at hl 0 rfl) ?_
    refine lv_iconst (v := 2) hx hb dX9_loop_25 (by decide) ?_
    refine r_callVi (As := [.int 2]) (rest := []) (wr := []) F hK hP hD hS hA hO hE (c_X9_no hO b q 2) k_1303 kv_X9_no 1 rfl (by decide +kernel) ⟨Nat.le_of_ble_eq_true rfl, Nat.le_of_ble_eq_true rfl⟩ [0] [] rfl rfl (by decide) (by decide) (by decide) 0 9 rfl rfl rfl hl.1 rfl (Nat.le_of_ble_eq_true rfl) dX9_loop_26 ⟨Nat.le_of_ble_eq_true rfl, Nat.le_of_ble_eq_true rfl⟩ (w1 := fun u4 => []) (fun _ => rfl) (fun r5 u4 H locs hp hP hD hS => ?_)
    subst hp
    exact ret (-1) (fun _ => 0, fun _ _ => 0) _ _ _ _ _ _ rfl (by refine (bw_loop_no (fun q9 => ?_)).symm; first | exact g0 q9.1 | exact k0 q9.2) (bw_subP (isC := []) hP rfl) (hD.sub [] (by decide) rfl) hS (Nat.le_of_ble_eq_true rfl) (Nat.le_of_ble_eq_true rfl) dX9_loop_29
theorem dX9_led_0 : decode cX9_led 0 = .ok (.iconst 0, 1) := by decide +kernel
theorem dX9_led_1 : decode cX9_led 1 = .ok (.istore_n 2, 1) := by decide +kernel
theorem dX9_led_2 : decode cX9_led 2 = .ok (.iconst 0, 1) := by decide +kernel
theorem dX9_led_3 : decode cX9_led 3 = .ok (.istore_n 3, 1) := by decide +kernel
theorem dX9_led_4 : decode cX9_led 4 = .ok (.aload_n 0, 1) := by decide +kernel
theorem dX9_led_5 : decode cX9_led 5 = .ok (.getfield 222, 3) := by decide +kernel
theorem dX9_led_8 : decode cX9_led 8 = .ok (.ifCond .eq 46, 3) := by decide +kernel
theorem dX9_led_54 : decode cX9_led 54 = .ok (.aload_n 0, 1) := by decide +kernel
theorem dX9_led_55 : decode cX9_led 55 = .ok (.iconst 1, 1) := by decide +kernel
theorem dX9_led_56 : decode cX9_led 56 = .ok (.putfield 77, 3) := by decide +kernel
theorem dX9_led_59 : decode cX9_led 59 = .ok (.iconst 0, 1) := by decide +kernel
theorem dX9_led_60 : decode cX9_led 60 = .ok (.ireturn, 1) := by decide +kernel
abbrev rm_X9_led : Room := { frames := 0, cells := 0, slots := 0, locals := 0 }
set_option maxRecDepth 100000 in
set_option maxHeartbeats 4000000 in
theorem c_X9_led {l : Launch} {E : (Nat → Prop) → State → Prop} (hO : bw_Ok E) {G : va_G} {cI cB cJ cN cW : ClassId} (b : Nat) (q : Nat → Nat) (x : Int32) : bw_Ci (S := bw_U) l yX9_led (bw_ws (Cond.code yX9_led cX9_led 4 (some .int))) rm_X9_led E G (bw_kt cI cB cJ cN cW) [.ref b, .int x] [(b, .inr (9, [.int 0, .ref (q 0), .int 0, .int 0, .int 0, .int 0, .int 0, .int 0, .int 0, .int 0, .int (-1), .int 0, .ref (q 1), .int 0, .int 0, .ref (q 2), .ref (q 3), .ref (q 4), .ref (q 5), .ref (q 6), .ref (q 7), .ref (q 8), .ref (q 9), .ref (q 10), .ref (q 11), .ref (q 12), .ref (q 13), .ref (q 14), .ref (q 15), .ref (q 16), .int 0, .int 0, .int 0, .int 0, .int 0, .int 0, .ref (q 17), .ref (q 18), .ref (q 19), .ref (q 20)]))] (fun r _ => r = 0) (fun _ => [(b, .inr (9, [.int 1, .ref (q 0), .int 0, .int 0, .int 0, .int 0, .int 0, .int 0, .int 0, .int 0, .int (-1), .int 0, .ref (q 1), .int 0, .int 0, .ref (q 2), .ref (q 3), .ref (q 4), .ref (q 5), .ref (q 6), .ref (q 7), .ref (q 8), .ref (q 9), .ref (q 10), .ref (q 11), .ref (q 12), .ref (q 13), .ref (q 14), .ref (q 15), .ref (q 16), .int 0, .int 0, .int 0, .int 0, .int 0, .int 0, .ref (q 17), .ref (q 18), .ref (q 19), .ref (q 20)]))]) := by
  refine bw_Ci.of (cc := cX9_led) (maxL := 4) (ty := .int) (by decide) rfl (Nat.le_of_ble_eq_true rfl) ?_
  intro p e s m below meth c A Q hx hb hml hts hown hin hK hA hS hP hD hE ret ls hl
  have F : CallFix p m c cX9_led 4 s ([.ref b, .int x] : List Value).toArray bw_T RX9 := ⟨hx, hb, hml, hown, fun w h => hts w (List.mem_cons_of_mem _ h)⟩
  have hl : lv_has ls 4 [(0, .ref b), (1, .int x)] := hl
  refine lv_iconst (v := 0) hx hb dX9_led_0 (by decide) ?_
  refine lv_istore_n (lv' := [(2, .int 0), (0, .ref b), (1, .int x)]) hx hb dX9_led_1 rfl hl (by decide) rfl (fun ls hl => ?_)
  refine lv_iconst (v := 0) hx hb dX9_led_2 (by decide) ?_
  refine lv_istore_n (lv' := [(3, .int 0), (2, .int 0), (0, .ref b), (1, .int x)]) hx hb dX9_led_3 rfl hl (by decide) rfl (fun ls hl => ?_)
  refine lv_aload_n hx hb dX9_led_4 rfl (lv_at hl 2 rfl) ?_
  refine r_get F hK hP 0 14 rfl rfl in_X9 (by decide) k_1177 rfl dX9_led_5 ?_
  refine lv_if_eq (tgt := 54) hx hb dX9_led_8 (by decide) (fun _ => ?_) (fun h9 => absurd (by decide) h9)
  refine lv_aload_n hx hb dX9_led_54 rfl (lv_at hl 2 rfl) ?_
  refine lv_iconst (v := 1) hx hb dX9_led_55 (by decide) ?_
  refine r_put F hK hP hD hS 0 0 rfl rfl in_X9 tyX9 tyX9_ok nmX9 (by decide) k_1163 rfl rfl rfl (Nat.le_of_ble_eq_true rfl) dX9_led_56 (w1 := [(b, .inr (9, [.int 1, .ref (q 0), .int 0, .int 0, .int 0, .int 0, .int 0, .int 0, .int 0, .int 0, .int (-1), .int 0, .ref (q 1), .int 0, .int 0, .ref (q 2), .ref (q 3), .ref (q 4), .ref (q 5), .ref (q 6), .ref (q 7), .ref (q 8), .ref (q 9), .ref (q 10), .ref (q 11), .ref (q 12), .ref (q 13), .ref (q 14), .ref (q 15), .ref (q 16), .int 0, .int 0, .int 0, .int 0, .int 0, .int 0, .ref (q 17), .ref (q 18), .ref (q 19), .ref (q 20)]))]) rfl (fun H locs hP hD hS => ?_)
  refine lv_iconst (v := 0) hx hb dX9_led_59 (by decide) ?_
  exact ret 0 (fun _ => 0, fun _ _ => 0) _ _ _ _ _ _ rfl rfl (bw_subP (isC := [0]) hP rfl) (hD.sub [0] (by decide) rfl) hS (Nat.le_of_ble_eq_true rfl) (Nat.le_of_ble_eq_true rfl) dX9_led_60
theorem dX9_thrown_0 : decode cX9_thrown 0 = .ok (.aload_n 0, 1) := by decide +kernel
theorem dX9_thrown_1 : decode cX9_thrown 1 = .ok (.getfield 77, 3) := by decide +kernel
theorem dX9_thrown_4 : decode cX9_thrown 4 = .ok (.ireturn, 1) := by decide +kernel
abbrev rm_X9_thrown : Room := { frames := 0, cells := 0, slots := 0, locals := 0 }
set_option maxRecDepth 100000 in
set_option maxHeartbeats 4000000 in
theorem c_X9_thrown {l : Launch} {E : (Nat → Prop) → State → Prop} (hO : bw_Ok E) {G : va_G} {cI cB cJ cN cW : ClassId} (b : Nat) (q : Nat → Nat) : bw_Ci (S := bw_U) l yX9_thrown (bw_ws (Cond.code yX9_thrown cX9_thrown 1 (some .int))) rm_X9_thrown E G (bw_kt cI cB cJ cN cW) [.ref b] [(b, .inr (9, [.int 1, .ref (q 0), .int 0, .int 0, .int 0, .int 0, .int 0, .int 0, .int 0, .int 0, .int (-1), .int 0, .ref (q 1), .int 0, .int 0, .ref (q 2), .ref (q 3), .ref (q 4), .ref (q 5), .ref (q 6), .ref (q 7), .ref (q 8), .ref (q 9), .ref (q 10), .ref (q 11), .ref (q 12), .ref (q 13), .ref (q 14), .ref (q 15), .ref (q 16), .int 0, .int 0, .int 0, .int 0, .int 0, .int 0, .ref (q 17), .ref (q 18), .ref (q 19), .ref (q 20)]))] (fun r _ => r = 1) (fun _ => []) := by
  refine bw_Ci.of (cc := cX9_thrown) (maxL := 1) (ty := .int) (by decide) rfl (Nat.le_of_ble_eq_true rfl) ?_
  intro p e s m below meth c A Q hx hb hml hts hown hin hK hA hS hP hD hE ret ls hl
  have F : CallFix p m c cX9_thrown 1 s ([.ref b] : List Value).toArray bw_T RX9 := ⟨hx, hb, hml, hown, fun w h => hts w (List.mem_cons_of_mem _ h)⟩
  have hl : lv_has ls 1 [(0, .ref b)] := hl
  refine lv_aload_n hx hb dX9_thrown_0 rfl (lv_at hl 0 rfl) ?_
  refine r_get F hK hP 0 0 rfl rfl in_X9 (by decide) k_1163 rfl dX9_thrown_1 ?_
  exact ret 1 (fun _ => 0, fun _ _ => 0) _ _ _ _ _ _ rfl rfl (bw_subP (isC := []) hP rfl) (hD.sub [] (by decide) rfl) hS (Nat.le_of_ble_eq_true rfl) (Nat.le_of_ble_eq_true rfl) dX9_thrown_4
