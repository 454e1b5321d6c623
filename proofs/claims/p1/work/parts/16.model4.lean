theorem dX9_look_0 : decode cX9_look 0 = .ok (.iload_n 1, 1) := by decide +kernel
theorem dX9_look_1 : decode cX9_look 1 = .ok (.aload_n 0, 1) := by decide +kernel
theorem dX9_look_2 : decode cX9_look 2 = .ok (.getfield 86, 3) := by decide +kernel
theorem k_1166 : Cond.fieldLink RX9 86 "BurntWaysModel" "size" "I" ∈ bw_T := bw_m 1166 (by decide +kernel) rfl
theorem dX9_look_5 : decode cX9_look 5 = .ok (.if_icmp .ge 12, 3) := by decide +kernel
theorem dX9_look_17 : decode cX9_look 17 = .ok (.iconst (-1), 1) := by decide +kernel
theorem dX9_look_18 : decode cX9_look 18 = .ok (.ireturn, 1) := by decide +kernel
abbrev rm_X9_look : Room := { frames := 0, cells := 0, slots := 0, locals := 0 }
set_option maxRecDepth 100000 in
set_option maxHeartbeats 4000000 in
theorem c_X9_look {l : Launch} {E : (Nat → Prop) → State → Prop} (hO : bw_Ok E) {G : va_G} {cI cB cJ cN cW : ClassId} (b : Nat) (q : Nat → Nat) : bw_Ci (S := bw_U) l yX9_look (bw_ws (Cond.code yX9_look cX9_look 2 (some .int))) rm_X9_look E G (bw_kt cI cB cJ cN cW) [.ref b, .int 0] [(b, .inr (9, [.int 0, .ref (q 0), .int 0, .int 0, .int 0, .int 0, .int 0, .int 0, .int 0, .int 0, .int (-1), .int 0, .ref (q 1), .int 0, .int 0, .ref (q 2), .ref (q 3), .ref (q 4), .ref (q 5), .ref (q 6), .ref (q 7), .ref (q 8), .ref (q 9), .ref (q 10), .ref (q 11), .ref (q 12), .ref (q 13), .ref (q 14), .ref (q 15), .ref (q 16), .int 0, .int 0, .int 0, .int 0, .int 0, .int 0, .ref (q 17), .ref (q 18), .ref (q 19), .ref (q 20)]))] (fun r _ => r = -1) (fun _ => [(b, .inr (9, [.int 0, .ref (q 0), .int 0, .int 0, .int 0, .int 0, .int 0, .int 0, .int 0, .int 0, .int (-1), .int 0, .ref (q 1), .int 0, .int 0, .ref (q 2), .ref (q 3), .ref (q 4), .ref (q 5), .ref (q 6), .ref (q 7), .ref (q 8), .ref (q 9), .ref (q 10), .ref (q 11), .ref (q 12), .ref (q 13), .ref (q 14), .ref (q 15), .ref (q 16), .int 0, .int 0, .int 0, .int 0, .int 0, .int 0, .ref (q 17), .ref (q 18), .ref (q 19), .ref (q 20)]))]) := by
  refine bw_Ci.of (cc := cX9_look) (maxL := 2) (ty := .int) (by decide) rfl (Nat.le_of_ble_eq_true rfl) ?_
  intro p e s m below meth c A Q hx hb hml hts hown hin hK hA hS hP hD hE ret ls hl
  have F : CallFix p m c cX9_look 2 s ([.ref b, .int 0] : List Value).toArray bw_T RX9 := ⟨hx, hb, hml, hown, fun w h => hts w (List.mem_cons_of_mem _ h)⟩
  have hl : lv_has ls 2 [(0, .ref b), (1, .int 0)] := hl
  refine lv_iload_n hx hb dX9_look_0 rfl (lv_at hl 1 rfl) ?_
  refine lv_aload_n hx hb dX9_look_1 rfl (lv_at hl 0 rfl) ?_
  refine r_get F hK hP 0 3 rfl rfl in_X9 (by decide) k_1166 rfl dX9_look_2 ?_
  refine lv_icmp_ge (tgt := 17) hx hb dX9_look_5 (by decide) (fun _ => ?_) (fun h9 => absurd (by decide) h9)
  refine lv_iconst (v := (-1)) hx hb dX9_look_17 (by decide) ?_
  exact ret (-1) (fun _ => 0, fun _ _ => 0) _ _ _ _ _ _ rfl rfl (bw_subP (isC := [0]) hP rfl) (hD.sub [0] (by decide) rfl) hS (Nat.le_of_ble_eq_true rfl) (Nat.le_of_ble_eq_true rfl) dX9_look_18
theorem dX9_next_0 : decode cX9_next 0 = .ok (.aload_n 0, 1) := by decide +kernel
theorem dX9_next_1 : decode cX9_next 1 = .ok (.getfield 89, 3) := by decide +kernel
theorem k_1168 : Cond.fieldLink RX9 89 "BurntWaysModel" "end" "I" ∈ bw_T := bw_m 1168 (by decide +kernel) rfl
theorem dX9_next_4 : decode cX9_next 4 = .ok (.istore_n 1, 1) := by decide +kernel
theorem dX9_next_5 : decode cX9_next 5 = .ok (.aload_n 0, 1) := by decide +kernel
theorem dX9_next_6 : decode cX9_next 6 = .ok (.iload_n 1, 1) := by decide +kernel
theorem dX9_next_7 : decode cX9_next 7 = .ok (.invokevirtual 92, 3) := by decide +kernel
theorem k_1311 : Cond.methodLink RX9 92 yX9_look ∈ bw_T := bw_m 1311 (by decide +kernel) rfl
theorem kv_X9_look : bw_KV RX9 yX9_look (Cond.code yX9_look cX9_look 2 (some .int)) := ⟨bw_m 1313 (by decide +kernel) rfl, bw_m 47 (by decide +kernel) rfl, bw_m 107 (by decide +kernel) rfl, bw_m 1314 (by decide +kernel) rfl⟩
theorem dX9_next_10 : decode cX9_next 10 = .ok (.bipush 32, 2) := by decide +kernel
theorem dX9_next_12 : decode cX9_next 12 = .ok (.if_icmp .ne 9, 3) := by decide +kernel
theorem dX9_next_21 : decode cX9_next 21 = .ok (.aload_n 0, 1) := by decide +kernel
theorem dX9_next_22 : decode cX9_next 22 = .ok (.iload_n 1, 1) := by decide +kernel
theorem dX9_next_23 : decode cX9_next 23 = .ok (.putfield 96, 3) := by decide +kernel
theorem k_1167 : Cond.fieldLink RX9 96 "BurntWaysModel" "at" "I" ∈ bw_T := bw_m 1167 (by decide +kernel) rfl
theorem dX9_next_26 : decode cX9_next 26 = .ok (.aload_n 0, 1) := by decide +kernel
theorem dX9_next_27 : decode cX9_next 27 = .ok (.iload_n 1, 1) := by decide +kernel
theorem dX9_next_28 : decode cX9_next 28 = .ok (.invokevirtual 92, 3) := by decide +kernel
theorem dX9_next_31 : decode cX9_next 31 = .ok (.istore_n 2, 1) := by decide +kernel
theorem dX9_next_32 : decode cX9_next 32 = .ok (.aload_n 0, 1) := by decide +kernel
theorem dX9_next_33 : decode cX9_next 33 = .ok (.iconst 0, 1) := by decide +kernel
theorem dX9_next_34 : decode cX9_next 34 = .ok (.putfield 99, 3) := by decide +kernel
theorem k_1171 : Cond.fieldLink RX9 99 "BurntWaysModel" "nameSize" "I" ∈ bw_T := bw_m 1171 (by decide +kernel) rfl
theorem dX9_next_37 : decode cX9_next 37 = .ok (.aload_n 0, 1) := by decide +kernel
theorem dX9_next_38 : decode cX9_next 38 = .ok (.iconst 0, 1) := by decide +kernel
theorem dX9_next_39 : decode cX9_next 39 = .ok (.putfield 102, 3) := by decide +kernel
theorem k_1170 : Cond.fieldLink RX9 102 "BurntWaysModel" "whole" "I" ∈ bw_T := bw_m 1170 (by decide +kernel) rfl
theorem dX9_next_42 : decode cX9_next 42 = .ok (.iload_n 2, 1) := by decide +kernel
theorem dX9_next_43 : decode cX9_next 43 = .ok (.iconst (-1), 1) := by decide +kernel
theorem dX9_next_44 : decode cX9_next 44 = .ok (.if_icmp .ne 16, 3) := by decide +kernel
theorem dX9_next_47 : decode cX9_next 47 = .ok (.aload_n 0, 1) := by decide +kernel
theorem dX9_next_48 : decode cX9_next 48 = .ok (.iconst 0, 1) := by decide +kernel
theorem dX9_next_49 : decode cX9_next 49 = .ok (.putfield 105, 3) := by decide +kernel
theorem k_1169 : Cond.fieldLink RX9 105 "BurntWaysModel" "token" "I" ∈ bw_T := bw_m 1169 (by decide +kernel) rfl
theorem dX9_next_52 : decode cX9_next 52 = .ok (.aload_n 0, 1) := by decide +kernel
theorem dX9_next_53 : decode cX9_next 53 = .ok (.iload_n 1, 1) := by decide +kernel
theorem dX9_next_54 : decode cX9_next 54 = .ok (.putfield 89, 3) := by decide +kernel
theorem dX9_next_57 : decode cX9_next 57 = .ok (.goto 190, 3) := by decide +kernel
theorem dX9_next_247 : decode cX9_next 247 = .ok (.return_, 1) := by decide +kernel
abbrev rm_X9_next : Room := { frames := 1, cells := 0, slots := 0, locals := 21 }
set_option maxRecDepth 100000 in
set_option maxHeartbeats 4000000 in
theorem c_X9_next {l : Launch} {E : (Nat → Prop) → State → Prop} (hO : bw_Ok E) {G : va_G} {cI cB cJ cN cW : ClassId} (b : Nat) (q : Nat → Nat) : bw_Cv (S := bw_U) l yX9_next (bw_ws (Cond.code yX9_next cX9_next 4 none)) rm_X9_next E G (bw_kt cI cB cJ cN cW) [.ref b] [(b, .inr (9, [.int 0, .ref (q 0), .int 0, .int 0, .int 0, .int 0, .int 0, .int 0, .int 0, .int 0, .int (-1), .int 0, .ref (q 1), .int 0, .int 0, .ref (q 2), .ref (q 3), .ref (q 4), .ref (q 5), .ref (q 6), .ref (q 7), .ref (q 8), .ref (q 9), .ref (q 10), .ref (q 11), .ref (q 12), .ref (q 13), .ref (q 14), .ref (q 15), .ref (q 16), .int 0, .int 0, .int 0, .int 0, .int 0, .int 0, .ref (q 17), .ref (q 18), .ref (q 19), .ref (q 20)]))] (fun _ => True) (fun _ => [(b, .inr (9, [.int 0, .ref (q 0), .int 0, .int 0, .int 0, .int 0, .int 0, .int 0, .int 0, .int 0, .int (-1), .int 0, .ref (q 1), .int 0, .int 0, .ref (q 2), .ref (q 3), .ref (q 4), .ref (q 5), .ref (q 6), .ref (q 7), .ref (q 8), .ref (q 9), .ref (q 10), .ref (q 11), .ref (q 12), .ref (q 13), .ref (q 14), .ref (q 15), .ref (q 16), .int 0, .int 0, .int 0, .int 0, .int 0, .int 0, .ref (q 17), .ref (q 18), .ref (q 19), .ref (q 20)]))]) := by
  refine bw_Cv.of (cc := cX9_next) (maxL := 4) (by decide) rfl (Nat.le_of_ble_eq_true rfl) ?_
  intro p e s m below meth c A Q hx hb hml hts hown hin hK hA hS hP hD hE ret ls hl
  have F : CallFix p m c cX9_next 4 s ([.ref b] : List Value).toArray bw_T RX9 := ⟨hx, hb, hml, hown, fun w h => hts w (List.mem_cons_of_mem _ h)⟩
  have hl : lv_has ls 4 [(0, .ref b)] := hl
  refine lv_aload_n hx hb dX9_next_0 rfl (lv_at hl 0 rfl) ?_
  refine r_get F hK hP 0 5 rfl rfl in_X9 (by decide) k_1168 rfl dX9_next_1 ?_
  refine lv_istore_n (lv' := [(1, .int 0), (0, .ref b)]) hx hb dX9_next_4 rfl hl (by decide) rfl (fun ls hl => ?_)
  refine lv_aload_n hx hb dX9_next_5 rfl (lv_at hl 1 rfl) ?_
  refine lv_iload_n hx hb dX9_next_6 rfl (lv_at hl 0 rfl) ?_
  refine r_callVi (As := [.int 0]) (rest := []) (wr := []) F hK hP hD hS hA hO hE (c_X9_look hO b q) k_1311 kv_X9_look 1 rfl (by decide +kernel) ⟨Nat.le_of_ble_eq_true rfl, Nat.le_of_ble_eq_true rfl⟩ [0] [] rfl rfl (by decide) (by decide) (by decide) 0 9 rfl rfl rfl hl.1 rfl (Nat.le_of_ble_eq_true rfl) dX9_next_7 ⟨Nat.le_of_ble_eq_true rfl, Nat.le_of_ble_eq_true rfl⟩ (w1 := fun u1 => [(b, .inr (9, [.int 0, .ref (q 0), .int 0, .int 0, .int 0, .int 0, .int 0, .int 0, .int 0, .int 0, .int (-1), .int 0, .ref (q 1), .int 0, .int 0, .ref (q 2), .ref (q 3), .ref (q 4), .ref (q 5), .ref (q 6), .ref (q 7), .ref (q 8), .ref (q 9), .ref (q 10), .ref (q 11), .ref (q 12), .ref (q 13), .ref (q 14), .ref (q 15), .ref (q 16), .int 0, .int 0, .int 0, .int 0, .int 0, .int 0, .ref (q 17), .ref (q 18), .ref (q 19), .ref (q 20)]))]) (fun _ => rfl) (fun r2 u1 H locs hp hP hD hS => ?_)
  subst hp
  refine lv_bipush (v := 32) hx hb dX9_next_10 (by decide) ?_
  refine lv_icmp_ne (tgt := 21) hx hb dX9_next_12 (by decide) (fun _ => ?_) (fun h9 => absurd h9 (by decide))
  refine lv_aload_n hx hb dX9_next_21 rfl (lv_at hl 1 rfl) ?_
  refine lv_iload_n hx hb dX9_next_22 rfl (lv_at hl 0 rfl) ?_
  refine r_put F hK hP hD hS 0 4 rfl rfl in_X9 tyX9 tyX9_ok nmX9 (by decide) k_1167 rfl rfl rfl (Nat.le_of_ble_eq_true rfl) dX9_next_23 (w1 := [(b, .inr (9, [.int 0, .ref (q 0), .int 0, .int 0, .int 0, .int 0, .int 0, .int 0, .int 0, .int 0, .int (-1), .int 0, .ref (q 1), .int 0, .int 0, .ref (q 2), .ref (q 3), .ref (q 4), .ref (q 5), .ref (q 6), .ref (q 7), .ref (q 8), .ref (q 9), .ref (q 10), .ref (q 11), .ref (q 12), .ref (q 13), .ref (q 14), .ref (q 15), .ref (q 16), .int 0, .int 0, .int 0, .int 0, .int 0, .int 0, .ref (q 17), .ref (q 18), .ref (q 19), .ref (q 20)]))]) rfl (fun H locs hP hD hS => ?_)
  refine lv_aload_n hx hb dX9_next_26 rfl (lv_at hl 1 rfl) ?_
  refine lv_iload_n hx hb dX9_next_27 rfl (lv_at hl 0 rfl) ?_
  refine r_callVi (As := [.int 0]) (rest := []) (wr := []) F hK hP hD hS hA hO hE (c_X9_look hO b q) k_1311 kv_X9_look 1 rfl (by decide +kernel) ⟨Nat.le_of_ble_eq_true rfl, Nat.le_of_ble_eq_true rfl⟩ [0] [] rfl rfl (by decide) (by decide) (by decide) 0 9 rfl rfl rfl hl.1 rfl (Nat.le_of_ble_eq_true rfl) dX9_next_28 ⟨Nat.le_of_ble_eq_true rfl, Nat.le_of_ble_eq_true rfl⟩ (w1 := fun u3 => [(b, .inr (9, [.int 0, .ref (q 0), .int 0, .int 0, .int 0, .int 0, .int 0, .int 0, .int 0, .int 0, .int (-1), .int 0, .ref (q 1), .int 0, .int 0, .ref (q 2), .ref (q 3), .ref (q 4), .ref (q 5), .ref (q 6), .ref (q 7), .ref (q 8), .ref (q 9), .ref (q 10), .ref (q 11), .ref (q 12), .ref (q 13), .ref (q 14), .ref (q 15), .ref (q 16), .int 0, .int 0, .int 0, .int 0, .int 0, .int 0, .ref (q 17), .ref (q 18), .ref (q 19), .ref (q 20)]))]) (fun _ => rfl) (fun r4 u3 H locs hp hP hD hS => ?_)
  subst hp
  refine lv_istore_n (lv' := [(2, .int (-1)), (1, .int 0), (0, .ref b)]) hx hb dX9_next_31 rfl hl (by decide) rfl (fun ls hl => ?_)
  refine lv_aload_n hx hb dX9_next_32 rfl (lv_at hl 2 rfl) ?_
  refine lv_iconst (v := 0) hx hb dX9_next_33 (by decide) ?_
  refine r_put F hK hP hD hS 0 8 rfl rfl in_X9 tyX9 tyX9_ok nmX9 (by decide) k_1171 rfl rfl rfl (Nat.le_of_ble_eq_true rfl) dX9_next_34 (w1 := [(b, .inr (9, [.int 0, .ref (q 0), .int 0, .int 0, .int 0, .int 0, .int 0, .int 0, .int 0, .int 0, .int (-1), .int 0, .ref (q 1), .int 0, .int 0, .ref (q 2), .ref (q 3), .ref (q 4), .ref (q 5), .ref (q 6), .ref (q 7), .ref (q 8), .ref (q 9), .ref (q 10), .ref (q 11), .ref (q 12), .ref (q 13), .ref (q 14), .ref (q 15), .ref (q 16), .int 0, .int 0, .int 0, .int 0, .int 0, .int 0, .ref (q 17), .ref (q 18), .ref (q 19), .ref (q 20)]))]) rfl (fun H locs hP hD hS => ?_)
  refine lv_aload_n hx hb dX9_next_37 rfl (lv_at hl 2 rfl) ?_
  refine lv_iconst (v := 0) hx hb dX9_next_38 (by decide) ?_
  refine r_put F hK hP hD hS 0 7 rfl rfl in_X9 tyX9 tyX9_ok nmX9 (by decide) k_1170 rfl rfl rfl (Nat.le_of_ble_eq_true rfl) dX9_next_39 (w1 := [(b, .inr (9, [.int 0, .ref (q 0), .int 0, .int 0, .int 0, .int 0, .int 0, .int 0, .int 0, .int 0, .int (-1), .int 0, .ref (q 1), .int 0, .int 0, .ref (q 2), .ref (q 3), .ref (q 4), .ref (q 5), .ref (q 6), .ref (q 7), .ref (q 8), .ref (q 9), .ref (q 10), .ref (q 11), .ref (q 12), .ref (q 13), .ref (q 14), .ref (q 15), .ref (q 16), .int 0, .int 0, .int 0, .int 0, .int 0, .int 0, .ref (q 17), .ref (q 18), .ref (q 19), .ref (q 20)]))]) rfl (fun H locs hP hD hS => ?_)
  refine lv_iload_n hx hb dX9_next_42 rfl (lv_at hl 0 rfl) ?_
  refine lv_iconst (v := (-1)) hx hb dX9_next_43 (by decide) ?_
  refine lv_icmp_ne (tgt := 60) hx hb dX9_next_44 (by decide) (fun h9 => absurd (by decide) h9) (fun _ => ?_)
  refine lv_aload_n hx hb dX9_next_47 rfl (lv_at hl 2 rfl) ?_
  refine lv_iconst (v := 0) hx hb dX9_next_48 (by decide) ?_
  refine r_put F hK hP hD hS 0 6 rfl rfl in_X9 tyX9 tyX9_ok nmX9 (by decide) k_1169 rfl rfl rfl (Nat.le_of_ble_eq_true rfl) dX9_next_49 (w1 := [(b, .inr (9, [.int 0, .ref (q 0), .int 0, .int 0, .int 0, .int 0, .int 0, .int 0, .int 0, .int 0, .int (-1), .int 0, .ref (q 1), .int 0, .int 0, .ref (q 2), .ref (q 3), .ref (q 4), .ref (q 5), .ref (q 6), .ref (q 7), .ref (q 8), .ref (q 9), .ref (q 10), .ref (q 11), .ref (q 12), .ref (q 13), .ref (q 14), .ref (q 15), .ref (q 16), .int 0, .int 0, .int 0, .int 0, .int 0, .int 0, .ref (q 17), .ref (q 18), .ref (q 19), .ref (q 20)]))]) rfl (fun H locs hP hD hS => ?_)
  refine lv_aload_n hx hb dX9_next_52 rfl (lv_at hl 2 rfl) ?_
  refine lv_iload_n hx hb dX9_next_53 rfl (lv_at hl 1 rfl) ?_
  refine r_put F hK hP hD hS 0 5 rfl rfl in_X9 tyX9 tyX9_ok nmX9 (by decide) k_1168 rfl rfl rfl (Nat.le_of_ble_eq_true rfl) dX9_next_54 (w1 := [(b, .inr (9, [.int 0, .ref (q 0), .int 0, .int 0, .int 0, .int 0, .int 0, .int 0, .int 0, .int 0, .int (-1), .int 0, .ref (q 1), .int 0, .int 0, .ref (q 2), .ref (q 3), .ref (q 4), .ref (q 5), .ref (q 6), .ref (q 7), .ref (q 8), .ref (q 9), .ref (q 10), .ref (q 11), .ref (q 12), .ref (q 13), .ref (q 14), .ref (q 15), .ref (q 16), .int 0, .int 0, .int 0, .int 0, .int 0, .int 0, .ref (q 17), .ref (q 18), .ref (q 19), .ref (q 20)]))]) rfl (fun H locs hP hD hS => ?_)
  refine lv_goto (tgt := 247) hx hb dX9_next_57 (by decide) ?_
  exact ret (fun _ => 0, fun _ _ => 0) _ _ _ _ _ _ trivial (bw_subP (isC := [0]) hP rfl) (hD.sub [0] (by decide) rfl) hS (Nat.le_of_ble_eq_true rfl) (Nat.le_of_ble_eq_true rfl) dX9_next_247
theorem dX9_isWord_0 : decode cX9_isWord 0 = .ok (.aload_n 0, 1) := by decide +kernel
theorem dX9_isWord_1 : decode cX9_isWord 1 = .ok (.getfield 115, 3) := by decide +kernel
theorem k_1176 : Cond.fieldLink RX9 115 "BurntWaysModel" "failed" "Z" ∈ bw_T := bw_m 1176 (by decide +kernel) rfl
theorem dX9_isWord_4 : decode cX9_isWord 4 = .ok (.ifCond .ne 22, 3) := by decide +kernel
theorem dX9_isWord_7 : decode cX9_isWord 7 = .ok (.aload_n 0, 1) := by decide +kernel
theorem dX9_isWord_8 : decode cX9_isWord 8 = .ok (.getfield 105, 3) := by decide +kernel
theorem dX9_isWord_11 : decode cX9_isWord 11 = .ok (.iconst 2, 1) := by decide +kernel
theorem dX9_isWord_12 : decode cX9_isWord 12 = .ok (.if_icmp .ne 14, 3) := by decide +kernel
theorem dX9_isWord_26 : decode cX9_isWord 26 = .ok (.iconst 0, 1) := by decide +kernel
theorem dX9_isWord_27 : decode cX9_isWord 27 = .ok (.ireturn, 1) := by decide +kernel
abbrev rm_X9_isWord : Room := { frames := 0, cells := 0, slots := 0, locals := 0 }
set_option maxRecDepth 100000 in
set_option maxHeartbeats 4000000 in
theorem c_X9_isWord {l : Launch} {E : (Nat → Prop) → State → Prop} (hO : bw_Ok E) {G : va_G} {cI cB cJ cN cW : ClassId} (b : Nat) (q : Nat → Nat) (t : Nat) : bw_Ci (S := bw_U) l yX9_isWord (bw_ws (Cond.code yX9_isWord cX9_isWord 4 (some .boolean))) rm_X9_isWord E G (bw_kt cI cB cJ cN cW) [.ref b, .ref t] [(b, .inr (9, [.int 0, .ref (q 0), .int 0, .int 0, .int 0, .int 0, .int 0, .int 0, .int 0, .int 0, .int (-1), .int 0, .ref (q 1), .int 0, .int 0, .ref (q 2), .ref (q 3), .ref (q 4), .ref (q 5), .ref (q 6), .ref (q 7), .ref (q 8), .ref (q 9), .ref (q 10), .ref (q 11), .ref (q 12), .ref (q 13), .ref (q 14), .ref (q 15), .ref (q 16), .int 0, .int 0, .int 0, .int 0, .int 0, .int 0, .ref (q 17), .ref (q 18), .ref (q 19), .ref (q 20)]))] (fun r _ => r = 0) (fun _ => [(b, .inr (9, [.int 0, .ref (q 0), .int 0, .int 0, .int 0, .int 0, .int 0, .int 0, .int 0, .int 0, .int (-1), .int 0, .ref (q 1), .int 0, .int 0, .ref (q 2), .ref (q 3), .ref (q 4), .ref (q 5), .ref (q 6), .ref (q 7), .ref (q 8), .ref (q 9), .ref (q 10), .ref (q 11), .ref (q 12), .ref (q 13), .ref (q 14), .ref (q 15), .ref (q 16), .int 0, .int 0, .int 0, .int 0, .int 0, .int 0, .ref (q 17), .ref (q 18), .ref (q 19), .ref (q 20)]))]) := by
  refine bw_Ci.of (cc := cX9_isWord) (maxL := 4) (ty := .boolean) (by decide) rfl (Nat.le_of_ble_eq_true rfl) ?_
  intro p e s m below meth c A Q hx hb hml hts hown hin hK hA hS hP hD hE ret ls hl
  have F : CallFix p m c cX9_isWord 4 s ([.ref b, .ref t] : List Value).toArray bw_T RX9 := ⟨hx, hb, hml, hown, fun w h => hts w (List.mem_cons_of_mem _ h)⟩
  have hl : lv_has ls 4 [(0, .ref b), (1, .ref t)] := hl
  refine lv_aload_n hx hb dX9_isWord_0 rfl (lv_at hl 0 rfl) ?_
  refine r_get F hK hP 0 13 rfl rfl in_X9 (by decide) k_1176 rfl dX9_isWord_1 ?_
  refine lv_if_ne (tgt := 26) hx hb dX9_isWord_4 (by decide) (fun h9 => absurd (by decide) h9) (fun _ => ?_)
  refine lv_aload_n hx hb dX9_isWord_7 rfl (lv_at hl 0 rfl) ?_
  refine r_get F hK hP 0 6 rfl rfl in_X9 (by decide) k_1169 rfl dX9_isWord_8 ?_
  refine lv_iconst (v := 2) hx hb dX9_isWord_11 (by decide) ?_
  refine lv_icmp_ne (tgt := 26) hx hb dX9_isWord_12 (by decide) (fun _ => ?_) (fun h9 => absurd h9 (by decide))
  refine lv_iconst (v := 0) hx hb dX9_isWord_26 (by decide) ?_
  exact ret 0 (fun _ => 0, fun _ _ => 0) _ _ _ _ _ _ rfl rfl (bw_subP (isC := [0]) hP rfl) (hD.sub [0] (by decide) rfl) hS (Nat.le_of_ble_eq_true rfl) (Nat.le_of_ble_eq_true rfl) dX9_isWord_27
theorem dX9_wrong_0 : decode cX9_wrong 0 = .ok (.aload_n 0, 1) := by decide +kernel
theorem dX9_wrong_1 : decode cX9_wrong 1 = .ok (.getfield 115, 3) := by decide +kernel
theorem dX9_wrong_4 : decode cX9_wrong 4 = .ok (.ifCond .eq 4, 3) := by decide +kernel
theorem dX9_wrong_8 : decode cX9_wrong 8 = .ok (.aload_n 0, 1) := by decide +kernel
theorem dX9_wrong_9 : decode cX9_wrong 9 = .ok (.iconst 1, 1) := by decide +kernel
theorem dX9_wrong_10 : decode cX9_wrong 10 = .ok (.putfield 115, 3) := by decide +kernel
theorem dX9_wrong_13 : decode cX9_wrong 13 = .ok (.aload_n 0, 1) := by decide +kernel
theorem dX9_wrong_14 : decode cX9_wrong 14 = .ok (.iload_n 1, 1) := by decide +kernel
theorem dX9_wrong_15 : decode cX9_wrong 15 = .ok (.putfield 119, 3) := by decide +kernel
theorem dX9_wrong_18 : decode cX9_wrong 18 = .ok (.aload_n 0, 1) := by decide +kernel
theorem dX9_wrong_19 : decode cX9_wrong 19 = .ok (.iload_n 2, 1) := by decide +kernel
theorem dX9_wrong_20 : decode cX9_wrong 20 = .ok (.putfield 13, 3) := by decide +kernel
theorem dX9_wrong_23 : decode cX9_wrong 23 = .ok (.return_, 1) := by decide +kernel
abbrev rm_X9_wrong : Room := { frames := 0, cells := 0, slots := 0, locals := 0 }
set_option maxRecDepth 100000 in
set_option maxHeartbeats 4000000 in
theorem c_X9_wrong {l : Launch} {E : (Nat → Prop) → State → Prop} (hO : bw_Ok E) {G : va_G} {cI cB cJ cN cW : ClassId} (b : Nat) (q : Nat → Nat) : bw_Cv (S := bw_U) l yX9_wrong (bw_ws (Cond.code yX9_wrong cX9_wrong 3 none)) rm_X9_wrong E G (bw_kt cI cB cJ cN cW) [.ref b, .int 1, .int 0] [(b, .inr (9, [.int 0, .ref (q 0), .int 0, .int 0, .int 0, .int 0, .int 0, .int 0, .int 0, .int 0, .int (-1), .int 0, .ref (q 1), .int 0, .int 0, .ref (q 2), .ref (q 3), .ref (q 4), .ref (q 5), .ref (q 6), .ref (q 7), .ref (q 8), .ref (q 9), .ref (q 10), .ref (q 11), .ref (q 12), .ref (q 13), .ref (q 14), .ref (q 15), .ref (q 16), .int 0, .int 0, .int 0, .int 0, .int 0, .int 0, .ref (q 17), .ref (q 18), .ref (q 19), .ref (q 20)]))] (fun _ => True) (fun _ => [(b, .inr (9, [.int 0, .ref (q 0), .int 0, .int 0, .int 0, .int 0, .int 0, .int 0, .int 0, .int 1, .int 0, .int 0, .ref (q 1), .int 1, .int 0, .ref (q 2), .ref (q 3), .ref (q 4), .ref (q 5), .ref (q 6), .ref (q 7), .ref (q 8), .ref (q 9), .ref (q 10), .ref (q 11), .ref (q 12), .ref (q 13), .ref (q 14), .ref (q 15), .ref (q 16), .int 0, .int 0, .int 0, .int 0, .int 0, .int 0, .ref (q 17), .ref (q 18), .ref (q 19), .ref (q 20)]))]) := by
  refine bw_Cv.of (cc := cX9_wrong) (maxL := 3) (by decide) rfl (Nat.le_of_ble_eq_true rfl) ?_
  intro p e s m below meth c A Q hx hb hml hts hown hin hK hA hS hP hD hE ret ls hl
  have F : CallFix p m c cX9_wrong 3 s ([.ref b, .int 1, .int 0] : List Value).toArray bw_T RX9 := ⟨hx, hb, hml, hown, fun w h => hts w (List.mem_cons_of_mem _ h)⟩
  have hl : lv_has ls 3 [(0, .ref b), (1, .int 1), (2, .int 0)] := hl
  refine lv_aload_n hx hb dX9_wrong_0 rfl (lv_at hl 0 rfl) ?_
  refine r_get F hK hP 0 13 rfl rfl in_X9 (by decide) k_1176 rfl dX9_wrong_1 ?_
  refine lv_if_eq (tgt := 8) hx hb dX9_wrong_4 (by decide) (fun _ => ?_) (fun h9 => absurd (by decide) h9)
  refine lv_aload_n hx hb dX9_wrong_8 rfl (lv_at hl 0 rfl) ?_
  refine lv_iconst (v := 1) hx hb dX9_wrong_9 (by decide) ?_
  refine r_put F hK hP hD hS 0 13 rfl rfl in_X9 tyX9 tyX9_ok nmX9 (by decide) k_1176 rfl rfl rfl (Nat.le_of_ble_eq_true rfl) dX9_wrong_10 (w1 := [(b, .inr (9, [.int 0, .ref (q 0), .int 0, .int 0, .int 0, .int 0, .int 0, .int 0, .int 0, .int 0, .int (-1), .int 0, .ref (q 1), .int 1, .int 0, .ref (q 2), .ref (q 3), .ref (q 4), .ref (q 5), .ref (q 6), .ref (q 7), .ref (q 8), .ref (q 9), .ref (q 10), .ref (q 11), .ref (q 12), .ref (q 13), .ref (q 14), .ref (q 15), .ref (q 16), .int 0, .int 0, .int 0, .int 0, .int 0, .int 0, .ref (q 17), .ref (q 18), .ref (q 19), .ref (q 20)]))]) rfl (fun H locs hP hD hS => ?_)
  refine lv_aload_n hx hb dX9_wrong_13 rfl (lv_at hl 0 rfl) ?_
  refine lv_iload_n hx hb dX9_wrong_14 rfl (lv_at hl 1 rfl) ?_
  refine r_put F hK hP hD hS 0 9 rfl rfl in_X9 tyX9 tyX9_ok nmX9 (by decide) k_1172 rfl rfl rfl (Nat.le_of_ble_eq_true rfl) dX9_wrong_15 (w1 := [(b, .inr (9, [.int 0, .ref (q 0), .int 0, .int 0, .int 0, .int 0, .int 0, .int 0, .int 0, .int 1, .int (-1), .int 0, .ref (q 1), .int 1, .int 0, .ref (q 2), .ref (q 3), .ref (q 4), .ref (q 5), .ref (q 6), .ref (q 7), .ref (q 8), .ref (q 9), .ref (q 10), .ref (q 11), .ref (q 12), .ref (q 13), .ref (q 14), .ref (q 15), .ref (q 16), .int 0, .int 0, .int 0, .int 0, .int 0, .int 0, .ref (q 17), .ref (q 18), .ref (q 19), .ref (q 20)]))]) rfl (fun H locs hP hD hS => ?_)
  refine lv_aload_n hx hb dX9_wrong_18 rfl (lv_at hl 0 rfl) ?_
  refine lv_iload_n hx hb dX9_wrong_19 rfl (lv_at hl 2 rfl) ?_
  refine r_put F hK hP hD hS 0 10 rfl rfl in_X9 tyX9 tyX9_ok nmX9 (by decide) k_1173 rfl rfl rfl (Nat.le_of_ble_eq_true rfl) dX9_wrong_20 (w1 := [(b, .inr (9, [.int 0, .ref (q 0), .int 0, .int 0, .int 0, .int 0, .int 0, .int 0, .int 0, .int 1, .int 0, .int 0, .ref (q 1), .int 1, .int 0, .ref (q 2), .ref (q 3), .ref (q 4), .ref (q 5), .ref (q 6), .ref (q 7), .ref (q 8), .ref (q 9), .ref (q 10), .ref (q 11), .ref (q 12), .ref (q 13), .ref (q 14), .ref (q 15), .ref (q 16), .int 0, .int 0, .int 0, .int 0, .int 0, .int 0, .ref (q 17), .ref (q 18), .ref (q 19), .ref (q 20)]))]) rfl (fun H locs hP hD hS => ?_)
  exact ret (fun _ => 0, fun _ _ => 0) _ _ _ _ _ _ trivial (bw_subP (isC := [0]) hP rfl) (hD.sub [0] (by decide) rfl) hS (Nat.le_of_ble_eq_true rfl) (Nat.le_of_ble_eq_true rfl) dX9_wrong_23
theorem dX9_readLine_0 : decode cX9_readLine 0 = .ok (.aload_n 0, 1) := by decide +kernel
theorem dX9_readLine_1 : decode cX9_readLine 1 = .ok (.ldc 154, 2) := by decide +kernel
theorem dX9_readLine_3 : decode cX9_readLine 3 = .ok (.invokevirtual 132, 3) := by decide +kernel
theorem k_1326 : Cond.methodLink RX9 132 yX9_isWord ∈ bw_T := bw_m 1326 (by decide +kernel) rfl
theorem kv_X9_isWord : bw_KV RX9 yX9_isWord (Cond.code yX9_isWord cX9_isWord 4 (some .boolean)) := ⟨bw_m 1328 (by decide +kernel) rfl, bw_m 49 (by decide +kernel) rfl, bw_m 107 (by decide +kernel) rfl, bw_m 1329 (by decide +kernel) rfl⟩
theorem dX9_readLine_6 : decode cX9_readLine 6 = .ok (.ifCond .eq 10, 3) := by decide +kernel
theorem dX9_readLine_16 : decode cX9_readLine 16 = .ok (.aload_n 0, 1) := by decide +kernel
theorem dX9_readLine_17 : decode cX9_readLine 17 = .ok (.ldc 156, 2) := by decide +kernel
theorem dX9_readLine_19 : decode cX9_readLine 19 = .ok (.invokevirtual 132, 3) := by decide +kernel
theorem dX9_readLine_22 : decode cX9_readLine 22 = .ok (.ifCond .eq 10, 3) := by decide +kernel
theorem dX9_readLine_32 : decode cX9_readLine 32 = .ok (.aload_n 0, 1) := by decide +kernel
theorem dX9_readLine_33 : decode cX9_readLine 33 = .ok (.ldc 158, 2) := by decide +kernel
theorem dX9_readLine_35 : decode cX9_readLine 35 = .ok (.invokevirtual 132, 3) := by decide +kernel
theorem dX9_readLine_38 : decode cX9_readLine 38 = .ok (.ifCond .eq 10, 3) := by decide +kernel
theorem dX9_readLine_48 : decode cX9_readLine 48 = .ok (.aload_n 0, 1) := by decide +kernel
theorem dX9_readLine_49 : decode cX9_readLine 49 = .ok (.iconst 1, 1) := by decide +kernel
theorem dX9_readLine_50 : decode cX9_readLine 50 = .ok (.aload_n 0, 1) := by decide +kernel
theorem dX9_readLine_51 : decode cX9_readLine 51 = .ok (.getfield 96, 3) := by decide +kernel
theorem dX9_readLine_54 : decode cX9_readLine 54 = .ok (.invokevirtual 142, 3) := by decide +kernel
theorem k_1336 : Cond.methodLink RX9 142 yX9_wrong ∈ bw_T := bw_m 1336 (by decide +kernel) rfl
theorem kv_X9_wrong : bw_KV RX9 yX9_wrong (Cond.code yX9_wrong cX9_wrong 3 none) := ⟨bw_m 1338 (by decide +kernel) rfl, bw_m 51 (by decide +kernel) rfl, bw_m 107 (by decide +kernel) rfl, bw_m 1339 (by decide +kernel) rfl⟩
theorem dX9_readLine_57 : decode cX9_readLine 57 = .ok (.return_, 1) := by decide +kernel
abbrev rm_X9_readLine : Room := { frames := 1, cells := 0, slots := 0, locals := 23 }
set_option maxRecDepth 100000 in
set_option maxHeartbeats 4000000 in
theorem c_X9_readLine {l : Launch} {E : (Nat → Prop) → State → Prop} (hO : bw_Ok E) {G : va_G} {cI cB cJ cN cW : ClassId} {w1 w2 w3 : Nat} (hW : bw_Words E w1 w2 w3) (b : Nat) (q : Nat → Nat) : bw_Cv (S := bw_U) l yX9_readLine (bw_ws (Cond.code yX9_readLine cX9_readLine 1 none)) rm_X9_readLine E G (bw_kt cI cB cJ cN cW) [.ref b] [(b, .inr (9, [.int 0, .ref (q 0), .int 0, .int 0, .int 0, .int 0, .int 0, .int 0, .int 0, .int 0, .int (-1), .int 0, .ref (q 1), .int 0, .int 0, .ref (q 2), .ref (q 3), .ref (q 4), .ref (q 5), .ref (q 6), .ref (q 7), .ref (q 8), .ref (q 9), .ref (q 10), .ref (q 11), .ref (q 12), .ref (q 13), .ref (q 14), .ref (q 15), .ref (q 16), .int 0, .int 0, .int 0, .int 0, .int 0, .int 0, .ref (q 17), .ref (q 18), .ref (q 19), .ref (q 20)]))] (fun _ => True) (fun _ => [(b, .inr (9, [.int 0, .ref (q 0), .int 0, .int 0, .int 0, .int 0, .int 0, .int 0, .int 0, .int 1, .int 0, .int 0, .ref (q 1), .int 1, .int 0, .ref (q 2), .ref (q 3), .ref (q 4), .ref (q 5), .ref (q 6), .ref (q 7), .ref (q 8), .ref (q 9), .ref (q 10), .ref (q 11), .ref (q 12), .ref (q 13), .ref (q 14), .ref (q 15), .ref (q 16), .int 0, .int 0, .int 0, .int 0, .int 0, .int 0, .ref (q 17), .ref (q 18), .ref (q 19), .ref (q 20)]))]) := by
  refine bw_Cv.of (cc := cX9_readLine) (maxL := 1) (by decide) rfl (Nat.le_of_ble_eq_true rfl) ?_
  intro p e s m below meth c A Q hx hb hml hts hown hin hK hA hS hP hD hE ret ls hl
  have F : CallFix p m c cX9_readLine 1 s ([.ref b] : List Value).toArray bw_T RX9 := ⟨hx, hb, hml, hown, fun w h => hts w (List.mem_cons_of_mem _ h)⟩
  have hl : lv_has ls 1 [(0, .ref b)] := hl
  refine lv_aload_n hx hb dX9_readLine_0 rfl (lv_at hl 0 rfl) ?_
  refine va_ldcS hx hb hown (hW _ _ hE).1 dX9_readLine_1 ?_
  refine r_callVi (As := [.ref w1]) (rest := []) (wr := []) F hK hP hD hS hA hO hE (c_X9_isWord hO b q w1) k_1326 kv_X9_isWord 1 rfl (by decide +kernel) ⟨Nat.le_of_ble_eq_true rfl, Nat.le_of_ble_eq_true rfl⟩ [0] [] rfl rfl (by decide) (by decide) (by decide) 0 9 rfl rfl rfl hl.1 rfl (Nat.le_of_ble_eq_true rfl) dX9_readLine_3 ⟨Nat.le_of_ble_eq_true rfl, Nat.le_of_ble_eq_true rfl⟩ (w1 := fun u1 => [(b, .inr (9, [.int 0, .ref (q 0), .int 0, .int 0, .int 0, .int 0, .int 0, .int 0, .int 0, .int 0, .int (-1), .int 0, .ref (q 1), .int 0, .int 0, .ref (q 2), .ref (q 3), .ref (q 4), .ref (q 5), .ref (q 6), .ref (q 7), .ref (q 8), .ref (q 9), .ref (q 10), .ref (q 11), .ref (q 12), .ref (q 13), .ref (q 14), .ref (q 15), .ref (q 16), .int 0, .int 0, .int 0, .int 0, .int 0, .int 0, .ref (q 17), .ref (q 18), .ref (q 19), .ref (q 20)]))]) (fun _ => rfl) (fun r2 u1 H locs hp hP hD hS => ?_)
  subst hp
  refine lv_if_eq (tgt := 16) hx hb dX9_readLine_6 (by decide) (fun _ => ?_) (fun h9 => absurd (by decide) h9)
  refine lv_aload_n hx hb dX9_readLine_16 rfl (lv_at hl 0 rfl) ?_
  refine va_ldcS hx hb hown (hW _ _ hE).2.1 dX9_readLine_17 ?_
  refine r_callVi (As := [.ref w2]) (rest := []) (wr := []) F hK hP hD hS hA hO hE (c_X9_isWord hO b q w2) k_1326 kv_X9_isWord 1 rfl (by decide +kernel) ⟨Nat.le_of_ble_eq_true rfl, Nat.le_of_ble_eq_true rfl⟩ [0] [] rfl rfl (by decide) (by decide) (by decide) 0 9 rfl rfl rfl hl.1 rfl (Nat.le_of_ble_eq_true rfl) dX9_readLine_19 ⟨Nat.le_of_ble_eq_true rfl, Nat.le_of_ble_eq_true rfl⟩ (w1 := fun u3 => [(b, .inr (9, [.int 0, .ref (q 0), .int 0, .int 0, .int 0, .int 0, .int 0, .int 0, .int 0, .int 0, .int (-1), .int 0, .ref (q 1), .int 0, .int 0, .ref (q 2), .ref (q 3), .ref (q 4), .ref (q 5), .ref (q 6), .ref (q 7), .ref (q 8), .ref (q 9), .ref (q 10), .ref (q 11), .ref (q 12), .ref (q 13), .ref (q 14), .ref (q 15), .ref (q 16), .int 0, .int 0, .int 0, .int 0, .int 0, .int 0, .ref (q 17), .ref (q 18), .ref (q 19), .ref (q 20)]))]) (fun _ => rfl) (fun r4 u3 H locs hp hP hD hS => ?_)
  subst hp
  refine lv_if_eq (tgt := 32) hx hb dX9_readLine_22 (by decide) (fun _ => ?_) (fun h9 => absurd (by decide) h9)
  refine lv_aload_n hx hb dX9_readLine_32 rfl (lv_at hl 0 rfl) ?_
  refine va_ldcS hx hb hown (hW _ _ hE).2.2 dX9_readLine_33 ?_
  refine r_callVi (As := [.ref w3]) (rest := []) (wr := []) F hK hP hD hS hA hO hE (c_X9_isWord hO b q w3) k_1326 kv_X9_isWord 1 rfl (by decide +kernel) ⟨Nat.le_of_ble_eq_true rfl, Nat.le_of_ble_eq_true rfl⟩ [0] [] rfl rfl (by decide) (by decide) (by decide) 0 9 rfl rfl rfl hl.1 rfl (Nat.le_of_ble_eq_true rfl) dX9_readLine_35 ⟨Nat.le_of_ble_eq_true rfl, Nat.le_of_ble_eq_true rfl⟩ (w1 := fun u5 => [(b, .inr (9, [.int 0, .ref (q 0), .int 0, .int 0, .int 0, .int 0, .int 0, .int 0, .int 0, .int 0, .int (-1), .int 0, .ref (q 1), .int 0, .int 0, .ref (q 2), .ref (q 3), .ref (q 4), .ref (q 5), .ref (q 6), .ref (q 7), .ref (q 8), .ref (q 9), .ref (q 10), .ref (q 11), .ref (q 12), .ref (q 13), .ref (q 14), .ref (q 15), .ref (q 16), .int 0, .int 0, .int 0, .int 0, .int 0, .int 0, .ref (q 17), .ref (q 18), .ref (q 19), .ref (q 20)]))]) (fun _ => rfl) (fun r6 u5 H locs hp hP hD hS => ?_)
  subst hp
  refine lv_if_eq (tgt := 48) hx hb dX9_readLine_38 (by decide) (fun _ => ?_) (fun h9 => absurd (by decide) h9)
  refine lv_aload_n hx hb dX9_readLine_48 rfl (lv_at hl 0 rfl) ?_
  refine lv_iconst (v := 1) hx hb dX9_readLine_49 (by decide) ?_
  refine lv_aload_n hx hb dX9_readLine_50 rfl (lv_at hl 0 rfl) ?_
  refine r_get F hK hP 0 4 rfl rfl in_X9 (by decide) k_1167 rfl dX9_readLine_51 ?_
  refine r_callVv (As := [.int 1, .int 0]) (rest := []) (wr := []) F hK hP hD hS hA hO hE (c_X9_wrong hO b q) k_1336 kv_X9_wrong 2 rfl (by decide +kernel) ⟨Nat.le_of_ble_eq_true rfl, Nat.le_of_ble_eq_true rfl⟩ [0] [] rfl rfl (by decide) (by decide) (by decide) 0 9 rfl rfl rfl hl.1 rfl (Nat.le_of_ble_eq_true rfl) dX9_readLine_54 ⟨Nat.le_of_ble_eq_true rfl, Nat.le_of_ble_eq_true rfl⟩ (w1 := fun u7 => [(b, .inr (9, [.int 0, .ref (q 0), .int 0, .int 0, .int 0, .int 0, .int 0, .int 0, .int 0, .int 1, .int 0, .int 0, .ref (q 1), .int 1, .int 0, .ref (q 2), .ref (q 3), .ref (q 4), .ref (q 5), .ref (q 6), .ref (q 7), .ref (q 8), .ref (q 9), .ref (q 10), .ref (q 11), .ref (q 12), .ref (q 13), .ref (q 14), .ref (q 15), .ref (q 16), .int 0, .int 0, .int 0, .int 0, .int 0, .int 0, .ref (q 17), .ref (q 18), .ref (q 19), .ref (q 20)]))]) (fun _ => rfl) (fun  u7 H locs hp hP hD hS => ?_)
  exact ret (fun _ => 0, fun _ _ => 0) _ _ _ _ _ _ trivial (bw_subP (isC := [0]) hP rfl) (hD.sub [0] (by decide) rfl) hS (Nat.le_of_ble_eq_true rfl) (Nat.le_of_ble_eq_true rfl) dX9_readLine_57
abbrev rm_X9_no_f : Room := { frames := 0, cells := 0, slots := 0, locals := 0 }
set_option maxRecDepth 100000 in
set_option maxHeartbeats 4000000 in
theorem c_X9_no_f {l : Launch} {E : (Nat → Prop) → State → Prop} (hO : bw_Ok E) {G : va_G} {cI cB cJ cN cW : ClassId} (b : Nat) (q : Nat → Nat) (n : Int32) : bw_Ci (S := bw_U) l yX9_no (bw_ws (Cond.code yX9_no cX9_no 2 (some .int))) rm_X9_no_f E G (bw_kt cI cB cJ cN cW) [.ref b, .int n] [(b, .inr (9, [.int 0, .ref (q 0), .int 0, .int 0, .int 0, .int 0, .int 0, .int 0, .int 0, .int 1, .int 0, .int 0, .ref (q 1), .int 1, .int 0, .ref (q 2), .ref (q 3), .ref (q 4), .ref (q 5), .ref (q 6), .ref (q 7), .ref (q 8), .ref (q 9), .ref (q 10), .ref (q 11), .ref (q 12), .ref (q 13), .ref (q 14), .ref (q 15), .ref (q 16), .int 0, .int 0, .int 0, .int 0, .int 0, .int 0, .ref (q 17), .ref (q 18), .ref (q 19), .ref (q 20)]))] (fun r _ => r = -1) (fun _ => []) := by
  refine bw_Ci.of (cc := cX9_no) (maxL := 2) (ty := .int) (by decide) rfl (Nat.le_of_ble_eq_true rfl) ?_
  intro p e s m below meth c A Q hx hb hml hts hown hin hK hA hS hP hD hE ret ls hl
  have F : CallFix p m c cX9_no 2 s ([.ref b, .int n] : List Value).toArray bw_T RX9 := ⟨hx, hb, hml, hown, fun w h => hts w (List.mem_cons_of_mem _ h)⟩
  have hl : lv_has ls 2 [(0, .ref b), (1, .int n)] := hl
  refine lv_aload_n hx hb dX9_no_0 rfl (lv_at hl 0 rfl) ?_
  refine lv_iload_n hx hb dX9_no_1 rfl (lv_at hl 1 rfl) ?_
  refine r_put F hK hP hD hS 0 11 rfl rfl in_X9 tyX9 tyX9_ok nmX9 (by decide) k_1174 rfl rfl rfl (Nat.le_of_ble_eq_true rfl) dX9_no_2 (w1 := [(b, .inr (9, [.int 0, .ref (q 0), .int 0, .int 0, .int 0, .int 0, .int 0, .int 0, .int 0, .int 1, .int 0, .int n, .ref (q 1), .int 1, .int 0, .ref (q 2), .ref (q 3), .ref (q 4), .ref (q 5), .ref (q 6), .ref (q 7), .ref (q 8), .ref (q 9), .ref (q 10), .ref (q 11), .ref (q 12), .ref (q 13), .ref (q 14), .ref (q 15), .ref (q 16), .int 0, .int 0, .int 0, .int 0, .int 0, .int 0, .ref (q 17), .ref (q 18), .ref (q 19), .ref (q 20)]))]) rfl (fun H locs hP hD hS => ?_)
  refine lv_iconst (v := (-1)) hx hb dX9_no_5 (by decide) ?_
  exact ret (-1) (fun _ => 0, fun _ _ => 0) _ _ _ _ _ _ rfl rfl (bw_subP (isC := []) hP rfl) (hD.sub [] (by decide) rfl) hS (Nat.le_of_ble_eq_true rfl) (Nat.le_of_ble_eq_true rfl) dX9_no_6
theorem dX9_program_0 : decode cX9_program 0 = .ok (.aload_n 0, 1) := by decide +kernel
theorem dX9_program_1 : decode cX9_program 1 = .ok (.invokevirtual 197, 3) := by decide +kernel
theorem dX9_program_4 : decode cX9_program 4 = .ok (.iload_n 1, 1) := by decide +kernel
theorem dX9_program_5 : decode cX9_program 5 = .ok (.iconst 0, 1) := by decide +kernel
theorem dX9_program_6 : decode cX9_program 6 = .ok (.aload_n 0, 1) := by decide +kernel
theorem dX9_program_7 : decode cX9_program 7 = .ok (.getfield 83, 3) := by decide +kernel
theorem dX9_program_10 : decode cX9_program 10 = .ok (.invokestatic 146, 3) := by decide +kernel
theorem dX9_program_13 : decode cX9_program 13 = .ok (.ifCond .ne 9, 3) := by decide +kernel
theorem dX9_program_22 : decode cX9_program 22 = .ok (.aload_n 0, 1) := by decide +kernel
theorem dX9_program_23 : decode cX9_program 23 = .ok (.iconst 0, 1) := by decide +kernel
theorem dX9_program_24 : decode cX9_program 24 = .ok (.putfield 83, 3) := by decide +kernel
theorem dX9_program_27 : decode cX9_program 27 = .ok (.aload_n 0, 1) := by decide +kernel
theorem dX9_program_28 : decode cX9_program 28 = .ok (.iconst 0, 1) := by decide +kernel
theorem dX9_program_29 : decode cX9_program 29 = .ok (.putfield 119, 3) := by decide +kernel
theorem dX9_program_32 : decode cX9_program 32 = .ok (.aload_n 0, 1) := by decide +kernel
theorem dX9_program_33 : decode cX9_program 33 = .ok (.iconst 0, 1) := by decide +kernel
theorem dX9_program_34 : decode cX9_program 34 = .ok (.putfield 115, 3) := by decide +kernel
theorem dX9_program_37 : decode cX9_program 37 = .ok (.aload_n 0, 1) := by decide +kernel
theorem dX9_program_38 : decode cX9_program 38 = .ok (.iconst 0, 1) := by decide +kernel
theorem dX9_program_39 : decode cX9_program 39 = .ok (.putfield 182, 3) := by decide +kernel
theorem k_1194 : Cond.fieldLink RX9 182 "BurntWaysModel" "newLines" "I" ∈ bw_T := bw_m 1194 (by decide +kernel) rfl
theorem dX9_program_42 : decode cX9_program 42 = .ok (.aload_n 0, 1) := by decide +kernel
theorem dX9_program_43 : decode cX9_program 43 = .ok (.iconst 0, 1) := by decide +kernel
theorem dX9_program_44 : decode cX9_program 44 = .ok (.putfield 203, 3) := by decide +kernel
theorem k_1196 : Cond.fieldLink RX9 203 "BurntWaysModel" "newWants" "I" ∈ bw_T := bw_m 1196 (by decide +kernel) rfl
theorem dX9_program_47 : decode cX9_program 47 = .ok (.iconst 0, 1) := by decide +kernel
theorem dX9_program_48 : decode cX9_program 48 = .ok (.istore_n 2, 1) := by decide +kernel
theorem dX9_program_49 : decode cX9_program 49 = .ok (.iload_n 2, 1) := by decide +kernel
theorem dX9_program_50 : decode cX9_program 50 = .ok (.sipush 200, 3) := by decide +kernel
theorem dX9_program_53 : decode cX9_program 53 = .ok (.if_icmp .ge 16, 3) := by decide +kernel
theorem dX9_program_69 : decode cX9_program 69 = .ok (.aload_n 0, 1) := by decide +kernel
theorem dX9_program_70 : decode cX9_program 70 = .ok (.iload_n 1, 1) := by decide +kernel
theorem dX9_program_71 : decode cX9_program 71 = .ok (.putfield 86, 3) := by decide +kernel
theorem dX9_program_74 : decode cX9_program 74 = .ok (.aload_n 0, 1) := by decide +kernel
theorem dX9_program_75 : decode cX9_program 75 = .ok (.iconst 0, 1) := by decide +kernel
theorem dX9_program_76 : decode cX9_program 76 = .ok (.putfield 89, 3) := by decide +kernel
theorem dX9_program_79 : decode cX9_program 79 = .ok (.aload_n 0, 1) := by decide +kernel
theorem dX9_program_80 : decode cX9_program 80 = .ok (.invokevirtual 136, 3) := by decide +kernel
theorem k_1307 : Cond.methodLink RX9 136 yX9_next ∈ bw_T := bw_m 1307 (by decide +kernel) rfl
theorem kv_X9_next : bw_KV RX9 yX9_next (Cond.code yX9_next cX9_next 4 none) := ⟨bw_m 1309 (by decide +kernel) rfl, bw_m 46 (by decide +kernel) rfl, bw_m 107 (by decide +kernel) rfl, bw_m 1310 (by decide +kernel) rfl⟩
theorem dX9_program_83 : decode cX9_program 83 = .ok (.aload_n 0, 1) := by decide +kernel
theorem dX9_program_84 : decode cX9_program 84 = .ok (.invokevirtual 206, 3) := by decide +kernel
theorem k_1321 : Cond.methodLink RX9 206 yX9_readLine ∈ bw_T := bw_m 1321 (by decide +kernel) rfl
theorem kv_X9_readLine : bw_KV RX9 yX9_readLine (Cond.code yX9_readLine cX9_readLine 1 none) := ⟨bw_m 1323 (by decide +kernel) rfl, bw_m 48 (by decide +kernel) rfl, bw_m 107 (by decide +kernel) rfl, bw_m 1324 (by decide +kernel) rfl⟩
theorem dX9_program_87 : decode cX9_program 87 = .ok (.aload_n 0, 1) := by decide +kernel
theorem dX9_program_88 : decode cX9_program 88 = .ok (.getfield 115, 3) := by decide +kernel
theorem dX9_program_91 : decode cX9_program 91 = .ok (.ifCond .ne 23, 3) := by decide +kernel
theorem dX9_program_114 : decode cX9_program 114 = .ok (.aload_n 0, 1) := by decide +kernel
theorem dX9_program_115 : decode cX9_program 115 = .ok (.getfield 115, 3) := by decide +kernel
theorem dX9_program_118 : decode cX9_program 118 = .ok (.ifCond .ne 19, 3) := by decide +kernel
theorem dX9_program_137 : decode cX9_program 137 = .ok (.aload_n 0, 1) := by decide +kernel
theorem dX9_program_138 : decode cX9_program 138 = .ok (.getfield 115, 3) := by decide +kernel
theorem dX9_program_141 : decode cX9_program 141 = .ok (.ifCond .ne 20, 3) := by decide +kernel
theorem dX9_program_161 : decode cX9_program 161 = .ok (.aload_n 0, 1) := by decide +kernel
theorem dX9_program_162 : decode cX9_program 162 = .ok (.getfield 115, 3) := by decide +kernel
theorem dX9_program_165 : decode cX9_program 165 = .ok (.ifCond .eq 9, 3) := by decide +kernel
theorem dX9_program_168 : decode cX9_program 168 = .ok (.aload_n 0, 1) := by decide +kernel
theorem dX9_program_169 : decode cX9_program 169 = .ok (.iconst 4, 1) := by decide +kernel
theorem dX9_program_170 : decode cX9_program 170 = .ok (.invokevirtual 200, 3) := by decide +kernel
theorem dX9_program_173 : decode cX9_program 173 = .ok (.ireturn, 1) := by decide +kernel
theorem dX9_program_56 : decode cX9_program 56 = .ok (.aload_n 0, 1) := by decide +kernel
theorem dX9_program_57 : decode cX9_program 57 = .ok (.getfield 20, 3) := by decide +kernel
theorem dX9_program_60 : decode cX9_program 60 = .ok (.iload_n 2, 1) := by decide +kernel
theorem dX9_program_61 : decode cX9_program 61 = .ok (.iconst 0, 1) := by decide +kernel
theorem dX9_program_62 : decode cX9_program 62 = .ok (.iastore, 1) := by decide +kernel
theorem dX9_program_63 : decode cX9_program 63 = .ok (.iinc 2 1, 3) := by decide +kernel
theorem dX9_program_66 : decode cX9_program 66 = .ok (.goto (-17), 3) := by decide +kernel
theorem dX9_program_16 : decode cX9_program 16 = .ok (.aload_n 0, 1) := by decide +kernel
theorem dX9_program_17 : decode cX9_program 17 = .ok (.iconst 2, 1) := by decide +kernel
theorem dX9_program_18 : decode cX9_program 18 = .ok (.invokevirtual 200, 3) := by decide +kernel
theorem dX9_program_21 : decode cX9_program 21 = .ok (.ireturn, 1) := by decide +kernel
abbrev rm_X9_program : Room := { frames := 2, cells := 0, slots := 0, locals := 44 }
set_option maxRecDepth 100000 in
set_option maxHeartbeats 4000000 in
theorem c_X9_program {l : Launch} {E : (Nat → Prop) → State → Prop} (hO : bw_Ok E) {G : va_G} {cI cB cJ cN cW : ClassId} {w1 w2 w3 : Nat} (hW : bw_Words E w1 w2 w3) (b : Nat) (q : Nat → Nat) (n : Int32) : bw_Ci (S := bw_U) l yX9_program (bw_ws (Cond.code yX9_program cX9_program 3 (some .int))) rm_X9_program E G (bw_kt cI cB cJ cN cW) [.ref b, .int n] [(b, .inr (9, [.int 0, .ref (q 0), .int 0, .int 0, .int 0, .int 0, .int 0, .int 0, .int 0, .int 0, .int (-1), .int 0, .ref (q 1), .int 0, .int 0, .ref (q 2), .ref (q 3), .ref (q 4), .ref (q 5), .ref (q 6), .ref (q 7), .ref (q 8), .ref (q 9), .ref (q 10), .ref (q 11), .ref (q 12), .ref (q 13), .ref (q 14), .ref (q 15), .ref (q 16), .int 0, .int 0, .int 0, .int 0, .int 0, .int 0, .ref (q 17), .ref (q 18), .ref (q 19), .ref (q 20)])), ((q 2), .inl (cI, 200, .inl (fun _ => 0)))] (fun r _ => r = -1) (fun _ => []) := by
  refine bw_Ci.of (cc := cX9_program) (maxL := 3) (ty := .int) (by decide) rfl (Nat.le_of_ble_eq_true rfl) ?_
  intro p e s m below meth c A Q hx hb hml hts hown hin hK hA hS hP hD hE ret ls hl
  have F : CallFix p m c cX9_program 3 s ([.ref b, .int n] : List Value).toArray bw_T RX9 := ⟨hx, hb, hml, hown, fun w h => hts w (List.mem_cons_of_mem _ h)⟩
  have hl : lv_has ls 3 [(0, .ref b), (1, .int n)] := hl
  refine lv_aload_n hx hb dX9_program_0 rfl (lv_at hl 0 rfl) ?_
  refine r_callVv (As := []) (rest := []) (wr := [((q 2), .inl (cI, 200, .inl (fun _ => 0)))]) F hK hP hD hS hA hO hE (c_X9_good hO b q) k_1296 kv_X9_good 0 rfl (by decide +kernel) ⟨Nat.le_of_ble_eq_true rfl, Nat.le_of_ble_eq_true rfl⟩ [0] [1] rfl rfl (by decide) (by decide) (by decide) 0 9 rfl rfl rfl hl.1 rfl (Nat.le_of_ble_eq_true rfl) dX9_program_1 ⟨Nat.le_of_ble_eq_true rfl, Nat.le_of_ble_eq_true rfl⟩ (w1 := fun u1 => [((q 2), .inl (cI, 200, .inl (fun _ => 0))), (b, .inr (9, [.int 0, .ref (q 0), .int 0, .int 0, .int 0, .int 0, .int 0, .int 0, .int 0, .int 0, .int (-1), .int 0, .ref (q 1), .int 0, .int 0, .ref (q 2), .ref (q 3), .ref (q 4), .ref (q 5), .ref (q 6), .ref (q 7), .ref (q 8), .ref (q 9), .ref (q 10), .ref (q 11), .ref (q 12), .ref (q 13), .ref (q 14), .ref (q 15), .ref (q 16), .int 0, .int 0, .int 0, .int 0, .int 0, .int 0, .ref (q 17), .ref (q 18), .ref (q 19), .ref (q 20)]))]) (fun _ => rfl) (fun  u1 H locs hp hP hD hS => ?_)
  refine lv_iload_n hx hb dX9_program_4 rfl (lv_at hl 1 rfl) ?_
  refine lv_iconst (v := 0) hx hb dX9_program_5 (by decide) ?_
  refine lv_aload_n hx hb dX9_program_6 rfl (lv_at hl 0 rfl) ?_
  refine r_get F hK hP 1 2 rfl rfl in_X9 (by decide) k_1165 rfl dX9_program_7 ?_
  refine r_callSi (As := [.int n, .int 0, .int 0]) (rest := []) (wr := [((q 2), .inl (cI, 200, .inl (fun _ => 0))), (b, .inr (9, [.int 0, .ref (q 0), .int 0, .int 0, .int 0, .int 0, .int 0, .int 0, .int 0, .int 0, .int (-1), .int 0, .ref (q 1), .int 0, .int 0, .ref (q 2), .ref (q 3), .ref (q 4), .ref (q 5), .ref (q 6), .ref (q 7), .ref (q 8), .ref (q 9), .ref (q 10), .ref (q 11), .ref (q 12), .ref (q 13), .ref (q 14), .ref (q 15), .ref (q 16), .int 0, .int 0, .int 0, .int 0, .int 0, .int 0, .ref (q 17), .ref (q 18), .ref (q 19), .ref (q 20)]))]) F hK hP hD hS hA hO hE (c_X9_within hO n 0 0) k_1300 ks_X9_within 3 rfl (by decide +kernel) ⟨Nat.le_of_ble_eq_true rfl, Nat.le_of_ble_eq_true rfl⟩ [] [0, 1] rfl rfl (by decide) (by decide) (by decide) hl.1 rfl (Nat.le_of_ble_eq_true rfl) dX9_program_10 ⟨Nat.le_of_ble_eq_true rfl, Nat.le_of_ble_eq_true rfl⟩ (w1 := fun u2 => [((q 2), .inl (cI, 200, .inl (fun _ => 0))), (b, .inr (9, [.int 0, .ref (q 0), .int 0, .int 0, .int 0, .int 0, .int 0, .int 0, .int 0, .int 0, .int (-1), .int 0, .ref (q 1), .int 0, .int 0, .ref (q 2), .ref (q 3), .ref (q 4), .ref (q 5), .ref (q 6), .ref (q 7), .ref (q 8), .ref (q 9), .ref (q 10), .ref (q 11), .ref (q 12), .ref (q 13), .ref (q 14), .ref (q 15), .ref (q 16), .int 0, .int 0, .int 0, .int 0, .int 0, .int 0, .ref (q 17), .ref (q 18), .ref (q 19), .ref (q 20)]))]) (fun _ => rfl) (fun r3 u2 H locs hp hP hD hS => ?_)
  rcases hp with ⟨rfl, g1, g2⟩ | ⟨rfl, g0⟩
  · obtain rfl : n = 0 := Int32.le_antisymm g2 g1
    refine lv_if_ne (tgt := 22) hx hb dX9_program_13 (by decide) (fun _ => ?_) (fun h9 => absurd h9 (by decide))
    refine lv_aload_n hx hb dX9_program_22 rfl (lv_at hl 0 rfl) ?_
    refine lv_iconst (v := 0) hx hb dX9_program_23 (by decide) ?_
    refine r_put F hK hP hD hS 1 2 rfl rfl in_X9 tyX9 tyX9_ok nmX9 (by decide) k_1165 rfl rfl rfl (Nat.le_of_ble_eq_true rfl) dX9_program_24 (w1 := [((q 2), .inl (cI, 200, .inl (fun _ => 0))), (b, .inr (9, [.int 0, .ref (q 0), .int 0, .int 0, .int 0, .int 0, .int 0, .int 0, .int 0, .int 0, .int (-1), .int 0, .ref (q 1), .int 0, .int 0, .ref (q 2), .ref (q 3), .ref (q 4), .ref (q 5), .ref (q 6), .ref (q 7), .ref (q 8), .ref (q 9), .ref (q 10), .ref (q 11), .ref (q 12), .ref (q 13), .ref (q 14), .ref (q 15), .ref (q 16), .int 0, .int 0, .int 0, .int 0, .int 0, .int 0, .ref (q 17), .ref (q 18), .ref (q 19), .ref (q 20)]))]) rfl (fun H locs hP hD hS => ?_)
    refine lv_aload_n hx hb dX9_program_27 rfl (lv_at hl 0 rfl) ?_
    refine lv_iconst (v := 0) hx hb dX9_program_28 (by decide) ?_
    refine r_put F hK hP hD hS 1 9 rfl rfl in_X9 tyX9 tyX9_ok nmX9 (by decide) k_1172 rfl rfl rfl (Nat.le_of_ble_eq_true rfl) dX9_program_29 (w1 := [((q 2), .inl (cI, 200, .inl (fun _ => 0))), (b, .inr (9, [.int 0, .ref (q 0), .int 0, .int 0, .int 0, .int 0, .int 0, .int 0, .int 0, .int 0, .int (-1), .int 0, .ref (q 1), .int 0, .int 0, .ref (q 2), .ref (q 3), .ref (q 4), .ref (q 5), .ref (q 6), .ref (q 7), .ref (q 8), .ref (q 9), .ref (q 10), .ref (q 11), .ref (q 12), .ref (q 13), .ref (q 14), .ref (q 15), .ref (q 16), .int 0, .int 0, .int 0, .int 0, .int 0, .int 0, .ref (q 17), .ref (q 18), .ref (q 19), .ref (q 20)]))]) rfl (fun H locs hP hD hS => ?_)
    refine lv_aload_n hx hb dX9_program_32 rfl (lv_at hl 0 rfl) ?_
    refine lv_iconst (v := 0) hx hb dX9_program_33 (by decide) ?_
    refine r_put F hK hP hD hS 1 13 rfl rfl in_X9 tyX9 tyX9_ok nmX9 (by decide) k_1176 rfl rfl rfl (Nat.le_of_ble_eq_true rfl) dX9_program_34 (w1 := [((q 2), .inl (cI, 200, .inl (fun _ => 0))), (b, .inr (9, [.int 0, .ref (q 0), .int 0, .int 0, .int 0, .int 0, .int 0, .int 0, .int 0, .int 0, .int (-1), .int 0, .ref (q 1), .int 0, .int 0, .ref (q 2), .ref (q 3), .ref (q 4), .ref (q 5), .ref (q 6), .ref (q 7), .ref (q 8), .ref (q 9), .ref (q 10), .ref (q 11), .ref (q 12), .ref (q 13), .ref (q 14), .ref (q 15), .ref (q 16), .int 0, .int 0, .int 0, .int 0, .int 0, .int 0, .ref (q 17), .ref (q 18), .ref (q 19), .ref (q 20)]))]) rfl (fun H locs hP hD hS => ?_)
    refine lv_aload_n hx hb dX9_program_37 rfl (lv_at hl 0 rfl) ?_
    refine lv_iconst (v := 0) hx hb dX9_program_38 (by decide) ?_
    refine r_put F hK hP hD hS 1 31 rfl rfl in_X9 tyX9 tyX9_ok nmX9 (by decide) k_1194 rfl rfl rfl (Nat.le_of_ble_eq_true rfl) dX9_program_39 (w1 := [((q 2), .inl (cI, 200, .inl (fun _ => 0))), (b, .inr (9, [.int 0, .ref (q 0), .int 0, .int 0, .int 0, .int 0, .int 0, .int 0, .int 0, .int 0, .int (-1), .int 0, .ref (q 1), .int 0, .int 0, .ref (q 2), .ref (q 3), .ref (q 4), .ref (q 5), .ref (q 6), .ref (q 7), .ref (q 8), .ref (q 9), .ref (q 10), .ref (q 11), .ref (q 12), .ref (q 13), .ref (q 14), .ref (q 15), .ref (q 16), .int 0, .int 0, .int 0, .int 0, .int 0, .int 0, .ref (q 17), .ref (q 18), .ref (q 19), .ref (q 20)]))]) rfl (fun H locs hP hD hS => ?_)
    refine lv_aload_n hx hb dX9_program_42 rfl (lv_at hl 0 rfl) ?_
    refine lv_iconst (v := 0) hx hb dX9_program_43 (by decide) ?_
    refine r_put F hK hP hD hS 1 33 rfl rfl in_X9 tyX9 tyX9_ok nmX9 (by decide) k_1196 rfl rfl rfl (Nat.le_of_ble_eq_true rfl) dX9_program_44 (w1 := [((q 2), .inl (cI, 200, .inl (fun _ => 0))), (b, .inr (9, [.int 0, .ref (q 0), .int 0, .int 0, .int 0, .int 0, .int 0, .int 0, .int 0, .int 0, .int (-1), .int 0, .ref (q 1), .int 0, .int 0, .ref (q 2), .ref (q 3), .ref (q 4), .ref (q 5), .ref (q 6), .ref (q 7), .ref (q 8), .ref (q 9), .ref (q 10), .ref (q 11), .ref (q 12), .ref (q 13), .ref (q 14), .ref (q 15), .ref (q 16), .int 0, .int 0, .int 0, .int 0, .int 0, .int 0, .ref (q 17), .ref (q 18), .ref (q 19), .ref (q 20)]))]) rfl (fun H locs hP hD hS => ?_)
    refine lv_iconst (v := 0) hx hb dX9_program_47 (by decide) ?_
    refine lv_istore_n (lv' := [(2, .int 0), (0, .ref b), (1, .int 0)]) hx hb dX9_program_48 rfl hl (by decide) rfl (fun ls hl => ?_)
    refine (?_ : ∀ (n k : Nat) (H : Heap) (locs : List Loc), k ≤ 200 → 201 ≤ k + n → va_P G vwCl [((q 2), .inl (cI, 200, .inl (fun _ => 0))), (b, .inr (9, [.int 0, .ref (q 0), .int 0, .int 0, .int 0, .int 0, .int 0, .int 0, .int 0, .int 0, .int (-1), .int 0, .ref (q 1), .int 0, .int 0, .ref (q 2), .ref (q 3), .ref (q 4), .ref (q 5), .ref (q 6), .ref (q 7), .ref (q 8), .ref (q 9), .ref (q 10), .ref (q 11), .ref (q 12), .ref (q 13), .ref (q 14), .ref (q 15), .ref (q 16), .int 0, .int 0, .int 0, .int 0, .int 0, .int 0, .ref (q 17), .ref (q 18), .ref (q 19), .ref (q 20)]))] H → va_D A [((q 2), .inl (cI, 200, .inl (fun _ => 0))), (b, .inr (9, [.int 0, .ref (q 0), .int 0, .int 0, .int 0, .int 0, .int 0, .int 0, .int 0, .int 0, .int (-1), .int 0, .ref (q 1), .int 0, .int 0, .ref (q 2), .ref (q 3), .ref (q 4), .ref (q 5), .ref (q 6), .ref (q 7), .ref (q 8), .ref (q 9), .ref (q 10), .ref (q 11), .ref (q 12), .ref (q 13), .ref (q 14), .ref (q 15), .ref (q 16), .int 0, .int 0, .int 0, .int 0, .int 0, .int 0, .ref (q 17), .ref (q 18), .ref (q 19), .ref (q 20)]))] → va_S A s.heap H locs → ∀ ls : Array Slot, lv_has ls 3 [(2, .int (nI k)), (0, .ref b), (1, .int 0)] → W p l e rm_X9_program s m ([.ref b, .int 0] : List Value).toArray below meth c H locs (0 + rm_X9_good.cells + rm_X9_within.cells) (0 + rm_X9_good.slots + rm_X9_within.slots) Q (F0 m 49 ls [])) 201 0 _ _ (by omega) (by omega) hP hD hS ls (lv_sub hl [0, 1, 2] rfl)
    clear hP hD hS hl ls
    intro n
    induction n with
    | zero =>
      intro k H locs h1 h2
      exact absurd h2 (by omega)
    | succ n ih =>
      intro k H locs hk hn hP hD hS ls hl
      refine lv_iload_n hx hb dX9_program_49 rfl (lv_at hl 0 rfl) ?_
      refine lv_sipush (v := 200) hx hb dX9_program_50 (by decide) ?_
      refine lv_icmp_ge (tgt := 69) hx hb dX9_program_53 (by decide) (fun h7 => ?_) (fun h7 => ?_)
      · refine lv_aload_n hx hb dX9_program_69 rfl (lv_at hl 1 rfl) ?_
        refine lv_iload_n hx hb dX9_program_70 rfl (lv_at hl 2 rfl) ?_
        refine r_put F hK hP hD hS 1 3 rfl rfl in_X9 tyX9 tyX9_ok nmX9 (by decide) k_1166 rfl rfl rfl (Nat.le_of_ble_eq_true rfl) dX9_program_71 (w1 := [((q 2), .inl (cI, 200, .inl (fun _ => 0))), (b, .inr (9, [.int 0, .ref (q 0), .int 0, .int 0, .int 0, .int 0, .int 0, .int 0, .int 0, .int 0, .int (-1), .int 0, .ref (q 1), .int 0, .int 0, .ref (q 2), .ref (q 3), .ref (q 4), .ref (q 5), .ref (q 6), .ref (q 7), .ref (q 8), .ref (q 9), .ref (q 10), .ref (q 11), .ref (q 12), .ref (q 13), .ref (q 14), .ref (q 15), .ref (q 16), .int 0, .int 0, .int 0, .int 0, .int 0, .int 0, .ref (q 17), .ref (q 18), .ref (q 19), .ref (q 20)]))]) rfl (fun H locs hP hD hS => ?_)
        refine lv_aload_n hx hb dX9_program_74 rfl (lv_at hl 1 rfl) ?_
        refine lv_iconst (v := 0) hx hb dX9_program_75 (by decide) ?_
        refine r_put F hK hP hD hS 1 5 rfl rfl in_X9 tyX9 tyX9_ok nmX9 (by decide) k_1168 rfl rfl rfl (Nat.le_of_ble_eq_true rfl) dX9_program_76 (w1 := [((q 2), .inl (cI, 200, .inl (fun _ => 0))), (b, .inr (9, [.int 0, .ref (q 0), .int 0, .int 0, .int 0, .int 0, .int 0, .int 0, .int 0, .int 0, .int (-1), .int 0, .ref (q 1), .int 0, .int 0, .ref (q 2), .ref (q 3), .ref (q 4), .ref (q 5), .ref (q 6), .ref (q 7), .ref (q 8), .ref (q 9), .ref (q 10), .ref (q 11), .ref (q 12), .ref (q 13), .ref (q 14), .ref (q 15), .ref (q 16), .int 0, .int 0, .int 0, .int 0, .int 0, .int 0, .ref (q 17), .ref (q 18), .ref (q 19), .ref (q 20)]))]) rfl (fun H locs hP hD hS => ?_)
        refine lv_aload_n hx hb dX9_program_79 rfl (lv_at hl 1 rfl) ?_
        refine r_callVv (As := []) (rest := []) (wr := [((q 2), .inl (cI, 200, .inl (fun _ => 0)))]) F hK hP hD hS hA hO hE (c_X9_next hO b q) k_1307 kv_X9_next 0 rfl (by decide +kernel) ⟨Nat.le_of_ble_eq_true rfl, Nat.le_of_ble_eq_true rfl⟩ [1] [0] rfl rfl (by decide) (by decide) (by decide) 0 9 rfl rfl rfl hl.1 rfl (Nat.le_of_ble_eq_true rfl) dX9_program_80 ⟨Nat.le_of_ble_eq_true rfl, Nat.le_of_ble_eq_true rfl⟩ (w1 := fun u4 => [((q 2), .inl (cI, 200, .inl (fun _ => 0))), (b, .inr (9, [.int 0, .ref (q 0), .int 0, .int 0, .int 0, .int 0, .int 0, .int 0, .int 0, .int 0, .int (-1), .int 0, .ref (q 1), .int 0, .int 0, .ref (q 2), .ref (q 3), .ref (q 4), .ref (q 5), .ref (q 6), .ref (q 7), .ref (q 8), .ref (q 9), .ref (q 10), .ref (q 11), .ref (q 12), .ref (q 13), .ref (q 14), .ref (q 15), .ref (q 16), .int 0, .int 0, .int 0, .int 0, .int 0, .int 0, .ref (q 17), .ref (q 18), .ref (q 19), .ref (q 20)]))]) (fun _ => rfl) (fun  u4 H locs hp hP hD hS => ?_)
        refine lv_aload_n hx hb dX9_program_83 rfl (lv_at hl 1 rfl) ?_
        refine r_callVv (As := []) (rest := []) (wr := [((q 2), .inl (cI, 200, .inl (fun _ => 0)))]) F hK hP hD hS hA hO hE (c_X9_readLine hO hW b q) k_1321 kv_X9_readLine 0 rfl (by decide +kernel) ⟨Nat.le_of_ble_eq_true rfl, Nat.le_of_ble_eq_true rfl⟩ [1] [0] rfl rfl (by decide) (by decide) (by decide) 0 9 rfl rfl rfl hl.1 rfl (Nat.le_of_ble_eq_true rfl) dX9_program_84 ⟨Nat.le_of_ble_eq_true rfl, Nat.le_of_ble_eq_true rfl⟩ (w1 := fun u5 => [((q 2), .inl (cI, 200, .inl (fun _ => 0))), (b, .inr (9, [.int 0, .ref (q 0), .int 0, .int 0, .int 0, .int 0, .int 0, .int 0, .int 0, .int 1, .int 0, .int 0, .ref (q 1), .int 1, .int 0, .ref (q 2), .ref (q 3), .ref (q 4), .ref (q 5), .ref (q 6), .ref (q 7), .ref (q 8), .ref (q 9), .ref (q 10), .ref (q 11), .ref (q 12), .ref (q 13), .ref (q 14), .ref (q 15), .ref (q 16), .int 0, .int 0, .int 0, .int 0, .int 0, .int 0, .ref (q 17), .ref (q 18), .ref (q 19), .ref (q 20)]))]) (fun _ => rfl) (fun  u5 H locs hp hP hD hS => ?_)
        refine lv_aload_n hx hb dX9_program_87 rfl (lv_at hl 1 rfl) ?_
        refine r_get F hK hP 1 13 rfl rfl in_X9 (by decide) k_1176 rfl dX9_program_88 ?_
        refine lv_if_ne (tgt := 114) hx hb dX9_program_91 (by decide) (fun _ => ?_) (fun h9 => absurd h9 (by decide))
        refine lv_aload_n hx hb dX9_program_114 rfl (lv_at hl 1 rfl) ?_
        refine r_get F hK hP 1 13 rfl rfl in_X9 (by decide) k_1176 rfl dX9_program_115 ?_
        refine lv_if_ne (tgt := 137) hx hb dX9_program_118 (by decide) (fun _ => ?_) (fun h9 => absurd h9 (by decide))
        refine lv_aload_n hx hb dX9_program_137 rfl (lv_at hl 1 rfl) ?_
        refine r_get F hK hP 1 13 rfl rfl in_X9 (by decide) k_1176 rfl dX9_program_138 ?_
        refine lv_if_ne (tgt := 161) hx hb dX9_program_141 (by decide) (fun _ => ?_) (fun h9 => absurd h9 (by decide))
        refine lv_aload_n hx hb dX9_program_161 rfl (lv_at hl 1 rfl) ?_
        refine r_get F hK hP 1 13 rfl rfl in_X9 (by decide) k_1176 rfl dX9_program_162 ?_
        refine lv_if_eq (tgt := 174) hx hb dX9_program_165 (by decide) (fun h9 => absurd h9 (by decide)) (fun _ => ?_)
        refine lv_aload_n hx hb dX9_program_168 rfl (lv_at hl 1 rfl) ?_
        refine lv_iconst (v := 4) hx hb dX9_program_169 (by decide) ?_
        refine r_callVi (As := [.int 4]) (rest := []) (wr := [((q 2), .inl (cI, 200, .inl (fun _ => 0)))]) F hK hP hD hS hA hO hE (c_X9_no_f hO b q 4) k_1303 kv_X9_no 1 rfl (by decide +kernel) ⟨Nat.le_of_ble_eq_true rfl, Nat.le_of_ble_eq_true rfl⟩ [1] [0] rfl rfl (by decide) (by decide) (by decide) 0 9 rfl rfl rfl hl.1 rfl (Nat.le_of_ble_eq_true rfl) dX9_program_170 ⟨Nat.le_of_ble_eq_true rfl, Nat.le_of_ble_eq_true rfl⟩ (w1 := fun u6 => [((q 2), .inl (cI, 200, .inl (fun _ => 0)))]) (fun _ => rfl) (fun r7 u6 H locs hp hP hD hS => ?_)
        subst hp
        exact ret (-1) (fun _ => 0, fun _ _ => 0) _ _ _ _ _ _ rfl rfl (bw_subP (isC := []) hP rfl) (hD.sub [] (by decide) rfl) hS (Nat.le_of_ble_eq_true rfl) (Nat.le_of_ble_eq_true rfl) dX9_program_173
      · have hkN : k < 200 := by rcases Nat.lt_or_ge k 200 with q | q; exact q; exact absurd (nI_le (a := 200) q (by omega)) h7
        refine lv_aload_n hx hb dX9_program_56 rfl (lv_at hl 1 rfl) ?_
        refine r_get F hK hP 1 15 rfl rfl in_X9 (by decide) k_1178 rfl dX9_program_57 ?_
        refine lv_iload_n hx hb dX9_program_60 rfl (lv_at hl 0 rfl) ?_
        refine lv_iconst (v := 0) hx hb dX9_program_61 (by decide) ?_
        refine r_iast F hK hP hD hS 0 0 rfl rfl (vp_in_nI hkN (by omega)) dX9_program_62 bw_upd0 (w1 := [((q 2), .inl (cI, 200, .inl (fun _ => 0))), (b, .inr (9, [.int 0, .ref (q 0), .int 0, .int 0, .int 0, .int 0, .int 0, .int 0, .int 0, .int 0, .int (-1), .int 0, .ref (q 1), .int 0, .int 0, .ref (q 2), .ref (q 3), .ref (q 4), .ref (q 5), .ref (q 6), .ref (q 7), .ref (q 8), .ref (q 9), .ref (q 10), .ref (q 11), .ref (q 12), .ref (q 13), .ref (q 14), .ref (q 15), .ref (q 16), .int 0, .int 0, .int 0, .int 0, .int 0, .int 0, .ref (q 17), .ref (q 18), .ref (q 19), .ref (q 20)]))]) rfl (fun H locs hP hD hS => ?_)
        refine lv_iinc (v := (nI (k + 1))) (lv' := [(2, .int (nI (k + 1))), (0, .ref b), (1, .int 0)]) hx hb dX9_program_63 hl (k := 0) rfl (nI_1 k) (by decide) rfl (fun ls hl => ?_)
        refine lv_goto (tgt := 49) hx hb dX9_program_66 (by decide) ?_
        exact ih (k + 1) _ _ (by omega) (by omega) hP hD hS ls (lv_sub hl [0, 1, 2] rfl)
  · refine lv_if_ne (tgt := 22) hx hb dX9_program_13 (by decide) (fun h9 => absurd (by decide) h9) (fun _ => ?_)
    refine lv_aload_n hx hb dX9_program_16 rfl (lv_at hl 0 rfl) ?_
    refine lv_iconst (v := 2) hx hb dX9_program_17 (by decide) ?_
    refine r_callVi (As := [.int 2]) (rest := []) (wr := [((q 2), .inl (cI, 200, .inl (fun _ => 0)))]) F hK hP hD hS hA hO hE (c_X9_no hO b q 2) k_1303 kv_X9_no 1 rfl (by decide +kernel) ⟨Nat.le_of_ble_eq_true rfl, Nat.le_of_ble_eq_true rfl⟩ [1] [0] rfl rfl (by decide) (by decide) (by decide) 0 9 rfl rfl rfl hl.1 rfl (Nat.le_of_ble_eq_true rfl) dX9_program_18 ⟨Nat.le_of_ble_eq_true rfl, Nat.le_of_ble_eq_true rfl⟩ (w1 := fun u4 => [((q 2), .inl (cI, 200, .inl (fun _ => 0)))]) (fun _ => rfl) (fun r5 u4 H locs hp hP hD hS => ?_)
    subst hp
    exact ret (-1) (fun _ => 0, fun _ _ => 0) _ _ _ _ _ _ rfl rfl (bw_subP (isC := []) hP rfl) (hD.sub [] (by decide) rfl) hS (Nat.le_of_ble_eq_true rfl) (Nat.le_of_ble_eq_true rfl) dX9_program_21
