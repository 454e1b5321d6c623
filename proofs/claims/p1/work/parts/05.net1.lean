theorem dX2_untell_0 : decode cX2_untell 0 = .ok (.aload_n 0, 1) := by decide +kernel
theorem dX2_untell_1 : decode cX2_untell 1 = .ok (.getfield 15, 3) := by decide +kernel
theorem k_147 : Cond.fieldLink RX2 15 "BurntWays$Net" "goals" "[I" ∈ bw_T := bw_m 147 (by decide +kernel) rfl
theorem in_X2 : ∀ w ∈ wsX20, w ∈ bw_T := bw_ms _ [174, 176, 178, 180, 182, 184, 186, 188, 190] (by decide +kernel) (by decide +kernel)
theorem dX2_untell_4 : decode cX2_untell 4 = .ok (.iload_n 1, 1) := by decide +kernel
theorem dX2_untell_5 : decode cX2_untell 5 = .ok (.iconst (-1), 1) := by decide +kernel
theorem dX2_untell_6 : decode cX2_untell 6 = .ok (.iastore, 1) := by decide +kernel
theorem dX2_untell_7 : decode cX2_untell 7 = .ok (.aload_n 0, 1) := by decide +kernel
theorem dX2_untell_8 : decode cX2_untell 8 = .ok (.getfield 19, 3) := by decide +kernel
theorem k_150 : Cond.fieldLink RX2 19 "BurntWays$Net" "asked" "[I" ∈ bw_T := bw_m 150 (by decide +kernel) rfl
theorem dX2_untell_11 : decode cX2_untell 11 = .ok (.iload_n 1, 1) := by decide +kernel
theorem dX2_untell_12 : decode cX2_untell 12 = .ok (.bipush (-2), 2) := by decide +kernel
theorem dX2_untell_14 : decode cX2_untell 14 = .ok (.iastore, 1) := by decide +kernel
theorem dX2_untell_15 : decode cX2_untell 15 = .ok (.aload_n 0, 1) := by decide +kernel
theorem dX2_untell_16 : decode cX2_untell 16 = .ok (.getfield 22, 3) := by decide +kernel
theorem k_153 : Cond.fieldLink RX2 22 "BurntWays$Net" "actCounts" "[I" ∈ bw_T := bw_m 153 (by decide +kernel) rfl
theorem dX2_untell_19 : decode cX2_untell 19 = .ok (.iload_n 1, 1) := by decide +kernel
theorem dX2_untell_20 : decode cX2_untell 20 = .ok (.iconst 0, 1) := by decide +kernel
theorem dX2_untell_21 : decode cX2_untell 21 = .ok (.iastore, 1) := by decide +kernel
theorem dX2_untell_22 : decode cX2_untell 22 = .ok (.iconst 2, 1) := by decide +kernel
theorem dX2_untell_23 : decode cX2_untell 23 = .ok (.iload_n 1, 1) := by decide +kernel
theorem dX2_untell_24 : decode cX2_untell 24 = .ok (.imul, 1) := by decide +kernel
theorem dX2_untell_25 : decode cX2_untell 25 = .ok (.istore_n 2, 1) := by decide +kernel
theorem dX2_untell_26 : decode cX2_untell 26 = .ok (.iload_n 2, 1) := by decide +kernel
theorem dX2_untell_27 : decode cX2_untell 27 = .ok (.iconst 2, 1) := by decide +kernel
theorem dX2_untell_28 : decode cX2_untell 28 = .ok (.iload_n 1, 1) := by decide +kernel
theorem dX2_untell_29 : decode cX2_untell 29 = .ok (.imul, 1) := by decide +kernel
theorem dX2_untell_30 : decode cX2_untell 30 = .ok (.iconst 1, 1) := by decide +kernel
theorem dX2_untell_31 : decode cX2_untell 31 = .ok (.iadd, 1) := by decide +kernel
theorem dX2_untell_32 : decode cX2_untell 32 = .ok (.if_icmp .gt 24, 3) := by decide +kernel
theorem dX2_untell_35 : decode cX2_untell 35 = .ok (.aload_n 0, 1) := by decide +kernel
theorem dX2_untell_36 : decode cX2_untell 36 = .ok (.getfield 34, 3) := by decide +kernel
theorem k_165 : Cond.fieldLink RX2 34 "BurntWays$Net" "leads" "[I" ∈ bw_T := bw_m 165 (by decide +kernel) rfl
theorem dX2_untell_39 : decode cX2_untell 39 = .ok (.iload_n 2, 1) := by decide +kernel
theorem dX2_untell_40 : decode cX2_untell 40 = .ok (.bipush (-2), 2) := by decide +kernel
theorem dX2_untell_42 : decode cX2_untell 42 = .ok (.iastore, 1) := by decide +kernel
theorem dX2_untell_43 : decode cX2_untell 43 = .ok (.aload_n 0, 1) := by decide +kernel
theorem dX2_untell_44 : decode cX2_untell 44 = .ok (.getfield 37, 3) := by decide +kernel
theorem k_169 : Cond.fieldLink RX2 37 "BurntWays$Net" "laid" "[I" ∈ bw_T := bw_m 169 (by decide +kernel) rfl
theorem dX2_untell_47 : decode cX2_untell 47 = .ok (.iload_n 2, 1) := by decide +kernel
theorem dX2_untell_48 : decode cX2_untell 48 = .ok (.iconst 0, 1) := by decide +kernel
theorem dX2_untell_49 : decode cX2_untell 49 = .ok (.iastore, 1) := by decide +kernel
theorem dX2_untell_50 : decode cX2_untell 50 = .ok (.iinc 2 1, 3) := by decide +kernel
theorem dX2_untell_53 : decode cX2_untell 53 = .ok (.goto (-27), 3) := by decide +kernel
theorem dX2_untell_56 : decode cX2_untell 56 = .ok (.return_, 1) := by decide +kernel
abbrev rm_X2_untell_0 : Room := { frames := 0, cells := 0, slots := 0, locals := 0 }
set_option maxRecDepth 100000 in
set_option maxHeartbeats 4000000 in
theorem c_X2_untell_0 {l : Launch} {E : (Nat → Prop) → State → Prop} (hO : bw_Ok E) {G : va_G} {cI cB cJ cN cW : ClassId} (b : Nat) (q : Nat → Nat) (Lx : Int32) (f : Nat → Nat → Int32) : bw_Cv (S := bw_U) l yX2_untell (bw_ws (Cond.code yX2_untell cX2_untell 3 none)) rm_X2_untell_0 E G (bw_kt cI cB cJ cN cW) [.ref b, .int 0] [(b, .inr (2, [.int Lx, .ref (q 0), .ref (q 1), .ref (q 2), .ref (q 3), .ref (q 4), .ref (q 5), .ref (q 6), .ref (q 7)])), ((q 0), .inl (cI, 10, .inl (f 0))), ((q 1), .inl (cI, 10, .inl (f 1))), ((q 2), .inl (cI, 10, .inl (f 2))), ((q 6), .inl (cI, 20, .inl (f 3))), ((q 7), .inl (cI, 20, .inl (fun _ => 0)))] (fun _ => True) (fun u => [(b, .inr (2, [.int Lx, .ref (q 0), .ref (q 1), .ref (q 2), .ref (q 3), .ref (q 4), .ref (q 5), .ref (q 6), .ref (q 7)])), ((q 0), .inl (cI, 10, .inl (u.2 0))), ((q 1), .inl (cI, 10, .inl (u.2 1))), ((q 2), .inl (cI, 10, .inl (u.2 2))), ((q 6), .inl (cI, 20, .inl (u.2 3))), ((q 7), .inl (cI, 20, .inl (fun _ => 0)))]) := by
  refine bw_Cv.of (cc := cX2_untell) (maxL := 3) (by decide) rfl (Nat.le_of_ble_eq_true rfl) ?_
  intro p e s m below meth c A Q hx hb hml hts hown hin hK hA hS hP hD hE ret ls hl
  have F : CallFix p m c cX2_untell 3 s ([.ref b, .int 0] : List Value).toArray bw_T RX2 := ⟨hx, hb, hml, hown, fun w h => hts w (List.mem_cons_of_mem _ h)⟩
  have hl : lv_has ls 3 [(0, .ref b), (1, .int 0)] := hl
  refine lv_aload_n hx hb dX2_untell_0 rfl (lv_at hl 0 rfl) ?_
  refine r_get F hK hP 0 1 rfl rfl in_X2 (by decide) k_147 rfl dX2_untell_1 ?_
  refine lv_iload_n hx hb dX2_untell_4 rfl (lv_at hl 1 rfl) ?_
  refine lv_iconst (v := (-1)) hx hb dX2_untell_5 (by decide) ?_
  refine r_iastX F hK hP hD hS 1 0 rfl rfl (bw_vin (by decide)) dX2_untell_6 (w1 := fun f1 => [(b, .inr (2, [.int Lx, .ref (q 0), .ref (q 1), .ref (q 2), .ref (q 3), .ref (q 4), .ref (q 5), .ref (q 6), .ref (q 7)])), ((q 0), .inl (cI, 10, .inl f1)), ((q 1), .inl (cI, 10, .inl (f 1))), ((q 2), .inl (cI, 10, .inl (f 2))), ((q 6), .inl (cI, 20, .inl (f 3))), ((q 7), .inl (cI, 20, .inl (fun _ => 0)))]) (fun _ => rfl) (fun f1 H locs hP hD hS => ?_)
  refine lv_aload_n hx hb dX2_untell_7 rfl (lv_at hl 0 rfl) ?_
  refine r_get F hK hP 0 2 rfl rfl in_X2 (by decide) k_150 rfl dX2_untell_8 ?_
  refine lv_iload_n hx hb dX2_untell_11 rfl (lv_at hl 1 rfl) ?_
  refine lv_bipush (v := (-2)) hx hb dX2_untell_12 (by decide) ?_
  refine r_iastX F hK hP hD hS 2 0 rfl rfl (bw_vin (by decide)) dX2_untell_14 (w1 := fun f2 => [(b, .inr (2, [.int Lx, .ref (q 0), .ref (q 1), .ref (q 2), .ref (q 3), .ref (q 4), .ref (q 5), .ref (q 6), .ref (q 7)])), ((q 0), .inl (cI, 10, .inl f1)), ((q 1), .inl (cI, 10, .inl f2)), ((q 2), .inl (cI, 10, .inl (f 2))), ((q 6), .inl (cI, 20, .inl (f 3))), ((q 7), .inl (cI, 20, .inl (fun _ => 0)))]) (fun _ => rfl) (fun f2 H locs hP hD hS => ?_)
  refine lv_aload_n hx hb dX2_untell_15 rfl (lv_at hl 0 rfl) ?_
  refine r_get F hK hP 0 3 rfl rfl in_X2 (by decide) k_153 rfl dX2_untell_16 ?_
  refine lv_iload_n hx hb dX2_untell_19 rfl (lv_at hl 1 rfl) ?_
  refine lv_iconst (v := 0) hx hb dX2_untell_20 (by decide) ?_
  refine r_iastX F hK hP hD hS 3 0 rfl rfl (bw_vin (by decide)) dX2_untell_21 (w1 := fun f3 => [(b, .inr (2, [.int Lx, .ref (q 0), .ref (q 1), .ref (q 2), .ref (q 3), .ref (q 4), .ref (q 5), .ref (q 6), .ref (q 7)])), ((q 0), .inl (cI, 10, .inl f1)), ((q 1), .inl (cI, 10, .inl f2)), ((q 2), .inl (cI, 10, .inl f3)), ((q 6), .inl (cI, 20, .inl (f 3))), ((q 7), .inl (cI, 20, .inl (fun _ => 0)))]) (fun _ => rfl) (fun f3 H locs hP hD hS => ?_)
  refine lv_iconst (v := 2) hx hb dX2_untell_22 (by decide) ?_
  refine lv_iload_n hx hb dX2_untell_23 rfl (lv_at hl 1 rfl) ?_
  refine r_imul (v := 0) F dX2_untell_24 (by decide) ?_
  refine lv_istore_n (lv' := [(2, .int 0), (0, .ref b), (1, .int 0)]) hx hb dX2_untell_25 rfl hl (by decide) rfl (fun ls hl => ?_)
  refine lv_iload_n hx hb dX2_untell_26 rfl (lv_at hl 0 rfl) ?_
  refine lv_iconst (v := 2) hx hb dX2_untell_27 (by decide) ?_
  refine lv_iload_n hx hb dX2_untell_28 rfl (lv_at hl 2 rfl) ?_
  refine r_imul (v := 0) F dX2_untell_29 (by decide) ?_
  refine lv_iconst (v := 1) hx hb dX2_untell_30 (by decide) ?_
  refine r_iadd (v := 1) F dX2_untell_31 (by decide) ?_
  refine lv_icmp_gt (tgt := 56) hx hb dX2_untell_32 (by decide) (fun h9 => absurd h9 (by decide)) (fun _ => ?_)
  refine lv_aload_n hx hb dX2_untell_35 rfl (lv_at hl 1 rfl) ?_
  refine r_get F hK hP 0 7 rfl rfl in_X2 (by decide) k_165 rfl dX2_untell_36 ?_
  refine lv_iload_n hx hb dX2_untell_39 rfl (lv_at hl 0 rfl) ?_
  refine lv_bipush (v := (-2)) hx hb dX2_untell_40 (by decide) ?_
  refine r_iastX F hK hP hD hS 4 0 rfl rfl (bw_vin (by decide)) dX2_untell_42 (w1 := fun f4 => [(b, .inr (2, [.int Lx, .ref (q 0), .ref (q 1), .ref (q 2), .ref (q 3), .ref (q 4), .ref (q 5), .ref (q 6), .ref (q 7)])), ((q 0), .inl (cI, 10, .inl f1)), ((q 1), .inl (cI, 10, .inl f2)), ((q 2), .inl (cI, 10, .inl f3)), ((q 6), .inl (cI, 20, .inl f4)), ((q 7), .inl (cI, 20, .inl (fun _ => 0)))]) (fun _ => rfl) (fun f4 H locs hP hD hS => ?_)
  refine lv_aload_n hx hb dX2_untell_43 rfl (lv_at hl 1 rfl) ?_
  refine r_get F hK hP 0 8 rfl rfl in_X2 (by decide) k_169 rfl dX2_untell_44 ?_
  refine lv_iload_n hx hb dX2_untell_47 rfl (lv_at hl 0 rfl) ?_
  refine lv_iconst (v := 0) hx hb dX2_untell_48 (by decide) ?_
  refine r_iast F hK hP hD hS 5 0 rfl rfl (bw_vin (by decide)) dX2_untell_49 bw_upd0 (w1 := [(b, .inr (2, [.int Lx, .ref (q 0), .ref (q 1), .ref (q 2), .ref (q 3), .ref (q 4), .ref (q 5), .ref (q 6), .ref (q 7)])), ((q 0), .inl (cI, 10, .inl f1)), ((q 1), .inl (cI, 10, .inl f2)), ((q 2), .inl (cI, 10, .inl f3)), ((q 6), .inl (cI, 20, .inl f4)), ((q 7), .inl (cI, 20, .inl (fun _ => 0)))]) rfl (fun H locs hP hD hS => ?_)
  refine lv_iinc (v := 1) (lv' := [(2, .int 1), (0, .ref b), (1, .int 0)]) hx hb dX2_untell_50 hl (k := 0) rfl (by decide) (by decide) rfl (fun ls hl => ?_)
  refine lv_goto (tgt := 26) hx hb dX2_untell_53 (by decide) ?_
  refine lv_iload_n hx hb dX2_untell_26 rfl (lv_at hl 0 rfl) ?_
  refine lv_iconst (v := 2) hx hb dX2_untell_27 (by decide) ?_
  refine lv_iload_n hx hb dX2_untell_28 rfl (lv_at hl 2 rfl) ?_
  refine r_imul (v := 0) F dX2_untell_29 (by decide) ?_
  refine lv_iconst (v := 1) hx hb dX2_untell_30 (by decide) ?_
  refine r_iadd (v := 1) F dX2_untell_31 (by decide) ?_
  refine lv_icmp_gt (tgt := 56) hx hb dX2_untell_32 (by decide) (fun h9 => absurd h9 (by decide)) (fun _ => ?_)
  refine lv_aload_n hx hb dX2_untell_35 rfl (lv_at hl 1 rfl) ?_
  refine r_get F hK hP 0 7 rfl rfl in_X2 (by decide) k_165 rfl dX2_untell_36 ?_
  refine lv_iload_n hx hb dX2_untell_39 rfl (lv_at hl 0 rfl) ?_
  refine lv_bipush (v := (-2)) hx hb dX2_untell_40 (by decide) ?_
  refine r_iastX F hK hP hD hS 4 0 rfl rfl (bw_vin (by decide)) dX2_untell_42 (w1 := fun f5 => [(b, .inr (2, [.int Lx, .ref (q 0), .ref (q 1), .ref (q 2), .ref (q 3), .ref (q 4), .ref (q 5), .ref (q 6), .ref (q 7)])), ((q 0), .inl (cI, 10, .inl f1)), ((q 1), .inl (cI, 10, .inl f2)), ((q 2), .inl (cI, 10, .inl f3)), ((q 6), .inl (cI, 20, .inl f5)), ((q 7), .inl (cI, 20, .inl (fun _ => 0)))]) (fun _ => rfl) (fun f5 H locs hP hD hS => ?_)
  refine lv_aload_n hx hb dX2_untell_43 rfl (lv_at hl 1 rfl) ?_
  refine r_get F hK hP 0 8 rfl rfl in_X2 (by decide) k_169 rfl dX2_untell_44 ?_
  refine lv_iload_n hx hb dX2_untell_47 rfl (lv_at hl 0 rfl) ?_
  refine lv_iconst (v := 0) hx hb dX2_untell_48 (by decide) ?_
  refine r_iast F hK hP hD hS 5 0 rfl rfl (bw_vin (by decide)) dX2_untell_49 bw_upd0 (w1 := [(b, .inr (2, [.int Lx, .ref (q 0), .ref (q 1), .ref (q 2), .ref (q 3), .ref (q 4), .ref (q 5), .ref (q 6), .ref (q 7)])), ((q 0), .inl (cI, 10, .inl f1)), ((q 1), .inl (cI, 10, .inl f2)), ((q 2), .inl (cI, 10, .inl f3)), ((q 6), .inl (cI, 20, .inl f5)), ((q 7), .inl (cI, 20, .inl (fun _ => 0)))]) rfl (fun H locs hP hD hS => ?_)
  refine lv_iinc (v := 2) (lv' := [(2, .int 2), (0, .ref b), (1, .int 0)]) hx hb dX2_untell_50 hl (k := 0) rfl (by decide) (by decide) rfl (fun ls hl => ?_)
  refine lv_goto (tgt := 26) hx hb dX2_untell_53 (by decide) ?_
  refine lv_iload_n hx hb dX2_untell_26 rfl (lv_at hl 0 rfl) ?_
  refine lv_iconst (v := 2) hx hb dX2_untell_27 (by decide) ?_
  refine lv_iload_n hx hb dX2_untell_28 rfl (lv_at hl 2 rfl) ?_
  refine r_imul (v := 0) F dX2_untell_29 (by decide) ?_
  refine lv_iconst (v := 1) hx hb dX2_untell_30 (by decide) ?_
  refine r_iadd (v := 1) F dX2_untell_31 (by decide) ?_
  refine lv_icmp_gt (tgt := 56) hx hb dX2_untell_32 (by decide) (fun _ => ?_) (fun h9 => absurd (by decide) h9)
  exact ret (fun _ => 0, (fun k => [f1, f2, f3, f5].getD k (fun _ => 0))) _ _ _ _ _ _ trivial (bw_subP (isC := [0, 1, 2, 3, 4, 5]) hP rfl) (hD.sub [0, 1, 2, 3, 4, 5] (by decide) rfl) hS (Nat.le_of_ble_eq_true rfl) (Nat.le_of_ble_eq_true rfl) dX2_untell_56
abbrev rm_X2_untell_1 : Room := { frames := 0, cells := 0, slots := 0, locals := 0 }
set_option maxRecDepth 100000 in
set_option maxHeartbeats 4000000 in
theorem c_X2_untell_1 {l : Launch} {E : (Nat → Prop) → State → Prop} (hO : bw_Ok E) {G : va_G} {cI cB cJ cN cW : ClassId} (b : Nat) (q : Nat → Nat) (Lx : Int32) (f : Nat → Nat → Int32) : bw_Cv (S := bw_U) l yX2_untell (bw_ws (Cond.code yX2_untell cX2_untell 3 none)) rm_X2_untell_1 E G (bw_kt cI cB cJ cN cW) [.ref b, .int 1] [(b, .inr (2, [.int Lx, .ref (q 0), .ref (q 1), .ref (q 2), .ref (q 3), .ref (q 4), .ref (q 5), .ref (q 6), .ref (q 7)])), ((q 0), .inl (cI, 10, .inl (f 0))), ((q 1), .inl (cI, 10, .inl (f 1))), ((q 2), .inl (cI, 10, .inl (f 2))), ((q 6), .inl (cI, 20, .inl (f 3))), ((q 7), .inl (cI, 20, .inl (fun _ => 0)))] (fun _ => True) (fun u => [(b, .inr (2, [.int Lx, .ref (q 0), .ref (q 1), .ref (q 2), .ref (q 3), .ref (q 4), .ref (q 5), .ref (q 6), .ref (q 7)])), ((q 0), .inl (cI, 10, .inl (u.2 0))), ((q 1), .inl (cI, 10, .inl (u.2 1))), ((q 2), .inl (cI, 10, .inl (u.2 2))), ((q 6), .inl (cI, 20, .inl (u.2 3))), ((q 7), .inl (cI, 20, .inl (fun _ => 0)))]) := by
  refine bw_Cv.of (cc := cX2_untell) (maxL := 3) (by decide) rfl (Nat.le_of_ble_eq_true rfl) ?_
  intro p e s m below meth c A Q hx hb hml hts hown hin hK hA hS hP hD hE ret ls hl
  have F : CallFix p m c cX2_untell 3 s ([.ref b, .int 1] : List Value).toArray bw_T RX2 := ⟨hx, hb, hml, hown, fun w h => hts w (List.mem_cons_of_mem _ h)⟩
  have hl : lv_has ls 3 [(0, .ref b), (1, .int 1)] := hl
  refine lv_aload_n hx hb dX2_untell_0 rfl (lv_at hl 0 rfl) ?_
  refine r_get F hK hP 0 1 rfl rfl in_X2 (by decide) k_147 rfl dX2_untell_1 ?_
  refine lv_iload_n hx hb dX2_untell_4 rfl (lv_at hl 1 rfl) ?_
  refine lv_iconst (v := (-1)) hx hb dX2_untell_5 (by decide) ?_
  refine r_iastX F hK hP hD hS 1 0 rfl rfl (bw_vin (by decide)) dX2_untell_6 (w1 := fun f1 => [(b, .inr (2, [.int Lx, .ref (q 0), .ref (q 1), .ref (q 2), .ref (q 3), .ref (q 4), .ref (q 5), .ref (q 6), .ref (q 7)])), ((q 0), .inl (cI, 10, .inl f1)), ((q 1), .inl (cI, 10, .inl (f 1))), ((q 2), .inl (cI, 10, .inl (f 2))), ((q 6), .inl (cI, 20, .inl (f 3))), ((q 7), .inl (cI, 20, .inl (fun _ => 0)))]) (fun _ => rfl) (fun f1 H locs hP hD hS => ?_)
  refine lv_aload_n hx hb dX2_untell_7 rfl (lv_at hl 0 rfl) ?_
  refine r_get F hK hP 0 2 rfl rfl in_X2 (by decide) k_150 rfl dX2_untell_8 ?_
  refine lv_iload_n hx hb dX2_untell_11 rfl (lv_at hl 1 rfl) ?_
  refine lv_bipush (v := (-2)) hx hb dX2_untell_12 (by decide) ?_
  refine r_iastX F hK hP hD hS 2 0 rfl rfl (bw_vin (by decide)) dX2_untell_14 (w1 := fun f2 => [(b, .inr (2, [.int Lx, .ref (q 0), .ref (q 1), .ref (q 2), .ref (q 3), .ref (q 4), .ref (q 5), .ref (q 6), .ref (q 7)])), ((q 0), .inl (cI, 10, .inl f1)), ((q 1), .inl (cI, 10, .inl f2)), ((q 2), .inl (cI, 10, .inl (f 2))), ((q 6), .inl (cI, 20, .inl (f 3))), ((q 7), .inl (cI, 20, .inl (fun _ => 0)))]) (fun _ => rfl) (fun f2 H locs hP hD hS => ?_)
  refine lv_aload_n hx hb dX2_untell_15 rfl (lv_at hl 0 rfl) ?_
  refine r_get F hK hP 0 3 rfl rfl in_X2 (by decide) k_153 rfl dX2_untell_16 ?_
  refine lv_iload_n hx hb dX2_untell_19 rfl (lv_at hl 1 rfl) ?_
  refine lv_iconst (v := 0) hx hb dX2_untell_20 (by decide) ?_
  refine r_iastX F hK hP hD hS 3 0 rfl rfl (bw_vin (by decide)) dX2_untell_21 (w1 := fun f3 => [(b, .inr (2, [.int Lx, .ref (q 0), .ref (q 1), .ref (q 2), .ref (q 3), .ref (q 4), .ref (q 5), .ref (q 6), .ref (q 7)])), ((q 0), .inl (cI, 10, .inl f1)), ((q 1), .inl (cI, 10, .inl f2)), ((q 2), .inl (cI, 10, .inl f3)), ((q 6), .inl (cI, 20, .inl (f 3))), ((q 7), .inl (cI, 20, .inl (fun _ => 0)))]) (fun _ => rfl) (fun f3 H locs hP hD hS => ?_)
  refine lv_iconst (v := 2) hx hb dX2_untell_22 (by decide) ?_
  refine lv_iload_n hx hb dX2_untell_23 rfl (lv_at hl 1 rfl) ?_
  refine r_imul (v := 2) F dX2_untell_24 (by decide) ?_
  refine lv_istore_n (lv' := [(2, .int 2), (0, .ref b), (1, .int 1)]) hx hb dX2_untell_25 rfl hl (by decide) rfl (fun ls hl => ?_)
  refine lv_iload_n hx hb dX2_untell_26 rfl (lv_at hl 0 rfl) ?_
  refine lv_iconst (v := 2) hx hb dX2_untell_27 (by decide) ?_
  refine lv_iload_n hx hb dX2_untell_28 rfl (lv_at hl 2 rfl) ?_
  refine r_imul (v := 2) F dX2_untell_29 (by decide) ?_
  refine lv_iconst (v := 1) hx hb dX2_untell_30 (by decide) ?_
  refine r_iadd (v := 3) F dX2_untell_31 (by decide) ?_
  refine lv_icmp_gt (tgt := 56) hx hb dX2_untell_32 (by decide) (fun h9 => absurd h9 (by decide)) (fun _ => ?_)
  refine lv_aload_n hx hb dX2_untell_35 rfl (lv_at hl 1 rfl) ?_
  refine r_get F hK hP 0 7 rfl rfl in_X2 (by decide) k_165 rfl dX2_untell_36 ?_
  refine lv_iload_n hx hb dX2_untell_39 rfl (lv_at hl 0 rfl) ?_
  refine lv_bipush (v := (-2)) hx hb dX2_untell_40 (by decide) ?_
  refine r_iastX F hK hP hD hS 4 0 rfl rfl (bw_vin (by decide)) dX2_untell_42 (w1 := fun f4 => [(b, .inr (2, [.int Lx, .ref (q 0), .ref (q 1), .ref (q 2), .ref (q 3), .ref (q 4), .ref (q 5), .ref (q 6), .ref (q 7)])), ((q 0), .inl (cI, 10, .inl f1)), ((q 1), .inl (cI, 10, .inl f2)), ((q 2), .inl (cI, 10, .inl f3)), ((q 6), .inl (cI, 20, .inl f4)), ((q 7), .inl (cI, 20, .inl (fun _ => 0)))]) (fun _ => rfl) (fun f4 H locs hP hD hS => ?_)
  refine lv_aload_n hx hb dX2_untell_43 rfl (lv_at hl 1 rfl) ?_
  refine r_get F hK hP 0 8 rfl rfl in_X2 (by decide) k_169 rfl dX2_untell_44 ?_
  refine lv_iload_n hx hb dX2_untell_47 rfl (lv_at hl 0 rfl) ?_
  refine lv_iconst (v := 0) hx hb dX2_untell_48 (by decide) ?_
  refine r_iast F hK hP hD hS 5 0 rfl rfl (bw_vin (by decide)) dX2_untell_49 bw_upd0 (w1 := [(b, .inr (2, [.int Lx, .ref (q 0), .ref (q 1), .ref (q 2), .ref (q 3), .ref (q 4), .ref (q 5), .ref (q 6), .ref (q 7)])), ((q 0), .inl (cI, 10, .inl f1)), ((q 1), .inl (cI, 10, .inl f2)), ((q 2), .inl (cI, 10, .inl f3)), ((q 6), .inl (cI, 20, .inl f4)), ((q 7), .inl (cI, 20, .inl (fun _ => 0)))]) rfl (fun H locs hP hD hS => ?_)
  refine lv_iinc (v := 3) (lv' := [(2, .int 3), (0, .ref b), (1, .int 1)]) hx hb dX2_untell_50 hl (k := 0) rfl (by decide) (by decide) rfl (fun ls hl => ?_)
  refine lv_goto (tgt := 26) hx hb dX2_untell_53 (by decide) ?_
  refine lv_iload_n hx hb dX2_untell_26 rfl (lv_at hl 0 rfl) ?_
  refine lv_iconst (v := 2) hx hb dX2_untell_27 (by decide) ?_
  refine lv_iload_n hx hb dX2_untell_28 rfl (lv_at hl 2 rfl) ?_
  refine r_imul (v := 2) F dX2_untell_29 (by decide) ?_
  refine lv_iconst (v := 1) hx hb dX2_untell_30 (by decide) ?_
  refine r_iadd (v := 3) F dX2_untell_31 (by decide) ?_
  refine lv_icmp_gt (tgt := 56) hx hb dX2_untell_32 (by decide) (fun h9 => absurd h9 (by decide)) (fun _ => ?_)
  refine lv_aload_n hx hb dX2_untell_35 rfl (lv_at hl 1 rfl) ?_
  refine r_get F hK hP 0 7 rfl rfl in_X2 (by decide) k_165 rfl dX2_untell_36 ?_
  refine lv_iload_n hx hb dX2_untell_39 rfl (lv_at hl 0 rfl) ?_
  refine lv_bipush (v := (-2)) hx hb dX2_untell_40 (by decide) ?_
  refine r_iastX F hK hP hD hS 4 0 rfl rfl (bw_vin (by decide)) dX2_untell_42 (w1 := fun f5 => [(b, .inr (2, [.int Lx, .ref (q 0), .ref (q 1), .ref (q 2), .ref (q 3), .ref (q 4), .ref (q 5), .ref (q 6), .ref (q 7)])), ((q 0), .inl (cI, 10, .inl f1)), ((q 1), .inl (cI, 10, .inl f2)), ((q 2), .inl (cI, 10, .inl f3)), ((q 6), .inl (cI, 20, .inl f5)), ((q 7), .inl (cI, 20, .inl (fun _ => 0)))]) (fun _ => rfl) (fun f5 H locs hP hD hS => ?_)
  refine lv_aload_n hx hb dX2_untell_43 rfl (lv_at hl 1 rfl) ?_
  refine r_get F hK hP 0 8 rfl rfl in_X2 (by decide) k_169 rfl dX2_untell_44 ?_
  refine lv_iload_n hx hb dX2_untell_47 rfl (lv_at hl 0 rfl) ?_
  refine lv_iconst (v := 0) hx hb dX2_untell_48 (by decide) ?_
  refine r_iast F hK hP hD hS 5 0 rfl rfl (bw_vin (by decide)) dX2_untell_49 bw_upd0 (w1 := [(b, .inr (2, [.int Lx, .ref (q 0), .ref (q 1), .ref (q 2), .ref (q 3), .ref (q 4), .ref (q 5), .ref (q 6), .ref (q 7)])), ((q 0), .inl (cI, 10, .inl f1)), ((q 1), .inl (cI, 10, .inl f2)), ((q 2), .inl (cI, 10, .inl f3)), ((q 6), .inl (cI, 20, .inl f5)), ((q 7), .inl (cI, 20, .inl (fun _ => 0)))]) rfl (fun H locs hP hD hS => ?_)
  refine lv_iinc (v := 4) (lv' := [(2, .int 4), (0, .ref b), (1, .int 1)]) hx hb dX2_untell_50 hl (k := 0) rfl (by decide) (by decide) rfl (fun ls hl => ?_)
  refine lv_goto (tgt := 26) hx hb dX2_untell_53 (by decide) ?_
  refine lv_iload_n hx hb dX2_untell_26 rfl (lv_at hl 0 rfl) ?_
  refine lv_iconst (v := 2) hx hb dX2_untell_27 (by decide) ?_
  refine lv_iload_n hx hb dX2_untell_28 rfl (lv_at hl 2 rfl) ?_
  refine r_imul (v := 2) F dX2_untell_29 (by decide) ?_
  refine lv_iconst (v := 1) hx hb dX2_untell_30 (by decide) ?_
  refine r_iadd (v := 3) F dX2_untell_31 (by decide) ?_
  refine lv_icmp_gt (tgt := 56) hx hb dX2_untell_32 (by decide) (fun _ => ?_) (fun h9 => absurd (by decide) h9)
  exact ret (fun _ => 0, (fun k => [f1, f2, f3, f5].getD k (fun _ => 0))) _ _ _ _ _ _ trivial (bw_subP (isC := [0, 1, 2, 3, 4, 5]) hP rfl) (hD.sub [0, 1, 2, 3, 4, 5] (by decide) rfl) hS (Nat.le_of_ble_eq_true rfl) (Nat.le_of_ble_eq_true rfl) dX2_untell_56
abbrev rm_X2_untell_2 : Room := { frames := 0, cells := 0, slots := 0, locals := 0 }
set_option maxRecDepth 100000 in
set_option maxHeartbeats 4000000 in
theorem c_X2_untell_2 {l : Launch} {E : (Nat → Prop) → State → Prop} (hO : bw_Ok E) {G : va_G} {cI cB cJ cN cW : ClassId} (b : Nat) (q : Nat → Nat) (Lx : Int32) (f : Nat → Nat → Int32) : bw_Cv (S := bw_U) l yX2_untell (bw_ws (Cond.code yX2_untell cX2_untell 3 none)) rm_X2_untell_2 E G (bw_kt cI cB cJ cN cW) [.ref b, .int 2] [(b, .inr (2, [.int Lx, .ref (q 0), .ref (q 1), .ref (q 2), .ref (q 3), .ref (q 4), .ref (q 5), .ref (q 6), .ref (q 7)])), ((q 0), .inl (cI, 10, .inl (f 0))), ((q 1), .inl (cI, 10, .inl (f 1))), ((q 2), .inl (cI, 10, .inl (f 2))), ((q 6), .inl (cI, 20, .inl (f 3))), ((q 7), .inl (cI, 20, .inl (fun _ => 0)))] (fun _ => True) (fun u => [(b, .inr (2, [.int Lx, .ref (q 0), .ref (q 1), .ref (q 2), .ref (q 3), .ref (q 4), .ref (q 5), .ref (q 6), .ref (q 7)])), ((q 0), .inl (cI, 10, .inl (u.2 0))), ((q 1), .inl (cI, 10, .inl (u.2 1))), ((q 2), .inl (cI, 10, .inl (u.2 2))), ((q 6), .inl (cI, 20, .inl (u.2 3))), ((q 7), .inl (cI, 20, .inl (fun _ => 0)))]) := by
  refine bw_Cv.of (cc := cX2_untell) (maxL := 3) (by decide) rfl (Nat.le_of_ble_eq_true rfl) ?_
  intro p e s m below meth c A Q hx hb hml hts hown hin hK hA hS hP hD hE ret ls hl
  have F : CallFix p m c cX2_untell 3 s ([.ref b, .int 2] : List Value).toArray bw_T RX2 := ⟨hx, hb, hml, hown, fun w h => hts w (List.mem_cons_of_mem _ h)⟩
  have hl : lv_has ls 3 [(0, .ref b), (1, .int 2)] := hl
  refine lv_aload_n hx hb dX2_untell_0 rfl (lv_at hl 0 rfl) ?_
  refine r_get F hK hP 0 1 rfl rfl in_X2 (by decide) k_147 rfl dX2_untell_1 ?_
  refine lv_iload_n hx hb dX2_untell_4 rfl (lv_at hl 1 rfl) ?_
  refine lv_iconst (v := (-1)) hx hb dX2_untell_5 (by decide) ?_
  refine r_iastX F hK hP hD hS 1 0 rfl rfl (bw_vin (by decide)) dX2_untell_6 (w1 := fun f1 => [(b, .inr (2, [.int Lx, .ref (q 0), .ref (q 1), .ref (q 2), .ref (q 3), .ref (q 4), .ref (q 5), .ref (q 6), .ref (q 7)])), ((q 0), .inl (cI, 10, .inl f1)), ((q 1), .inl (cI, 10, .inl (f 1))), ((q 2), .inl (cI, 10, .inl (f 2))), ((q 6), .inl (cI, 20, .inl (f 3))), ((q 7), .inl (cI, 20, .inl (fun _ => 0)))]) (fun _ => rfl) (fun f1 H locs hP hD hS => ?_)
  refine lv_aload_n hx hb dX2_untell_7 rfl (lv_at hl 0 rfl) ?_
  refine r_get F hK hP 0 2 rfl rfl in_X2 (by decide) k_150 rfl dX2_untell_8 ?_
  refine lv_iload_n hx hb dX2_untell_11 rfl (lv_at hl 1 rfl) ?_
  refine lv_bipush (v := (-2)) hx hb dX2_untell_12 (by decide) ?_
  refine r_iastX F hK hP hD hS 2 0 rfl rfl (bw_vin (by decide)) dX2_untell_14 (w1 := fun f2 => [(b, .inr (2, [.int Lx, .ref (q 0), .ref (q 1), .ref (q 2), .ref (q 3), .ref (q 4), .ref (q 5), .ref (q 6), .ref (q 7)])), ((q 0), .inl (cI, 10, .inl f1)), ((q 1), .inl (cI, 10, .inl f2)), ((q 2), .inl (cI, 10, .inl (f 2))), ((q 6), .inl (cI, 20, .inl (f 3))), ((q 7), .inl (cI, 20, .inl (fun _ => 0)))]) (fun _ => rfl) (fun f2 H locs hP hD hS => ?_)
  refine lv_aload_n hx hb dX2_untell_15 rfl (lv_at hl 0 rfl) ?_
  refine r_get F hK hP 0 3 rfl rfl in_X2 (by decide) k_153 rfl dX2_untell_16 ?_
  refine lv_iload_n hx hb dX2_untell_19 rfl (lv_at hl 1 rfl) ?_
  refine lv_iconst (v := 0) hx hb dX2_untell_20 (by decide) ?_
  refine r_iastX F hK hP hD hS 3 0 rfl rfl (bw_vin (by decide)) dX2_untell_21 (w1 := fun f3 => [(b, .inr (2, [.int Lx, .ref (q 0), .ref (q 1), .ref (q 2), .ref (q 3), .ref (q 4), .ref (q 5), .ref (q 6), .ref (q 7)])), ((q 0), .inl (cI, 10, .inl f1)), ((q 1), .inl (cI, 10, .inl f2)), ((q 2), .inl (cI, 10, .inl f3)), ((q 6), .inl (cI, 20, .inl (f 3))), ((q 7), .inl (cI, 20, .inl (fun _ => 0)))]) (fun _ => rfl) (fun f3 H locs hP hD hS => ?_)
  refine lv_iconst (v := 2) hx hb dX2_untell_22 (by decide) ?_
  refine lv_iload_n hx hb dX2_untell_23 rfl (lv_at hl 1 rfl) ?_
  refine r_imul (v := 4) F dX2_untell_24 (by decide) ?_
  refine lv_istore_n (lv' := [(2, .int 4), (0, .ref b), (1, .int 2)]) hx hb dX2_untell_25 rfl hl (by decide) rfl (fun ls hl => ?_)
  refine lv_iload_n hx hb dX2_untell_26 rfl (lv_at hl 0 rfl) ?_
  refine lv_iconst (v := 2) hx hb dX2_untell_27 (by decide) ?_
  refine lv_iload_n hx hb dX2_untell_28 rfl (lv_at hl 2 rfl) ?_
  refine r_imul (v := 4) F dX2_untell_29 (by decide) ?_
  refine lv_iconst (v := 1) hx hb dX2_untell_30 (by decide) ?_
  refine r_iadd (v := 5) F dX2_untell_31 (by decide) ?_
  refine lv_icmp_gt (tgt := 56) hx hb dX2_untell_32 (by decide) (fun h9 => absurd h9 (by decide)) (fun _ => ?_)
  refine lv_aload_n hx hb dX2_untell_35 rfl (lv_at hl 1 rfl) ?_
  refine r_get F hK hP 0 7 rfl rfl in_X2 (by decide) k_165 rfl dX2_untell_36 ?_
  refine lv_iload_n hx hb dX2_untell_39 rfl (lv_at hl 0 rfl) ?_
  refine lv_bipush (v := (-2)) hx hb dX2_untell_40 (by decide) ?_
  refine r_iastX F hK hP hD hS 4 0 rfl rfl (bw_vin (by decide)) dX2_untell_42 (w1 := fun f4 => [(b, .inr (2, [.int Lx, .ref (q 0), .ref (q 1), .ref (q 2), .ref (q 3), .ref (q 4), .ref (q 5), .ref (q 6), .ref (q 7)])), ((q 0), .inl (cI, 10, .inl f1)), ((q 1), .inl (cI, 10, .inl f2)), ((q 2), .inl (cI, 10, .inl f3)), ((q 6), .inl (cI, 20, .inl f4)), ((q 7), .inl (cI, 20, .inl (fun _ => 0)))]) (fun _ => rfl) (fun f4 H locs hP hD hS => ?_)
  refine lv_aload_n hx hb dX2_untell_43 rfl (lv_at hl 1 rfl) ?_
  refine r_get F hK hP 0 8 rfl rfl in_X2 (by decide) k_169 rfl dX2_untell_44 ?_
  refine lv_iload_n hx hb dX2_untell_47 rfl (lv_at hl 0 rfl) ?_
  refine lv_iconst (v := 0) hx hb dX2_untell_48 (by decide) ?_
  refine r_iast F hK hP hD hS 5 0 rfl rfl (bw_vin (by decide)) dX2_untell_49 bw_upd0 (w1 := [(b, .inr (2, [.int Lx, .ref (q 0), .ref (q 1), .ref (q 2), .ref (q 3), .ref (q 4), .ref (q 5), .ref (q 6), .ref (q 7)])), ((q 0), .inl (cI, 10, .inl f1)), ((q 1), .inl (cI, 10, .inl f2)), ((q 2), .inl (cI, 10, .inl f3)), ((q 6), .inl (cI, 20, .inl f4)), ((q 7), .inl (cI, 20, .inl (fun _ => 0)))]) rfl (fun H locs hP hD hS => ?_)
  refine lv_iinc (v := 5) (lv' := [(2, .int 5), (0, .ref b), (1, .int 2)]) hx hb dX2_untell_50 hl (k := 0) rfl (by decide) (by decide) rfl (fun ls hl => ?_)
  refine lv_goto (tgt := 26) hx hb dX2_untell_53 (by decide) ?_
  refine lv_iload_n hx hb dX2_untell_26 rfl (lv_at hl 0 rfl) ?_
  refine lv_iconst (v := 2) hx hb dX2_untell_27 (by decide) ?_
  refine lv_iload_n hx hb dX2_untell_28 rfl (lv_at hl 2 rfl) ?_
  refine r_imul (v := 4) F dX2_untell_29 (by decide) ?_
  refine lv_iconst (v := 1) hx hb dX2_untell_30 (by decide) ?_
  refine r_iadd (v := 5) F dX2_untell_31 (by decide) ?_
  refine lv_icmp_gt (tgt := 56) hx hb dX2_untell_32 (by decide) (fun h9 => absurd h9 (by decide)) (fun _ => ?_)
  refine lv_aload_n hx hb dX2_untell_35 rfl (lv_at hl 1 rfl) ?_
  refine r_get F hK hP 0 7 rfl rfl in_X2 (by decide) k_165 rfl dX2_untell_36 ?_
  refine lv_iload_n hx hb dX2_untell_39 rfl (lv_at hl 0 rfl) ?_
  refine lv_bipush (v := (-2)) hx hb dX2_untell_40 (by decide) ?_
  refine r_iastX F hK hP hD hS 4 0 rfl rfl (bw_vin (by decide)) dX2_untell_42 (w1 := fun f5 => [(b, .inr (2, [.int Lx, .ref (q 0), .ref (q 1), .ref (q 2), .ref (q 3), .ref (q 4), .ref (q 5), .ref (q 6), .ref (q 7)])), ((q 0), .inl (cI, 10, .inl f1)), ((q 1), .inl (cI, 10, .inl f2)), ((q 2), .inl (cI, 10, .inl f3)), ((q 6), .inl (cI, 20, .inl f5)), ((q 7), .inl (cI, 20, .inl (fun _ => 0)))]) (fun _ => rfl) (fun f5 H locs hP hD hS => ?_)
  refine lv_aload_n hx hb dX2_untell_43 rfl (lv_at hl 1 rfl) ?_
  refine r_get F hK hP 0 8 rfl rfl in_X2 (by decide) k_169 rfl dX2_untell_44 ?_
  refine lv_iload_n hx hb dX2_untell_47 rfl (lv_at hl 0 rfl) ?_
  refine lv_iconst (v := 0) hx hb dX2_untell_48 (by decide) ?_
  refine r_iast F hK hP hD hS 5 0 rfl rfl (bw_vin (by decide)) dX2_untell_49 bw_upd0 (w1 := [(b, .inr (2, [.int Lx, .ref (q 0), .ref (q 1), .ref (q 2), .ref (q 3), .ref (q 4), .ref (q 5), .ref (q 6), .ref (q 7)])), ((q 0), .inl (cI, 10, .inl f1)), ((q 1), .inl (cI, 10, .inl f2)), ((q 2), .inl (cI, 10, .inl f3)), ((q 6), .inl (cI, 20, .inl f5)), ((q 7), .inl (cI, 20, .inl (fun _ => 0)))]) rfl (fun H locs hP hD hS => ?_)
  refine lv_iinc (v := 6) (lv' := [(2, .int 6), (0, .ref b), (1, .int 2)]) hx hb dX2_untell_50 hl (k := 0) rfl (by decide) (by decide) rfl (fun ls hl => ?_)
  refine lv_goto (tgt := 26) hx hb dX2_untell_53 (by decide) ?_
  refine lv_iload_n hx hb dX2_untell_26 rfl (lv_at hl 0 rfl) ?_
  refine lv_iconst (v := 2) hx hb dX2_untell_27 (by decide) ?_
  refine lv_iload_n hx hb dX2_untell_28 rfl (lv_at hl 2 rfl) ?_
  refine r_imul (v := 4) F dX2_untell_29 (by decide) ?_
  refine lv_iconst (v := 1) hx hb dX2_untell_30 (by decide) ?_
  refine r_iadd (v := 5) F dX2_untell_31 (by decide) ?_
  refine lv_icmp_gt (tgt := 56) hx hb dX2_untell_32 (by decide) (fun _ => ?_) (fun h9 => absurd (by decide) h9)
  exact ret (fun _ => 0, (fun k => [f1, f2, f3, f5].getD k (fun _ => 0))) _ _ _ _ _ _ trivial (bw_subP (isC := [0, 1, 2, 3, 4, 5]) hP rfl) (hD.sub [0, 1, 2, 3, 4, 5] (by decide) rfl) hS (Nat.le_of_ble_eq_true rfl) (Nat.le_of_ble_eq_true rfl) dX2_untell_56
abbrev rm_X2_untell_3 : Room := { frames := 0, cells := 0, slots := 0, locals := 0 }
set_option maxRecDepth 100000 in
set_option maxHeartbeats 4000000 in
theorem c_X2_untell_3 {l : Launch} {E : (Nat → Prop) → State → Prop} (hO : bw_Ok E) {G : va_G} {cI cB cJ cN cW : ClassId} (b : Nat) (q : Nat → Nat) (Lx : Int32) (f : Nat → Nat → Int32) : bw_Cv (S := bw_U) l yX2_untell (bw_ws (Cond.code yX2_untell cX2_untell 3 none)) rm_X2_untell_3 E G (bw_kt cI cB cJ cN cW) [.ref b, .int 3] [(b, .inr (2, [.int Lx, .ref (q 0), .ref (q 1), .ref (q 2), .ref (q 3), .ref (q 4), .ref (q 5), .ref (q 6), .ref (q 7)])), ((q 0), .inl (cI, 10, .inl (f 0))), ((q 1), .inl (cI, 10, .inl (f 1))), ((q 2), .inl (cI, 10, .inl (f 2))), ((q 6), .inl (cI, 20, .inl (f 3))), ((q 7), .inl (cI, 20, .inl (fun _ => 0)))] (fun _ => True) (fun u => [(b, .inr (2, [.int Lx, .ref (q 0), .ref (q 1), .ref (q 2), .ref (q 3), .ref (q 4), .ref (q 5), .ref (q 6), .ref (q 7)])), ((q 0), .inl (cI, 10, .inl (u.2 0))), ((q 1), .inl (cI, 10, .inl (u.2 1))), ((q 2), .inl (cI, 10, .inl (u.2 2))), ((q 6), .inl (cI, 20, .inl (u.2 3))), ((q 7), .inl (cI, 20, .inl (fun _ => 0)))]) := by
  refine bw_Cv.of (cc := cX2_untell) (maxL := 3) (by decide) rfl (Nat.le_of_ble_eq_true rfl) ?_
  intro p e s m below meth c A Q hx hb hml hts hown hin hK hA hS hP hD hE ret ls hl
  have F : CallFix p m c cX2_untell 3 s ([.ref b, .int 3] : List Value).toArray bw_T RX2 := ⟨hx, hb, hml, hown, fun w h => hts w (List.mem_cons_of_mem _ h)⟩
  have hl : lv_has ls 3 [(0, .ref b), (1, .int 3)] := hl
  refine lv_aload_n hx hb dX2_untell_0 rfl (lv_at hl 0 rfl) ?_
  refine r_get F hK hP 0 1 rfl rfl in_X2 (by decide) k_147 rfl dX2_untell_1 ?_
  refine lv_iload_n hx hb dX2_untell_4 rfl (lv_at hl 1 rfl) ?_
  refine lv_iconst (v := (-1)) hx hb dX2_untell_5 (by decide) ?_
  refine r_iastX F hK hP hD hS 1 0 rfl rfl (bw_vin (by decide)) dX2_untell_6 (w1 := fun f1 => [(b, .inr (2, [.int Lx, .ref (q 0), .ref (q 1), .ref (q 2), .ref (q 3), .ref (q 4), .ref (q 5), .ref (q 6), .ref (q 7)])), ((q 0), .inl (cI, 10, .inl f1)), ((q 1), .inl (cI, 10, .inl (f 1))), ((q 2), .inl (cI, 10, .inl (f 2))), ((q 6), .inl (cI, 20, .inl (f 3))), ((q 7), .inl (cI, 20, .inl (fun _ => 0)))]) (fun _ => rfl) (fun f1 H locs hP hD hS => ?_)
  refine lv_aload_n hx hb dX2_untell_7 rfl (lv_at hl 0 rfl) ?_
  refine r_get F hK hP 0 2 rfl rfl in_X2 (by decide) k_150 rfl dX2_untell_8 ?_
  refine lv_iload_n hx hb dX2_untell_11 rfl (lv_at hl 1 rfl) ?_
  refine lv_bipush (v := (-2)) hx hb dX2_untell_12 (by decide) ?_
  refine r_iastX F hK hP hD hS 2 0 rfl rfl (bw_vin (by decide)) dX2_untell_14 (w1 := fun f2 => [(b, .inr (2, [.int Lx, .ref (q 0), .ref (q 1), .ref (q 2), .ref (q 3), .ref (q 4), .ref (q 5), .ref (q 6), .ref (q 7)])), ((q 0), .inl (cI, 10, .inl f1)), ((q 1), .inl (cI, 10, .inl f2)), ((q 2), .inl (cI, 10, .inl (f 2))), ((q 6), .inl (cI, 20, .inl (f 3))), ((q 7), .inl (cI, 20, .inl (fun _ => 0)))]) (fun _ => rfl) (fun f2 H locs hP hD hS => ?_)
  refine lv_aload_n hx hb dX2_untell_15 rfl (lv_at hl 0 rfl) ?_
  refine r_get F hK hP 0 3 rfl rfl in_X2 (by decide) k_153 rfl dX2_untell_16 ?_
  refine lv_iload_n hx hb dX2_untell_19 rfl (lv_at hl 1 rfl) ?_
  refine lv_iconst (v := 0) hx hb dX2_untell_20 (by decide) ?_
  refine r_iastX F hK hP hD hS 3 0 rfl rfl (bw_vin (by decide)) dX2_untell_21 (w1 := fun f3 => [(b, .inr (2, [.int Lx, .ref (q 0), .ref (q 1), .ref (q 2), .ref (q 3), .ref (q 4), .ref (q 5), .ref (q 6), .ref (q 7)])), ((q 0), .inl (cI, 10, .inl f1)), ((q 1), .inl (cI, 10, .inl f2)), ((q 2), .inl (cI, 10, .inl f3)), ((q 6), .inl (cI, 20, .inl (f 3))), ((q 7), .inl (cI, 20, .inl (fun _ => 0)))]) (fun _ => rfl) (fun f3 H locs hP hD hS => ?_)
  refine lv_iconst (v := 2) hx hb dX2_untell_22 (by decide) ?_
  refine lv_iload_n hx hb dX2_untell_23 rfl (lv_at hl 1 rfl) ?_
  refine r_imul (v := 6) F dX2_untell_24 (by decide) ?_
  refine lv_istore_n (lv' := [(2, .int 6), (0, .ref b), (1, .int 3)]) hx hb dX2_untell_25 rfl hl (by decide) rfl (fun ls hl => ?_)
  refine lv_iload_n hx hb dX2_untell_26 rfl (lv_at hl 0 rfl) ?_
  refine lv_iconst (v := 2) hx hb dX2_untell_27 (by decide) ?_
  refine lv_iload_n hx hb dX2_untell_28 rfl (lv_at hl 2 rfl) ?_
  refine r_imul (v := 6) F dX2_untell_29 (by decide) ?_
  refine lv_iconst (v := 1) hx hb dX2_untell_30 (by decide) ?_
  refine r_iadd (v := 7) F dX2_untell_31 (by decide) ?_
  refine lv_icmp_gt (tgt := 56) hx hb dX2_untell_32 (by decide) (fun h9 => absurd h9 (by decide)) (fun _ => ?_)
  refine lv_aload_n hx hb dX2_untell_35 rfl (lv_at hl 1 rfl) ?_
  refine r_get F hK hP 0 7 rfl rfl in_X2 (by decide) k_165 rfl dX2_untell_36 ?_
  refine lv_iload_n hx hb dX2_untell_39 rfl (lv_at hl 0 rfl) ?_
  refine lv_bipush (v := (-2)) hx hb dX2_untell_40 (by decide) ?_
  refine r_iastX F hK hP hD hS 4 0 rfl rfl (bw_vin (by decide)) dX2_untell_42 (w1 := fun f4 => [(b, .inr (2, [.int Lx, .ref (q 0), .ref (q 1), .ref (q 2), .ref (q 3), .ref (q 4), .ref (q 5), .ref (q 6), .ref (q 7)])), ((q 0), .inl (cI, 10, .inl f1)), ((q 1), .inl (cI, 10, .inl f2)), ((q 2), .inl (cI, 10, .inl f3)), ((q 6), .inl (cI, 20, .inl f4)), ((q 7), .inl (cI, 20, .inl (fun _ => 0)))]) (fun _ => rfl) (fun f4 H locs hP hD hS => ?_)
  refine lv_aload_n hx hb dX2_untell_43 rfl (lv_at hl 1 rfl) ?_
  refine r_get F hK hP 0 8 rfl rfl in_X2 (by decide) k_169 rfl dX2_untell_44 ?_
  refine lv_iload_n hx hb dX2_untell_47 rfl (lv_at hl 0 rfl) ?_
  refine lv_iconst (v := 0) hx hb dX2_untell_48 (by decide) ?_
  refine r_iast F hK hP hD hS 5 0 rfl rfl (bw_vin (by decide)) dX2_untell_49 bw_upd0 (w1 := [(b, .inr (2, [.int Lx, .ref (q 0), .ref (q 1), .ref (q 2), .ref (q 3), .ref (q 4), .ref (q 5), .ref (q 6), .ref (q 7)])), ((q 0), .inl (cI, 10, .inl f1)), ((q 1), .inl (cI, 10, .inl f2)), ((q 2), .inl (cI, 10, .inl f3)), ((q 6), .inl (cI, 20, .inl f4)), ((q 7), .inl (cI, 20, .inl (fun _ => 0)))]) rfl (fun H locs hP hD hS => ?_)
  refine lv_iinc (v := 7) (lv' := [(2, .int 7), (0, .ref b), (1, .int 3)]) hx hb dX2_untell_50 hl (k := 0) rfl (by decide) (by decide) rfl (fun ls hl => ?_)
  refine lv_goto (tgt := 26) hx hb dX2_untell_53 (by decide) ?_
  refine lv_iload_n hx hb dX2_untell_26 rfl (lv_at hl 0 rfl) ?_
  refine lv_iconst (v := 2) hx hb dX2_untell_27 (by decide) ?_
  refine lv_iload_n hx hb dX2_untell_28 rfl (lv_at hl 2 rfl) ?_
  refine r_imul (v := 6) F dX2_untell_29 (by decide) ?_
  refine lv_iconst (v := 1) hx hb dX2_untell_30 (by decide) ?_
  refine r_iadd (v := 7) F dX2_untell_31 (by decide) ?_
  refine lv_icmp_gt (tgt := 56) hx hb dX2_untell_32 (by decide) (fun h9 => absurd h9 (by decide)) (fun _ => ?_)
  refine lv_aload_n hx hb dX2_untell_35 rfl (lv_at hl 1 rfl) ?_
  refine r_get F hK hP 0 7 rfl rfl in_X2 (by decide) k_165 rfl dX2_untell_36 ?_
  refine lv_iload_n hx hb dX2_untell_39 rfl (lv_at hl 0 rfl) ?_
  refine lv_bipush (v := (-2)) hx hb dX2_untell_40 (by decide) ?_
  refine r_iastX F hK hP hD hS 4 0 rfl rfl (bw_vin (by decide)) dX2_untell_42 (w1 := fun f5 => [(b, .inr (2, [.int Lx, .ref (q 0), .ref (q 1), .ref (q 2), .ref (q 3), .ref (q 4), .ref (q 5), .ref (q 6), .ref (q 7)])), ((q 0), .inl (cI, 10, .inl f1)), ((q 1), .inl (cI, 10, .inl f2)), ((q 2), .inl (cI, 10, .inl f3)), ((q 6), .inl (cI, 20, .inl f5)), ((q 7), .inl (cI, 20, .inl (fun _ => 0)))]) (fun _ => rfl) (fun f5 H locs hP hD hS => ?_)
  refine lv_aload_n hx hb dX2_untell_43 rfl (lv_at hl 1 rfl) ?_
  refine r_get F hK hP 0 8 rfl rfl in_X2 (by decide) k_169 rfl dX2_untell_44 ?_
  refine lv_iload_n hx hb dX2_untell_47 rfl (lv_at hl 0 rfl) ?_
  refine lv_iconst (v := 0) hx hb dX2_untell_48 (by decide) ?_
  refine r_iast F hK hP hD hS 5 0 rfl rfl (bw_vin (by decide)) dX2_untell_49 bw_upd0 (w1 := [(b, .inr (2, [.int Lx, .ref (q 0), .ref (q 1), .ref (q 2), .ref (q 3), .ref (q 4), .ref (q 5), .ref (q 6), .ref (q 7)])), ((q 0), .inl (cI, 10, .inl f1)), ((q 1), .inl (cI, 10, .inl f2)), ((q 2), .inl (cI, 10, .inl f3)), ((q 6), .inl (cI, 20, .inl f5)), ((q 7), .inl (cI, 20, .inl (fun _ => 0)))]) rfl (fun H locs hP hD hS => ?_)
  refine lv_iinc (v := 8) (lv' := [(2, .int 8), (0, .ref b), (1, .int 3)]) hx hb dX2_untell_50 hl (k := 0) rfl (by decide) (by decide) rfl (fun ls hl => ?_)
  refine lv_goto (tgt := 26) hx hb dX2_untell_53 (by decide) ?_
  refine lv_iload_n hx hb dX2_untell_26 rfl (lv_at hl 0 rfl) ?_
  refine lv_iconst (v := 2) hx hb dX2_untell_27 (by decide) ?_
  refine lv_iload_n hx hb dX2_untell_28 rfl (lv_at hl 2 rfl) ?_
  refine r_imul (v := 6) F dX2_untell_29 (by decide) ?_
  refine lv_iconst (v := 1) hx hb dX2_untell_30 (by decide) ?_
  refine r_iadd (v := 7) F dX2_untell_31 (by decide) ?_
  refine lv_icmp_gt (tgt := 56) hx hb dX2_untell_32 (by decide) (fun _ => ?_) (fun h9 => absurd (by decide) h9)
  exact ret (fun _ => 0, (fun k => [f1, f2, f3, f5].getD k (fun _ => 0))) _ _ _ _ _ _ trivial (bw_subP (isC := [0, 1, 2, 3, 4, 5]) hP rfl) (hD.sub [0, 1, 2, 3, 4, 5] (by decide) rfl) hS (Nat.le_of_ble_eq_true rfl) (Nat.le_of_ble_eq_true rfl) dX2_untell_56
abbrev rm_X2_untell_4 : Room := { frames := 0, cells := 0, slots := 0, locals := 0 }
set_option maxRecDepth 100000 in
set_option maxHeartbeats 4000000 in
theorem c_X2_untell_4 {l : Launch} {E : (Nat → Prop) → State → Prop} (hO : bw_Ok E) {G : va_G} {cI cB cJ cN cW : ClassId} (b : Nat) (q : Nat → Nat) (Lx : Int32) (f : Nat → Nat → Int32) : bw_Cv (S := bw_U) l yX2_untell (bw_ws (Cond.code yX2_untell cX2_untell 3 none)) rm_X2_untell_4 E G (bw_kt cI cB cJ cN cW) [.ref b, .int 4] [(b, .inr (2, [.int Lx, .ref (q 0), .ref (q 1), .ref (q 2), .ref (q 3), .ref (q 4), .ref (q 5), .ref (q 6), .ref (q 7)])), ((q 0), .inl (cI, 10, .inl (f 0))), ((q 1), .inl (cI, 10, .inl (f 1))), ((q 2), .inl (cI, 10, .inl (f 2))), ((q 6), .inl (cI, 20, .inl (f 3))), ((q 7), .inl (cI, 20, .inl (fun _ => 0)))] (fun _ => True) (fun u => [(b, .inr (2, [.int Lx, .ref (q 0), .ref (q 1), .ref (q 2), .ref (q 3), .ref (q 4), .ref (q 5), .ref (q 6), .ref (q 7)])), ((q 0), .inl (cI, 10, .inl (u.2 0))), ((q 1), .inl (cI, 10, .inl (u.2 1))), ((q 2), .inl (cI, 10, .inl (u.2 2))), ((q 6), .inl (cI, 20, .inl (u.2 3))), ((q 7), .inl (cI, 20, .inl (fun _ => 0)))]) := by
  refine bw_Cv.of (cc := cX2_untell) (maxL := 3) (by decide) rfl (Nat.le_of_ble_eq_true rfl) ?_
  intro p e s m below meth c A Q hx hb hml hts hown hin hK hA hS hP hD hE ret ls hl
  have F : CallFix p m c cX2_untell 3 s ([.ref b, .int 4] : List Value).toArray bw_T RX2 := ⟨hx, hb, hml, hown, fun w h => hts w (List.mem_cons_of_mem _ h)⟩
  have hl : lv_has ls 3 [(0, .ref b), (1, .int 4)] := hl
  refine lv_aload_n hx hb dX2_untell_0 rfl (lv_at hl 0 rfl) ?_
  refine r_get F hK hP 0 1 rfl rfl in_X2 (by decide) k_147 rfl dX2_untell_1 ?_
  refine lv_iload_n hx hb dX2_untell_4 rfl (lv_at hl 1 rfl) ?_
  refine lv_iconst (v := (-1)) hx hb dX2_untell_5 (by decide) ?_
  refine r_iastX F hK hP hD hS 1 0 rfl rfl (bw_vin (by decide)) dX2_untell_6 (w1 := fun f1 => [(b, .inr (2, [.int Lx, .ref (q 0), .ref (q 1), .ref (q 2), .ref (q 3), .ref (q 4), .ref (q 5), .ref (q 6), .ref (q 7)])), ((q 0), .inl (cI, 10, .inl f1)), ((q 1), .inl (cI, 10, .inl (f 1))), ((q 2), .inl (cI, 10, .inl (f 2))), ((q 6), .inl (cI, 20, .inl (f 3))), ((q 7), .inl (cI, 20, .inl (fun _ => 0)))]) (fun _ => rfl) (fun f1 H locs hP hD hS => ?_)
  refine lv_aload_n hx hb dX2_untell_7 rfl (lv_at hl 0 rfl) ?_
  refine r_get F hK hP 0 2 rfl rfl in_X2 (by decide) k_150 rfl dX2_untell_8 ?_
  refine lv_iload_n hx hb dX2_untell_11 rfl (lv_at hl 1 rfl) ?_
  refine lv_bipush (v := (-2)) hx hb dX2_untell_12 (by decide) ?_
  refine r_iastX F hK hP hD hS 2 0 rfl rfl (bw_vin (by decide)) dX2_untell_14 (w1 := fun f2 => [(b, .inr (2, [.int Lx, .ref (q 0), .ref (q 1), .ref (q 2), .ref (q 3), .ref (q 4), .ref (q 5), .ref (q 6), .ref (q 7)])), ((q 0), .inl (cI, 10, .inl f1)), ((q 1), .inl (cI, 10, .inl f2)), ((q 2), .inl (cI, 10, .inl (f 2))), ((q 6), .inl (cI, 20, .inl (f 3))), ((q 7), .inl (cI, 20, .inl (fun _ => 0)))]) (fun _ => rfl) (fun f2 H locs hP hD hS => ?_)
  refine lv_aload_n hx hb dX2_untell_15 rfl (lv_at hl 0 rfl) ?_
  refine r_get F hK hP 0 3 rfl rfl in_X2 (by decide) k_153 rfl dX2_untell_16 ?_
  refine lv_iload_n hx hb dX2_untell_19 rfl (lv_at hl 1 rfl) ?_
  refine lv_iconst (v := 0) hx hb dX2_untell_20 (by decide) ?_
  refine r_iastX F hK hP hD hS 3 0 rfl rfl (bw_vin (by decide)) dX2_untell_21 (w1 := fun f3 => [(b, .inr (2, [.int Lx, .ref (q 0), .ref (q 1), .ref (q 2), .ref (q 3), .ref (q 4), .ref (q 5), .ref (q 6), .ref (q 7)])), ((q 0), .inl (cI, 10, .inl f1)), ((q 1), .inl (cI, 10, .inl f2)), ((q 2), .inl (cI, 10, .inl f3)), ((q 6), .inl (cI, 20, .inl (f 3))), ((q 7), .inl (cI, 20, .inl (fun _ => 0)))]) (fun _ => rfl) (fun f3 H locs hP hD hS => ?_)
  refine lv_iconst (v := 2) hx hb dX2_untell_22 (by decide) ?_
  refine lv_iload_n hx hb dX2_untell_23 rfl (lv_at hl 1 rfl) ?_
  refine r_imul (v := 8) F dX2_untell_24 (by decide) ?_
  refine lv_istore_n (lv' := [(2, .int 8), (0, .ref b), (1, .int 4)]) hx hb dX2_untell_25 rfl hl (by decide) rfl (fun ls hl => ?_)
  refine lv_iload_n hx hb dX2_untell_26 rfl (lv_at hl 0 rfl) ?_
  refine lv_iconst (v := 2) hx hb dX2_untell_27 (by decide) ?_
  refine lv_iload_n hx hb dX2_untell_28 rfl (lv_at hl 2 rfl) ?_
  refine r_imul (v := 8) F dX2_untell_29 (by decide) ?_
  refine lv_iconst (v := 1) hx hb dX2_untell_30 (by decide) ?_
  refine r_iadd (v := 9) F dX2_untell_31 (by decide) ?_
  refine lv_icmp_gt (tgt := 56) hx hb dX2_untell_32 (by decide) (fun h9 => absurd h9 (by decide)) (fun _ => ?_)
  refine lv_aload_n hx hb dX2_untell_35 rfl (lv_at hl 1 rfl) ?_
  refine r_get F hK hP 0 7 rfl rfl in_X2 (by decide) k_165 rfl dX2_untell_36 ?_
  refine lv_iload_n hx hb dX2_untell_39 rfl (lv_at hl 0 rfl) ?_
  refine lv_bipush (v := (-2)) hx hb dX2_untell_40 (by decide) ?_
  refine r_iastX F hK hP hD hS 4 0 rfl rfl (bw_vin (by decide)) dX2_untell_42 (w1 := fun f4 => [(b, .inr (2, [.int Lx, .ref (q 0), .ref (q 1), .ref (q 2), .ref (q 3), .ref (q 4), .ref (q 5), .ref (q 6), .ref (q 7)])), ((q 0), .inl (cI, 10, .inl f1)), ((q 1), .inl (cI, 10, .inl f2)), ((q 2), .inl (cI, 10, .inl f3)), ((q 6), .inl (cI, 20, .inl f4)), ((q 7), .inl (cI, 20, .inl (fun _ => 0)))]) (fun _ => rfl) (fun f4 H locs hP hD hS => ?_)
  refine lv_aload_n hx hb dX2_untell_43 rfl (lv_at hl 1 rfl) ?_
  refine r_get F hK hP 0 8 rfl rfl in_X2 (by decide) k_169 rfl dX2_untell_44 ?_
  refine lv_iload_n hx hb dX2_untell_47 rfl (lv_at hl 0 rfl) ?_
  refine lv_iconst (v := 0) hx hb dX2_untell_48 (by decide) ?_
  refine r_iast F hK hP hD hS 5 0 rfl rfl (bw_vin (by decide)) dX2_untell_49 bw_upd0 (w1 := [(b, .inr (2, [.int Lx, .ref (q 0), .ref (q 1), .ref (q 2), .ref (q 3), .ref (q 4), .ref (q 5), .ref (q 6), .ref (q 7)])), ((q 0), .inl (cI, 10, .inl f1)), ((q 1), .inl (cI, 10, .inl f2)), ((q 2), .inl (cI, 10, .inl f3)), ((q 6), .inl (cI, 20, .inl f4)), ((q 7), .inl (cI, 20, .inl (fun _ => 0)))]) rfl (fun H locs hP hD hS => ?_)
  refine lv_iinc (v := 9) (lv' := [(2, .int 9), (0, .ref b), (1, .int 4)]) hx hb dX2_untell_50 hl (k := 0) rfl (by decide) (by decide) rfl (fun ls hl => ?_)
  refine lv_goto (tgt := 26) hx hb dX2_untell_53 (by decide) ?_
  refine lv_iload_n hx hb dX2_untell_26 rfl (lv_at hl 0 rfl) ?_
  refine lv_iconst (v := 2) hx hb dX2_untell_27 (by decide) ?_
  refine lv_iload_n hx hb dX2_untell_28 rfl (lv_at hl 2 rfl) ?_
  refine r_imul (v := 8) F dX2_untell_29 (by decide) ?_
  refine lv_iconst (v := 1) hx hb dX2_untell_30 (by decide) ?_
  refine r_iadd (v := 9) F dX2_untell_31 (by decide) ?_
  refine lv_icmp_gt (tgt := 56) hx hb dX2_untell_32 (by decide) (fun h9 => absurd h9 (by decide)) (fun _ => ?_)
  refine lv_aload_n hx hb dX2_untell_35 rfl (lv_at hl 1 rfl) ?_
  refine r_get F hK hP 0 7 rfl rfl in_X2 (by decide) k_165 rfl dX2_untell_36 ?_
  refine lv_iload_n hx hb dX2_untell_39 rfl (lv_at hl 0 rfl) ?_
  refine lv_bipush (v := (-2)) hx hb dX2_untell_40 (by decide) ?_
  refine r_iastX F hK hP hD hS 4 0 rfl rfl (bw_vin (by decide)) dX2_untell_42 (w1 := fun f5 => [(b, .inr (2, [.int Lx, .ref (q 0), .ref (q 1), .ref (q 2), .ref (q 3), .ref (q 4), .ref (q 5), .ref (q 6), .ref (q 7)])), ((q 0), .inl (cI, 10, .inl f1)), ((q 1), .inl (cI, 10, .inl f2)), ((q 2), .inl (cI, 10, .inl f3)), ((q 6), .inl (cI, 20, .inl f5)), ((q 7), .inl (cI, 20, .inl (fun _ => 0)))]) (fun _ => rfl) (fun f5 H locs hP hD hS => ?_)
  refine lv_aload_n hx hb dX2_untell_43 rfl (lv_at hl 1 rfl) ?_
  refine r_get F hK hP 0 8 rfl rfl in_X2 (by decide) k_169 rfl dX2_untell_44 ?_
  refine lv_iload_n hx hb dX2_untell_47 rfl (lv_at hl 0 rfl) ?_
  refine lv_iconst (v := 0) hx hb dX2_untell_48 (by decide) ?_
  refine r_iast F hK hP hD hS 5 0 rfl rfl (bw_vin (by decide)) dX2_untell_49 bw_upd0 (w1 := [(b, .inr (2, [.int Lx, .ref (q 0), .ref (q 1), .ref (q 2), .ref (q 3), .ref (q 4), .ref (q 5), .ref (q 6), .ref (q 7)])), ((q 0), .inl (cI, 10, .inl f1)), ((q 1), .inl (cI, 10, .inl f2)), ((q 2), .inl (cI, 10, .inl f3)), ((q 6), .inl (cI, 20, .inl f5)), ((q 7), .inl (cI, 20, .inl (fun _ => 0)))]) rfl (fun H locs hP hD hS => ?_)
  refine lv_iinc (v := 10) (lv' := [(2, .int 10), (0, .ref b), (1, .int 4)]) hx hb dX2_untell_50 hl (k := 0) rfl (by decide) (by decide) rfl (fun ls hl => ?_)
  refine lv_goto (tgt := 26) hx hb dX2_untell_53 (by decide) ?_
  refine lv_iload_n hx hb dX2_untell_26 rfl (lv_at hl 0 rfl) ?_
  refine lv_iconst (v := 2) hx hb dX2_untell_27 (by decide) ?_
  refine lv_iload_n hx hb dX2_untell_28 rfl (lv_at hl 2 rfl) ?_
  refine r_imul (v := 8) F dX2_untell_29 (by decide) ?_
  refine lv_iconst (v := 1) hx hb dX2_untell_30 (by decide) ?_
  refine r_iadd (v := 9) F dX2_untell_31 (by decide) ?_
  refine lv_icmp_gt (tgt := 56) hx hb dX2_untell_32 (by decide) (fun _ => ?_) (fun h9 => absurd (by decide) h9)
  exact ret (fun _ => 0, (fun k => [f1, f2, f3, f5].getD k (fun _ => 0))) _ _ _ _ _ _ trivial (bw_subP (isC := [0, 1, 2, 3, 4, 5]) hP rfl) (hD.sub [0, 1, 2, 3, 4, 5] (by decide) rfl) hS (Nat.le_of_ble_eq_true rfl) (Nat.le_of_ble_eq_true rfl) dX2_untell_56
abbrev rm_X2_untell_5 : Room := { frames := 0, cells := 0, slots := 0, locals := 0 }
set_option maxRecDepth 100000 in
set_option maxHeartbeats 4000000 in
theorem c_X2_untell_5 {l : Launch} {E : (Nat → Prop) → State → Prop} (hO : bw_Ok E) {G : va_G} {cI cB cJ cN cW : ClassId} (b : Nat) (q : Nat → Nat) (Lx : Int32) (f : Nat → Nat → Int32) : bw_Cv (S := bw_U) l yX2_untell (bw_ws (Cond.code yX2_untell cX2_untell 3 none)) rm_X2_untell_5 E G (bw_kt cI cB cJ cN cW) [.ref b, .int 5] [(b, .inr (2, [.int Lx, .ref (q 0), .ref (q 1), .ref (q 2), .ref (q 3), .ref (q 4), .ref (q 5), .ref (q 6), .ref (q 7)])), ((q 0), .inl (cI, 10, .inl (f 0))), ((q 1), .inl (cI, 10, .inl (f 1))), ((q 2), .inl (cI, 10, .inl (f 2))), ((q 6), .inl (cI, 20, .inl (f 3))), ((q 7), .inl (cI, 20, .inl (fun _ => 0)))] (fun _ => True) (fun u => [(b, .inr (2, [.int Lx, .ref (q 0), .ref (q 1), .ref (q 2), .ref (q 3), .ref (q 4), .ref (q 5), .ref (q 6), .ref (q 7)])), ((q 0), .inl (cI, 10, .inl (u.2 0))), ((q 1), .inl (cI, 10, .inl (u.2 1))), ((q 2), .inl (cI, 10, .inl (u.2 2))), ((q 6), .inl (cI, 20, .inl (u.2 3))), ((q 7), .inl (cI, 20, .inl (fun _ => 0)))]) := by
  refine bw_Cv.of (cc := cX2_untell) (maxL := 3) (by decide) rfl (Nat.le_of_ble_eq_true rfl) ?_
  intro p e s m below meth c A Q hx hb hml hts hown hin hK hA hS hP hD hE ret ls hl
  have F : CallFix p m c cX2_untell 3 s ([.ref b, .int 5] : List Value).toArray bw_T RX2 := ⟨hx, hb, hml, hown, fun w h => hts w (List.mem_cons_of_mem _ h)⟩
  have hl : lv_has ls 3 [(0, .ref b), (1, .int 5)] := hl
  refine lv_aload_n hx hb dX2_untell_0 rfl (lv_at hl 0 rfl) ?_
  refine r_get F hK hP 0 1 rfl rfl in_X2 (by decide) k_147 rfl dX2_untell_1 ?_
  refine lv_iload_n hx hb dX2_untell_4 rfl (lv_at hl 1 rfl) ?_
  refine lv_iconst (v := (-1)) hx hb dX2_untell_5 (by decide) ?_
  refine r_iastX F hK hP hD hS 1 0 rfl rfl (bw_vin (by decide)) dX2_untell_6 (w1 := fun f1 => [(b, .inr (2, [.int Lx, .ref (q 0), .ref (q 1), .ref (q 2), .ref (q 3), .ref (q 4), .ref (q 5), .ref (q 6), .ref (q 7)])), ((q 0), .inl (cI, 10, .inl f1)), ((q 1), .inl (cI, 10, .inl (f 1))), ((q 2), .inl (cI, 10, .inl (f 2))), ((q 6), .inl (cI, 20, .inl (f 3))), ((q 7), .inl (cI, 20, .inl (fun _ => 0)))]) (fun _ => rfl) (fun f1 H locs hP hD hS => ?_)
  refine lv_aload_n hx hb dX2_untell_7 rfl (lv_at hl 0 rfl) ?_
  refine r_get F hK hP 0 2 rfl rfl in_X2 (by decide) k_150 rfl dX2_untell_8 ?_
  refine lv_iload_n hx hb dX2_untell_11 rfl (lv_at hl 1 rfl) ?_
  refine lv_bipush (v := (-2)) hx hb dX2_untell_12 (by decide) ?_
  refine r_iastX F hK hP hD hS 2 0 rfl rfl (bw_vin (by decide)) dX2_untell_14 (w1 := fun f2 => [(b, .inr (2, [.int Lx, .ref (q 0), .ref (q 1), .ref (q 2), .ref (q 3), .ref (q 4), .ref (q 5), .ref (q 6), .ref (q 7)])), ((q 0), .inl (cI, 10, .inl f1)), ((q 1), .inl (cI, 10, .inl f2)), ((q 2), .inl (cI, 10, .inl (f 2))), ((q 6), .inl (cI, 20, .inl (f 3))), ((q 7), .inl (cI, 20, .inl (fun _ => 0)))]) (fun _ => rfl) (fun f2 H locs hP hD hS => ?_)
  refine lv_aload_n hx hb dX2_untell_15 rfl (lv_at hl 0 rfl) ?_
  refine r_get F hK hP 0 3 rfl rfl in_X2 (by decide) k_153 rfl dX2_untell_16 ?_
  refine lv_iload_n hx hb dX2_untell_19 rfl (lv_at hl 1 rfl) ?_
  refine lv_iconst (v := 0) hx hb dX2_untell_20 (by decide) ?_
  refine r_iastX F hK hP hD hS 3 0 rfl rfl (bw_vin (by decide)) dX2_untell_21 (w1 := fun f3 => [(b, .inr (2, [.int Lx, .ref (q 0), .ref (q 1), .ref (q 2), .ref (q 3), .ref (q 4), .ref (q 5), .ref (q 6), .ref (q 7)])), ((q 0), .inl (cI, 10, .inl f1)), ((q 1), .inl (cI, 10, .inl f2)), ((q 2), .inl (cI, 10, .inl f3)), ((q 6), .inl (cI, 20, .inl (f 3))), ((q 7), .inl (cI, 20, .inl (fun _ => 0)))]) (fun _ => rfl) (fun f3 H locs hP hD hS => ?_)
  refine lv_iconst (v := 2) hx hb dX2_untell_22 (by decide) ?_
  refine lv_iload_n hx hb dX2_untell_23 rfl (lv_at hl 1 rfl) ?_
  refine r_imul (v := 10) F dX2_untell_24 (by decide) ?_
  refine lv_istore_n (lv' := [(2, .int 10), (0, .ref b), (1, .int 5)]) hx hb dX2_untell_25 rfl hl (by decide) rfl (fun ls hl => ?_)
  refine lv_iload_n hx hb dX2_untell_26 rfl (lv_at hl 0 rfl) ?_
  refine lv_iconst (v := 2) hx hb dX2_untell_27 (by decide) ?_
  refine lv_iload_n hx hb dX2_untell_28 rfl (lv_at hl 2 rfl) ?_
  refine r_imul (v := 10) F dX2_untell_29 (by decide) ?_
  refine lv_iconst (v := 1) hx hb dX2_untell_30 (by decide) ?_
  refine r_iadd (v := 11) F dX2_untell_31 (by decide) ?_
  refine lv_icmp_gt (tgt := 56) hx hb dX2_untell_32 (by decide) (fun h9 => absurd h9 (by decide)) (fun _ => ?_)
  refine lv_aload_n hx hb dX2_untell_35 rfl (lv_at hl 1 rfl) ?_
  refine r_get F hK hP 0 7 rfl rfl in_X2 (by decide) k_165 rfl dX2_untell_36 ?_
  refine lv_iload_n hx hb dX2_untell_39 rfl (lv_at hl 0 rfl) ?_
  refine lv_bipush (v := (-2)) hx hb dX2_untell_40 (by decide) ?_
  refine r_iastX F hK hP hD hS 4 0 rfl rfl (bw_vin (by decide)) dX2_untell_42 (w1 := fun f4 => [(b, .inr (2, [.int Lx, .ref (q 0), .ref (q 1), .ref (q 2), .ref (q 3), .ref (q 4), .ref (q 5), .ref (q 6), .ref (q 7)])), ((q 0), .inl (cI, 10, .inl f1)), ((q 1), .inl (cI, 10, .inl f2)), ((q 2), .inl (cI, 10, .inl f3)), ((q 6), .inl (cI, 20, .inl f4)), ((q 7), .inl (cI, 20, .inl (fun _ => 0)))]) (fun _ => rfl) (fun f4 H locs hP hD hS => ?_)
  refine lv_aload_n hx hb dX2_untell_43 rfl (lv_at hl 1 rfl) ?_
  refine r_get F hK hP 0 8 rfl rfl in_X2 (by decide) k_169 rfl dX2_untell_44 ?_
  refine lv_iload_n hx hb dX2_untell_47 rfl (lv_at hl 0 rfl) ?_
  refine lv_iconst (v := 0) hx hb dX2_untell_48 (by decide) ?_
  refine r_iast F hK hP hD hS 5 0 rfl rfl (bw_vin (by decide)) dX2_untell_49 bw_upd0 (w1 := [(b, .inr (2, [.int Lx, .ref (q 0), .ref (q 1), .ref (q 2), .ref (q 3), .ref (q 4), .ref (q 5), .ref (q 6), .ref (q 7)])), ((q 0), .inl (cI, 10, .inl f1)), ((q 1), .inl (cI, 10, .inl f2)), ((q 2), .inl (cI, 10, .inl f3)), ((q 6), .inl (cI, 20, .inl f4)), ((q 7), .inl (cI, 20, .inl (fun _ => 0)))]) rfl (fun H locs hP hD hS => ?_)
  refine lv_iinc (v := 11) (lv' := [(2, .int 11), (0, .ref b), (1, .int 5)]) hx hb dX2_untell_50 hl (k := 0) rfl (by decide) (by decide) rfl (fun ls hl => ?_)
  refine lv_goto (tgt := 26) hx hb dX2_untell_53 (by decide) ?_
  refine lv_iload_n hx hb dX2_untell_26 rfl (lv_at hl 0 rfl) ?_
  refine lv_iconst (v := 2) hx hb dX2_untell_27 (by decide) ?_
  refine lv_iload_n hx hb dX2_untell_28 rfl (lv_at hl 2 rfl) ?_
  refine r_imul (v := 10) F dX2_untell_29 (by decide) ?_
  refine lv_iconst (v := 1) hx hb dX2_untell_30 (by decide) ?_
  refine r_iadd (v := 11) F dX2_untell_31 (by decide) ?_
  refine lv_icmp_gt (tgt := 56) hx hb dX2_untell_32 (by decide) (fun h9 => absurd h9 (by decide)) (fun _ => ?_)
  refine lv_aload_n hx hb dX2_untell_35 rfl (lv_at hl 1 rfl) ?_
  refine r_get F hK hP 0 7 rfl rfl in_X2 (by decide) k_165 rfl dX2_untell_36 ?_
  refine lv_iload_n hx hb dX2_untell_39 rfl (lv_at hl 0 rfl) ?_
  refine lv_bipush (v := (-2)) hx hb dX2_untell_40 (by decide) ?_
  refine r_iastX F hK hP hD hS 4 0 rfl rfl (bw_vin (by decide)) dX2_untell_42 (w1 := fun f5 => [(b, .inr (2, [.int Lx, .ref (q 0), .ref (q 1), .ref (q 2), .ref (q 3), .ref (q 4), .ref (q 5), .ref (q 6), .ref (q 7)])), ((q 0), .inl (cI, 10, .inl f1)), ((q 1), .inl (cI, 10, .inl f2)), ((q 2), .inl (cI, 10, .inl f3)), ((q 6), .inl (cI, 20, .inl f5)), ((q 7), .inl (cI, 20, .inl (fun _ => 0)))]) (fun _ => rfl) (fun f5 H locs hP hD hS => ?_)
  refine lv_aload_n hx hb dX2_untell_43 rfl (lv_at hl 1 rfl) ?_
  refine r_get F hK hP 0 8 rfl rfl in_X2 (by decide) k_169 rfl dX2_untell_44 ?_
  refine lv_iload_n hx hb dX2_untell_47 rfl (lv_at hl 0 rfl) ?_
  refine lv_iconst (v := 0) hx hb dX2_untell_48 (by decide) ?_
  refine r_iast F hK hP hD hS 5 0 rfl rfl (bw_vin (by decide)) dX2_untell_49 bw_upd0 (w1 := [(b, .inr (2, [.int Lx, .ref (q 0), .ref (q 1), .ref (q 2), .ref (q 3), .ref (q 4), .ref (q 5), .ref (q 6), .ref (q 7)])), ((q 0), .inl (cI, 10, .inl f1)), ((q 1), .inl (cI, 10, .inl f2)), ((q 2), .inl (cI, 10, .inl f3)), ((q 6), .inl (cI, 20, .inl f5)), ((q 7), .inl (cI, 20, .inl (fun _ => 0)))]) rfl (fun H locs hP hD hS => ?_)
  refine lv_iinc (v := 12) (lv' := [(2, .int 12), (0, .ref b), (1, .int 5)]) hx hb dX2_untell_50 hl (k := 0) rfl (by decide) (by decide) rfl (fun ls hl => ?_)
  refine lv_goto (tgt := 26) hx hb dX2_untell_53 (by decide) ?_
  refine lv_iload_n hx hb dX2_untell_26 rfl (lv_at hl 0 rfl) ?_
  refine lv_iconst (v := 2) hx hb dX2_untell_27 (by decide) ?_
  refine lv_iload_n hx hb dX2_untell_28 rfl (lv_at hl 2 rfl) ?_
  refine r_imul (v := 10) F dX2_untell_29 (by decide) ?_
  refine lv_iconst (v := 1) hx hb dX2_untell_30 (by decide) ?_
  refine r_iadd (v := 11) F dX2_untell_31 (by decide) ?_
  refine lv_icmp_gt (tgt := 56) hx hb dX2_untell_32 (by decide) (fun _ => ?_) (fun h9 => absurd (by decide) h9)
  exact ret (fun _ => 0, (fun k => [f1, f2, f3, f5].getD k (fun _ => 0))) _ _ _ _ _ _ trivial (bw_subP (isC := [0, 1, 2, 3, 4, 5]) hP rfl) (hD.sub [0, 1, 2, 3, 4, 5] (by decide) rfl) hS (Nat.le_of_ble_eq_true rfl) (Nat.le_of_ble_eq_true rfl) dX2_untell_56
abbrev rm_X2_untell_6 : Room := { frames := 0, cells := 0, slots := 0, locals := 0 }
set_option maxRecDepth 100000 in
set_option maxHeartbeats 4000000 in
theorem c_X2_untell_6 {l : Launch} {E : (Nat → Prop) → State → Prop} (hO : bw_Ok E) {G : va_G} {cI cB cJ cN cW : ClassId} (b : Nat) (q : Nat → Nat) (Lx : Int32) (f : Nat → Nat → Int32) : bw_Cv (S := bw_U) l yX2_untell (bw_ws (Cond.code yX2_untell cX2_untell 3 none)) rm_X2_untell_6 E G (bw_kt cI cB cJ cN cW) [.ref b, .int 6] [(b, .inr (2, [.int Lx, .ref (q 0), .ref (q 1), .ref (q 2), .ref (q 3), .ref (q 4), .ref (q 5), .ref (q 6), .ref (q 7)])), ((q 0), .inl (cI, 10, .inl (f 0))), ((q 1), .inl (cI, 10, .inl (f 1))), ((q 2), .inl (cI, 10, .inl (f 2))), ((q 6), .inl (cI, 20, .inl (f 3))), ((q 7), .inl (cI, 20, .inl (fun _ => 0)))] (fun _ => True) (fun u => [(b, .inr (2, [.int Lx, .ref (q 0), .ref (q 1), .ref (q 2), .ref (q 3), .ref (q 4), .ref (q 5), .ref (q 6), .ref (q 7)])), ((q 0), .inl (cI, 10, .inl (u.2 0))), ((q 1), .inl (cI, 10, .inl (u.2 1))), ((q 2), .inl (cI, 10, .inl (u.2 2))), ((q 6), .inl (cI, 20, .inl (u.2 3))), ((q 7), .inl (cI, 20, .inl (fun _ => 0)))]) := by
  refine bw_Cv.of (cc := cX2_untell) (maxL := 3) (by decide) rfl (Nat.le_of_ble_eq_true rfl) ?_
  intro p e s m below meth c A Q hx hb hml hts hown hin hK hA hS hP hD hE ret ls hl
  have F : CallFix p m c cX2_untell 3 s ([.ref b, .int 6] : List Value).toArray bw_T RX2 := ⟨hx, hb, hml, hown, fun w h => hts w (List.mem_cons_of_mem _ h)⟩
  have hl : lv_has ls 3 [(0, .ref b), (1, .int 6)] := hl
  refine lv_aload_n hx hb dX2_untell_0 rfl (lv_at hl 0 rfl) ?_
  refine r_get F hK hP 0 1 rfl rfl in_X2 (by decide) k_147 rfl dX2_untell_1 ?_
  refine lv_iload_n hx hb dX2_untell_4 rfl (lv_at hl 1 rfl) ?_
  refine lv_iconst (v := (-1)) hx hb dX2_untell_5 (by decide) ?_
  refine r_iastX F hK hP hD hS 1 0 rfl rfl (bw_vin (by decide)) dX2_untell_6 (w1 := fun f1 => [(b, .inr (2, [.int Lx, .ref (q 0), .ref (q 1), .ref (q 2), .ref (q 3), .ref (q 4), .ref (q 5), .ref (q 6), .ref (q 7)])), ((q 0), .inl (cI, 10, .inl f1)), ((q 1), .inl (cI, 10, .inl (f 1))), ((q 2), .inl (cI, 10, .inl (f 2))), ((q 6), .inl (cI, 20, .inl (f 3))), ((q 7), .inl (cI, 20, .inl (fun _ => 0)))]) (fun _ => rfl) (fun f1 H locs hP hD hS => ?_)
  refine lv_aload_n hx hb dX2_untell_7 rfl (lv_at hl 0 rfl) ?_
  refine r_get F hK hP 0 2 rfl rfl in_X2 (by decide) k_150 rfl dX2_untell_8 ?_
  refine lv_iload_n hx hb dX2_untell_11 rfl (lv_at hl 1 rfl) ?_
  refine lv_bipush (v := (-2)) hx hb dX2_untell_12 (by decide) ?_
  refine r_iastX F hK hP hD hS 2 0 rfl rfl (bw_vin (by decide)) dX2_untell_14 (w1 := fun f2 => [(b, .inr (2, [.int Lx, .ref (q 0), .ref (q 1), .ref (q 2), .ref (q 3), .ref (q 4), .ref (q 5), .ref (q 6), .ref (q 7)])), ((q 0), .inl (cI, 10, .inl f1)), ((q 1), .inl (cI, 10, .inl f2)), ((q 2), .inl (cI, 10, .inl (f 2))), ((q 6), .inl (cI, 20, .inl (f 3))), ((q 7), .inl (cI, 20, .inl (fun _ => 0)))]) (fun _ => rfl) (fun f2 H locs hP hD hS => ?_)
  refine lv_aload_n hx hb dX2_untell_15 rfl (lv_at hl 0 rfl) ?_
  refine r_get F hK hP 0 3 rfl rfl in_X2 (by decide) k_153 rfl dX2_untell_16 ?_
  refine lv_iload_n hx hb dX2_untell_19 rfl (lv_at hl 1 rfl) ?_
  refine lv_iconst (v := 0) hx hb dX2_untell_20 (by decide) ?_
  refine r_iastX F hK hP hD hS 3 0 rfl rfl (bw_vin (by decide)) dX2_untell_21 (w1 := fun f3 => [(b, .inr (2, [.int Lx, .ref (q 0), .ref (q 1), .ref (q 2), .ref (q 3), .ref (q 4), .ref (q 5), .ref (q 6), .ref (q 7)])), ((q 0), .inl (cI, 10, .inl f1)), ((q 1), .inl (cI, 10, .inl f2)), ((q 2), .inl (cI, 10, .inl f3)), ((q 6), .inl (cI, 20, .inl (f 3))), ((q 7), .inl (cI, 20, .inl (fun _ => 0)))]) (fun _ => rfl) (fun f3 H locs hP hD hS => ?_)
  refine lv_iconst (v := 2) hx hb dX2_untell_22 (by decide) ?_
  refine lv_iload_n hx hb dX2_untell_23 rfl (lv_at hl 1 rfl) ?_
  refine r_imul (v := 12) F dX2_untell_24 (by decide) ?_
  refine lv_istore_n (lv' := [(2, .int 12), (0, .ref b), (1, .int 6)]) hx hb dX2_untell_25 rfl hl (by decide) rfl (fun ls hl => ?_)
  refine lv_iload_n hx hb dX2_untell_26 rfl (lv_at hl 0 rfl) ?_
  refine lv_iconst (v := 2) hx hb dX2_untell_27 (by decide) ?_
  refine lv_iload_n hx hb dX2_untell_28 rfl (lv_at hl 2 rfl) ?_
  refine r_imul (v := 12) F dX2_untell_29 (by decide) ?_
  refine lv_iconst (v := 1) hx hb dX2_untell_30 (by decide) ?_
  refine r_iadd (v := 13) F dX2_untell_31 (by decide) ?_
  refine lv_icmp_gt (tgt := 56) hx hb dX2_untell_32 (by decide) (fun h9 => absurd h9 (by decide)) (fun _ => ?_)
  refine lv_aload_n hx hb dX2_untell_35 rfl (lv_at hl 1 rfl) ?_
  refine r_get F hK hP 0 7 rfl rfl in_X2 (by decide) k_165 rfl dX2_untell_36 ?_
  refine lv_iload_n hx hb dX2_untell_39 rfl (lv_at hl 0 rfl) ?_
  refine lv_bipush (v := (-2)) hx hb dX2_untell_40 (by decide) ?_
  refine r_iastX F hK hP hD hS 4 0 rfl rfl (bw_vin (by decide)) dX2_untell_42 (w1 := fun f4 => [(b, .inr (2, [.int Lx, .ref (q 0), .ref (q 1), .ref (q 2), .ref (q 3), .ref (q 4), .ref (q 5), .ref (q 6), .ref (q 7)])), ((q 0), .inl (cI, 10, .inl f1)), ((q 1), .inl (cI, 10, .inl f2)), ((q 2), .inl (cI, 10, .inl f3)), ((q 6), .inl (cI, 20, .inl f4)), ((q 7), .inl (cI, 20, .inl (fun _ => 0)))]) (fun _ => rfl) (fun f4 H locs hP hD hS => ?_)
  refine lv_aload_n hx hb dX2_untell_43 rfl (lv_at hl 1 rfl) ?_
  refine r_get F hK hP 0 8 rfl rfl in_X2 (by decide) k_169 rfl dX2_untell_44 ?_
  refine lv_iload_n hx hb dX2_untell_47 rfl (lv_at hl 0 rfl) ?_
  refine lv_iconst (v := 0) hx hb dX2_untell_48 (by decide) ?_
  refine r_iast F hK hP hD hS 5 0 rfl rfl (bw_vin (by decide)) dX2_untell_49 bw_upd0 (w1 := [(b, .inr (2, [.int Lx, .ref (q 0), .ref (q 1), .ref (q 2), .ref (q 3), .ref (q 4), .ref (q 5), .ref (q 6), .ref (q 7)])), ((q 0), .inl (cI, 10, .inl f1)), ((q 1), .inl (cI, 10, .inl f2)), ((q 2), .inl (cI, 10, .inl f3)), ((q 6), .inl (cI, 20, .inl f4)), ((q 7), .inl (cI, 20, .inl (fun _ => 0)))]) rfl (fun H locs hP hD hS => ?_)
  refine lv_iinc (v := 13) (lv' := [(2, .int 13), (0, .ref b), (1, .int 6)]) hx hb dX2_untell_50 hl (k := 0) rfl (by decide) (by decide) rfl (fun ls hl => ?_)
  refine lv_goto (tgt := 26) hx hb dX2_untell_53 (by decide) ?_
  refine lv_iload_n hx hb dX2_untell_26 rfl (lv_at hl 0 rfl) ?_
  refine lv_iconst (v := 2) hx hb dX2_untell_27 (by decide) ?_
  refine lv_iload_n hx hb dX2_untell_28 rfl (lv_at hl 2 rfl) ?_
  refine r_imul (v := 12) F dX2_untell_29 (by decide) ?_
  refine lv_iconst (v := 1) hx hb dX2_untell_30 (by decide) ?_
  refine r_iadd (v := 13) F dX2_untell_31 (by decide) ?_
  refine lv_icmp_gt (tgt := 56) hx hb dX2_untell_32 (by decide) (fun h9 => absurd h9 (by decide)) (fun _ => ?_)
  refine lv_aload_n hx hb dX2_untell_35 rfl (lv_at hl 1 rfl) ?_
  refine r_get F hK hP 0 7 rfl rfl in_X2 (by decide) k_165 rfl dX2_untell_36 ?_
  refine lv_iload_n hx hb dX2_untell_39 rfl (lv_at hl 0 rfl) ?_
  refine lv_bipush (v := (-2)) hx hb dX2_untell_40 (by decide) ?_
  refine r_iastX F hK hP hD hS 4 0 rfl rfl (bw_vin (by decide)) dX2_untell_42 (w1 := fun f5 => [(b, .inr (2, [.int Lx, .ref (q 0), .ref (q 1), .ref (q 2), .ref (q 3), .ref (q 4), .ref (q 5), .ref (q 6), .ref (q 7)])), ((q 0), .inl (cI, 10, .inl f1)), ((q 1), .inl (cI, 10, .inl f2)), ((q 2), .inl (cI, 10, .inl f3)), ((q 6), .inl (cI, 20, .inl f5)), ((q 7), .inl (cI, 20, .inl (fun _ => 0)))]) (fun _ => rfl) (fun f5 H locs hP hD hS => ?_)
  refine lv_aload_n hx hb dX2_untell_43 rfl (lv_at hl 1 rfl) ?_
  refine r_get F hK hP 0 8 rfl rfl in_X2 (by decide) k_169 rfl dX2_untell_44 ?_
  refine lv_iload_n hx hb dX2_untell_47 rfl (lv_at hl 0 rfl) ?_
  refine lv_iconst (v := 0) hx hb dX2_untell_48 (by decide) ?_
  refine r_iast F hK hP hD hS 5 0 rfl rfl (bw_vin (by decide)) dX2_untell_49 bw_upd0 (w1 := [(b, .inr (2, [.int Lx, .ref (q 0), .ref (q 1), .ref (q 2), .ref (q 3), .ref (q 4), .ref (q 5), .ref (q 6), .ref (q 7)])), ((q 0), .inl (cI, 10, .inl f1)), ((q 1), .inl (cI, 10, .inl f2)), ((q 2), .inl (cI, 10, .inl f3)), ((q 6), .inl (cI, 20, .inl f5)), ((q 7), .inl (cI, 20, .inl (fun _ => 0)))]) rfl (fun H locs hP hD hS => ?_)
  refine lv_iinc (v := 14) (lv' := [(2, .int 14), (0, .ref b), (1, .int 6)]) hx hb dX2_untell_50 hl (k := 0) rfl (by decide) (by decide) rfl (fun ls hl => ?_)
  refine lv_goto (tgt := 26) hx hb dX2_untell_53 (by decide) ?_
  refine lv_iload_n hx hb dX2_untell_26 rfl (lv_at hl 0 rfl) ?_
  refine lv_iconst (v := 2) hx hb dX2_untell_27 (by decide) ?_
  refine lv_iload_n hx hb dX2_untell_28 rfl (lv_at hl 2 rfl) ?_
  refine r_imul (v := 12) F dX2_untell_29 (by decide) ?_
  refine lv_iconst (v := 1) hx hb dX2_untell_30 (by decide) ?_
  refine r_iadd (v := 13) F dX2_untell_31 (by decide) ?_
  refine lv_icmp_gt (tgt := 56) hx hb dX2_untell_32 (by decide) (fun _ => ?_) (fun h9 => absurd (by decide) h9)
  exact ret (fun _ => 0, (fun k => [f1, f2, f3, f5].getD k (fun _ => 0))) _ _ _ _ _ _ trivial (bw_subP (isC := [0, 1, 2, 3, 4, 5]) hP rfl) (hD.sub [0, 1, 2, 3, 4, 5] (by decide) rfl) hS (Nat.le_of_ble_eq_true rfl) (Nat.le_of_ble_eq_true rfl) dX2_untell_56
abbrev rm_X2_untell_7 : Room := { frames := 0, cells := 0, slots := 0, locals := 0 }
set_option maxRecDepth 100000 in
set_option maxHeartbeats 4000000 in
theorem c_X2_untell_7 {l : Launch} {E : (Nat → Prop) → State → Prop} (hO : bw_Ok E) {G : va_G} {cI cB cJ cN cW : ClassId} (b : Nat) (q : Nat → Nat) (Lx : Int32) (f : Nat → Nat → Int32) : bw_Cv (S := bw_U) l yX2_untell (bw_ws (Cond.code yX2_untell cX2_untell 3 none)) rm_X2_untell_7 E G (bw_kt cI cB cJ cN cW) [.ref b, .int 7] [(b, .inr (2, [.int Lx, .ref (q 0), .ref (q 1), .ref (q 2), .ref (q 3), .ref (q 4), .ref (q 5), .ref (q 6), .ref (q 7)])), ((q 0), .inl (cI, 10, .inl (f 0))), ((q 1), .inl (cI, 10, .inl (f 1))), ((q 2), .inl (cI, 10, .inl (f 2))), ((q 6), .inl (cI, 20, .inl (f 3))), ((q 7), .inl (cI, 20, .inl (fun _ => 0)))] (fun _ => True) (fun u => [(b, .inr (2, [.int Lx, .ref (q 0), .ref (q 1), .ref (q 2), .ref (q 3), .ref (q 4), .ref (q 5), .ref (q 6), .ref (q 7)])), ((q 0), .inl (cI, 10, .inl (u.2 0))), ((q 1), .inl (cI, 10, .inl (u.2 1))), ((q 2), .inl (cI, 10, .inl (u.2 2))), ((q 6), .inl (cI, 20, .inl (u.2 3))), ((q 7), .inl (cI, 20, .inl (fun _ => 0)))]) := by
  refine bw_Cv.of (cc := cX2_untell) (maxL := 3) (by decide) rfl (Nat.le_of_ble_eq_true rfl) ?_
  intro p e s m below meth c A Q hx hb hml hts hown hin hK hA hS hP hD hE ret ls hl
  have F : CallFix p m c cX2_untell 3 s ([.ref b, .int 7] : List Value).toArray bw_T RX2 := ⟨hx, hb, hml, hown, fun w h => hts w (List.mem_cons_of_mem _ h)⟩
  have hl : lv_has ls 3 [(0, .ref b), (1, .int 7)] := hl
  refine lv_aload_n hx hb dX2_untell_0 rfl (lv_at hl 0 rfl) ?_
  refine r_get F hK hP 0 1 rfl rfl in_X2 (by decide) k_147 rfl dX2_untell_1 ?_
  refine lv_iload_n hx hb dX2_untell_4 rfl (lv_at hl 1 rfl) ?_
  refine lv_iconst (v := (-1)) hx hb dX2_untell_5 (by decide) ?_
  refine r_iastX F hK hP hD hS 1 0 rfl rfl (bw_vin (by decide)) dX2_untell_6 (w1 := fun f1 => [(b, .inr (2, [.int Lx, .ref (q 0), .ref (q 1), .ref (q 2), .ref (q 3), .ref (q 4), .ref (q 5), .ref (q 6), .ref (q 7)])), ((q 0), .inl (cI, 10, .inl f1)), ((q 1), .inl (cI, 10, .inl (f 1))), ((q 2), .inl (cI, 10, .inl (f 2))), ((q 6), .inl (cI, 20, .inl (f 3))), ((q 7), .inl (cI, 20, .inl (fun _ => 0)))]) (fun _ => rfl) (fun f1 H locs hP hD hS => ?_)
  refine lv_aload_n hx hb dX2_untell_7 rfl (lv_at hl 0 rfl) ?_
  refine r_get F hK hP 0 2 rfl rfl in_X2 (by decide) k_150 rfl dX2_untell_8 ?_
  refine lv_iload_n hx hb dX2_untell_11 rfl (lv_at hl 1 rfl) ?_
  refine lv_bipush (v := (-2)) hx hb dX2_untell_12 (by decide) ?_
  refine r_iastX F hK hP hD hS 2 0 rfl rfl (bw_vin (by decide)) dX2_untell_14 (w1 := fun f2 => [(b, .inr (2, [.int Lx, .ref (q 0), .ref (q 1), .ref (q 2), .ref (q 3), .ref (q 4), .ref (q 5), .ref (q 6), .ref (q 7)])), ((q 0), .inl (cI, 10, .inl f1)), ((q 1), .inl (cI, 10, .inl f2)), ((q 2), .inl (cI, 10, .inl (f 2))), ((q 6), .inl (cI, 20, .inl (f 3))), ((q 7), .inl (cI, 20, .inl (fun _ => 0)))]) (fun _ => rfl) (fun f2 H locs hP hD hS => ?_)
  refine lv_aload_n hx hb dX2_untell_15 rfl (lv_at hl 0 rfl) ?_
  refine r_get F hK hP 0 3 rfl rfl in_X2 (by decide) k_153 rfl dX2_untell_16 ?_
  refine lv_iload_n hx hb dX2_untell_19 rfl (lv_at hl 1 rfl) ?_
  refine lv_iconst (v := 0) hx hb dX2_untell_20 (by decide) ?_
  refine r_iastX F hK hP hD hS 3 0 rfl rfl (bw_vin (by decide)) dX2_untell_21 (w1 := fun f3 => [(b, .inr (2, [.int Lx, .ref (q 0), .ref (q 1), .ref (q 2), .ref (q 3), .ref (q 4), .ref (q 5), .ref (q 6), .ref (q 7)])), ((q 0), .inl (cI, 10, .inl f1)), ((q 1), .inl (cI, 10, .inl f2)), ((q 2), .inl (cI, 10, .inl f3)), ((q 6), .inl (cI, 20, .inl (f 3))), ((q 7), .inl (cI, 20, .inl (fun _ => 0)))]) (fun _ => rfl) (fun f3 H locs hP hD hS => ?_)
  refine lv_iconst (v := 2) hx hb dX2_untell_22 (by decide) ?_
  refine lv_iload_n hx hb dX2_untell_23 rfl (lv_at hl 1 rfl) ?_
  refine r_imul (v := 14) F dX2_untell_24 (by decide) ?_
  refine lv_istore_n (lv' := [(2, .int 14), (0, .ref b), (1, .int 7)]) hx hb dX2_untell_25 rfl hl (by decide) rfl (fun ls hl => ?_)
  refine lv_iload_n hx hb dX2_untell_26 rfl (lv_at hl 0 rfl) ?_
  refine lv_iconst (v := 2) hx hb dX2_untell_27 (by decide) ?_
  refine lv_iload_n hx hb dX2_untell_28 rfl (lv_at hl 2 rfl) ?_
  refine r_imul (v := 14) F dX2_untell_29 (by decide) ?_
  refine lv_iconst (v := 1) hx hb dX2_untell_30 (by decide) ?_
  refine r_iadd (v := 15) F dX2_untell_31 (by decide) ?_
  refine lv_icmp_gt (tgt := 56) hx hb dX2_untell_32 (by decide) (fun h9 => absurd h9 (by decide)) (fun _ => ?_)
  refine lv_aload_n hx hb dX2_untell_35 rfl (lv_at hl 1 rfl) ?_
  refine r_get F hK hP 0 7 rfl rfl in_X2 (by decide) k_165 rfl dX2_untell_36 ?_
  refine lv_iload_n hx hb dX2_untell_39 rfl (lv_at hl 0 rfl) ?_
  refine lv_bipush (v := (-2)) hx hb dX2_untell_40 (by decide) ?_
  refine r_iastX F hK hP hD hS 4 0 rfl rfl (bw_vin (by decide)) dX2_untell_42 (w1 := fun f4 => [(b, .inr (2, [.int Lx, .ref (q 0), .ref (q 1), .ref (q 2), .ref (q 3), .ref (q 4), .ref (q 5), .ref (q 6), .ref (q 7)])), ((q 0), .inl (cI, 10, .inl f1)), ((q 1), .inl (cI, 10, .inl f2)), ((q 2), .inl (cI, 10, .inl f3)), ((q 6), .inl (cI, 20, .inl f4)), ((q 7), .inl (cI, 20, .inl (fun _ => 0)))]) (fun _ => rfl) (fun f4 H locs hP hD hS => ?_)
  refine lv_aload_n hx hb dX2_untell_43 rfl (lv_at hl 1 rfl) ?_
  refine r_get F hK hP 0 8 rfl rfl in_X2 (by decide) k_169 rfl dX2_untell_44 ?_
  refine lv_iload_n hx hb dX2_untell_47 rfl (lv_at hl 0 rfl) ?_
  refine lv_iconst (v := 0) hx hb dX2_untell_48 (by decide) ?_
  refine r_iast F hK hP hD hS 5 0 rfl rfl (bw_vin (by decide)) dX2_untell_49 bw_upd0 (w1 := [(b, .inr (2, [.int Lx, .ref (q 0), .ref (q 1), .ref (q 2), .ref (q 3), .ref (q 4), .ref (q 5), .ref (q 6), .ref (q 7)])), ((q 0), .inl (cI, 10, .inl f1)), ((q 1), .inl (cI, 10, .inl f2)), ((q 2), .inl (cI, 10, .inl f3)), ((q 6), .inl (cI, 20, .inl f4)), ((q 7), .inl (cI, 20, .inl (fun _ => 0)))]) rfl (fun H locs hP hD hS => ?_)
  refine lv_iinc (v := 15) (lv' := [(2, .int 15), (0, .ref b), (1, .int 7)]) hx hb dX2_untell_50 hl (k := 0) rfl (by decide) (by decide) rfl (fun ls hl => ?_)
  refine lv_goto (tgt := 26) hx hb dX2_untell_53 (by decide) ?_
  refine lv_iload_n hx hb dX2_untell_26 rfl (lv_at hl 0 rfl) ?_
  refine lv_iconst (v := 2) hx hb dX2_untell_27 (by decide) ?_
  refine lv_iload_n hx hb dX2_untell_28 rfl (lv_at hl 2 rfl) ?_
  refine r_imul (v := 14) F dX2_untell_29 (by decide) ?_
  refine lv_iconst (v := 1) hx hb dX2_untell_30 (by decide) ?_
  refine r_iadd (v := 15) F dX2_untell_31 (by decide) ?_
  refine lv_icmp_gt (tgt := 56) hx hb dX2_untell_32 (by decide) (fun h9 => absurd h9 (by decide)) (fun _ => ?_)
  refine lv_aload_n hx hb dX2_untell_35 rfl (lv_at hl 1 rfl) ?_
  refine r_get F hK hP 0 7 rfl rfl in_X2 (by decide) k_165 rfl dX2_untell_36 ?_
  refine lv_iload_n hx hb dX2_untell_39 rfl (lv_at hl 0 rfl) ?_
  refine lv_bipush (v := (-2)) hx hb dX2_untell_40 (by decide) ?_
  refine r_iastX F hK hP hD hS 4 0 rfl rfl (bw_vin (by decide)) dX2_untell_42 (w1 := fun f5 => [(b, .inr (2, [.int Lx, .ref (q 0), .ref (q 1), .ref (q 2), .ref (q 3), .ref (q 4), .ref (q 5), .ref (q 6), .ref (q 7)])), ((q 0), .inl (cI, 10, .inl f1)), ((q 1), .inl (cI, 10, .inl f2)), ((q 2), .inl (cI, 10, .inl f3)), ((q 6), .inl (cI, 20, .inl f5)), ((q 7), .inl (cI, 20, .inl (fun _ => 0)))]) (fun _ => rfl) (fun f5 H locs hP hD hS => ?_)
  refine lv_aload_n hx hb dX2_untell_43 rfl (lv_at hl 1 rfl) ?_
  refine r_get F hK hP 0 8 rfl rfl in_X2 (by decide) k_169 rfl dX2_untell_44 ?_
  refine lv_iload_n hx hb dX2_untell_47 rfl (lv_at hl 0 rfl) ?_
  refine lv_iconst (v := 0) hx hb dX2_untell_48 (by decide) ?_
  refine r_iast F hK hP hD hS 5 0 rfl rfl (bw_vin (by decide)) dX2_untell_49 bw_upd0 (w1 := [(b, .inr (2, [.int Lx, .ref (q 0), .ref (q 1), .ref (q 2), .ref (q 3), .ref (q 4), .ref (q 5), .ref (q 6), .ref (q 7)])), ((q 0), .inl (cI, 10, .inl f1)), ((q 1), .inl (cI, 10, .inl f2)), ((q 2), .inl (cI, 10, .inl f3)), ((q 6), .inl (cI, 20, .inl f5)), ((q 7), .inl (cI, 20, .inl (fun _ => 0)))]) rfl (fun H locs hP hD hS => ?_)
  refine lv_iinc (v := 16) (lv' := [(2, .int 16), (0, .ref b), (1, .int 7)]) hx hb dX2_untell_50 hl (k := 0) rfl (by decide) (by decide) rfl (fun ls hl => ?_)
  refine lv_goto (tgt := 26) hx hb dX2_untell_53 (by decide) ?_
  refine lv_iload_n hx hb dX2_untell_26 rfl (lv_at hl 0 rfl) ?_
  refine lv_iconst (v := 2) hx hb dX2_untell_27 (by decide) ?_
  refine lv_iload_n hx hb dX2_untell_28 rfl (lv_at hl 2 rfl) ?_
  refine r_imul (v := 14) F dX2_untell_29 (by decide) ?_
  refine lv_iconst (v := 1) hx hb dX2_untell_30 (by decide) ?_
  refine r_iadd (v := 15) F dX2_untell_31 (by decide) ?_
  refine lv_icmp_gt (tgt := 56) hx hb dX2_untell_32 (by decide) (fun _ => ?_) (fun h9 => absurd (by decide) h9)
  exact ret (fun _ => 0, (fun k => [f1, f2, f3, f5].getD k (fun _ => 0))) _ _ _ _ _ _ trivial (bw_subP (isC := [0, 1, 2, 3, 4, 5]) hP rfl) (hD.sub [0, 1, 2, 3, 4, 5] (by decide) rfl) hS (Nat.le_of_ble_eq_true rfl) (Nat.le_of_ble_eq_true rfl) dX2_untell_56
abbrev rm_X2_untell_8 : Room := { frames := 0, cells := 0, slots := 0, locals := 0 }
set_option maxRecDepth 100000 in
set_option maxHeartbeats 4000000 in
theorem c_X2_untell_8 {l : Launch} {E : (Nat → Prop) → State → Prop} (hO : bw_Ok E) {G : va_G} {cI cB cJ cN cW : ClassId} (b : Nat) (q : Nat → Nat) (Lx : Int32) (f : Nat → Nat → Int32) : bw_Cv (S := bw_U) l yX2_untell (bw_ws (Cond.code yX2_untell cX2_untell 3 none)) rm_X2_untell_8 E G (bw_kt cI cB cJ cN cW) [.ref b, .int 8] [(b, .inr (2, [.int Lx, .ref (q 0), .ref (q 1), .ref (q 2), .ref (q 3), .ref (q 4), .ref (q 5), .ref (q 6), .ref (q 7)])), ((q 0), .inl (cI, 10, .inl (f 0))), ((q 1), .inl (cI, 10, .inl (f 1))), ((q 2), .inl (cI, 10, .inl (f 2))), ((q 6), .inl (cI, 20, .inl (f 3))), ((q 7), .inl (cI, 20, .inl (fun _ => 0)))] (fun _ => True) (fun u => [(b, .inr (2, [.int Lx, .ref (q 0), .ref (q 1), .ref (q 2), .ref (q 3), .ref (q 4), .ref (q 5), .ref (q 6), .ref (q 7)])), ((q 0), .inl (cI, 10, .inl (u.2 0))), ((q 1), .inl (cI, 10, .inl (u.2 1))), ((q 2), .inl (cI, 10, .inl (u.2 2))), ((q 6), .inl (cI, 20, .inl (u.2 3))), ((q 7), .inl (cI, 20, .inl (fun _ => 0)))]) := by
  refine bw_Cv.of (cc := cX2_untell) (maxL := 3) (by decide) rfl (Nat.le_of_ble_eq_true rfl) ?_
  intro p e s m below meth c A Q hx hb hml hts hown hin hK hA hS hP hD hE ret ls hl
  have F : CallFix p m c cX2_untell 3 s ([.ref b, .int 8] : List Value).toArray bw_T RX2 := ⟨hx, hb, hml, hown, fun w h => hts w (List.mem_cons_of_mem _ h)⟩
  have hl : lv_has ls 3 [(0, .ref b), (1, .int 8)] := hl
  refine lv_aload_n hx hb dX2_untell_0 rfl (lv_at hl 0 rfl) ?_
  refine r_get F hK hP 0 1 rfl rfl in_X2 (by decide) k_147 rfl dX2_untell_1 ?_
  refine lv_iload_n hx hb dX2_untell_4 rfl (lv_at hl 1 rfl) ?_
  refine lv_iconst (v := (-1)) hx hb dX2_untell_5 (by decide) ?_
  refine r_iastX F hK hP hD hS 1 0 rfl rfl (bw_vin (by decide)) dX2_untell_6 (w1 := fun f1 => [(b, .inr (2, [.int Lx, .ref (q 0), .ref (q 1), .ref (q 2), .ref (q 3), .ref (q 4), .ref (q 5), .ref (q 6), .ref (q 7)])), ((q 0), .inl (cI, 10, .inl f1)), ((q 1), .inl (cI, 10, .inl (f 1))), ((q 2), .inl (cI, 10, .inl (f 2))), ((q 6), .inl (cI, 20, .inl (f 3))), ((q 7), .inl (cI, 20, .inl (fun _ => 0)))]) (fun _ => rfl) (fun f1 H locs hP hD hS => ?_)
  refine lv_aload_n hx hb dX2_untell_7 rfl (lv_at hl 0 rfl) ?_
  refine r_get F hK hP 0 2 rfl rfl in_X2 (by decide) k_150 rfl dX2_untell_8 ?_
  refine lv_iload_n hx hb dX2_untell_11 rfl (lv_at hl 1 rfl) ?_
  refine lv_bipush (v := (-2)) hx hb dX2_untell_12 (by decide) ?_
  refine r_iastX F hK hP hD hS 2 0 rfl rfl (bw_vin (by decide)) dX2_untell_14 (w1 := fun f2 => [(b, .inr (2, [.int Lx, .ref (q 0), .ref (q 1), .ref (q 2), .ref (q 3), .ref (q 4), .ref (q 5), .ref (q 6), .ref (q 7)])), ((q 0), .inl (cI, 10, .inl f1)), ((q 1), .inl (cI, 10, .inl f2)), ((q 2), .inl (cI, 10, .inl (f 2))), ((q 6), .inl (cI, 20, .inl (f 3))), ((q 7), .inl (cI, 20, .inl (fun _ => 0)))]) (fun _ => rfl) (fun f2 H locs hP hD hS => ?_)
  refine lv_aload_n hx hb dX2_untell_15 rfl (lv_at hl 0 rfl) ?_
  refine r_get F hK hP 0 3 rfl rfl in_X2 (by decide) k_153 rfl dX2_untell_16 ?_
  refine lv_iload_n hx hb dX2_untell_19 rfl (lv_at hl 1 rfl) ?_
  refine lv_iconst (v := 0) hx hb dX2_untell_20 (by decide) ?_
  refine r_iastX F hK hP hD hS 3 0 rfl rfl (bw_vin (by decide)) dX2_untell_21 (w1 := fun f3 => [(b, .inr (2, [.int Lx, .ref (q 0), .ref (q 1), .ref (q 2), .ref (q 3), .ref (q 4), .ref (q 5), .ref (q 6), .ref (q 7)])), ((q 0), .inl (cI, 10, .inl f1)), ((q 1), .inl (cI, 10, .inl f2)), ((q 2), .inl (cI, 10, .inl f3)), ((q 6), .inl (cI, 20, .inl (f 3))), ((q 7), .inl (cI, 20, .inl (fun _ => 0)))]) (fun _ => rfl) (fun f3 H locs hP hD hS => ?_)
  refine lv_iconst (v := 2) hx hb dX2_untell_22 (by decide) ?_
  refine lv_iload_n hx hb dX2_untell_23 rfl (lv_at hl 1 rfl) ?_
  refine r_imul (v := 16) F dX2_untell_24 (by decide) ?_
  refine lv_istore_n (lv' := [(2, .int 16), (0, .ref b), (1, .int 8)]) hx hb dX2_untell_25 rfl hl (by decide) rfl (fun ls hl => ?_)
  refine lv_iload_n hx hb dX2_untell_26 rfl (lv_at hl 0 rfl) ?_
  refine lv_iconst (v := 2) hx hb dX2_untell_27 (by decide) ?_
  refine lv_iload_n hx hb dX2_untell_28 rfl (lv_at hl 2 rfl) ?_
  refine r_imul (v := 16) F dX2_untell_29 (by decide) ?_
  refine lv_iconst (v := 1) hx hb dX2_untell_30 (by decide) ?_
  refine r_iadd (v := 17) F dX2_untell_31 (by decide) ?_
  refine lv_icmp_gt (tgt := 56) hx hb dX2_untell_32 (by decide) (fun h9 => absurd h9 (by decide)) (fun _ => ?_)
  refine lv_aload_n hx hb dX2_untell_35 rfl (lv_at hl 1 rfl) ?_
  refine r_get F hK hP 0 7 rfl rfl in_X2 (by decide) k_165 rfl dX2_untell_36 ?_
  refine lv_iload_n hx hb dX2_untell_39 rfl (lv_at hl 0 rfl) ?_
  refine lv_bipush (v := (-2)) hx hb dX2_untell_40 (by decide) ?_
  refine r_iastX F hK hP hD hS 4 0 rfl rfl (bw_vin (by decide)) dX2_untell_42 (w1 := fun f4 => [(b, .inr (2, [.int Lx, .ref (q 0), .ref (q 1), .ref (q 2), .ref (q 3), .ref (q 4), .ref (q 5), .ref (q 6), .ref (q 7)])), ((q 0), .inl (cI, 10, .inl f1)), ((q 1), .inl (cI, 10, .inl f2)), ((q 2), .inl (cI, 10, .inl f3)), ((q 6), .inl (cI, 20, .inl f4)), ((q 7), .inl (cI, 20, .inl (fun _ => 0)))]) (fun _ => rfl) (fun f4 H locs hP hD hS => ?_)
  refine lv_aload_n hx hb dX2_untell_43 rfl (lv_at hl 1 rfl) ?_
  refine r_get F hK hP 0 8 rfl rfl in_X2 (by decide) k_169 rfl dX2_untell_44 ?_
  refine lv_iload_n hx hb dX2_untell_47 rfl (lv_at hl 0 rfl) ?_
  refine lv_iconst (v := 0) hx hb dX2_untell_48 (by decide) ?_
  refine r_iast F hK hP hD hS 5 0 rfl rfl (bw_vin (by decide)) dX2_untell_49 bw_upd0 (w1 := [(b, .inr (2, [.int Lx, .ref (q 0), .ref (q 1), .ref (q 2), .ref (q 3), .ref (q 4), .ref (q 5), .ref (q 6), .ref (q 7)])), ((q 0), .inl (cI, 10, .inl f1)), ((q 1), .inl (cI, 10, .inl f2)), ((q 2), .inl (cI, 10, .inl f3)), ((q 6), .inl (cI, 20, .inl f4)), ((q 7), .inl (cI, 20, .inl (fun _ => 0)))]) rfl (fun H locs hP hD hS => ?_)
  refine lv_iinc (v := 17) (lv' := [(2, .int 17), (0, .ref b), (1, .int 8)]) hx hb dX2_untell_50 hl (k := 0) rfl (by decide) (by decide) rfl (fun ls hl => ?_)
  refine lv_goto (tgt := 26) hx hb dX2_untell_53 (by decide) ?_
  refine lv_iload_n hx hb dX2_untell_26 rfl (lv_at hl 0 rfl) ?_
  refine lv_iconst (v := 2) hx hb dX2_untell_27 (by decide) ?_
  refine lv_iload_n hx hb dX2_untell_28 rfl (lv_at hl 2 rfl) ?_
  refine r_imul (v := 16) F dX2_untell_29 (by decide) ?_
  refine lv_iconst (v := 1) hx hb dX2_untell_30 (by decide) ?_
  refine r_iadd (v := 17) F dX2_untell_31 (by decide) ?_
  refine lv_icmp_gt (tgt := 56) hx hb dX2_untell_32 (by decide) (fun h9 => absurd h9 (by decide)) (fun _ => ?_)
  refine lv_aload_n hx hb dX2_untell_35 rfl (lv_at hl 1 rfl) ?_
  refine r_get F hK hP 0 7 rfl rfl in_X2 (by decide) k_165 rfl dX2_untell_36 ?_
  refine lv_iload_n hx hb dX2_untell_39 rfl (lv_at hl 0 rfl) ?_
  refine lv_bipush (v := (-2)) hx hb dX2_untell_40 (by decide) ?_
  refine r_iastX F hK hP hD hS 4 0 rfl rfl (bw_vin (by decide)) dX2_untell_42 (w1 := fun f5 => [(b, .inr (2, [.int Lx, .ref (q 0), .ref (q 1), .ref (q 2), .ref (q 3), .ref (q 4), .ref (q 5), .ref (q 6), .ref (q 7)])), ((q 0), .inl (cI, 10, .inl f1)), ((q 1), .inl (cI, 10, .inl f2)), ((q 2), .inl (cI, 10, .inl f3)), ((q 6), .inl (cI, 20, .inl f5)), ((q 7), .inl (cI, 20, .inl (fun _ => 0)))]) (fun _ => rfl) (fun f5 H locs hP hD hS => ?_)
  refine lv_aload_n hx hb dX2_untell_43 rfl (lv_at hl 1 rfl) ?_
  refine r_get F hK hP 0 8 rfl rfl in_X2 (by decide) k_169 rfl dX2_untell_44 ?_
  refine lv_iload_n hx hb dX2_untell_47 rfl (lv_at hl 0 rfl) ?_
  refine lv_iconst (v := 0) hx hb dX2_untell_48 (by decide) ?_
  refine r_iast F hK hP hD hS 5 0 rfl rfl (bw_vin (by decide)) dX2_untell_49 bw_upd0 (w1 := [(b, .inr (2, [.int Lx, .ref (q 0), .ref (q 1), .ref (q 2), .ref (q 3), .ref (q 4), .ref (q 5), .ref (q 6), .ref (q 7)])), ((q 0), .inl (cI, 10, .inl f1)), ((q 1), .inl (cI, 10, .inl f2)), ((q 2), .inl (cI, 10, .inl f3)), ((q 6), .inl (cI, 20, .inl f5)), ((q 7), .inl (cI, 20, .inl (fun _ => 0)))]) rfl (fun H locs hP hD hS => ?_)
  refine lv_iinc (v := 18) (lv' := [(2, .int 18), (0, .ref b), (1, .int 8)]) hx hb dX2_untell_50 hl (k := 0) rfl (by decide) (by decide) rfl (fun ls hl => ?_)
  refine lv_goto (tgt := 26) hx hb dX2_untell_53 (by decide) ?_
  refine lv_iload_n hx hb dX2_untell_26 rfl (lv_at hl 0 rfl) ?_
  refine lv_iconst (v := 2) hx hb dX2_untell_27 (by decide) ?_
  refine lv_iload_n hx hb dX2_untell_28 rfl (lv_at hl 2 rfl) ?_
  refine r_imul (v := 16) F dX2_untell_29 (by decide) ?_
  refine lv_iconst (v := 1) hx hb dX2_untell_30 (by decide) ?_
  refine r_iadd (v := 17) F dX2_untell_31 (by decide) ?_
  refine lv_icmp_gt (tgt := 56) hx hb dX2_untell_32 (by decide) (fun _ => ?_) (fun h9 => absurd (by decide) h9)
  exact ret (fun _ => 0, (fun k => [f1, f2, f3, f5].getD k (fun _ => 0))) _ _ _ _ _ _ trivial (bw_subP (isC := [0, 1, 2, 3, 4, 5]) hP rfl) (hD.sub [0, 1, 2, 3, 4, 5] (by decide) rfl) hS (Nat.le_of_ble_eq_true rfl) (Nat.le_of_ble_eq_true rfl) dX2_untell_56
abbrev rm_X2_untell_9 : Room := { frames := 0, cells := 0, slots := 0, locals := 0 }
set_option maxRecDepth 100000 in
set_option maxHeartbeats 4000000 in
theorem c_X2_untell_9 {l : Launch} {E : (Nat → Prop) → State → Prop} (hO : bw_Ok E) {G : va_G} {cI cB cJ cN cW : ClassId} (b : Nat) (q : Nat → Nat) (Lx : Int32) (f : Nat → Nat → Int32) : bw_Cv (S := bw_U) l yX2_untell (bw_ws (Cond.code yX2_untell cX2_untell 3 none)) rm_X2_untell_9 E G (bw_kt cI cB cJ cN cW) [.ref b, .int 9] [(b, .inr (2, [.int Lx, .ref (q 0), .ref (q 1), .ref (q 2), .ref (q 3), .ref (q 4), .ref (q 5), .ref (q 6), .ref (q 7)])), ((q 0), .inl (cI, 10, .inl (f 0))), ((q 1), .inl (cI, 10, .inl (f 1))), ((q 2), .inl (cI, 10, .inl (f 2))), ((q 6), .inl (cI, 20, .inl (f 3))), ((q 7), .inl (cI, 20, .inl (fun _ => 0)))] (fun _ => True) (fun u => [(b, .inr (2, [.int Lx, .ref (q 0), .ref (q 1), .ref (q 2), .ref (q 3), .ref (q 4), .ref (q 5), .ref (q 6), .ref (q 7)])), ((q 0), .inl (cI, 10, .inl (u.2 0))), ((q 1), .inl (cI, 10, .inl (u.2 1))), ((q 2), .inl (cI, 10, .inl (u.2 2))), ((q 6), .inl (cI, 20, .inl (u.2 3))), ((q 7), .inl (cI, 20, .inl (fun _ => 0)))]) := by
  refine bw_Cv.of (cc := cX2_untell) (maxL := 3) (by decide) rfl (Nat.le_of_ble_eq_true rfl) ?_
  intro p e s m below meth c A Q hx hb hml hts hown hin hK hA hS hP hD hE ret ls hl
  have F : CallFix p m c cX2_untell 3 s ([.ref b, .int 9] : List Value).toArray bw_T RX2 := ⟨hx, hb, hml, hown, fun w h => hts w (List.mem_cons_of_mem _ h)⟩
  have hl : lv_has ls 3 [(0, .ref b), (1, .int 9)] := hl
  refine lv_aload_n hx hb dX2_untell_0 rfl (lv_at hl 0 rfl) ?_
  refine r_get F hK hP 0 1 rfl rfl in_X2 (by decide) k_147 rfl dX2_untell_1 ?_
  refine lv_iload_n hx hb dX2_untell_4 rfl (lv_at hl 1 rfl) ?_
  refine lv_iconst (v := (-1)) hx hb dX2_untell_5 (by decide) ?_
  refine r_iastX F hK hP hD hS 1 0 rfl rfl (bw_vin (by decide)) dX2_untell_6 (w1 := fun f1 => [(b, .inr (2, [.int Lx, .ref (q 0), .ref (q 1), .ref (q 2), .ref (q 3), .ref (q 4), .ref (q 5), .ref (q 6), .ref (q 7)])), ((q 0), .inl (cI, 10, .inl f1)), ((q 1), .inl (cI, 10, .inl (f 1))), ((q 2), .inl (cI, 10, .inl (f 2))), ((q 6), .inl (cI, 20, .inl (f 3))), ((q 7), .inl (cI, 20, .inl (fun _ => 0)))]) (fun _ => rfl) (fun f1 H locs hP hD hS => ?_)
  refine lv_aload_n hx hb dX2_untell_7 rfl (lv_at hl 0 rfl) ?_
  refine r_get F hK hP 0 2 rfl rfl in_X2 (by decide) k_150 rfl dX2_untell_8 ?_
  refine lv_iload_n hx hb dX2_untell_11 rfl (lv_at hl 1 rfl) ?_
  refine lv_bipush (v := (-2)) hx hb dX2_untell_12 (by decide) ?_
  refine r_iastX F hK hP hD hS 2 0 rfl rfl (bw_vin (by decide)) dX2_untell_14 (w1 := fun f2 => [(b, .inr (2, [.int Lx, .ref (q 0), .ref (q 1), .ref (q 2), .ref (q 3), .ref (q 4), .ref (q 5), .ref (q 6), .ref (q 7)])), ((q 0), .inl (cI, 10, .inl f1)), ((q 1), .inl (cI, 10, .inl f2)), ((q 2), .inl (cI, 10, .inl (f 2))), ((q 6), .inl (cI, 20, .inl (f 3))), ((q 7), .inl (cI, 20, .inl (fun _ => 0)))]) (fun _ => rfl) (fun f2 H locs hP hD hS => ?_)
  refine lv_aload_n hx hb dX2_untell_15 rfl (lv_at hl 0 rfl) ?_
  refine r_get F hK hP 0 3 rfl rfl in_X2 (by decide) k_153 rfl dX2_untell_16 ?_
  refine lv_iload_n hx hb dX2_untell_19 rfl (lv_at hl 1 rfl) ?_
  refine lv_iconst (v := 0) hx hb dX2_untell_20 (by decide) ?_
  refine r_iastX F hK hP hD hS 3 0 rfl rfl (bw_vin (by decide)) dX2_untell_21 (w1 := fun f3 => [(b, .inr (2, [.int Lx, .ref (q 0), .ref (q 1), .ref (q 2), .ref (q 3), .ref (q 4), .ref (q 5), .ref (q 6), .ref (q 7)])), ((q 0), .inl (cI, 10, .inl f1)), ((q 1), .inl (cI, 10, .inl f2)), ((q 2), .inl (cI, 10, .inl f3)), ((q 6), .inl (cI, 20, .inl (f 3))), ((q 7), .inl (cI, 20, .inl (fun _ => 0)))]) (fun _ => rfl) (fun f3 H locs hP hD hS => ?_)
  refine lv_iconst (v := 2) hx hb dX2_untell_22 (by decide) ?_
  refine lv_iload_n hx hb dX2_untell_23 rfl (lv_at hl 1 rfl) ?_
  refine r_imul (v := 18) F dX2_untell_24 (by decide) ?_
  refine lv_istore_n (lv' := [(2, .int 18), (0, .ref b), (1, .int 9)]) hx hb dX2_untell_25 rfl hl (by decide) rfl (fun ls hl => ?_)
  refine lv_iload_n hx hb dX2_untell_26 rfl (lv_at hl 0 rfl) ?_
  refine lv_iconst (v := 2) hx hb dX2_untell_27 (by decide) ?_
  refine lv_iload_n hx hb dX2_untell_28 rfl (lv_at hl 2 rfl) ?_
  refine r_imul (v := 18) F dX2_untell_29 (by decide) ?_
  refine lv_iconst (v := 1) hx hb dX2_untell_30 (by decide) ?_
  refine r_iadd (v := 19) F dX2_untell_31 (by decide) ?_
  refine lv_icmp_gt (tgt := 56) hx hb dX2_untell_32 (by decide) (fun h9 => absurd h9 (by decide)) (fun _ => ?_)
  refine lv_aload_n hx hb dX2_untell_35 rfl (lv_at hl 1 rfl) ?_
  refine r_get F hK hP 0 7 rfl rfl in_X2 (by decide) k_165 rfl dX2_untell_36 ?_
  refine lv_iload_n hx hb dX2_untell_39 rfl (lv_at hl 0 rfl) ?_
  refine lv_bipush (v := (-2)) hx hb dX2_untell_40 (by decide) ?_
  refine r_iastX F hK hP hD hS 4 0 rfl rfl (bw_vin (by decide)) dX2_untell_42 (w1 := fun f4 => [(b, .inr (2, [.int Lx, .ref (q 0), .ref (q 1), .ref (q 2), .ref (q 3), .ref (q 4), .ref (q 5), .ref (q 6), .ref (q 7)])), ((q 0), .inl (cI, 10, .inl f1)), ((q 1), .inl (cI, 10, .inl f2)), ((q 2), .inl (cI, 10, .inl f3)), ((q 6), .inl (cI, 20, .inl f4)), ((q 7), .inl (cI, 20, .inl (fun _ => 0)))]) (fun _ => rfl) (fun f4 H locs hP hD hS => ?_)
  refine lv_aload_n hx hb dX2_untell_43 rfl (lv_at hl 1 rfl) ?_
  refine r_get F hK hP 0 8 rfl rfl in_X2 (by decide) k_169 rfl dX2_untell_44 ?_
  refine lv_iload_n hx hb dX2_untell_47 rfl (lv_at hl 0 rfl) ?_
  refine lv_iconst (v := 0) hx hb dX2_untell_48 (by decide) ?_
  refine r_iast F hK hP hD hS 5 0 rfl rfl (bw_vin (by decide)) dX2_untell_49 bw_upd0 (w1 := [(b, .inr (2, [.int Lx, .ref (q 0), .ref (q 1), .ref (q 2), .ref (q 3), .ref (q 4), .ref (q 5), .ref (q 6), .ref (q 7)])), ((q 0), .inl (cI, 10, .inl f1)), ((q 1), .inl (cI, 10, .inl f2)), ((q 2), .inl (cI, 10, .inl f3)), ((q 6), .inl (cI, 20, .inl f4)), ((q 7), .inl (cI, 20, .inl (fun _ => 0)))]) rfl (fun H locs hP hD hS => ?_)
  refine lv_iinc (v := 19) (lv' := [(2, .int 19), (0, .ref b), (1, .int 9)]) hx hb dX2_untell_50 hl (k := 0) rfl (by decide) (by decide) rfl (fun ls hl => ?_)
  refine lv_goto (tgt := 26) hx hb dX2_untell_53 (by decide) ?_
  refine lv_iload_n hx hb dX2_untell_26 rfl (lv_at hl 0 rfl) ?_
  refine lv_iconst (v := 2) hx hb dX2_untell_27 (by decide) ?_
  refine lv_iload_n hx hb dX2_untell_28 rfl (lv_at hl 2 rfl) ?_
  refine r_imul (v := 18) F dX2_untell_29 (by decide) ?_
  refine lv_iconst (v := 1) hx hb dX2_untell_30 (by decide) ?_
  refine r_iadd (v := 19) F dX2_untell_31 (by decide) ?_
  refine lv_icmp_gt (tgt := 56) hx hb dX2_untell_32 (by decide) (fun h9 => absurd h9 (by decide)) (fun _ => ?_)
  refine lv_aload_n hx hb dX2_untell_35 rfl (lv_at hl 1 rfl) ?_
  refine r_get F hK hP 0 7 rfl rfl in_X2 (by decide) k_165 rfl dX2_untell_36 ?_
  refine lv_iload_n hx hb dX2_untell_39 rfl (lv_at hl 0 rfl) ?_
  refine lv_bipush (v := (-2)) hx hb dX2_untell_40 (by decide) ?_
  refine r_iastX F hK hP hD hS 4 0 rfl rfl (bw_vin (by decide)) dX2_untell_42 (w1 := fun f5 => [(b, .inr (2, [.int Lx, .ref (q 0), .ref (q 1), .ref (q 2), .ref (q 3), .ref (q 4), .ref (q 5), .ref (q 6), .ref (q 7)])), ((q 0), .inl (cI, 10, .inl f1)), ((q 1), .inl (cI, 10, .inl f2)), ((q 2), .inl (cI, 10, .inl f3)), ((q 6), .inl (cI, 20, .inl f5)), ((q 7), .inl (cI, 20, .inl (fun _ => 0)))]) (fun _ => rfl) (fun f5 H locs hP hD hS => ?_)
  refine lv_aload_n hx hb dX2_untell_43 rfl (lv_at hl 1 rfl) ?_
  refine r_get F hK hP 0 8 rfl rfl in_X2 (by decide) k_169 rfl dX2_untell_44 ?_
  refine lv_iload_n hx hb dX2_untell_47 rfl (lv_at hl 0 rfl) ?_
  refine lv_iconst (v := 0) hx hb dX2_untell_48 (by decide) ?_
  refine r_iast F hK hP hD hS 5 0 rfl rfl (bw_vin (by decide)) dX2_untell_49 bw_upd0 (w1 := [(b, .inr (2, [.int Lx, .ref (q 0), .ref (q 1), .ref (q 2), .ref (q 3), .ref (q 4), .ref (q 5), .ref (q 6), .ref (q 7)])), ((q 0), .inl (cI, 10, .inl f1)), ((q 1), .inl (cI, 10, .inl f2)), ((q 2), .inl (cI, 10, .inl f3)), ((q 6), .inl (cI, 20, .inl f5)), ((q 7), .inl (cI, 20, .inl (fun _ => 0)))]) rfl (fun H locs hP hD hS => ?_)
  refine lv_iinc (v := 20) (lv' := [(2, .int 20), (0, .ref b), (1, .int 9)]) hx hb dX2_untell_50 hl (k := 0) rfl (by decide) (by decide) rfl (fun ls hl => ?_)
  refine lv_goto (tgt := 26) hx hb dX2_untell_53 (by decide) ?_
  refine lv_iload_n hx hb dX2_untell_26 rfl (lv_at hl 0 rfl) ?_
  refine lv_iconst (v := 2) hx hb dX2_untell_27 (by decide) ?_
  refine lv_iload_n hx hb dX2_untell_28 rfl (lv_at hl 2 rfl) ?_
  refine r_imul (v := 18) F dX2_untell_29 (by decide) ?_
  refine lv_iconst (v := 1) hx hb dX2_untell_30 (by decide) ?_
  refine r_iadd (v := 19) F dX2_untell_31 (by decide) ?_
  refine lv_icmp_gt (tgt := 56) hx hb dX2_untell_32 (by decide) (fun _ => ?_) (fun h9 => absurd (by decide) h9)
  exact ret (fun _ => 0, (fun k => [f1, f2, f3, f5].getD k (fun _ => 0))) _ _ _ _ _ _ trivial (bw_subP (isC := [0, 1, 2, 3, 4, 5]) hP rfl) (hD.sub [0, 1, 2, 3, 4, 5] (by decide) rfl) hS (Nat.le_of_ble_eq_true rfl) (Nat.le_of_ble_eq_true rfl) dX2_untell_56
