theorem TrailOk.new : TrailOk (fun k => [0, -2].getD k 0) := by
  refine ⟨Or.inl rfl, ?_⟩
  show (-2 : Int) ≤ -2 ∧ (-2 : Int) ≤ 180
  omega
theorem dX5_init_0 : decode cX5_init 0 = .ok (.aload_n 0, 1) := bo_42 (by decide +kernel)
theorem dX5_init_1 : decode cX5_init 1 = .ok (.invokespecial 3, 3) := bo_183 0 3 (by decide +kernel)
theorem k_425 : Cond.methodLink RX5 3 Lib.objectInit ∈ bw_T := bw_m 425 (by decide +kernel) rfl
theorem dX5_init_4 : decode cX5_init 4 = .ok (.aload_n 0, 1) := bo_42 (by decide +kernel)
theorem dX5_init_5 : decode cX5_init 5 = .ok (.iconst 0, 1) := bo_3 (by decide +kernel)
theorem dX5_init_6 : decode cX5_init 6 = .ok (.putfield 9, 3) := bo_181 0 9 (by decide +kernel)
theorem dX5_init_9 : decode cX5_init 9 = .ok (.aload_n 0, 1) := bo_42 (by decide +kernel)
theorem dX5_init_10 : decode cX5_init 10 = .ok (.bipush (-2), 2) := bo_16 254 (by decide +kernel)
theorem dX5_init_12 : decode cX5_init 12 = .ok (.putfield 15, 3) := bo_181 0 15 (by decide +kernel)
theorem dX5_init_15 : decode cX5_init 15 = .ok (.aload_n 0, 1) := bo_42 (by decide +kernel)
theorem dX5_init_16 : decode cX5_init 16 = .ok (.sipush 180, 3) := bo_17 0 180 (by decide +kernel)
theorem dX5_init_19 : decode cX5_init 19 = .ok (.newarray .int, 2) := by decide +kernel
theorem dX5_init_21 : decode cX5_init 21 = .ok (.putfield 19, 3) := bo_181 0 19 (by decide +kernel)
theorem dX5_init_24 : decode cX5_init 24 = .ok (.aload_n 0, 1) := bo_42 (by decide +kernel)
theorem dX5_init_25 : decode cX5_init 25 = .ok (.bipush 20, 2) := bo_16 20 (by decide +kernel)
theorem dX5_init_27 : decode cX5_init 27 = .ok (.newarray .int, 2) := by decide +kernel
theorem dX5_init_29 : decode cX5_init 29 = .ok (.putfield 23, 3) := bo_181 0 23 (by decide +kernel)
theorem dX5_init_32 : decode cX5_init 32 = .ok (.return_, 1) := bo_177 (by decide +kernel)
abbrev rm_X5_init : Room := { frames := 1, cells := 2, slots := 200, locals := 12 }
set_option maxRecDepth 100000 in
set_option maxHeartbeats 8000000 in
theorem c_X5_init {l : Launch} {E : (Nat → Prop) → State → Prop} (hO : bw_Ok E) {G : va_G} {cI cB cJ cN cW : ClassId} (b : Nat) : bw_Cv (S := zU) l yX5_init (bw_ws (Cond.code yX5_init cX5_init 1 none)) rm_X5_init E G (bw_kt cI cB cJ cN cW) [.ref b] [(b, .inr (5, [.int (zI 0), .int (zI 0), .null, .null]))] (fun _ => True) (fun u => [(b, .inr (5, [.int (zI ((fun k => [0, -2].getD k 0) 0)), .int (zI ((fun k => [0, -2].getD k 0) 1)), .ref ((aU u 0) 0), .ref ((aU u 0) 1)])), (((aU u 0) 0), .inl (cI, 180, .inl (fun k => zI (((fun _ _ => 0) 0) k)))), (((aU u 0) 1), .inl (cI, 20, .inl (fun k => zI (((fun _ _ => 0) 1) k))))]) := by
  refine bw_Cv.of (cc := cX5_init) (maxL := 1) (by decide) rfl (Nat.le_of_ble_eq_true rfl) ?_
  intro p e s m below meth c A Q hx hb hml hts hown hin hK hA hS hP hD hE ret ls hl
  have F : CallFix p m c cX5_init 1 s ([.ref b] : List Value).toArray bw_T RX5 := ⟨hx, hb, hml, hown, fun w h => hts w (List.mem_cons_of_mem _ h)⟩
  replace hl : lv_has ls 1 [(0, .ref b)] := hl
  refine lv_aload_n hx hb dX5_init_0 rfl (lv_at hl 0 rfl) ?_
  refine r_objInit F k_425 k_oi k_oc hl.1 dX5_init_1 (Nat.le_of_ble_eq_true rfl) (Nat.le_of_ble_eq_true rfl) ?_
  refine lv_aload_n hx hb dX5_init_4 rfl (lv_at hl 0 rfl) ?_
  refine lv_iconst (v := zI 0) hx hb dX5_init_5 rfl ?_
  refine r_put F hK hP hD hS 0 0 rfl rfl in_X5 tyX5 tyX5_ok nmX5 (by decide) k_426 rfl (zI_nz (by omega)) (zI_fz (by omega)) (Nat.le_of_ble_eq_true rfl) dX5_init_6 (w1 := [(b, .inr (5, [.int (zI 0), .int (zI 0), .null, .null]))]) rfl (fun H locs hP hD hS => ?_)
  refine lv_aload_n hx hb dX5_init_9 rfl (lv_at hl 0 rfl) ?_
  refine lv_bipush (v := zI (-2)) hx hb dX5_init_10 (by decide) ?_
  refine r_put F hK hP hD hS 0 1 rfl rfl in_X5 tyX5 tyX5_ok nmX5 (by decide) k_428 rfl rfl rfl (Nat.le_of_ble_eq_true rfl) dX5_init_12 (w1 := [(b, .inr (5, [.int (zI 0), .int (zI (-2)), .null, .null]))]) rfl (fun H locs hP hD hS => ?_)
  refine lv_aload_n hx hb dX5_init_15 rfl (lv_at hl 0 rfl) ?_
  refine lv_sipush (v := zI 180) hx hb dX5_init_16 (by decide) ?_
  refine r_newa (atype := .int) (ty := .int) F rfl k_194 hK hP hD hS hA 0 rfl 180 (180, .inl (fun _ => 0)) (bw_cI 180) (by decide) (by decide) (bw_by (k := 4) rfl (by omega)) (Nat.le_of_ble_eq_true rfl) (Nat.le_of_ble_eq_true rfl) dX5_init_19 (w1 := fun q1 => [(b, .inr (5, [.int (zI 0), .int (zI (-2)), .null, .null])), (q1, .inl (cI, 180, .inl (fun k => zI ((fun _ => 0) k))))]) (fun _ => rfl) (fun q1 H hP hD hS => ?_)
  refine r_putF F hK hP hD hS 0 2 rfl rfl in_X5 tyX5 tyX5_ok nmX5 (by decide) k_430 rfl hin rfl rfl rfl (Nat.le_of_ble_eq_true rfl) dX5_init_21 (w1 := [(b, .inr (5, [.int (zI 0), .int (zI (-2)), .ref q1, .null])), (q1, .inl (cI, 180, .inl (fun k => zI ((fun _ => 0) k))))]) rfl (fun H locs hP hD hS => ?_)
  refine lv_aload_n hx hb dX5_init_24 rfl (lv_at hl 0 rfl) ?_
  refine lv_bipush (v := zI 20) hx hb dX5_init_25 (by decide) ?_
  refine r_newa (atype := .int) (ty := .int) F rfl k_194 hK hP hD hS hA 0 rfl 20 (20, .inl (fun _ => 0)) (bw_cI 20) (by decide) (by decide) (bw_by (k := 4) rfl (by omega)) (Nat.le_of_ble_eq_true rfl) (Nat.le_of_ble_eq_true rfl) dX5_init_27 (w1 := fun q2 => [(b, .inr (5, [.int (zI 0), .int (zI (-2)), .ref q1, .null])), (q1, .inl (cI, 180, .inl (fun k => zI ((fun _ => 0) k)))), (q2, .inl (cI, 20, .inl (fun k => zI ((fun _ => 0) k))))]) (fun _ => rfl) (fun q2 H hP hD hS => ?_)
  refine r_putF F hK hP hD hS 0 3 rfl rfl in_X5 tyX5 tyX5_ok nmX5 (by decide) k_432 rfl hin rfl rfl rfl (Nat.le_of_ble_eq_true rfl) dX5_init_29 (w1 := [(b, .inr (5, [.int (zI 0), .int (zI (-2)), .ref q1, .ref q2])), (q1, .inl (cI, 180, .inl (fun k => zI ((fun _ => 0) k)))), (q2, .inl (cI, 20, .inl (fun k => zI ((fun _ => 0) k))))]) rfl (fun H locs hP hD hS => ?_)
  exact ret (fun k => [(q1 : Int), (q2 : Int)].getD k 0, fun _ _ => 0) _ _ _ _ _ _ trivial (bw_subP (isC := [0, 1, 2]) hP rfl) (hD.sub [0, 1, 2] (by decide) rfl) hS (Nat.le_of_ble_eq_true rfl) (Nat.le_of_ble_eq_true rfl) dX5_init_32
theorem dX0_init_0 : decode cX0_init 0 = .ok (.aload_n 0, 1) := bo_42 (by decide +kernel)
theorem dX0_init_1 : decode cX0_init 1 = .ok (.invokespecial 3, 3) := bo_183 0 3 (by decide +kernel)
theorem k_447 : Cond.methodLink RX0 3 Lib.objectInit ∈ bw_T := bw_m 447 (by decide +kernel) rfl
theorem dX0_init_4 : decode cX0_init 4 = .ok (.aload_n 0, 1) := bo_42 (by decide +kernel)
theorem dX0_init_5 : decode cX0_init 5 = .ok (.bipush 10, 2) := bo_16 10 (by decide +kernel)
theorem dX0_init_7 : decode cX0_init 7 = .ok (.newarray .int, 2) := by decide +kernel
theorem dX0_init_9 : decode cX0_init 9 = .ok (.putfield 9, 3) := bo_181 0 9 (by decide +kernel)
theorem dX0_init_12 : decode cX0_init 12 = .ok (.aload_n 0, 1) := bo_42 (by decide +kernel)
theorem dX0_init_13 : decode cX0_init 13 = .ok (.bipush 30, 2) := bo_16 30 (by decide +kernel)
theorem dX0_init_15 : decode cX0_init 15 = .ok (.newarray .int, 2) := by decide +kernel
theorem dX0_init_17 : decode cX0_init 17 = .ok (.putfield 15, 3) := bo_181 0 15 (by decide +kernel)
theorem dX0_init_20 : decode cX0_init 20 = .ok (.aload_n 0, 1) := bo_42 (by decide +kernel)
theorem dX0_init_21 : decode cX0_init 21 = .ok (.iconst 3, 1) := bo_6 (by decide +kernel)
theorem dX0_init_22 : decode cX0_init 22 = .ok (.newarray .int, 2) := by decide +kernel
theorem dX0_init_24 : decode cX0_init 24 = .ok (.putfield 18, 3) := bo_181 0 18 (by decide +kernel)
theorem dX0_init_27 : decode cX0_init 27 = .ok (.aload_n 0, 1) := bo_42 (by decide +kernel)
theorem dX0_init_28 : decode cX0_init 28 = .ok (.iconst 3, 1) := bo_6 (by decide +kernel)
theorem dX0_init_29 : decode cX0_init 29 = .ok (.newarray .int, 2) := by decide +kernel
theorem dX0_init_31 : decode cX0_init 31 = .ok (.putfield 21, 3) := bo_181 0 21 (by decide +kernel)
theorem dX0_init_34 : decode cX0_init 34 = .ok (.aload_n 0, 1) := bo_42 (by decide +kernel)
theorem dX0_init_35 : decode cX0_init 35 = .ok (.iconst 3, 1) := bo_6 (by decide +kernel)
theorem dX0_init_36 : decode cX0_init 36 = .ok (.newarray .int, 2) := by decide +kernel
theorem dX0_init_38 : decode cX0_init 38 = .ok (.putfield 24, 3) := bo_181 0 24 (by decide +kernel)
theorem dX0_init_41 : decode cX0_init 41 = .ok (.aload_n 0, 1) := bo_42 (by decide +kernel)
theorem dX0_init_42 : decode cX0_init 42 = .ok (.iconst 3, 1) := bo_6 (by decide +kernel)
theorem dX0_init_43 : decode cX0_init 43 = .ok (.newarray .int, 2) := by decide +kernel
theorem dX0_init_45 : decode cX0_init 45 = .ok (.putfield 27, 3) := bo_181 0 27 (by decide +kernel)
theorem dX0_init_48 : decode cX0_init 48 = .ok (.aload_n 0, 1) := bo_42 (by decide +kernel)
theorem dX0_init_49 : decode cX0_init 49 = .ok (.bipush 6, 2) := bo_16 6 (by decide +kernel)
theorem dX0_init_51 : decode cX0_init 51 = .ok (.newarray .int, 2) := by decide +kernel
theorem dX0_init_53 : decode cX0_init 53 = .ok (.putfield 30, 3) := bo_181 0 30 (by decide +kernel)
theorem dX0_init_56 : decode cX0_init 56 = .ok (.return_, 1) := bo_177 (by decide +kernel)
abbrev rm_X0_init : Room := { frames := 1, cells := 7, slots := 58, locals := 12 }
set_option maxRecDepth 100000 in
set_option maxHeartbeats 8000000 in
theorem c_X0_init {l : Launch} {E : (Nat → Prop) → State → Prop} (hO : bw_Ok E) {G : va_G} {cI cB cJ cN cW : ClassId} (b : Nat) : bw_Cv (S := zU) l yX0_init (bw_ws (Cond.code yX0_init cX0_init 1 none)) rm_X0_init E G (bw_kt cI cB cJ cN cW) [.ref b] [(b, .inr (0, [.null, .null, .null, .null, .null, .null, .null]))] (fun _ => True) (fun u => [(b, .inr (0, [.ref ((aU u 0) 0), .ref ((aU u 0) 1), .ref ((aU u 0) 2), .ref ((aU u 0) 3), .ref ((aU u 0) 4), .ref ((aU u 0) 5), .ref ((aU u 0) 6)])), (((aU u 0) 0), .inl (cI, 10, .inl (fun k => zI (((fun _ _ => 0) 0) k)))), (((aU u 0) 1), .inl (cI, 30, .inl (fun k => zI (((fun _ _ => 0) 1) k)))), (((aU u 0) 2), .inl (cI, 3, .inl (fun k => zI (((fun _ _ => 0) 2) k)))), (((aU u 0) 3), .inl (cI, 3, .inl (fun k => zI (((fun _ _ => 0) 3) k)))), (((aU u 0) 4), .inl (cI, 3, .inl (fun k => zI (((fun _ _ => 0) 4) k)))), (((aU u 0) 5), .inl (cI, 3, .inl (fun k => zI (((fun _ _ => 0) 5) k)))), (((aU u 0) 6), .inl (cI, 6, .inl (fun k => zI (((fun _ _ => 0) 6) k))))]) := by
  refine bw_Cv.of (cc := cX0_init) (maxL := 1) (by decide) rfl (Nat.le_of_ble_eq_true rfl) ?_
  intro p e s m below meth c A Q hx hb hml hts hown hin hK hA hS hP hD hE ret ls hl
  have F : CallFix p m c cX0_init 1 s ([.ref b] : List Value).toArray bw_T RX0 := ⟨hx, hb, hml, hown, fun w h => hts w (List.mem_cons_of_mem _ h)⟩
  replace hl : lv_has ls 1 [(0, .ref b)] := hl
  refine lv_aload_n hx hb dX0_init_0 rfl (lv_at hl 0 rfl) ?_
  refine r_objInit F k_447 k_oi k_oc hl.1 dX0_init_1 (Nat.le_of_ble_eq_true rfl) (Nat.le_of_ble_eq_true rfl) ?_
  refine lv_aload_n hx hb dX0_init_4 rfl (lv_at hl 0 rfl) ?_
  refine lv_bipush (v := zI 10) hx hb dX0_init_5 (by decide) ?_
  refine r_newa (atype := .int) (ty := .int) F rfl k_194 hK hP hD hS hA 0 rfl 10 (10, .inl (fun _ => 0)) (bw_cI 10) (by decide) (by decide) (bw_by (k := 4) rfl (by omega)) (Nat.le_of_ble_eq_true rfl) (Nat.le_of_ble_eq_true rfl) dX0_init_7 (w1 := fun q1 => [(b, .inr (0, [.null, .null, .null, .null, .null, .null, .null])), (q1, .inl (cI, 10, .inl (fun k => zI ((fun _ => 0) k))))]) (fun _ => rfl) (fun q1 H hP hD hS => ?_)
  refine r_putF F hK hP hD hS 0 0 rfl rfl in_X0 tyX0 tyX0_ok nmX0 (by decide) k_448 rfl hin rfl rfl rfl (Nat.le_of_ble_eq_true rfl) dX0_init_9 (w1 := [(b, .inr (0, [.ref q1, .null, .null, .null, .null, .null, .null])), (q1, .inl (cI, 10, .inl (fun k => zI ((fun _ => 0) k))))]) rfl (fun H locs hP hD hS => ?_)
  refine lv_aload_n hx hb dX0_init_12 rfl (lv_at hl 0 rfl) ?_
  refine lv_bipush (v := zI 30) hx hb dX0_init_13 (by decide) ?_
  refine r_newa (atype := .int) (ty := .int) F rfl k_194 hK hP hD hS hA 0 rfl 30 (30, .inl (fun _ => 0)) (bw_cI 30) (by decide) (by decide) (bw_by (k := 4) rfl (by omega)) (Nat.le_of_ble_eq_true rfl) (Nat.le_of_ble_eq_true rfl) dX0_init_15 (w1 := fun q2 => [(b, .inr (0, [.ref q1, .null, .null, .null, .null, .null, .null])), (q1, .inl (cI, 10, .inl (fun k => zI ((fun _ => 0) k)))), (q2, .inl (cI, 30, .inl (fun k => zI ((fun _ => 0) k))))]) (fun _ => rfl) (fun q2 H hP hD hS => ?_)
  refine r_putF F hK hP hD hS 0 1 rfl rfl in_X0 tyX0 tyX0_ok nmX0 (by decide) k_449 rfl hin rfl rfl rfl (Nat.le_of_ble_eq_true rfl) dX0_init_17 (w1 := [(b, .inr (0, [.ref q1, .ref q2, .null, .null, .null, .null, .null])), (q1, .inl (cI, 10, .inl (fun k => zI ((fun _ => 0) k)))), (q2, .inl (cI, 30, .inl (fun k => zI ((fun _ => 0) k))))]) rfl (fun H locs hP hD hS => ?_)
  refine lv_aload_n hx hb dX0_init_20 rfl (lv_at hl 0 rfl) ?_
  refine lv_iconst (v := zI 3) hx hb dX0_init_21 rfl ?_
  refine r_newa (atype := .int) (ty := .int) F rfl k_194 hK hP hD hS hA 0 rfl 3 (3, .inl (fun _ => 0)) (bw_cI 3) (by decide) (by decide) (bw_by (k := 4) rfl (by omega)) (Nat.le_of_ble_eq_true rfl) (Nat.le_of_ble_eq_true rfl) dX0_init_22 (w1 := fun q3 => [(b, .inr (0, [.ref q1, .ref q2, .null, .null, .null, .null, .null])), (q1, .inl (cI, 10, .inl (fun k => zI ((fun _ => 0) k)))), (q2, .inl (cI, 30, .inl (fun k => zI ((fun _ => 0) k)))), (q3, .inl (cI, 3, .inl (fun k => zI ((fun _ => 0) k))))]) (fun _ => rfl) (fun q3 H hP hD hS => ?_)
  refine r_putF F hK hP hD hS 0 2 rfl rfl in_X0 tyX0 tyX0_ok nmX0 (by decide) k_450 rfl hin rfl rfl rfl (Nat.le_of_ble_eq_true rfl) dX0_init_24 (w1 := [(b, .inr (0, [.ref q1, .ref q2, .ref q3, .null, .null, .null, .null])), (q1, .inl (cI, 10, .inl (fun k => zI ((fun _ => 0) k)))), (q2, .inl (cI, 30, .inl (fun k => zI ((fun _ => 0) k)))), (q3, .inl (cI, 3, .inl (fun k => zI ((fun _ => 0) k))))]) rfl (fun H locs hP hD hS => ?_)
  refine lv_aload_n hx hb dX0_init_27 rfl (lv_at hl 0 rfl) ?_
  refine lv_iconst (v := zI 3) hx hb dX0_init_28 rfl ?_
  refine r_newa (atype := .int) (ty := .int) F rfl k_194 hK hP hD hS hA 0 rfl 3 (3, .inl (fun _ => 0)) (bw_cI 3) (by decide) (by decide) (bw_by (k := 4) rfl (by omega)) (Nat.le_of_ble_eq_true rfl) (Nat.le_of_ble_eq_true rfl) dX0_init_29 (w1 := fun q4 => [(b, .inr (0, [.ref q1, .ref q2, .ref q3, .null, .null, .null, .null])), (q1, .inl (cI, 10, .inl (fun k => zI ((fun _ => 0) k)))), (q2, .inl (cI, 30, .inl (fun k => zI ((fun _ => 0) k)))), (q3, .inl (cI, 3, .inl (fun k => zI ((fun _ => 0) k)))), (q4, .inl (cI, 3, .inl (fun k => zI ((fun _ => 0) k))))]) (fun _ => rfl) (fun q4 H hP hD hS => ?_)
  refine r_putF F hK hP hD hS 0 3 rfl rfl in_X0 tyX0 tyX0_ok nmX0 (by decide) k_451 rfl hin rfl rfl rfl (Nat.le_of_ble_eq_true rfl) dX0_init_31 (w1 := [(b, .inr (0, [.ref q1, .ref q2, .ref q3, .ref q4, .null, .null, .null])), (q1, .inl (cI, 10, .inl (fun k => zI ((fun _ => 0) k)))), (q2, .inl (cI, 30, .inl (fun k => zI ((fun _ => 0) k)))), (q3, .inl (cI, 3, .inl (fun k => zI ((fun _ => 0) k)))), (q4, .inl (cI, 3, .inl (fun k => zI ((fun _ => 0) k))))]) rfl (fun H locs hP hD hS => ?_)
  refine lv_aload_n hx hb dX0_init_34 rfl (lv_at hl 0 rfl) ?_
  refine lv_iconst (v := zI 3) hx hb dX0_init_35 rfl ?_
  refine r_newa (atype := .int) (ty := .int) F rfl k_194 hK hP hD hS hA 0 rfl 3 (3, .inl (fun _ => 0)) (bw_cI 3) (by decide) (by decide) (bw_by (k := 4) rfl (by omega)) (Nat.le_of_ble_eq_true rfl) (Nat.le_of_ble_eq_true rfl) dX0_init_36 (w1 := fun q5 => [(b, .inr (0, [.ref q1, .ref q2, .ref q3, .ref q4, .null, .null, .null])), (q1, .inl (cI, 10, .inl (fun k => zI ((fun _ => 0) k)))), (q2, .inl (cI, 30, .inl (fun k => zI ((fun _ => 0) k)))), (q3, .inl (cI, 3, .inl (fun k => zI ((fun _ => 0) k)))), (q4, .inl (cI, 3, .inl (fun k => zI ((fun _ => 0) k)))), (q5, .inl (cI, 3, .inl (fun k => zI ((fun _ => 0) k))))]) (fun _ => rfl) (fun q5 H hP hD hS => ?_)
  refine r_putF F hK hP hD hS 0 4 rfl rfl in_X0 tyX0 tyX0_ok nmX0 (by decide) k_452 rfl hin rfl rfl rfl (Nat.le_of_ble_eq_true rfl) dX0_init_38 (w1 := [(b, .inr (0, [.ref q1, .ref q2, .ref q3, .ref q4, .ref q5, .null, .null])), (q1, .inl (cI, 10, .inl (fun k => zI ((fun _ => 0) k)))), (q2, .inl (cI, 30, .inl (fun k => zI ((fun _ => 0) k)))), (q3, .inl (cI, 3, .inl (fun k => zI ((fun _ => 0) k)))), (q4, .inl (cI, 3, .inl (fun k => zI ((fun _ => 0) k)))), (q5, .inl (cI, 3, .inl (fun k => zI ((fun _ => 0) k))))]) rfl (fun H locs hP hD hS => ?_)
  refine lv_aload_n hx hb dX0_init_41 rfl (lv_at hl 0 rfl) ?_
  refine lv_iconst (v := zI 3) hx hb dX0_init_42 rfl ?_
  refine r_newa (atype := .int) (ty := .int) F rfl k_194 hK hP hD hS hA 0 rfl 3 (3, .inl (fun _ => 0)) (bw_cI 3) (by decide) (by decide) (bw_by (k := 4) rfl (by omega)) (Nat.le_of_ble_eq_true rfl) (Nat.le_of_ble_eq_true rfl) dX0_init_43 (w1 := fun q6 => [(b, .inr (0, [.ref q1, .ref q2, .ref q3, .ref q4, .ref q5, .null, .null])), (q1, .inl (cI, 10, .inl (fun k => zI ((fun _ => 0) k)))), (q2, .inl (cI, 30, .inl (fun k => zI ((fun _ => 0) k)))), (q3, .inl (cI, 3, .inl (fun k => zI ((fun _ => 0) k)))), (q4, .inl (cI, 3, .inl (fun k => zI ((fun _ => 0) k)))), (q5, .inl (cI, 3, .inl (fun k => zI ((fun _ => 0) k)))), (q6, .inl (cI, 3, .inl (fun k => zI ((fun _ => 0) k))))]) (fun _ => rfl) (fun q6 H hP hD hS => ?_)
  refine r_putF F hK hP hD hS 0 5 rfl rfl in_X0 tyX0 tyX0_ok nmX0 (by decide) k_453 rfl hin rfl rfl rfl (Nat.le_of_ble_eq_true rfl) dX0_init_45 (w1 := [(b, .inr (0, [.ref q1, .ref q2, .ref q3, .ref q4, .ref q5, .ref q6, .null])), (q1, .inl (cI, 10, .inl (fun k => zI ((fun _ => 0) k)))), (q2, .inl (cI, 30, .inl (fun k => zI ((fun _ => 0) k)))), (q3, .inl (cI, 3, .inl (fun k => zI ((fun _ => 0) k)))), (q4, .inl (cI, 3, .inl (fun k => zI ((fun _ => 0) k)))), (q5, .inl (cI, 3, .inl (fun k => zI ((fun _ => 0) k)))), (q6, .inl (cI, 3, .inl (fun k => zI ((fun _ => 0) k))))]) rfl (fun H locs hP hD hS => ?_)
  refine lv_aload_n hx hb dX0_init_48 rfl (lv_at hl 0 rfl) ?_
  refine lv_bipush (v := zI 6) hx hb dX0_init_49 (by decide) ?_
  refine r_newa (atype := .int) (ty := .int) F rfl k_194 hK hP hD hS hA 0 rfl 6 (6, .inl (fun _ => 0)) (bw_cI 6) (by decide) (by decide) (bw_by (k := 4) rfl (by omega)) (Nat.le_of_ble_eq_true rfl) (Nat.le_of_ble_eq_true rfl) dX0_init_51 (w1 := fun q7 => [(b, .inr (0, [.ref q1, .ref q2, .ref q3, .ref q4, .ref q5, .ref q6, .null])), (q1, .inl (cI, 10, .inl (fun k => zI ((fun _ => 0) k)))), (q2, .inl (cI, 30, .inl (fun k => zI ((fun _ => 0) k)))), (q3, .inl (cI, 3, .inl (fun k => zI ((fun _ => 0) k)))), (q4, .inl (cI, 3, .inl (fun k => zI ((fun _ => 0) k)))), (q5, .inl (cI, 3, .inl (fun k => zI ((fun _ => 0) k)))), (q6, .inl (cI, 3, .inl (fun k => zI ((fun _ => 0) k)))), (q7, .inl (cI, 6, .inl (fun k => zI ((fun _ => 0) k))))]) (fun _ => rfl) (fun q7 H hP hD hS => ?_)
  refine r_putF F hK hP hD hS 0 6 rfl rfl in_X0 tyX0 tyX0_ok nmX0 (by decide) k_454 rfl hin rfl rfl rfl (Nat.le_of_ble_eq_true rfl) dX0_init_53 (w1 := [(b, .inr (0, [.ref q1, .ref q2, .ref q3, .ref q4, .ref q5, .ref q6, .ref q7])), (q1, .inl (cI, 10, .inl (fun k => zI ((fun _ => 0) k)))), (q2, .inl (cI, 30, .inl (fun k => zI ((fun _ => 0) k)))), (q3, .inl (cI, 3, .inl (fun k => zI ((fun _ => 0) k)))), (q4, .inl (cI, 3, .inl (fun k => zI ((fun _ => 0) k)))), (q5, .inl (cI, 3, .inl (fun k => zI ((fun _ => 0) k)))), (q6, .inl (cI, 3, .inl (fun k => zI ((fun _ => 0) k)))), (q7, .inl (cI, 6, .inl (fun k => zI ((fun _ => 0) k))))]) rfl (fun H locs hP hD hS => ?_)
  exact ret (fun k => [(q1 : Int), (q2 : Int), (q3 : Int), (q4 : Int), (q5 : Int), (q6 : Int), (q7 : Int)].getD k 0, fun _ _ => 0) _ _ _ _ _ _ trivial (bw_subP (isC := [0, 1, 2, 3, 4, 5, 6, 7]) hP rfl) (hD.sub [0, 1, 2, 3, 4, 5, 6, 7] (by decide) rfl) hS (Nat.le_of_ble_eq_true rfl) (Nat.le_of_ble_eq_true rfl) dX0_init_56
