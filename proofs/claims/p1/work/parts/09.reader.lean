theorem dX4_init_0 : decode cX4_init 0 = .ok (.aload_n 0, 1) := by decide +kernel
theorem dX4_init_1 : decode cX4_init 1 = .ok (.invokespecial 3, 3) := by decide +kernel
theorem k_367 : Cond.methodLink RX4 3 Lib.objectInit ∈ bw_T := bw_m 367 (by decide +kernel) rfl
theorem dX4_init_4 : decode cX4_init 4 = .ok (.aload_n 0, 1) := by decide +kernel
theorem dX4_init_5 : decode cX4_init 5 = .ok (.iconst (-1), 1) := by decide +kernel
theorem dX4_init_6 : decode cX4_init 6 = .ok (.putfield 9, 3) := by decide +kernel
theorem k_370 : Cond.fieldLink RX4 9 "BurntWays$Survey" "bound" "I" ∈ bw_T := bw_m 370 (by decide +kernel) rfl
theorem in_X4 : ∀ w ∈ wsX40, w ∈ bw_T := bw_ms _ [393, 395, 397, 399, 401, 403, 405, 407, 409, 411, 413, 415, 417] (by decide +kernel) (by decide +kernel)
theorem dX4_init_9 : decode cX4_init 9 = .ok (.aload_n 0, 1) := by decide +kernel
theorem dX4_init_10 : decode cX4_init 10 = .ok (.iconst 0, 1) := by decide +kernel
theorem dX4_init_11 : decode cX4_init 11 = .ok (.putfield 15, 3) := by decide +kernel
theorem k_372 : Cond.fieldLink RX4 15 "BurntWays$Survey" "inputs" "I" ∈ bw_T := bw_m 372 (by decide +kernel) rfl
theorem dX4_init_14 : decode cX4_init 14 = .ok (.aload_n 0, 1) := by decide +kernel
theorem dX4_init_15 : decode cX4_init 15 = .ok (.iconst 0, 1) := by decide +kernel
theorem dX4_init_16 : decode cX4_init 16 = .ok (.putfield 18, 3) := by decide +kernel
theorem k_373 : Cond.fieldLink RX4 18 "BurntWays$Survey" "mustWays" "I" ∈ bw_T := bw_m 373 (by decide +kernel) rfl
theorem dX4_init_19 : decode cX4_init 19 = .ok (.aload_n 0, 1) := by decide +kernel
theorem dX4_init_20 : decode cX4_init 20 = .ok (.iconst 0, 1) := by decide +kernel
theorem dX4_init_21 : decode cX4_init 21 = .ok (.putfield 21, 3) := by decide +kernel
theorem k_375 : Cond.fieldLink RX4 21 "BurntWays$Survey" "untakenWays" "I" ∈ bw_T := bw_m 375 (by decide +kernel) rfl
theorem dX4_init_24 : decode cX4_init 24 = .ok (.aload_n 0, 1) := by decide +kernel
theorem dX4_init_25 : decode cX4_init 25 = .ok (.bipush (-2), 2) := by decide +kernel
theorem dX4_init_27 : decode cX4_init 27 = .ok (.putfield 24, 3) := by decide +kernel
theorem k_377 : Cond.fieldLink RX4 24 "BurntWays$Survey" "wholeInput" "I" ∈ bw_T := bw_m 377 (by decide +kernel) rfl
theorem dX4_init_30 : decode cX4_init 30 = .ok (.aload_n 0, 1) := by decide +kernel
theorem dX4_init_31 : decode cX4_init 31 = .ok (.iconst (-1), 1) := by decide +kernel
theorem dX4_init_32 : decode cX4_init 32 = .ok (.putfield 27, 3) := by decide +kernel
theorem k_379 : Cond.fieldLink RX4 27 "BurntWays$Survey" "longestSteps" "I" ∈ bw_T := bw_m 379 (by decide +kernel) rfl
theorem dX4_init_35 : decode cX4_init 35 = .ok (.aload_n 0, 1) := by decide +kernel
theorem dX4_init_36 : decode cX4_init 36 = .ok (.iconst 0, 1) := by decide +kernel
theorem dX4_init_37 : decode cX4_init 37 = .ok (.putfield 30, 3) := by decide +kernel
theorem k_381 : Cond.fieldLink RX4 30 "BurntWays$Survey" "longestInput" "I" ∈ bw_T := bw_m 381 (by decide +kernel) rfl
theorem dX4_init_40 : decode cX4_init 40 = .ok (.aload_n 0, 1) := by decide +kernel
theorem dX4_init_41 : decode cX4_init 41 = .ok (.iconst 0, 1) := by decide +kernel
theorem dX4_init_42 : decode cX4_init 42 = .ok (.putfield 33, 3) := by decide +kernel
theorem k_383 : Cond.fieldLink RX4 33 "BurntWays$Survey" "seenLines" "I" ∈ bw_T := bw_m 383 (by decide +kernel) rfl
theorem dX4_init_45 : decode cX4_init 45 = .ok (.aload_n 0, 1) := by decide +kernel
theorem dX4_init_46 : decode cX4_init 46 = .ok (.iconst 4, 1) := by decide +kernel
theorem dX4_init_47 : decode cX4_init 47 = .ok (.newarray .int, 2) := by decide +kernel
theorem dX4_init_49 : decode cX4_init 49 = .ok (.putfield 36, 3) := by decide +kernel
theorem k_385 : Cond.fieldLink RX4 36 "BurntWays$Survey" "endings" "[I" ∈ bw_T := bw_m 385 (by decide +kernel) rfl
theorem dX4_init_52 : decode cX4_init 52 = .ok (.aload_n 0, 1) := by decide +kernel
theorem dX4_init_53 : decode cX4_init 53 = .ok (.bipush 10, 2) := by decide +kernel
theorem dX4_init_55 : decode cX4_init 55 = .ok (.newarray .int, 2) := by decide +kernel
theorem dX4_init_57 : decode cX4_init 57 = .ok (.putfield 40, 3) := by decide +kernel
theorem k_387 : Cond.fieldLink RX4 40 "BurntWays$Survey" "firstInputs" "[I" ∈ bw_T := bw_m 387 (by decide +kernel) rfl
theorem dX4_init_60 : decode cX4_init 60 = .ok (.aload_n 0, 1) := by decide +kernel
theorem dX4_init_61 : decode cX4_init 61 = .ok (.bipush 20, 2) := by decide +kernel
theorem dX4_init_63 : decode cX4_init 63 = .ok (.newarray .int, 2) := by decide +kernel
theorem dX4_init_65 : decode cX4_init 65 = .ok (.putfield 43, 3) := by decide +kernel
theorem k_389 : Cond.fieldLink RX4 43 "BurntWays$Survey" "mostTaken" "[I" ∈ bw_T := bw_m 389 (by decide +kernel) rfl
theorem dX4_init_68 : decode cX4_init 68 = .ok (.aload_n 0, 1) := by decide +kernel
theorem dX4_init_69 : decode cX4_init 69 = .ok (.sipush 256, 3) := by decide +kernel
theorem dX4_init_72 : decode cX4_init 72 = .ok (.newarray .int, 2) := by decide +kernel
theorem dX4_init_74 : decode cX4_init 74 = .ok (.putfield 46, 3) := by decide +kernel
theorem k_391 : Cond.fieldLink RX4 46 "BurntWays$Survey" "endingOf" "[I" ∈ bw_T := bw_m 391 (by decide +kernel) rfl
theorem dX4_init_77 : decode cX4_init 77 = .ok (.aload_n 0, 1) := by decide +kernel
theorem dX4_init_78 : decode cX4_init 78 = .ok (.new 49, 3) := by decide +kernel
theorem k_368 : Cond.classLink RX4 49 RX6 ∈ bw_T := bw_m 368 (by decide +kernel) rfl
theorem k_315 : Cond.instantiable RX6 10 ∈ bw_T := bw_m 315 (by decide +kernel) rfl
theorem k_102 : Cond.initialized RX6 ∈ bw_T := bw_m 102 (by decide +kernel) rfl
theorem dX4_init_81 : decode cX4_init 81 = .ok (.dup, 1) := by decide +kernel
theorem dX4_init_82 : decode cX4_init 82 = .ok (.invokespecial 51, 3) := by decide +kernel
theorem ki_X6_init : bw_KI RX6 yX6_init (Cond.code yX6_init cX6_init 1 none) := ⟨bw_m 317 (by decide +kernel) rfl, bw_m 102 (by decide +kernel) rfl, bw_m 318 (by decide +kernel) rfl⟩
theorem dX4_init_85 : decode cX4_init 85 = .ok (.putfield 52, 3) := by decide +kernel
theorem k_392 : Cond.fieldLink RX4 52 "BurntWays$Survey" "walk" "LBurntWays$Walk;" ∈ bw_T := bw_m 392 (by decide +kernel) rfl
theorem dX4_init_88 : decode cX4_init 88 = .ok (.return_, 1) := by decide +kernel
abbrev rm_X4_init : Room := { frames := 2, cells := 9, slots := 444, locals := 32 }
set_option maxRecDepth 100000 in
set_option maxHeartbeats 4000000 in
theorem c_X4_init {l : Launch} {E : (Nat → Prop) → State → Prop} (hO : bw_Ok E) {G : va_G} {cI cB cJ cN cW : ClassId} (hN : bw_Nests E) (b : Nat) : bw_Cv (S := bw_U) l yX4_init (bw_ws (Cond.code yX4_init cX4_init 1 none)) rm_X4_init E G (bw_kt cI cB cJ cN cW) [.ref b] [(b, .inr (4, [.int 0, .int 0, .int 0, .int 0, .int 0, .int 0, .int 0, .int 0, .null, .null, .null, .null, .null]))] (fun _ => True) (fun _ => []) := by
  refine bw_Cv.of (cc := cX4_init) (maxL := 1) (by decide) rfl (Nat.le_of_ble_eq_true rfl) ?_
  intro p e s m below meth c A Q hx hb hml hts hown hin hK hA hS hP hD hE ret ls hl
  have F : CallFix p m c cX4_init 1 s ([.ref b] : List Value).toArray bw_T RX4 := ⟨hx, hb, hml, hown, fun w h => hts w (List.mem_cons_of_mem _ h)⟩
  have hl : lv_has ls 1 [(0, .ref b)] := hl
  refine lv_aload_n hx hb dX4_init_0 rfl (lv_at hl 0 rfl) ?_
  refine r_objInit F k_367 k_oi k_oc hl.1 dX4_init_1 (Nat.le_of_ble_eq_true rfl) (Nat.le_of_ble_eq_true rfl) ?_
  refine lv_aload_n hx hb dX4_init_4 rfl (lv_at hl 0 rfl) ?_
  refine lv_iconst (v := (-1)) hx hb dX4_init_5 (by decide) ?_
  refine r_put F hK hP hD hS 0 0 rfl rfl in_X4 tyX4 tyX4_ok nmX4 (by decide) k_370 rfl rfl rfl (Nat.le_of_ble_eq_true rfl) dX4_init_6 (w1 := [(b, .inr (4, [.int (-1), .int 0, .int 0, .int 0, .int 0, .int 0, .int 0, .int 0, .null, .null, .null, .null, .null]))]) rfl (fun H locs hP hD hS => ?_)
  refine lv_aload_n hx hb dX4_init_9 rfl (lv_at hl 0 rfl) ?_
  refine lv_iconst (v := 0) hx hb dX4_init_10 (by decide) ?_
  refine r_put F hK hP hD hS 0 1 rfl rfl in_X4 tyX4 tyX4_ok nmX4 (by decide) k_372 rfl rfl rfl (Nat.le_of_ble_eq_true rfl) dX4_init_11 (w1 := [(b, .inr (4, [.int (-1), .int 0, .int 0, .int 0, .int 0, .int 0, .int 0, .int 0, .null, .null, .null, .null, .null]))]) rfl (fun H locs hP hD hS => ?_)
  refine lv_aload_n hx hb dX4_init_14 rfl (lv_at hl 0 rfl) ?_
  refine lv_iconst (v := 0) hx hb dX4_init_15 (by decide) ?_
  refine r_put F hK hP hD hS 0 2 rfl rfl in_X4 tyX4 tyX4_ok nmX4 (by decide) k_373 rfl rfl rfl (Nat.le_of_ble_eq_true rfl) dX4_init_16 (w1 := [(b, .inr (4, [.int (-1), .int 0, .int 0, .int 0, .int 0, .int 0, .int 0, .int 0, .null, .null, .null, .null, .null]))]) rfl (fun H locs hP hD hS => ?_)
  refine lv_aload_n hx hb dX4_init_19 rfl (lv_at hl 0 rfl) ?_
  refine lv_iconst (v := 0) hx hb dX4_init_20 (by decide) ?_
  refine r_put F hK hP hD hS 0 3 rfl rfl in_X4 tyX4 tyX4_ok nmX4 (by decide) k_375 rfl rfl rfl (Nat.le_of_ble_eq_true rfl) dX4_init_21 (w1 := [(b, .inr (4, [.int (-1), .int 0, .int 0, .int 0, .int 0, .int 0, .int 0, .int 0, .null, .null, .null, .null, .null]))]) rfl (fun H locs hP hD hS => ?_)
  refine lv_aload_n hx hb dX4_init_24 rfl (lv_at hl 0 rfl) ?_
  refine lv_bipush (v := (-2)) hx hb dX4_init_25 (by decide) ?_
  refine r_put F hK hP hD hS 0 4 rfl rfl in_X4 tyX4 tyX4_ok nmX4 (by decide) k_377 rfl rfl rfl (Nat.le_of_ble_eq_true rfl) dX4_init_27 (w1 := [(b, .inr (4, [.int (-1), .int 0, .int 0, .int 0, .int (-2), .int 0, .int 0, .int 0, .null, .null, .null, .null, .null]))]) rfl (fun H locs hP hD hS => ?_)
  refine lv_aload_n hx hb dX4_init_30 rfl (lv_at hl 0 rfl) ?_
  refine lv_iconst (v := (-1)) hx hb dX4_init_31 (by decide) ?_
  refine r_put F hK hP hD hS 0 5 rfl rfl in_X4 tyX4 tyX4_ok nmX4 (by decide) k_379 rfl rfl rfl (Nat.le_of_ble_eq_true rfl) dX4_init_32 (w1 := [(b, .inr (4, [.int (-1), .int 0, .int 0, .int 0, .int (-2), .int (-1), .int 0, .int 0, .null, .null, .null, .null, .null]))]) rfl (fun H locs hP hD hS => ?_)
  refine lv_aload_n hx hb dX4_init_35 rfl (lv_at hl 0 rfl) ?_
  refine lv_iconst (v := 0) hx hb dX4_init_36 (by decide) ?_
  refine r_put F hK hP hD hS 0 6 rfl rfl in_X4 tyX4 tyX4_ok nmX4 (by decide) k_381 rfl rfl rfl (Nat.le_of_ble_eq_true rfl) dX4_init_37 (w1 := [(b, .inr (4, [.int (-1), .int 0, .int 0, .int 0, .int (-2), .int (-1), .int 0, .int 0, .null, .null, .null, .null, .null]))]) rfl (fun H locs hP hD hS => ?_)
  refine lv_aload_n hx hb dX4_init_40 rfl (lv_at hl 0 rfl) ?_
  refine lv_iconst (v := 0) hx hb dX4_init_41 (by decide) ?_
  refine r_put F hK hP hD hS 0 7 rfl rfl in_X4 tyX4 tyX4_ok nmX4 (by decide) k_383 rfl rfl rfl (Nat.le_of_ble_eq_true rfl) dX4_init_42 (w1 := [(b, .inr (4, [.int (-1), .int 0, .int 0, .int 0, .int (-2), .int (-1), .int 0, .int 0, .null, .null, .null, .null, .null]))]) rfl (fun H locs hP hD hS => ?_)
  refine lv_aload_n hx hb dX4_init_45 rfl (lv_at hl 0 rfl) ?_
  refine lv_iconst (v := 4) hx hb dX4_init_46 (by decide) ?_
  refine r_newa (atype := .int) (ty := .int) F rfl k_194 hK hP hD hS hA 0 rfl 4 (4, .inl (fun _ => 0)) (bw_cI 4) (by decide) (by decide) (bw_by (k := 4) rfl (by omega)) (Nat.le_of_ble_eq_true rfl) (Nat.le_of_ble_eq_true rfl) dX4_init_47 (w1 := fun q1 => [(b, .inr (4, [.int (-1), .int 0, .int 0, .int 0, .int (-2), .int (-1), .int 0, .int 0, .null, .null, .null, .null, .null])), (q1, .inl (cI, 4, .inl (fun _ => 0)))]) (fun _ => rfl) (fun q1 H hP hD hS => ?_)
  refine r_putF F hK hP hD hS 0 8 rfl rfl in_X4 tyX4 tyX4_ok nmX4 (by decide) k_385 rfl hin rfl rfl rfl (Nat.le_of_ble_eq_true rfl) dX4_init_49 (w1 := [(b, .inr (4, [.int (-1), .int 0, .int 0, .int 0, .int (-2), .int (-1), .int 0, .int 0, .ref q1, .null, .null, .null, .null])), (q1, .inl (cI, 4, .inl (fun _ => 0)))]) rfl (fun H locs hP hD hS => ?_)
  refine lv_aload_n hx hb dX4_init_52 rfl (lv_at hl 0 rfl) ?_
  refine lv_bipush (v := 10) hx hb dX4_init_53 (by decide) ?_
  refine r_newa (atype := .int) (ty := .int) F rfl k_194 hK hP hD hS hA 0 rfl 10 (10, .inl (fun _ => 0)) (bw_cI 10) (by decide) (by decide) (bw_by (k := 4) rfl (by omega)) (Nat.le_of_ble_eq_true rfl) (Nat.le_of_ble_eq_true rfl) dX4_init_55 (w1 := fun q2 => [(b, .inr (4, [.int (-1), .int 0, .int 0, .int 0, .int (-2), .int (-1), .int 0, .int 0, .ref q1, .null, .null, .null, .null])), (q1, .inl (cI, 4, .inl (fun _ => 0))), (q2, .inl (cI, 10, .inl (fun _ => 0)))]) (fun _ => rfl) (fun q2 H hP hD hS => ?_)
  refine r_putF F hK hP hD hS 0 9 rfl rfl in_X4 tyX4 tyX4_ok nmX4 (by decide) k_387 rfl hin rfl rfl rfl (Nat.le_of_ble_eq_true rfl) dX4_init_57 (w1 := [(b, .inr (4, [.int (-1), .int 0, .int 0, .int 0, .int (-2), .int (-1), .int 0, .int 0, .ref q1, .ref q2, .null, .null, .null])), (q1, .inl (cI, 4, .inl (fun _ => 0))), (q2, .inl (cI, 10, .inl (fun _ => 0)))]) rfl (fun H locs hP hD hS => ?_)
  refine lv_aload_n hx hb dX4_init_60 rfl (lv_at hl 0 rfl) ?_
  refine lv_bipush (v := 20) hx hb dX4_init_61 (by decide) ?_
  refine r_newa (atype := .int) (ty := .int) F rfl k_194 hK hP hD hS hA 0 rfl 20 (20, .inl (fun _ => 0)) (bw_cI 20) (by decide) (by decide) (bw_by (k := 4) rfl (by omega)) (Nat.le_of_ble_eq_true rfl) (Nat.le_of_ble_eq_true rfl) dX4_init_63 (w1 := fun q3 => [(b, .inr (4, [.int (-1), .int 0, .int 0, .int 0, .int (-2), .int (-1), .int 0, .int 0, .ref q1, .ref q2, .null, .null, .null])), (q1, .inl (cI, 4, .inl (fun _ => 0))), (q2, .inl (cI, 10, .inl (fun _ => 0))), (q3, .inl (cI, 20, .inl (fun _ => 0)))]) (fun _ => rfl) (fun q3 H hP hD hS => ?_)
  refine r_putF F hK hP hD hS 0 10 rfl rfl in_X4 tyX4 tyX4_ok nmX4 (by decide) k_389 rfl hin rfl rfl rfl (Nat.le_of_ble_eq_true rfl) dX4_init_65 (w1 := [(b, .inr (4, [.int (-1), .int 0, .int 0, .int 0, .int (-2), .int (-1), .int 0, .int 0, .ref q1, .ref q2, .ref q3, .null, .null])), (q1, .inl (cI, 4, .inl (fun _ => 0))), (q2, .inl (cI, 10, .inl (fun _ => 0))), (q3, .inl (cI, 20, .inl (fun _ => 0)))]) rfl (fun H locs hP hD hS => ?_)
  refine lv_aload_n hx hb dX4_init_68 rfl (lv_at hl 0 rfl) ?_
  refine lv_sipush (v := 256) hx hb dX4_init_69 (by decide) ?_
  refine r_newa (atype := .int) (ty := .int) F rfl k_194 hK hP hD hS hA 0 rfl 256 (256, .inl (fun _ => 0)) (bw_cI 256) (by decide) (by decide) (bw_by (k := 4) rfl (by omega)) (Nat.le_of_ble_eq_true rfl) (Nat.le_of_ble_eq_true rfl) dX4_init_72 (w1 := fun q4 => [(b, .inr (4, [.int (-1), .int 0, .int 0, .int 0, .int (-2), .int (-1), .int 0, .int 0, .ref q1, .ref q2, .ref q3, .null, .null])), (q1, .inl (cI, 4, .inl (fun _ => 0))), (q2, .inl (cI, 10, .inl (fun _ => 0))), (q3, .inl (cI, 20, .inl (fun _ => 0))), (q4, .inl (cI, 256, .inl (fun _ => 0)))]) (fun _ => rfl) (fun q4 H hP hD hS => ?_)
  refine r_putF F hK hP hD hS 0 11 rfl rfl in_X4 tyX4 tyX4_ok nmX4 (by decide) k_391 rfl hin rfl rfl rfl (Nat.le_of_ble_eq_true rfl) dX4_init_74 (w1 := [(b, .inr (4, [.int (-1), .int 0, .int 0, .int 0, .int (-2), .int (-1), .int 0, .int 0, .ref q1, .ref q2, .ref q3, .ref q4, .null])), (q1, .inl (cI, 4, .inl (fun _ => 0))), (q2, .inl (cI, 10, .inl (fun _ => 0))), (q3, .inl (cI, 20, .inl (fun _ => 0))), (q4, .inl (cI, 256, .inl (fun _ => 0)))]) rfl (fun H locs hP hD hS => ?_)
  refine lv_aload_n hx hb dX4_init_77 rfl (lv_at hl 0 rfl) ?_
  refine r_new (ci := 6) (fs := [.int 0, .int 0, .int 0, .int 0, .int 0, .null, .null, .null, .long 0, .null]) F hK hP hD hS hA rfl in_X6 tyX6 tyX6_ok k_368 k_315 k_102 (bw_dflt rfl) (Nat.le_of_ble_eq_true rfl) (Nat.le_of_ble_eq_true rfl) dX4_init_78 (w1 := fun q5 => [(b, .inr (4, [.int (-1), .int 0, .int 0, .int 0, .int (-2), .int (-1), .int 0, .int 0, .ref q1, .ref q2, .ref q3, .ref q4, .null])), (q1, .inl (cI, 4, .inl (fun _ => 0))), (q2, .inl (cI, 10, .inl (fun _ => 0))), (q3, .inl (cI, 20, .inl (fun _ => 0))), (q4, .inl (cI, 256, .inl (fun _ => 0))), (q5, .inr (6, [.int 0, .int 0, .int 0, .int 0, .int 0, .null, .null, .null, .long 0, .null]))]) (fun _ => rfl) (fun q5 H hP hD hS => ?_)
  refine lv_dup hx hb dX4_init_81 rfl ?_
  refine r_callNv (As := []) (rest := [.ref q5, .ref b]) (wr := [(b, .inr (4, [.int (-1), .int 0, .int 0, .int 0, .int (-2), .int (-1), .int 0, .int 0, .ref q1, .ref q2, .ref q3, .ref q4, .null])), (q1, .inl (cI, 4, .inl (fun _ => 0))), (q2, .inl (cI, 10, .inl (fun _ => 0))), (q3, .inl (cI, 20, .inl (fun _ => 0))), (q4, .inl (cI, 256, .inl (fun _ => 0)))]) F hK hP hD hS hA hO hE (c_X6_init hO q5) (hN _ _ hE).2.2.2.2.1 ki_X6_init rfl 0 rfl (by decide +kernel) ⟨Nat.le_of_ble_eq_true rfl, Nat.le_of_ble_eq_true rfl⟩ [5] [0, 1, 2, 3, 4] rfl rfl (by decide) (by decide) (by decide) hl.1 rfl (Nat.le_of_ble_eq_true rfl) dX4_init_82 ⟨Nat.le_of_ble_eq_true rfl, Nat.le_of_ble_eq_true rfl⟩ (w1 := fun u6 => [(b, .inr (4, [.int (-1), .int 0, .int 0, .int 0, .int (-2), .int (-1), .int 0, .int 0, .ref q1, .ref q2, .ref q3, .ref q4, .null])), (q1, .inl (cI, 4, .inl (fun _ => 0))), (q2, .inl (cI, 10, .inl (fun _ => 0))), (q3, .inl (cI, 20, .inl (fun _ => 0))), (q4, .inl (cI, 256, .inl (fun _ => 0))), (q5, .inr (6, [.int 0, .int 0, .int 0, .int 0, .int 0, .ref (u6.1 0), .ref (u6.1 1), .ref (u6.1 2), .long 0, .ref (u6.1 3)]))]) (fun _ => rfl) (fun  u6 H locs hp hP hD hS => ?_)
  refine r_putF F hK hP hD hS 0 12 rfl rfl in_X4 tyX4 tyX4_ok nmX4 (by decide) k_392 rfl hin rfl rfl rfl (Nat.le_of_ble_eq_true rfl) dX4_init_85 (w1 := [(b, .inr (4, [.int (-1), .int 0, .int 0, .int 0, .int (-2), .int (-1), .int 0, .int 0, .ref q1, .ref q2, .ref q3, .ref q4, .ref q5])), (q1, .inl (cI, 4, .inl (fun _ => 0))), (q2, .inl (cI, 10, .inl (fun _ => 0))), (q3, .inl (cI, 20, .inl (fun _ => 0))), (q4, .inl (cI, 256, .inl (fun _ => 0))), (q5, .inr (6, [.int 0, .int 0, .int 0, .int 0, .int 0, .ref (u6.1 0), .ref (u6.1 1), .ref (u6.1 2), .long 0, .ref (u6.1 3)]))]) rfl (fun H locs hP hD hS => ?_)
  exact ret (fun _ => 0, fun _ _ => 0) _ _ _ _ _ _ trivial (bw_subP (isC := []) hP rfl) (hD.sub [] (by decide) rfl) hS (Nat.le_of_ble_eq_true rfl) (Nat.le_of_ble_eq_true rfl) dX4_init_88
theorem dX1_init_0 : decode cX1_init 0 = .ok (.aload_n 0, 1) := by decide +kernel
theorem dX1_init_1 : decode cX1_init 1 = .ok (.invokespecial 3, 3) := by decide +kernel
theorem k_475 : Cond.methodLink RX1 3 Lib.objectInit ∈ bw_T := bw_m 475 (by decide +kernel) rfl
theorem dX1_init_4 : decode cX1_init 4 = .ok (.aload_n 0, 1) := by decide +kernel
theorem dX1_init_5 : decode cX1_init 5 = .ok (.iconst 0, 1) := by decide +kernel
theorem dX1_init_6 : decode cX1_init 6 = .ok (.putfield 9, 3) := by decide +kernel
theorem k_482 : Cond.fieldLink RX1 9 "BurntWays$Marks" "count" "I" ∈ bw_T := bw_m 482 (by decide +kernel) rfl
theorem in_X1 : ∀ w ∈ wsX10, w ∈ bw_T := bw_ms _ [488, 490, 492] (by decide +kernel) (by decide +kernel)
theorem dX1_init_9 : decode cX1_init 9 = .ok (.aload_n 0, 1) := by decide +kernel
theorem dX1_init_10 : decode cX1_init 10 = .ok (.iconst 4, 1) := by decide +kernel
theorem dX1_init_11 : decode cX1_init 11 = .ok (.anewarray 15, 3) := by decide +kernel
theorem k_476 : Cond.classLink RX1 15 RX2 ∈ bw_T := bw_m 476 (by decide +kernel) rfl
theorem dX1_init_14 : decode cX1_init 14 = .ok (.putfield 17, 3) := by decide +kernel
theorem k_484 : Cond.fieldLink RX1 17 "BurntWays$Marks" "nets" "[LBurntWays$Net;" ∈ bw_T := bw_m 484 (by decide +kernel) rfl
theorem dX1_init_17 : decode cX1_init 17 = .ok (.aload_n 0, 1) := by decide +kernel
theorem dX1_init_18 : decode cX1_init 18 = .ok (.iconst 4, 1) := by decide +kernel
theorem dX1_init_19 : decode cX1_init 19 = .ok (.anewarray 21, 3) := by decide +kernel
theorem k_478 : Cond.classLink RX1 21 RX6 ∈ bw_T := bw_m 478 (by decide +kernel) rfl
theorem dX1_init_22 : decode cX1_init 22 = .ok (.putfield 23, 3) := by decide +kernel
theorem k_486 : Cond.fieldLink RX1 23 "BurntWays$Marks" "walks" "[LBurntWays$Walk;" ∈ bw_T := bw_m 486 (by decide +kernel) rfl
theorem dX1_init_25 : decode cX1_init 25 = .ok (.iconst 0, 1) := by decide +kernel
theorem dX1_init_26 : decode cX1_init 26 = .ok (.istore_n 1, 1) := by decide +kernel
theorem dX1_init_27 : decode cX1_init 27 = .ok (.iload_n 1, 1) := by decide +kernel
theorem dX1_init_28 : decode cX1_init 28 = .ok (.iconst 4, 1) := by decide +kernel
theorem dX1_init_29 : decode cX1_init 29 = .ok (.if_icmp .ge 35, 3) := by decide +kernel
theorem dX1_init_32 : decode cX1_init 32 = .ok (.aload_n 0, 1) := by decide +kernel
theorem dX1_init_33 : decode cX1_init 33 = .ok (.getfield 17, 3) := by decide +kernel
theorem dX1_init_36 : decode cX1_init 36 = .ok (.iload_n 1, 1) := by decide +kernel
theorem dX1_init_37 : decode cX1_init 37 = .ok (.new 15, 3) := by decide +kernel
theorem k_131 : Cond.instantiable RX2 9 ∈ bw_T := bw_m 131 (by decide +kernel) rfl
theorem k_96 : Cond.initialized RX2 ∈ bw_T := bw_m 96 (by decide +kernel) rfl
theorem dX1_init_40 : decode cX1_init 40 = .ok (.dup, 1) := by decide +kernel
theorem dX1_init_41 : decode cX1_init 41 = .ok (.invokespecial 27, 3) := by decide +kernel
theorem k_480 : Cond.methodLink RX1 27 yX2_init ∈ bw_T := bw_m 480 (by decide +kernel) rfl
theorem ki_X2_init : bw_KI RX2 yX2_init (Cond.code yX2_init cX2_init 1 none) := ⟨bw_m 133 (by decide +kernel) rfl, bw_m 96 (by decide +kernel) rfl, bw_m 134 (by decide +kernel) rfl⟩
theorem dX1_init_44 : decode cX1_init 44 = .ok (.aastore, 1) := by decide +kernel
theorem dX1_init_45 : decode cX1_init 45 = .ok (.aload_n 0, 1) := by decide +kernel
theorem dX1_init_46 : decode cX1_init 46 = .ok (.getfield 23, 3) := by decide +kernel
theorem dX1_init_49 : decode cX1_init 49 = .ok (.iload_n 1, 1) := by decide +kernel
theorem dX1_init_50 : decode cX1_init 50 = .ok (.new 21, 3) := by decide +kernel
theorem dX1_init_53 : decode cX1_init 53 = .ok (.dup, 1) := by decide +kernel
theorem dX1_init_54 : decode cX1_init 54 = .ok (.invokespecial 28, 3) := by decide +kernel
theorem dX1_init_57 : decode cX1_init 57 = .ok (.aastore, 1) := by decide +kernel
theorem dX1_init_58 : decode cX1_init 58 = .ok (.iinc 1 1, 3) := by decide +kernel
theorem dX1_init_61 : decode cX1_init 61 = .ok (.goto (-34), 3) := by decide +kernel
theorem dX1_init_64 : decode cX1_init 64 = .ok (.return_, 1) := by decide +kernel
abbrev rm_X1_init : Room := { frames := 3, cells := 58, slots := 1420, locals := 63 }
set_option maxRecDepth 100000 in
set_option maxHeartbeats 4000000 in
theorem c_X1_init {l : Launch} {E : (Nat → Prop) → State → Prop} (hO : bw_Ok E) {G : va_G} {cI cB cJ cN cW : ClassId} (hN : bw_Nests E) (b : Nat) : bw_Cv (S := bw_U) l yX1_init (bw_ws (Cond.code yX1_init cX1_init 2 none)) rm_X1_init E G (bw_kt cI cB cJ cN cW) [.ref b] [(b, .inr (1, [.int 0, .null, .null]))] (fun _ => True) (fun u => [(b, .inr (1, [.int 0, .ref (u.1 0), .ref (u.1 1)]))]) := by
  refine bw_Cv.of (cc := cX1_init) (maxL := 2) (by decide) rfl (Nat.le_of_ble_eq_true rfl) ?_
  intro p e s m below meth c A Q hx hb hml hts hown hin hK hA hS hP hD hE ret ls hl
  have F : CallFix p m c cX1_init 2 s ([.ref b] : List Value).toArray bw_T RX1 := ⟨hx, hb, hml, hown, fun w h => hts w (List.mem_cons_of_mem _ h)⟩
  have hl : lv_has ls 2 [(0, .ref b)] := hl
  refine lv_aload_n hx hb dX1_init_0 rfl (lv_at hl 0 rfl) ?_
  refine r_objInit F k_475 k_oi k_oc hl.1 dX1_init_1 (Nat.le_of_ble_eq_true rfl) (Nat.le_of_ble_eq_true rfl) ?_
  refine lv_aload_n hx hb dX1_init_4 rfl (lv_at hl 0 rfl) ?_
  refine lv_iconst (v := 0) hx hb dX1_init_5 (by decide) ?_
  refine r_put F hK hP hD hS 0 0 rfl rfl in_X1 tyX1 tyX1_ok nmX1 (by decide) k_482 rfl rfl rfl (Nat.le_of_ble_eq_true rfl) dX1_init_6 (w1 := [(b, .inr (1, [.int 0, .null, .null]))]) rfl (fun H locs hP hD hS => ?_)
  refine lv_aload_n hx hb dX1_init_9 rfl (lv_at hl 0 rfl) ?_
  refine lv_iconst (v := 4) hx hb dX1_init_10 (by decide) ?_
  refine r_newq F k_476 (hN _ _ hE).2.2.2.2.2.2.2.2.1 hK hP hD hS hA 3 rfl 4 (by decide) (by decide) (by omega) (Nat.le_of_ble_eq_true rfl) (Nat.le_of_ble_eq_true rfl) dX1_init_11 (w1 := fun q1 => [(b, .inr (1, [.int 0, .null, .null])), (q1, .inl (cN, 4, .inr (.inr (.inr (.inr (fun _ => none))))))]) (fun _ => rfl) (fun q1 H hP hD hS => ?_)
  refine r_putF F hK hP hD hS 0 1 rfl rfl in_X1 tyX1 tyX1_ok nmX1 (by decide) k_484 rfl hin rfl rfl rfl (Nat.le_of_ble_eq_true rfl) dX1_init_14 (w1 := [(b, .inr (1, [.int 0, .ref q1, .null])), (q1, .inl (cN, 4, .inr (.inr (.inr (.inr (fun _ => none))))))]) rfl (fun H locs hP hD hS => ?_)
  refine lv_aload_n hx hb dX1_init_17 rfl (lv_at hl 0 rfl) ?_
  refine lv_iconst (v := 4) hx hb dX1_init_18 (by decide) ?_
  refine r_newq F k_478 (hN _ _ hE).2.2.2.2.2.2.2.2.2 hK hP hD hS hA 4 rfl 4 (by decide) (by decide) (by omega) (Nat.le_of_ble_eq_true rfl) (Nat.le_of_ble_eq_true rfl) dX1_init_19 (w1 := fun q2 => [(b, .inr (1, [.int 0, .ref q1, .null])), (q1, .inl (cN, 4, .inr (.inr (.inr (.inr (fun _ => none)))))), (q2, .inl (cW, 4, .inr (.inr (.inr (.inr (fun _ => none))))))]) (fun _ => rfl) (fun q2 H hP hD hS => ?_)
  refine r_putF F hK hP hD hS 0 2 rfl rfl in_X1 tyX1 tyX1_ok nmX1 (by decide) k_486 rfl hin rfl rfl rfl (Nat.le_of_ble_eq_true rfl) dX1_init_22 (w1 := [(b, .inr (1, [.int 0, .ref q1, .ref q2])), (q1, .inl (cN, 4, .inr (.inr (.inr (.inr (fun _ => none)))))), (q2, .inl (cW, 4, .inr (.inr (.inr (.inr (fun _ => none))))))]) rfl (fun H locs hP hD hS => ?_)
  refine lv_iconst (v := 0) hx hb dX1_init_25 (by decide) ?_
  refine lv_istore_n (lv' := [(1, .int 0), (0, .ref b)]) hx hb dX1_init_26 rfl hl (by decide) rfl (fun ls hl => ?_)
  refine lv_iload_n hx hb dX1_init_27 rfl (lv_at hl 0 rfl) ?_
  refine lv_iconst (v := 4) hx hb dX1_init_28 (by decide) ?_
  refine lv_icmp_ge (tgt := 64) hx hb dX1_init_29 (by decide) (fun h9 => absurd h9 (by decide)) (fun _ => ?_)
  refine lv_aload_n hx hb dX1_init_32 rfl (lv_at hl 1 rfl) ?_
  refine r_get F hK hP 0 1 rfl rfl in_X1 (by decide) k_484 rfl dX1_init_33 ?_
  refine lv_iload_n hx hb dX1_init_36 rfl (lv_at hl 0 rfl) ?_
  refine r_new (ci := 2) (fs := [.int 0, .null, .null, .null, .null, .null, .null, .null, .null]) F hK hP hD hS hA rfl in_X2 tyX2 tyX2_ok k_476 k_131 k_96 (bw_dflt rfl) (Nat.le_of_ble_eq_true rfl) (Nat.le_of_ble_eq_true rfl) dX1_init_37 (w1 := fun q3 => [(b, .inr (1, [.int 0, .ref q1, .ref q2])), (q1, .inl (cN, 4, .inr (.inr (.inr (.inr (fun _ => none)))))), (q2, .inl (cW, 4, .inr (.inr (.inr (.inr (fun _ => none)))))), (q3, .inr (2, [.int 0, .null, .null, .null, .null, .null, .null, .null, .null]))]) (fun _ => rfl) (fun q3 H hP hD hS => ?_)
  refine lv_dup hx hb dX1_init_40 rfl ?_
  refine r_callIv (As := []) (rest := [.ref q3, .int 0, .ref q1]) (wr := [(b, .inr (1, [.int 0, .ref q1, .ref q2])), (q1, .inl (cN, 4, .inr (.inr (.inr (.inr (fun _ => none)))))), (q2, .inl (cW, 4, .inr (.inr (.inr (.inr (fun _ => none))))))]) F hK hP hD hS hA hO hE (c_X2_init hO q3) k_480 ki_X2_init rfl 0 rfl (by decide +kernel) ⟨Nat.le_of_ble_eq_true rfl, Nat.le_of_ble_eq_true rfl⟩ [3] [0, 1, 2] rfl rfl (by decide) (by decide) (by decide) hl.1 rfl (Nat.le_of_ble_eq_true rfl) dX1_init_41 ⟨Nat.le_of_ble_eq_true rfl, Nat.le_of_ble_eq_true rfl⟩ (w1 := fun u4 => [(b, .inr (1, [.int 0, .ref q1, .ref q2])), (q1, .inl (cN, 4, .inr (.inr (.inr (.inr (fun _ => none)))))), (q2, .inl (cW, 4, .inr (.inr (.inr (.inr (fun _ => none)))))), (q3, .inr (2, [.int 0, .ref (u4.1 0), .ref (u4.1 1), .ref (u4.1 2), .ref (u4.1 3), .ref (u4.1 4), .ref (u4.1 5), .ref (u4.1 6), .ref (u4.1 7)])), ((u4.1 0), .inl (cI, 10, .inl (u4.2 0))), ((u4.1 1), .inl (cI, 10, .inl (u4.2 1))), ((u4.1 2), .inl (cI, 10, .inl (u4.2 2))), ((u4.1 6), .inl (cI, 20, .inl (u4.2 3))), ((u4.1 7), .inl (cI, 20, .inl (fun _ => 0)))]) (fun _ => rfl) (fun  u4 H locs hp hP hD hS => ?_)
  refine r_astX F hK hP hD hS 1 3 3 2 rfl rfl rfl rfl (bw_vin (by decide)) dX1_init_44 (w1 := fun f5 => [(b, .inr (1, [.int 0, .ref q1, .ref q2])), (q1, .inl (cN, 4, .inr (.inr (.inr (.inr f5))))), (q2, .inl (cW, 4, .inr (.inr (.inr (.inr (fun _ => none)))))), (q3, .inr (2, [.int 0, .ref (u4.1 0), .ref (u4.1 1), .ref (u4.1 2), .ref (u4.1 3), .ref (u4.1 4), .ref (u4.1 5), .ref (u4.1 6), .ref (u4.1 7)])), ((u4.1 0), .inl (cI, 10, .inl (u4.2 0))), ((u4.1 1), .inl (cI, 10, .inl (u4.2 1))), ((u4.1 2), .inl (cI, 10, .inl (u4.2 2))), ((u4.1 6), .inl (cI, 20, .inl (u4.2 3))), ((u4.1 7), .inl (cI, 20, .inl (fun _ => 0)))]) (fun _ => rfl) (fun f5 H locs hP hD hS => ?_)
  have hP := bw_subP (isC := [0, 1, 2]) (wc := [(b, .inr (1, [.int 0, .ref q1, .ref q2])), (q1, .inl (cN, 4, .inr (.inr (.inr (.inr f5))))), (q2, .inl (cW, 4, .inr (.inr (.inr (.inr (fun _ => none))))))]) hP rfl
  have hD := hD.sub (ws' := [(b, .inr (1, [.int 0, .ref q1, .ref q2])), (q1, .inl (cN, 4, .inr (.inr (.inr (.inr f5))))), (q2, .inl (cW, 4, .inr (.inr (.inr (.inr (fun _ => none))))))]) [0, 1, 2] (by decide) rfl
  refine lv_aload_n hx hb dX1_init_45 rfl (lv_at hl 1 rfl) ?_
  refine r_get F hK hP 0 2 rfl rfl in_X1 (by decide) k_486 rfl dX1_init_46 ?_
  refine lv_iload_n hx hb dX1_init_49 rfl (lv_at hl 0 rfl) ?_
  refine r_new (ci := 6) (fs := [.int 0, .int 0, .int 0, .int 0, .int 0, .null, .null, .null, .long 0, .null]) F hK hP hD hS hA rfl in_X6 tyX6 tyX6_ok k_478 k_315 k_102 (bw_dflt rfl) (Nat.le_of_ble_eq_true rfl) (Nat.le_of_ble_eq_true rfl) dX1_init_50 (w1 := fun q6 => [(b, .inr (1, [.int 0, .ref q1, .ref q2])), (q1, .inl (cN, 4, .inr (.inr (.inr (.inr f5))))), (q2, .inl (cW, 4, .inr (.inr (.inr (.inr (fun _ => none)))))), (q6, .inr (6, [.int 0, .int 0, .int 0, .int 0, .int 0, .null, .null, .null, .long 0, .null]))]) (fun _ => rfl) (fun q6 H hP hD hS => ?_)
  refine lv_dup hx hb dX1_init_53 rfl ?_
  refine r_callNv (As := []) (rest := [.ref q6, .int 0, .ref q2]) (wr := [(b, .inr (1, [.int 0, .ref q1, .ref q2])), (q1, .inl (cN, 4, .inr (.inr (.inr (.inr f5))))), (q2, .inl (cW, 4, .inr (.inr (.inr (.inr (fun _ => none))))))]) F hK hP hD hS hA hO hE (c_X6_init hO q6) (hN _ _ hE).2.2.2.2.2.2.2.1 ki_X6_init rfl 0 rfl (by decide +kernel) ⟨Nat.le_of_ble_eq_true rfl, Nat.le_of_ble_eq_true rfl⟩ [3] [0, 1, 2] rfl rfl (by decide) (by decide) (by decide) hl.1 rfl (Nat.le_of_ble_eq_true rfl) dX1_init_54 ⟨Nat.le_of_ble_eq_true rfl, Nat.le_of_ble_eq_true rfl⟩ (w1 := fun u7 => [(b, .inr (1, [.int 0, .ref q1, .ref q2])), (q1, .inl (cN, 4, .inr (.inr (.inr (.inr f5))))), (q2, .inl (cW, 4, .inr (.inr (.inr (.inr (fun _ => none)))))), (q6, .inr (6, [.int 0, .int 0, .int 0, .int 0, .int 0, .ref (u7.1 0), .ref (u7.1 1), .ref (u7.1 2), .long 0, .ref (u7.1 3)]))]) (fun _ => rfl) (fun  u7 H locs hp hP hD hS => ?_)
  refine r_astX F hK hP hD hS 2 4 3 6 rfl rfl rfl rfl (bw_vin (by decide)) dX1_init_57 (w1 := fun f8 => [(b, .inr (1, [.int 0, .ref q1, .ref q2])), (q1, .inl (cN, 4, .inr (.inr (.inr (.inr f5))))), (q2, .inl (cW, 4, .inr (.inr (.inr (.inr f8))))), (q6, .inr (6, [.int 0, .int 0, .int 0, .int 0, .int 0, .ref (u7.1 0), .ref (u7.1 1), .ref (u7.1 2), .long 0, .ref (u7.1 3)]))]) (fun _ => rfl) (fun f8 H locs hP hD hS => ?_)
  have hP := bw_subP (isC := [0, 1, 2]) (wc := [(b, .inr (1, [.int 0, .ref q1, .ref q2])), (q1, .inl (cN, 4, .inr (.inr (.inr (.inr f5))))), (q2, .inl (cW, 4, .inr (.inr (.inr (.inr f8)))))]) hP rfl
  have hD := hD.sub (ws' := [(b, .inr (1, [.int 0, .ref q1, .ref q2])), (q1, .inl (cN, 4, .inr (.inr (.inr (.inr f5))))), (q2, .inl (cW, 4, .inr (.inr (.inr (.inr f8)))))]) [0, 1, 2] (by decide) rfl
  refine lv_iinc (v := 1) (lv' := [(1, .int 1), (0, .ref b)]) hx hb dX1_init_58 hl (k := 0) rfl (by decide) (by decide) rfl (fun ls hl => ?_)
  refine lv_goto (tgt := 27) hx hb dX1_init_61 (by decide) ?_
  refine lv_iload_n hx hb dX1_init_27 rfl (lv_at hl 0 rfl) ?_
  refine lv_iconst (v := 4) hx hb dX1_init_28 (by decide) ?_
  refine lv_icmp_ge (tgt := 64) hx hb dX1_init_29 (by decide) (fun h9 => absurd h9 (by decide)) (fun _ => ?_)
  refine lv_aload_n hx hb dX1_init_32 rfl (lv_at hl 1 rfl) ?_
  refine r_get F hK hP 0 1 rfl rfl in_X1 (by decide) k_484 rfl dX1_init_33 ?_
  refine lv_iload_n hx hb dX1_init_36 rfl (lv_at hl 0 rfl) ?_
  refine r_new (ci := 2) (fs := [.int 0, .null, .null, .null, .null, .null, .null, .null, .null]) F hK hP hD hS hA rfl in_X2 tyX2 tyX2_ok k_476 k_131 k_96 (bw_dflt rfl) (Nat.le_of_ble_eq_true rfl) (Nat.le_of_ble_eq_true rfl) dX1_init_37 (w1 := fun q9 => [(b, .inr (1, [.int 0, .ref q1, .ref q2])), (q1, .inl (cN, 4, .inr (.inr (.inr (.inr f5))))), (q2, .inl (cW, 4, .inr (.inr (.inr (.inr f8))))), (q9, .inr (2, [.int 0, .null, .null, .null, .null, .null, .null, .null, .null]))]) (fun _ => rfl) (fun q9 H hP hD hS => ?_)
  refine lv_dup hx hb dX1_init_40 rfl ?_
  refine r_callIv (As := []) (rest := [.ref q9, .int 1, .ref q1]) (wr := [(b, .inr (1, [.int 0, .ref q1, .ref q2])), (q1, .inl (cN, 4, .inr (.inr (.inr (.inr f5))))), (q2, .inl (cW, 4, .inr (.inr (.inr (.inr f8)))))]) F hK hP hD hS hA hO hE (c_X2_init hO q9) k_480 ki_X2_init rfl 0 rfl (by decide +kernel) ⟨Nat.le_of_ble_eq_true rfl, Nat.le_of_ble_eq_true rfl⟩ [3] [0, 1, 2] rfl rfl (by decide) (by decide) (by decide) hl.1 rfl (Nat.le_of_ble_eq_true rfl) dX1_init_41 ⟨Nat.le_of_ble_eq_true rfl, Nat.le_of_ble_eq_true rfl⟩ (w1 := fun u10 => [(b, .inr (1, [.int 0, .ref q1, .ref q2])), (q1, .inl (cN, 4, .inr (.inr (.inr (.inr f5))))), (q2, .inl (cW, 4, .inr (.inr (.inr (.inr f8))))), (q9, .inr (2, [.int 0, .ref (u10.1 0), .ref (u10.1 1), .ref (u10.1 2), .ref (u10.1 3), .ref (u10.1 4), .ref (u10.1 5), .ref (u10.1 6), .ref (u10.1 7)])), ((u10.1 0), .inl (cI, 10, .inl (u10.2 0))), ((u10.1 1), .inl (cI, 10, .inl (u10.2 1))), ((u10.1 2), .inl (cI, 10, .inl (u10.2 2))), ((u10.1 6), .inl (cI, 20, .inl (u10.2 3))), ((u10.1 7), .inl (cI, 20, .inl (fun _ => 0)))]) (fun _ => rfl) (fun  u10 H locs hp hP hD hS => ?_)
  refine r_astX F hK hP hD hS 1 3 3 2 rfl rfl rfl rfl (bw_vin (by decide)) dX1_init_44 (w1 := fun f11 => [(b, .inr (1, [.int 0, .ref q1, .ref q2])), (q1, .inl (cN, 4, .inr (.inr (.inr (.inr f11))))), (q2, .inl (cW, 4, .inr (.inr (.inr (.inr f8))))), (q9, .inr (2, [.int 0, .ref (u10.1 0), .ref (u10.1 1), .ref (u10.1 2), .ref (u10.1 3), .ref (u10.1 4), .ref (u10.1 5), .ref (u10.1 6), .ref (u10.1 7)])), ((u10.1 0), .inl (cI, 10, .inl (u10.2 0))), ((u10.1 1), .inl (cI, 10, .inl (u10.2 1))), ((u10.1 2), .inl (cI, 10, .inl (u10.2 2))), ((u10.1 6), .inl (cI, 20, .inl (u10.2 3))), ((u10.1 7), .inl (cI, 20, .inl (fun _ => 0)))]) (fun _ => rfl) (fun f11 H locs hP hD hS => ?_)
  have hP := bw_subP (isC := [0, 1, 2]) (wc := [(b, .inr (1, [.int 0, .ref q1, .ref q2])), (q1, .inl (cN, 4, .inr (.inr (.inr (.inr f11))))), (q2, .inl (cW, 4, .inr (.inr (.inr (.inr f8)))))]) hP rfl
  have hD := hD.sub (ws' := [(b, .inr (1, [.int 0, .ref q1, .ref q2])), (q1, .inl (cN, 4, .inr (.inr (.inr (.inr f11))))), (q2, .inl (cW, 4, .inr (.inr (.inr (.inr f8)))))]) [0, 1, 2] (by decide) rfl
  refine lv_aload_n hx hb dX1_init_45 rfl (lv_at hl 1 rfl) ?_
  refine r_get F hK hP 0 2 rfl rfl in_X1 (by decide) k_486 rfl dX1_init_46 ?_
  refine lv_iload_n hx hb dX1_init_49 rfl (lv_at hl 0 rfl) ?_
  refine r_new (ci := 6) (fs := [.int 0, .int 0, .int 0, .int 0, .int 0, .null, .null, .null, .long 0, .null]) F hK hP hD hS hA rfl in_X6 tyX6 tyX6_ok k_478 k_315 k_102 (bw_dflt rfl) (Nat.le_of_ble_eq_true rfl) (Nat.le_of_ble_eq_true rfl) dX1_init_50 (w1 := fun q12 => [(b, .inr (1, [.int 0, .ref q1, .ref q2])), (q1, .inl (cN, 4, .inr (.inr (.inr (.inr f11))))), (q2, .inl (cW, 4, .inr (.inr (.inr (.inr f8))))), (q12, .inr (6, [.int 0, .int 0, .int 0, .int 0, .int 0, .null, .null, .null, .long 0, .null]))]) (fun _ => rfl) (fun q12 H hP hD hS => ?_)
  refine lv_dup hx hb dX1_init_53 rfl ?_
  refine r_callNv (As := []) (rest := [.ref q12, .int 1, .ref q2]) (wr := [(b, .inr (1, [.int 0, .ref q1, .ref q2])), (q1, .inl (cN, 4, .inr (.inr (.inr (.inr f11))))), (q2, .inl (cW, 4, .inr (.inr (.inr (.inr f8)))))]) F hK hP hD hS hA hO hE (c_X6_init hO q12) (hN _ _ hE).2.2.2.2.2.2.2.1 ki_X6_init rfl 0 rfl (by decide +kernel) ⟨Nat.le_of_ble_eq_true rfl, Nat.le_of_ble_eq_true rfl⟩ [3] [0, 1, 2] rfl rfl (by decide) (by decide) (by decide) hl.1 rfl (Nat.le_of_ble_eq_true rfl) dX1_init_54 ⟨Nat.le_of_ble_eq_true rfl, Nat.le_of_ble_eq_true rfl⟩ (w1 := fun u13 => [(b, .inr (1, [.int 0, .ref q1, .ref q2])), (q1, .inl (cN, 4, .inr (.inr (.inr (.inr f11))))), (q2, .inl (cW, 4, .inr (.inr (.inr (.inr f8))))), (q12, .inr (6, [.int 0, .int 0, .int 0, .int 0, .int 0, .ref (u13.1 0), .ref (u13.1 1), .ref (u13.1 2), .long 0, .ref (u13.1 3)]))]) (fun _ => rfl) (fun  u13 H locs hp hP hD hS => ?_)
  refine r_astX F hK hP hD hS 2 4 3 6 rfl rfl rfl rfl (bw_vin (by decide)) dX1_init_57 (w1 := fun f14 => [(b, .inr (1, [.int 0, .ref q1, .ref q2])), (q1, .inl (cN, 4, .inr (.inr (.inr (.inr f11))))), (q2, .inl (cW, 4, .inr (.inr (.inr (.inr f14))))), (q12, .inr (6, [.int 0, .int 0, .int 0, .int 0, .int 0, .ref (u13.1 0), .ref (u13.1 1), .ref (u13.1 2), .long 0, .ref (u13.1 3)]))]) (fun _ => rfl) (fun f14 H locs hP hD hS => ?_)
  have hP := bw_subP (isC := [0, 1, 2]) (wc := [(b, .inr (1, [.int 0, .ref q1, .ref q2])), (q1, .inl (cN, 4, .inr (.inr (.inr (.inr f11))))), (q2, .inl (cW, 4, .inr (.inr (.inr (.inr f14)))))]) hP rfl
  have hD := hD.sub (ws' := [(b, .inr (1, [.int 0, .ref q1, .ref q2])), (q1, .inl (cN, 4, .inr (.inr (.inr (.inr f11))))), (q2, .inl (cW, 4, .inr (.inr (.inr (.inr f14)))))]) [0, 1, 2] (by decide) rfl
  refine lv_iinc (v := 2) (lv' := [(1, .int 2), (0, .ref b)]) hx hb dX1_init_58 hl (k := 0) rfl (by decide) (by decide) rfl (fun ls hl => ?_)
  refine lv_goto (tgt := 27) hx hb dX1_init_61 (by decide) ?_
  refine lv_iload_n hx hb dX1_init_27 rfl (lv_at hl 0 rfl) ?_
  refine lv_iconst (v := 4) hx hb dX1_init_28 (by decide) ?_
  refine lv_icmp_ge (tgt := 64) hx hb dX1_init_29 (by decide) (fun h9 => absurd h9 (by decide)) (fun _ => ?_)
  refine lv_aload_n hx hb dX1_init_32 rfl (lv_at hl 1 rfl) ?_
  refine r_get F hK hP 0 1 rfl rfl in_X1 (by decide) k_484 rfl dX1_init_33 ?_
  refine lv_iload_n hx hb dX1_init_36 rfl (lv_at hl 0 rfl) ?_
  refine r_new (ci := 2) (fs := [.int 0, .null, .null, .null, .null, .null, .null, .null, .null]) F hK hP hD hS hA rfl in_X2 tyX2 tyX2_ok k_476 k_131 k_96 (bw_dflt rfl) (Nat.le_of_ble_eq_true rfl) (Nat.le_of_ble_eq_true rfl) dX1_init_37 (w1 := fun q15 => [(b, .inr (1, [.int 0, .ref q1, .ref q2])), (q1, .inl (cN, 4, .inr (.inr (.inr (.inr f11))))), (q2, .inl (cW, 4, .inr (.inr (.inr (.inr f14))))), (q15, .inr (2, [.int 0, .null, .null, .null, .null, .null, .null, .null, .null]))]) (fun _ => rfl) (fun q15 H hP hD hS => ?_)
  refine lv_dup hx hb dX1_init_40 rfl ?_
  refine r_callIv (As := []) (rest := [.ref q15, .int 2, .ref q1]) (wr := [(b, .inr (1, [.int 0, .ref q1, .ref q2])), (q1, .inl (cN, 4, .inr (.inr (.inr (.inr f11))))), (q2, .inl (cW, 4, .inr (.inr (.inr (.inr f14)))))]) F hK hP hD hS hA hO hE (c_X2_init hO q15) k_480 ki_X2_init rfl 0 rfl (by decide +kernel) ⟨Nat.le_of_ble_eq_true rfl, Nat.le_of_ble_eq_true rfl⟩ [3] [0, 1, 2] rfl rfl (by decide) (by decide) (by decide) hl.1 rfl (Nat.le_of_ble_eq_true rfl) dX1_init_41 ⟨Nat.le_of_ble_eq_true rfl, Nat.le_of_ble_eq_true rfl⟩ (w1 := fun u16 => [(b, .inr (1, [.int 0, .ref q1, .ref q2])), (q1, .inl (cN, 4, .inr (.inr (.inr (.inr f11))))), (q2, .inl (cW, 4, .inr (.inr (.inr (.inr f14))))), (q15, .inr (2, [.int 0, .ref (u16.1 0), .ref (u16.1 1), .ref (u16.1 2), .ref (u16.1 3), .ref (u16.1 4), .ref (u16.1 5), .ref (u16.1 6), .ref (u16.1 7)])), ((u16.1 0), .inl (cI, 10, .inl (u16.2 0))), ((u16.1 1), .inl (cI, 10, .inl (u16.2 1))), ((u16.1 2), .inl (cI, 10, .inl (u16.2 2))), ((u16.1 6), .inl (cI, 20, .inl (u16.2 3))), ((u16.1 7), .inl (cI, 20, .inl (fun _ => 0)))]) (fun _ => rfl) (fun  u16 H locs hp hP hD hS => ?_)
  refine r_astX F hK hP hD hS 1 3 3 2 rfl rfl rfl rfl (bw_vin (by decide)) dX1_init_44 (w1 := fun f17 => [(b, .inr (1, [.int 0, .ref q1, .ref q2])), (q1, .inl (cN, 4, .inr (.inr (.inr (.inr f17))))), (q2, .inl (cW, 4, .inr (.inr (.inr (.inr f14))))), (q15, .inr (2, [.int 0, .ref (u16.1 0), .ref (u16.1 1), .ref (u16.1 2), .ref (u16.1 3), .ref (u16.1 4), .ref (u16.1 5), .ref (u16.1 6), .ref (u16.1 7)])), ((u16.1 0), .inl (cI, 10, .inl (u16.2 0))), ((u16.1 1), .inl (cI, 10, .inl (u16.2 1))), ((u16.1 2), .inl (cI, 10, .inl (u16.2 2))), ((u16.1 6), .inl (cI, 20, .inl (u16.2 3))), ((u16.1 7), .inl (cI, 20, .inl (fun _ => 0)))]) (fun _ => rfl) (fun f17 H locs hP hD hS => ?_)
  have hP := bw_subP (isC := [0, 1, 2]) (wc := [(b, .inr (1, [.int 0, .ref q1, .ref q2])), (q1, .inl (cN, 4, .inr (.inr (.inr (.inr f17))))), (q2, .inl (cW, 4, .inr (.inr (.inr (.inr f14)))))]) hP rfl
  have hD := hD.sub (ws' := [(b, .inr (1, [.int 0, .ref q1, .ref q2])), (q1, .inl (cN, 4, .inr (.inr (.inr (.inr f17))))), (q2, .inl (cW, 4, .inr (.inr (.inr (.inr f14)))))]) [0, 1, 2] (by decide) rfl
  refine lv_aload_n hx hb dX1_init_45 rfl (lv_at hl 1 rfl) ?_
  refine r_get F hK hP 0 2 rfl rfl in_X1 (by decide) k_486 rfl dX1_init_46 ?_
  refine lv_iload_n hx hb dX1_init_49 rfl (lv_at hl 0 rfl) ?_
  refine r_new (ci := 6) (fs := [.int 0, .int 0, .int 0, .int 0, .int 0, .null, .null, .null, .long 0, .null]) F hK hP hD hS hA rfl in_X6 tyX6 tyX6_ok k_478 k_315 k_102 (bw_dflt rfl) (Nat.le_of_ble_eq_true rfl) (Nat.le_of_ble_eq_true rfl) dX1_init_50 (w1 := fun q18 => [(b, .inr (1, [.int 0, .ref q1, .ref q2])), (q1, .inl (cN, 4, .inr (.inr (.inr (.inr f17))))), (q2, .inl (cW, 4, .inr (.inr (.inr (.inr f14))))), (q18, .inr (6, [.int 0, .int 0, .int 0, .int 0, .int 0, .null, .null, .null, .long 0, .null]))]) (fun _ => rfl) (fun q18 H hP hD hS => ?_)
  refine lv_dup hx hb dX1_init_53 rfl ?_
  refine r_callNv (As := []) (rest := [.ref q18, .int 2, .ref q2]) (wr := [(b, .inr (1, [.int 0, .ref q1, .ref q2])), (q1, .inl (cN, 4, .inr (.inr (.inr (.inr f17))))), (q2, .inl (cW, 4, .inr (.inr (.inr (.inr f14)))))]) F hK hP hD hS hA hO hE (c_X6_init hO q18) (hN _ _ hE).2.2.2.2.2.2.2.1 ki_X6_init rfl 0 rfl (by decide +kernel) ⟨Nat.le_of_ble_eq_true rfl, Nat.le_of_ble_eq_true rfl⟩ [3] [0, 1, 2] rfl rfl (by decide) (by decide) (by decide) hl.1 rfl (Nat.le_of_ble_eq_true rfl) dX1_init_54 ⟨Nat.le_of_ble_eq_true rfl, Nat.le_of_ble_eq_true rfl⟩ (w1 := fun u19 => [(b, .inr (1, [.int 0, .ref q1, .ref q2])), (q1, .inl (cN, 4, .inr (.inr (.inr (.inr f17))))), (q2, .inl (cW, 4, .inr (.inr (.inr (.inr f14))))), (q18, .inr (6, [.int 0, .int 0, .int 0, .int 0, .int 0, .ref (u19.1 0), .ref (u19.1 1), .ref (u19.1 2), .long 0, .ref (u19.1 3)]))]) (fun _ => rfl) (fun  u19 H locs hp hP hD hS => ?_)
  refine r_astX F hK hP hD hS 2 4 3 6 rfl rfl rfl rfl (bw_vin (by decide)) dX1_init_57 (w1 := fun f20 => [(b, .inr (1, [.int 0, .ref q1, .ref q2])), (q1, .inl (cN, 4, .inr (.inr (.inr (.inr f17))))), (q2, .inl (cW, 4, .inr (.inr (.inr (.inr f20))))), (q18, .inr (6, [.int 0, .int 0, .int 0, .int 0, .int 0, .ref (u19.1 0), .ref (u19.1 1), .ref (u19.1 2), .long 0, .ref (u19.1 3)]))]) (fun _ => rfl) (fun f20 H locs hP hD hS => ?_)
  have hP := bw_subP (isC := [0, 1, 2]) (wc := [(b, .inr (1, [.int 0, .ref q1, .ref q2])), (q1, .inl (cN, 4, .inr (.inr (.inr (.inr f17))))), (q2, .inl (cW, 4, .inr (.inr (.inr (.inr f20)))))]) hP rfl
  have hD := hD.sub (ws' := [(b, .inr (1, [.int 0, .ref q1, .ref q2])), (q1, .inl (cN, 4, .inr (.inr (.inr (.inr f17))))), (q2, .inl (cW, 4, .inr (.inr (.inr (.inr f20)))))]) [0, 1, 2] (by decide) rfl
  refine lv_iinc (v := 3) (lv' := [(1, .int 3), (0, .ref b)]) hx hb dX1_init_58 hl (k := 0) rfl (by decide) (by decide) rfl (fun ls hl => ?_)
  refine lv_goto (tgt := 27) hx hb dX1_init_61 (by decide) ?_
  refine lv_iload_n hx hb dX1_init_27 rfl (lv_at hl 0 rfl) ?_
  refine lv_iconst (v := 4) hx hb dX1_init_28 (by decide) ?_
  refine lv_icmp_ge (tgt := 64) hx hb dX1_init_29 (by decide) (fun h9 => absurd h9 (by decide)) (fun _ => ?_)
  refine lv_aload_n hx hb dX1_init_32 rfl (lv_at hl 1 rfl) ?_
  refine r_get F hK hP 0 1 rfl rfl in_X1 (by decide) k_484 rfl dX1_init_33 ?_
  refine lv_iload_n hx hb dX1_init_36 rfl (lv_at hl 0 rfl) ?_
  refine r_new (ci := 2) (fs := [.int 0, .null, .null, .null, .null, .null, .null, .null, .null]) F hK hP hD hS hA rfl in_X2 tyX2 tyX2_ok k_476 k_131 k_96 (bw_dflt rfl) (Nat.le_of_ble_eq_true rfl) (Nat.le_of_ble_eq_true rfl) dX1_init_37 (w1 := fun q21 => [(b, .inr (1, [.int 0, .ref q1, .ref q2])), (q1, .inl (cN, 4, .inr (.inr (.inr (.inr f17))))), (q2, .inl (cW, 4, .inr (.inr (.inr (.inr f20))))), (q21, .inr (2, [.int 0, .null, .null, .null, .null, .null, .null, .null, .null]))]) (fun _ => rfl) (fun q21 H hP hD hS => ?_)
  refine lv_dup hx hb dX1_init_40 rfl ?_
  refine r_callIv (As := []) (rest := [.ref q21, .int 3, .ref q1]) (wr := [(b, .inr (1, [.int 0, .ref q1, .ref q2])), (q1, .inl (cN, 4, .inr (.inr (.inr (.inr f17))))), (q2, .inl (cW, 4, .inr (.inr (.inr (.inr f20)))))]) F hK hP hD hS hA hO hE (c_X2_init hO q21) k_480 ki_X2_init rfl 0 rfl (by decide +kernel) ⟨Nat.le_of_ble_eq_true rfl, Nat.le_of_ble_eq_true rfl⟩ [3] [0, 1, 2] rfl rfl (by decide) (by decide) (by decide) hl.1 rfl (Nat.le_of_ble_eq_true rfl) dX1_init_41 ⟨Nat.le_of_ble_eq_true rfl, Nat.le_of_ble_eq_true rfl⟩ (w1 := fun u22 => [(b, .inr (1, [.int 0, .ref q1, .ref q2])), (q1, .inl (cN, 4, .inr (.inr (.inr (.inr f17))))), (q2, .inl (cW, 4, .inr (.inr (.inr (.inr f20))))), (q21, .inr (2, [.int 0, .ref (u22.1 0), .ref (u22.1 1), .ref (u22.1 2), .ref (u22.1 3), .ref (u22.1 4), .ref (u22.1 5), .ref (u22.1 6), .ref (u22.1 7)])), ((u22.1 0), .inl (cI, 10, .inl (u22.2 0))), ((u22.1 1), .inl (cI, 10, .inl (u22.2 1))), ((u22.1 2), .inl (cI, 10, .inl (u22.2 2))), ((u22.1 6), .inl (cI, 20, .inl (u22.2 3))), ((u22.1 7), .inl (cI, 20, .inl (fun _ => 0)))]) (fun _ => rfl) (fun  u22 H locs hp hP hD hS => ?_)
  refine r_astX F hK hP hD hS 1 3 3 2 rfl rfl rfl rfl (bw_vin (by decide)) dX1_init_44 (w1 := fun f23 => [(b, .inr (1, [.int 0, .ref q1, .ref q2])), (q1, .inl (cN, 4, .inr (.inr (.inr (.inr f23))))), (q2, .inl (cW, 4, .inr (.inr (.inr (.inr f20))))), (q21, .inr (2, [.int 0, .ref (u22.1 0), .ref (u22.1 1), .ref (u22.1 2), .ref (u22.1 3), .ref (u22.1 4), .ref (u22.1 5), .ref (u22.1 6), .ref (u22.1 7)])), ((u22.1 0), .inl (cI, 10, .inl (u22.2 0))), ((u22.1 1), .inl (cI, 10, .inl (u22.2 1))), ((u22.1 2), .inl (cI, 10, .inl (u22.2 2))), ((u22.1 6), .inl (cI, 20, .inl (u22.2 3))), ((u22.1 7), .inl (cI, 20, .inl (fun _ => 0)))]) (fun _ => rfl) (fun f23 H locs hP hD hS => ?_)
  have hP := bw_subP (isC := [0, 1, 2]) (wc := [(b, .inr (1, [.int 0, .ref q1, .ref q2])), (q1, .inl (cN, 4, .inr (.inr (.inr (.inr f23))))), (q2, .inl (cW, 4, .inr (.inr (.inr (.inr f20)))))]) hP rfl
  have hD := hD.sub (ws' := [(b, .inr (1, [.int 0, .ref q1, .ref q2])), (q1, .inl (cN, 4, .inr (.inr (.inr (.inr f23))))), (q2, .inl (cW, 4, .inr (.inr (.inr (.inr f20)))))]) [0, 1, 2] (by decide) rfl
  refine lv_aload_n hx hb dX1_init_45 rfl (lv_at hl 1 rfl) ?_
  refine r_get F hK hP 0 2 rfl rfl in_X1 (by decide) k_486 rfl dX1_init_46 ?_
  refine lv_iload_n hx hb dX1_init_49 rfl (lv_at hl 0 rfl) ?_
  refine r_new (ci := 6) (fs := [.int 0, .int 0, .int 0, .int 0, .int 0, .null, .null, .null, .long 0, .null]) F hK hP hD hS hA rfl in_X6 tyX6 tyX6_ok k_478 k_315 k_102 (bw_dflt rfl) (Nat.le_of_ble_eq_true rfl) (Nat.le_of_ble_eq_true rfl) dX1_init_50 (w1 := fun q24 => [(b, .inr (1, [.int 0, .ref q1, .ref q2])), (q1, .inl (cN, 4, .inr (.inr (.inr (.inr f23))))), (q2, .inl (cW, 4, .inr (.inr (.inr (.inr f20))))), (q24, .inr (6, [.int 0, .int 0, .int 0, .int 0, .int 0, .null, .null, .null, .long 0, .null]))]) (fun _ => rfl) (fun q24 H hP hD hS => ?_)
  refine lv_dup hx hb dX1_init_53 rfl ?_
  refine r_callNv (As := []) (rest := [.ref q24, .int 3, .ref q2]) (wr := [(b, .inr (1, [.int 0, .ref q1, .ref q2])), (q1, .inl (cN, 4, .inr (.inr (.inr (.inr f23))))), (q2, .inl (cW, 4, .inr (.inr (.inr (.inr f20)))))]) F hK hP hD hS hA hO hE (c_X6_init hO q24) (hN _ _ hE).2.2.2.2.2.2.2.1 ki_X6_init rfl 0 rfl (by decide +kernel) ⟨Nat.le_of_ble_eq_true rfl, Nat.le_of_ble_eq_true rfl⟩ [3] [0, 1, 2] rfl rfl (by decide) (by decide) (by decide) hl.1 rfl (Nat.le_of_ble_eq_true rfl) dX1_init_54 ⟨Nat.le_of_ble_eq_true rfl, Nat.le_of_ble_eq_true rfl⟩ (w1 := fun u25 => [(b, .inr (1, [.int 0, .ref q1, .ref q2])), (q1, .inl (cN, 4, .inr (.inr (.inr (.inr f23))))), (q2, .inl (cW, 4, .inr (.inr (.inr (.inr f20))))), (q24, .inr (6, [.int 0, .int 0, .int 0, .int 0, .int 0, .ref (u25.1 0), .ref (u25.1 1), .ref (u25.1 2), .long 0, .ref (u25.1 3)]))]) (fun _ => rfl) (fun  u25 H locs hp hP hD hS => ?_)
  refine r_astX F hK hP hD hS 2 4 3 6 rfl rfl rfl rfl (bw_vin (by decide)) dX1_init_57 (w1 := fun f26 => [(b, .inr (1, [.int 0, .ref q1, .ref q2])), (q1, .inl (cN, 4, .inr (.inr (.inr (.inr f23))))), (q2, .inl (cW, 4, .inr (.inr (.inr (.inr f26))))), (q24, .inr (6, [.int 0, .int 0, .int 0, .int 0, .int 0, .ref (u25.1 0), .ref (u25.1 1), .ref (u25.1 2), .long 0, .ref (u25.1 3)]))]) (fun _ => rfl) (fun f26 H locs hP hD hS => ?_)
  have hP := bw_subP (isC := [0, 1, 2]) (wc := [(b, .inr (1, [.int 0, .ref q1, .ref q2])), (q1, .inl (cN, 4, .inr (.inr (.inr (.inr f23))))), (q2, .inl (cW, 4, .inr (.inr (.inr (.inr f26)))))]) hP rfl
  have hD := hD.sub (ws' := [(b, .inr (1, [.int 0, .ref q1, .ref q2])), (q1, .inl (cN, 4, .inr (.inr (.inr (.inr f23))))), (q2, .inl (cW, 4, .inr (.inr (.inr (.inr f26)))))]) [0, 1, 2] (by decide) rfl
  refine lv_iinc (v := 4) (lv' := [(1, .int 4), (0, .ref b)]) hx hb dX1_init_58 hl (k := 0) rfl (by decide) (by decide) rfl (fun ls hl => ?_)
  refine lv_goto (tgt := 27) hx hb dX1_init_61 (by decide) ?_
  refine lv_iload_n hx hb dX1_init_27 rfl (lv_at hl 0 rfl) ?_
  refine lv_iconst (v := 4) hx hb dX1_init_28 (by decide) ?_
  refine lv_icmp_ge (tgt := 64) hx hb dX1_init_29 (by decide) (fun _ => ?_) (fun h9 => absurd (by decide) h9)
  exact ret ((fun k => [q1, q2].getD k 0), fun _ _ => 0) _ _ _ _ _ _ trivial (bw_subP (isC := [0]) hP rfl) (hD.sub [0] (by decide) rfl) hS (Nat.le_of_ble_eq_true rfl) (Nat.le_of_ble_eq_true rfl) dX1_init_64
theorem dX3_init_0 : decode cX3_init 0 = .ok (.aload_n 0, 1) := by decide +kernel
theorem dX3_init_1 : decode cX3_init 1 = .ok (.invokespecial 3, 3) := by decide +kernel
theorem k_129 : Cond.methodLink RX3 3 Lib.objectInit ∈ bw_T := bw_m 129 (by decide +kernel) rfl
theorem dX3_init_4 : decode cX3_init 4 = .ok (.aload_n 0, 1) := by decide +kernel
theorem dX3_init_5 : decode cX3_init 5 = .ok (.sipush 900, 3) := by decide +kernel
theorem dX3_init_8 : decode cX3_init 8 = .ok (.newarray .byte, 2) := by decide +kernel
theorem k_193 : Cond.arrayClass .byte ∈ bw_T := bw_m 193 (by decide +kernel) rfl
theorem dX3_init_10 : decode cX3_init 10 = .ok (.putfield 9, 3) := by decide +kernel
theorem k_261 : Cond.fieldLink RX3 9 "BurntWays$Reader" "tape" "[B" ∈ bw_T := bw_m 261 (by decide +kernel) rfl
theorem in_X3 : ∀ w ∈ wsX30, w ∈ bw_T := bw_ms _ [280, 282, 284, 286, 288, 290, 292, 294, 296, 298, 300, 302, 304, 306] (by decide +kernel) (by decide +kernel)
theorem dX3_init_13 : decode cX3_init 13 = .ok (.aload_n 0, 1) := by decide +kernel
theorem dX3_init_14 : decode cX3_init 14 = .ok (.iconst 0, 1) := by decide +kernel
theorem dX3_init_15 : decode cX3_init 15 = .ok (.putfield 15, 3) := by decide +kernel
theorem k_262 : Cond.fieldLink RX3 15 "BurntWays$Reader" "tapeLength" "I" ∈ bw_T := bw_m 262 (by decide +kernel) rfl
theorem dX3_init_18 : decode cX3_init 18 = .ok (.aload_n 0, 1) := by decide +kernel
theorem dX3_init_19 : decode cX3_init 19 = .ok (.new 19, 3) := by decide +kernel
theorem k_130 : Cond.classLink RX3 19 RX2 ∈ bw_T := bw_m 130 (by decide +kernel) rfl
theorem dX3_init_22 : decode cX3_init 22 = .ok (.dup, 1) := by decide +kernel
theorem dX3_init_23 : decode cX3_init 23 = .ok (.invokespecial 21, 3) := by decide +kernel
theorem k_132 : Cond.methodLink RX3 21 yX2_init ∈ bw_T := bw_m 132 (by decide +kernel) rfl
theorem dX3_init_26 : decode cX3_init 26 = .ok (.putfield 22, 3) := by decide +kernel
theorem k_264 : Cond.fieldLink RX3 22 "BurntWays$Reader" "net" "LBurntWays$Net;" ∈ bw_T := bw_m 264 (by decide +kernel) rfl
theorem dX3_init_29 : decode cX3_init 29 = .ok (.aload_n 0, 1) := by decide +kernel
theorem dX3_init_30 : decode cX3_init 30 = .ok (.new 26, 3) := by decide +kernel
theorem k_195 : Cond.classLink RX3 26 RX7 ∈ bw_T := bw_m 195 (by decide +kernel) rfl
theorem k_196 : Cond.instantiable RX7 2 ∈ bw_T := bw_m 196 (by decide +kernel) rfl
theorem k_97 : Cond.initialized RX7 ∈ bw_T := bw_m 97 (by decide +kernel) rfl
theorem dX3_init_33 : decode cX3_init 33 = .ok (.dup, 1) := by decide +kernel
theorem dX3_init_34 : decode cX3_init 34 = .ok (.invokespecial 28, 3) := by decide +kernel
theorem ki_X7_init : bw_KI RX7 yX7_init (Cond.code yX7_init cX7_init 1 none) := ⟨bw_m 198 (by decide +kernel) rfl, bw_m 97 (by decide +kernel) rfl, bw_m 199 (by decide +kernel) rfl⟩
theorem dX3_init_37 : decode cX3_init 37 = .ok (.putfield 29, 3) := by decide +kernel
theorem k_266 : Cond.fieldLink RX3 29 "BurntWays$Reader" "wants" "LBurntWays$Wants;" ∈ bw_T := bw_m 266 (by decide +kernel) rfl
theorem dX3_init_40 : decode cX3_init 40 = .ok (.aload_n 0, 1) := by decide +kernel
theorem dX3_init_41 : decode cX3_init 41 = .ok (.iconst 0, 1) := by decide +kernel
theorem dX3_init_42 : decode cX3_init 42 = .ok (.putfield 33, 3) := by decide +kernel
theorem k_268 : Cond.fieldLink RX3 33 "BurntWays$Reader" "fault" "I" ∈ bw_T := bw_m 268 (by decide +kernel) rfl
theorem dX3_init_45 : decode cX3_init 45 = .ok (.aload_n 0, 1) := by decide +kernel
theorem dX3_init_46 : decode cX3_init 46 = .ok (.iconst 0, 1) := by decide +kernel
theorem dX3_init_47 : decode cX3_init 47 = .ok (.putfield 36, 3) := by decide +kernel
theorem k_270 : Cond.fieldLink RX3 36 "BurntWays$Reader" "faultPlace" "I" ∈ bw_T := bw_m 270 (by decide +kernel) rfl
theorem dX3_init_50 : decode cX3_init 50 = .ok (.aload_n 0, 1) := by decide +kernel
theorem dX3_init_51 : decode cX3_init 51 = .ok (.bipush 19, 2) := by decide +kernel
theorem dX3_init_53 : decode cX3_init 53 = .ok (.newarray .long, 2) := by decide +kernel
theorem k_309 : Cond.arrayClass .long ∈ bw_T := bw_m 309 (by decide +kernel) rfl
theorem dX3_init_55 : decode cX3_init 55 = .ok (.putfield 39, 3) := by decide +kernel
theorem k_272 : Cond.fieldLink RX3 39 "BurntWays$Reader" "reserved" "[J" ∈ bw_T := bw_m 272 (by decide +kernel) rfl
theorem dX3_init_58 : decode cX3_init 58 = .ok (.aload_n 0, 1) := by decide +kernel
theorem dX3_init_59 : decode cX3_init 59 = .ok (.bipush 10, 2) := by decide +kernel
theorem dX3_init_61 : decode cX3_init 61 = .ok (.newarray .long, 2) := by decide +kernel
theorem dX3_init_63 : decode cX3_init 63 = .ok (.putfield 43, 3) := by decide +kernel
theorem k_273 : Cond.fieldLink RX3 43 "BurntWays$Reader" "names" "[J" ∈ bw_T := bw_m 273 (by decide +kernel) rfl
theorem dX3_init_66 : decode cX3_init 66 = .ok (.aload_n 0, 1) := by decide +kernel
theorem dX3_init_67 : decode cX3_init 67 = .ok (.iconst 0, 1) := by decide +kernel
theorem dX3_init_68 : decode cX3_init 68 = .ok (.putfield 46, 3) := by decide +kernel
theorem k_274 : Cond.fieldLink RX3 46 "BurntWays$Reader" "textLength" "I" ∈ bw_T := bw_m 274 (by decide +kernel) rfl
theorem dX3_init_71 : decode cX3_init 71 = .ok (.aload_n 0, 1) := by decide +kernel
theorem dX3_init_72 : decode cX3_init 72 = .ok (.bipush 24, 2) := by decide +kernel
theorem dX3_init_74 : decode cX3_init 74 = .ok (.putfield 49, 3) := by decide +kernel
theorem k_275 : Cond.fieldLink RX3 49 "BurntWays$Reader" "kind" "I" ∈ bw_T := bw_m 275 (by decide +kernel) rfl
theorem dX3_init_77 : decode cX3_init 77 = .ok (.aload_n 0, 1) := by decide +kernel
theorem dX3_init_78 : decode cX3_init 78 = .ok (.iconst 0, 1) := by decide +kernel
theorem dX3_init_79 : decode cX3_init 79 = .ok (.putfield 52, 3) := by decide +kernel
theorem k_276 : Cond.fieldLink RX3 52 "BurntWays$Reader" "place" "I" ∈ bw_T := bw_m 276 (by decide +kernel) rfl
theorem dX3_init_82 : decode cX3_init 82 = .ok (.aload_n 0, 1) := by decide +kernel
theorem dX3_init_83 : decode cX3_init 83 = .ok (.iconst 0, 1) := by decide +kernel
theorem dX3_init_84 : decode cX3_init 84 = .ok (.putfield 55, 3) := by decide +kernel
theorem k_277 : Cond.fieldLink RX3 55 "BurntWays$Reader" "behind" "I" ∈ bw_T := bw_m 277 (by decide +kernel) rfl
theorem dX3_init_87 : decode cX3_init 87 = .ok (.aload_n 0, 1) := by decide +kernel
theorem dX3_init_88 : decode cX3_init 88 = .ok (.lconst 0, 1) := by decide +kernel
theorem dX3_init_89 : decode cX3_init 89 = .ok (.putfield 58, 3) := by decide +kernel
theorem k_278 : Cond.fieldLink RX3 58 "BurntWays$Reader" "word" "J" ∈ bw_T := bw_m 278 (by decide +kernel) rfl
theorem dX3_init_92 : decode cX3_init 92 = .ok (.aload_n 0, 1) := by decide +kernel
theorem dX3_init_93 : decode cX3_init 93 = .ok (.iconst 0, 1) := by decide +kernel
theorem dX3_init_94 : decode cX3_init 94 = .ok (.putfield 62, 3) := by decide +kernel
theorem k_279 : Cond.fieldLink RX3 62 "BurntWays$Reader" "number" "I" ∈ bw_T := bw_m 279 (by decide +kernel) rfl
theorem dX3_init_97 : decode cX3_init 97 = .ok (.iconst 0, 1) := by decide +kernel
theorem dX3_init_98 : decode cX3_init 98 = .ok (.istore_n 1, 1) := by decide +kernel
theorem dX3_init_99 : decode cX3_init 99 = .ok (.iconst 0, 1) := by decide +kernel
theorem dX3_init_100 : decode cX3_init 100 = .ok (.istore_n 2, 1) := by decide +kernel
theorem dX3_init_101 : decode cX3_init 101 = .ok (.iload_n 2, 1) := by decide +kernel
theorem dX3_init_102 : decode cX3_init 102 = .ok (.ldc 65, 2) := by decide +kernel
theorem dX3_init_104 : decode cX3_init 104 = .ok (.invokevirtual 67, 3) := by decide +kernel
theorem k_212 : Cond.methodLink RX3 67 yJ0_length_8abf5 ∈ bw_T := bw_m 212 (by decide +kernel) rfl
theorem kv_J0_length_8abf5 : bw_KV RJ0 yJ0_length_8abf5 (Cond.code yJ0_length_8abf5 cJ0_length_8abf5 1 (some .int)) := ⟨bw_m 213 (by decide +kernel) rfl, bw_m 214 (by decide +kernel) rfl, bw_m 98 (by decide +kernel) rfl, bw_m 215 (by decide +kernel) rfl⟩
theorem dX3_init_107 : decode cX3_init 107 = .ok (.if_icmp .ge 56, 3) := by decide +kernel
theorem dX3_init_163 : decode cX3_init 163 = .ok (.return_, 1) := by decide +kernel
theorem dX3_init_110 : decode cX3_init 110 = .ok (.iload_n 1, 1) := by decide +kernel
theorem dX3_init_111 : decode cX3_init 111 = .ok (.bipush 19, 2) := by decide +kernel
theorem dX3_init_113 : decode cX3_init 113 = .ok (.if_icmp .ge 50, 3) := by decide +kernel
theorem dX3_init_116 : decode cX3_init 116 = .ok (.ldc 65, 2) := by decide +kernel
theorem dX3_init_118 : decode cX3_init 118 = .ok (.iload_n 2, 1) := by decide +kernel
theorem dX3_init_119 : decode cX3_init 119 = .ok (.invokevirtual 73, 3) := by decide +kernel
theorem k_222 : Cond.methodLink RX3 73 yJ0_charAt_5068e ∈ bw_T := bw_m 222 (by decide +kernel) rfl
theorem kv_J0_charAt_5068e : bw_KV RJ0 yJ0_charAt_5068e (Cond.code yJ0_charAt_5068e cJ0_charAt_5068e 2 (some .char)) := ⟨bw_m 223 (by decide +kernel) rfl, bw_m 224 (by decide +kernel) rfl, bw_m 98 (by decide +kernel) rfl, bw_m 225 (by decide +kernel) rfl⟩
theorem dX3_init_122 : decode cX3_init 122 = .ok (.istore_n 3, 1) := by decide +kernel
theorem dX3_init_123 : decode cX3_init 123 = .ok (.iload_n 3, 1) := by decide +kernel
theorem dX3_init_124 : decode cX3_init 124 = .ok (.bipush 32, 2) := by decide +kernel
theorem dX3_init_126 : decode cX3_init 126 = .ok (.if_icmp .ne 9, 3) := by decide +kernel
theorem dX3_init_135 : decode cX3_init 135 = .ok (.aload_n 0, 1) := by decide +kernel
theorem dX3_init_136 : decode cX3_init 136 = .ok (.getfield 39, 3) := by decide +kernel
theorem dX3_init_139 : decode cX3_init 139 = .ok (.iload_n 1, 1) := by decide +kernel
theorem dX3_init_140 : decode cX3_init 140 = .ok (.aload_n 0, 1) := by decide +kernel
theorem dX3_init_141 : decode cX3_init 141 = .ok (.getfield 39, 3) := by decide +kernel
theorem dX3_init_144 : decode cX3_init 144 = .ok (.iload_n 1, 1) := by decide +kernel
theorem dX3_init_145 : decode cX3_init 145 = .ok (.laload, 1) := by decide +kernel
theorem dX3_init_146 : decode cX3_init 146 = .ok (.ldc2_w 77, 3) := by decide +kernel
theorem k_260 : Cond.constantLong RX3 77 (32) ∈ bw_T := bw_m 260 (by decide +kernel) rfl
theorem dX3_init_149 : decode cX3_init 149 = .ok (.lmul, 1) := by decide +kernel
theorem dX3_init_150 : decode cX3_init 150 = .ok (.iload_n 3, 1) := by decide +kernel
theorem dX3_init_151 : decode cX3_init 151 = .ok (.bipush 96, 2) := by decide +kernel
theorem dX3_init_153 : decode cX3_init 153 = .ok (.isub, 1) := by decide +kernel
theorem dX3_init_154 : decode cX3_init 154 = .ok (.i2l, 1) := by decide +kernel
theorem dX3_init_155 : decode cX3_init 155 = .ok (.ladd, 1) := by decide +kernel
theorem dX3_init_156 : decode cX3_init 156 = .ok (.lastore, 1) := by decide +kernel
theorem dX3_init_157 : decode cX3_init 157 = .ok (.iinc 2 1, 3) := by decide +kernel
theorem dX3_init_160 : decode cX3_init 160 = .ok (.goto (-59), 3) := by decide +kernel
theorem dX3_init_129 : decode cX3_init 129 = .ok (.iinc 1 1, 3) := by decide +kernel
theorem dX3_init_132 : decode cX3_init 132 = .ok (.goto 25, 3) := by decide +kernel
abbrev rm_X3_init : Room := { frames := 4, cells := 14, slots := 1160, locals := 85 }
set_option maxRecDepth 100000 in
set_option maxHeartbeats 4000000 in
theorem c_X3_init {l : Launch} {E : (Nat → Prop) → State → Prop} (hO : bw_Ok E) {G : va_G} {cI cB cJ cN cW : ClassId} (hN : bw_Nests E) {sa va N : Nat} {fb : Nat → Int32} (hT : bw_Text E sa va N fb) (b : Nat) : bw_Cv (S := bw_U) l yX3_init (bw_ws (Cond.code yX3_init cX3_init 4 none)) rm_X3_init E G (bw_kt cI cB cJ cN cW) [.ref b] [(b, .inr (3, [.null, .int 0, .null, .null, .int 0, .int 0, .null, .null, .int 0, .int 0, .int 0, .int 0, .long 0, .int 0]))] (fun _ => True) (fun u => [(b, .inr (3, [.ref (u.1 0), .int 0, .ref (u.1 1), .ref (u.1 2), .int 0, .int 0, .ref (u.1 3), .ref (u.1 4), .int 0, .int 24, .int 0, .int 0, .long 0, .int 0])), ((u.1 0), .inl (cB, 900, .inl (fun _ => 0))), ((u.1 1), .inr (2, [.int 0, .ref (u.1 5), .ref (u.1 6), .ref (u.1 7), .ref (u.1 8), .ref (u.1 9), .ref (u.1 10), .ref (u.1 11), .ref (u.1 12)])), ((u.1 5), .inl (cI, 10, .inl (u.2 0))), ((u.1 6), .inl (cI, 10, .inl (u.2 1))), ((u.1 7), .inl (cI, 10, .inl (u.2 2))), ((u.1 11), .inl (cI, 20, .inl (u.2 3))), ((u.1 12), .inl (cI, 20, .inl (fun _ => 0))), ((u.1 2), .inr (7, [.int 0, .ref (u.1 13)]))]) := by
  refine bw_Cv.of (cc := cX3_init) (maxL := 4) (by decide) rfl (Nat.le_of_ble_eq_true rfl) ?_
  intro p e s m below meth c A Q hx hb hml hts hown hin hK hA hS hP hD hE ret ls hl
  have F : CallFix p m c cX3_init 4 s ([.ref b] : List Value).toArray bw_T RX3 := ⟨hx, hb, hml, hown, fun w h => hts w (List.mem_cons_of_mem _ h)⟩
  have hl : lv_has ls 4 [(0, .ref b)] := hl
  refine lv_aload_n hx hb dX3_init_0 rfl (lv_at hl 0 rfl) ?_
  refine r_objInit F k_129 k_oi k_oc hl.1 dX3_init_1 (Nat.le_of_ble_eq_true rfl) (Nat.le_of_ble_eq_true rfl) ?_
  refine lv_aload_n hx hb dX3_init_4 rfl (lv_at hl 0 rfl) ?_
  refine lv_sipush (v := 900) hx hb dX3_init_5 (by decide) ?_
  refine r_newa (atype := .byte) (ty := .byte) F rfl k_193 hK hP hD hS hA 1 rfl 900 (900, .inl (fun _ => 0)) (bw_cB 900) (by decide) (by decide) (bw_by (k := 1) rfl (by omega)) (Nat.le_of_ble_eq_true rfl) (Nat.le_of_ble_eq_true rfl) dX3_init_8 (w1 := fun q1 => [(b, .inr (3, [.null, .int 0, .null, .null, .int 0, .int 0, .null, .null, .int 0, .int 0, .int 0, .int 0, .long 0, .int 0])), (q1, .inl (cB, 900, .inl (fun _ => 0)))]) (fun _ => rfl) (fun q1 H hP hD hS => ?_)
  refine r_putF F hK hP hD hS 0 0 rfl rfl in_X3 tyX3 tyX3_ok nmX3 (by decide) k_261 rfl hin rfl rfl rfl (Nat.le_of_ble_eq_true rfl) dX3_init_10 (w1 := [(b, .inr (3, [.ref q1, .int 0, .null, .null, .int 0, .int 0, .null, .null, .int 0, .int 0, .int 0, .int 0, .long 0, .int 0])), (q1, .inl (cB, 900, .inl (fun _ => 0)))]) rfl (fun H locs hP hD hS => ?_)
  refine lv_aload_n hx hb dX3_init_13 rfl (lv_at hl 0 rfl) ?_
  refine lv_iconst (v := 0) hx hb dX3_init_14 (by decide) ?_
  refine r_put F hK hP hD hS 0 1 rfl rfl in_X3 tyX3 tyX3_ok nmX3 (by decide) k_262 rfl rfl rfl (Nat.le_of_ble_eq_true rfl) dX3_init_15 (w1 := [(b, .inr (3, [.ref q1, .int 0, .null, .null, .int 0, .int 0, .null, .null, .int 0, .int 0, .int 0, .int 0, .long 0, .int 0])), (q1, .inl (cB, 900, .inl (fun _ => 0)))]) rfl (fun H locs hP hD hS => ?_)
  refine lv_aload_n hx hb dX3_init_18 rfl (lv_at hl 0 rfl) ?_
  refine r_new (ci := 2) (fs := [.int 0, .null, .null, .null, .null, .null, .null, .null, .null]) F hK hP hD hS hA rfl in_X2 tyX2 tyX2_ok k_130 k_131 k_96 (bw_dflt rfl) (Nat.le_of_ble_eq_true rfl) (Nat.le_of_ble_eq_true rfl) dX3_init_19 (w1 := fun q2 => [(b, .inr (3, [.ref q1, .int 0, .null, .null, .int 0, .int 0, .null, .null, .int 0, .int 0, .int 0, .int 0, .long 0, .int 0])), (q1, .inl (cB, 900, .inl (fun _ => 0))), (q2, .inr (2, [.int 0, .null, .null, .null, .null, .null, .null, .null, .null]))]) (fun _ => rfl) (fun q2 H hP hD hS => ?_)
  refine lv_dup hx hb dX3_init_22 rfl ?_
  refine r_callIv (As := []) (rest := [.ref q2, .ref b]) (wr := [(b, .inr (3, [.ref q1, .int 0, .null, .null, .int 0, .int 0, .null, .null, .int 0, .int 0, .int 0, .int 0, .long 0, .int 0])), (q1, .inl (cB, 900, .inl (fun _ => 0)))]) F hK hP hD hS hA hO hE (c_X2_init hO q2) k_132 ki_X2_init rfl 0 rfl (by decide +kernel) ⟨Nat.le_of_ble_eq_true rfl, Nat.le_of_ble_eq_true rfl⟩ [2] [0, 1] rfl rfl (by decide) (by decide) (by decide) hl.1 rfl (Nat.le_of_ble_eq_true rfl) dX3_init_23 ⟨Nat.le_of_ble_eq_true rfl, Nat.le_of_ble_eq_true rfl⟩ (w1 := fun u3 => [(b, .inr (3, [.ref q1, .int 0, .null, .null, .int 0, .int 0, .null, .null, .int 0, .int 0, .int 0, .int 0, .long 0, .int 0])), (q1, .inl (cB, 900, .inl (fun _ => 0))), (q2, .inr (2, [.int 0, .ref (u3.1 0), .ref (u3.1 1), .ref (u3.1 2), .ref (u3.1 3), .ref (u3.1 4), .ref (u3.1 5), .ref (u3.1 6), .ref (u3.1 7)])), ((u3.1 0), .inl (cI, 10, .inl (u3.2 0))), ((u3.1 1), .inl (cI, 10, .inl (u3.2 1))), ((u3.1 2), .inl (cI, 10, .inl (u3.2 2))), ((u3.1 6), .inl (cI, 20, .inl (u3.2 3))), ((u3.1 7), .inl (cI, 20, .inl (fun _ => 0)))]) (fun _ => rfl) (fun  u3 H locs hp hP hD hS => ?_)
  refine r_putF F hK hP hD hS 0 2 rfl rfl in_X3 tyX3 tyX3_ok nmX3 (by decide) k_264 rfl hin rfl rfl rfl (Nat.le_of_ble_eq_true rfl) dX3_init_26 (w1 := [(b, .inr (3, [.ref q1, .int 0, .ref q2, .null, .int 0, .int 0, .null, .null, .int 0, .int 0, .int 0, .int 0, .long 0, .int 0])), (q1, .inl (cB, 900, .inl (fun _ => 0))), (q2, .inr (2, [.int 0, .ref (u3.1 0), .ref (u3.1 1), .ref (u3.1 2), .ref (u3.1 3), .ref (u3.1 4), .ref (u3.1 5), .ref (u3.1 6), .ref (u3.1 7)])), ((u3.1 0), .inl (cI, 10, .inl (u3.2 0))), ((u3.1 1), .inl (cI, 10, .inl (u3.2 1))), ((u3.1 2), .inl (cI, 10, .inl (u3.2 2))), ((u3.1 6), .inl (cI, 20, .inl (u3.2 3))), ((u3.1 7), .inl (cI, 20, .inl (fun _ => 0)))]) rfl (fun H locs hP hD hS => ?_)
  refine lv_aload_n hx hb dX3_init_29 rfl (lv_at hl 0 rfl) ?_
  refine r_new (ci := 7) (fs := [.int 0, .null]) F hK hP hD hS hA rfl in_X7 tyX7 tyX7_ok k_195 k_196 k_97 (bw_dflt rfl) (Nat.le_of_ble_eq_true rfl) (Nat.le_of_ble_eq_true rfl) dX3_init_30 (w1 := fun q4 => [(b, .inr (3, [.ref q1, .int 0, .ref q2, .null, .int 0, .int 0, .null, .null, .int 0, .int 0, .int 0, .int 0, .long 0, .int 0])), (q1, .inl (cB, 900, .inl (fun _ => 0))), (q2, .inr (2, [.int 0, .ref (u3.1 0), .ref (u3.1 1), .ref (u3.1 2), .ref (u3.1 3), .ref (u3.1 4), .ref (u3.1 5), .ref (u3.1 6), .ref (u3.1 7)])), ((u3.1 0), .inl (cI, 10, .inl (u3.2 0))), ((u3.1 1), .inl (cI, 10, .inl (u3.2 1))), ((u3.1 2), .inl (cI, 10, .inl (u3.2 2))), ((u3.1 6), .inl (cI, 20, .inl (u3.2 3))), ((u3.1 7), .inl (cI, 20, .inl (fun _ => 0))), (q4, .inr (7, [.int 0, .null]))]) (fun _ => rfl) (fun q4 H hP hD hS => ?_)
  refine lv_dup hx hb dX3_init_33 rfl ?_
  refine r_callNv (As := []) (rest := [.ref q4, .ref b]) (wr := [(b, .inr (3, [.ref q1, .int 0, .ref q2, .null, .int 0, .int 0, .null, .null, .int 0, .int 0, .int 0, .int 0, .long 0, .int 0])), (q1, .inl (cB, 900, .inl (fun _ => 0))), (q2, .inr (2, [.int 0, .ref (u3.1 0), .ref (u3.1 1), .ref (u3.1 2), .ref (u3.1 3), .ref (u3.1 4), .ref (u3.1 5), .ref (u3.1 6), .ref (u3.1 7)])), ((u3.1 0), .inl (cI, 10, .inl (u3.2 0))), ((u3.1 1), .inl (cI, 10, .inl (u3.2 1))), ((u3.1 2), .inl (cI, 10, .inl (u3.2 2))), ((u3.1 6), .inl (cI, 20, .inl (u3.2 3))), ((u3.1 7), .inl (cI, 20, .inl (fun _ => 0)))]) F hK hP hD hS hA hO hE (c_X7_init hO q4) (hN _ _ hE).1 ki_X7_init rfl 0 rfl (by decide +kernel) ⟨Nat.le_of_ble_eq_true rfl, Nat.le_of_ble_eq_true rfl⟩ [8] [0, 1, 2, 3, 4, 5, 6, 7] rfl rfl (by decide) (by decide) (by decide) hl.1 rfl (Nat.le_of_ble_eq_true rfl) dX3_init_34 ⟨Nat.le_of_ble_eq_true rfl, Nat.le_of_ble_eq_true rfl⟩ (w1 := fun u5 => [(b, .inr (3, [.ref q1, .int 0, .ref q2, .null, .int 0, .int 0, .null, .null, .int 0, .int 0, .int 0, .int 0, .long 0, .int 0])), (q1, .inl (cB, 900, .inl (fun _ => 0))), (q2, .inr (2, [.int 0, .ref (u3.1 0), .ref (u3.1 1), .ref (u3.1 2), .ref (u3.1 3), .ref (u3.1 4), .ref (u3.1 5), .ref (u3.1 6), .ref (u3.1 7)])), ((u3.1 0), .inl (cI, 10, .inl (u3.2 0))), ((u3.1 1), .inl (cI, 10, .inl (u3.2 1))), ((u3.1 2), .inl (cI, 10, .inl (u3.2 2))), ((u3.1 6), .inl (cI, 20, .inl (u3.2 3))), ((u3.1 7), .inl (cI, 20, .inl (fun _ => 0))), (q4, .inr (7, [.int 0, .ref (u5.1 0)]))]) (fun _ => rfl) (fun  u5 H locs hp hP hD hS => ?_)
  refine r_putF F hK hP hD hS 0 3 rfl rfl in_X3 tyX3 tyX3_ok nmX3 (by decide) k_266 rfl hin rfl rfl rfl (Nat.le_of_ble_eq_true rfl) dX3_init_37 (w1 := [(b, .inr (3, [.ref q1, .int 0, .ref q2, .ref q4, .int 0, .int 0, .null, .null, .int 0, .int 0, .int 0, .int 0, .long 0, .int 0])), (q1, .inl (cB, 900, .inl (fun _ => 0))), (q2, .inr (2, [.int 0, .ref (u3.1 0), .ref (u3.1 1), .ref (u3.1 2), .ref (u3.1 3), .ref (u3.1 4), .ref (u3.1 5), .ref (u3.1 6), .ref (u3.1 7)])), ((u3.1 0), .inl (cI, 10, .inl (u3.2 0))), ((u3.1 1), .inl (cI, 10, .inl (u3.2 1))), ((u3.1 2), .inl (cI, 10, .inl (u3.2 2))), ((u3.1 6), .inl (cI, 20, .inl (u3.2 3))), ((u3.1 7), .inl (cI, 20, .inl (fun _ => 0))), (q4, .inr (7, [.int 0, .ref (u5.1 0)]))]) rfl (fun H locs hP hD hS => ?_)
  refine lv_aload_n hx hb dX3_init_40 rfl (lv_at hl 0 rfl) ?_
  refine lv_iconst (v := 0) hx hb dX3_init_41 (by decide) ?_
  refine r_put F hK hP hD hS 0 4 rfl rfl in_X3 tyX3 tyX3_ok nmX3 (by decide) k_268 rfl rfl rfl (Nat.le_of_ble_eq_true rfl) dX3_init_42 (w1 := [(b, .inr (3, [.ref q1, .int 0, .ref q2, .ref q4, .int 0, .int 0, .null, .null, .int 0, .int 0, .int 0, .int 0, .long 0, .int 0])), (q1, .inl (cB, 900, .inl (fun _ => 0))), (q2, .inr (2, [.int 0, .ref (u3.1 0), .ref (u3.1 1), .ref (u3.1 2), .ref (u3.1 3), .ref (u3.1 4), .ref (u3.1 5), .ref (u3.1 6), .ref (u3.1 7)])), ((u3.1 0), .inl (cI, 10, .inl (u3.2 0))), ((u3.1 1), .inl (cI, 10, .inl (u3.2 1))), ((u3.1 2), .inl (cI, 10, .inl (u3.2 2))), ((u3.1 6), .inl (cI, 20, .inl (u3.2 3))), ((u3.1 7), .inl (cI, 20, .inl (fun _ => 0))), (q4, .inr (7, [.int 0, .ref (u5.1 0)]))]) rfl (fun H locs hP hD hS => ?_)
  refine lv_aload_n hx hb dX3_init_45 rfl (lv_at hl 0 rfl) ?_
  refine lv_iconst (v := 0) hx hb dX3_init_46 (by decide) ?_
  refine r_put F hK hP hD hS 0 5 rfl rfl in_X3 tyX3 tyX3_ok nmX3 (by decide) k_270 rfl rfl rfl (Nat.le_of_ble_eq_true rfl) dX3_init_47 (w1 := [(b, .inr (3, [.ref q1, .int 0, .ref q2, .ref q4, .int 0, .int 0, .null, .null, .int 0, .int 0, .int 0, .int 0, .long 0, .int 0])), (q1, .inl (cB, 900, .inl (fun _ => 0))), (q2, .inr (2, [.int 0, .ref (u3.1 0), .ref (u3.1 1), .ref (u3.1 2), .ref (u3.1 3), .ref (u3.1 4), .ref (u3.1 5), .ref (u3.1 6), .ref (u3.1 7)])), ((u3.1 0), .inl (cI, 10, .inl (u3.2 0))), ((u3.1 1), .inl (cI, 10, .inl (u3.2 1))), ((u3.1 2), .inl (cI, 10, .inl (u3.2 2))), ((u3.1 6), .inl (cI, 20, .inl (u3.2 3))), ((u3.1 7), .inl (cI, 20, .inl (fun _ => 0))), (q4, .inr (7, [.int 0, .ref (u5.1 0)]))]) rfl (fun H locs hP hD hS => ?_)
  refine lv_aload_n hx hb dX3_init_50 rfl (lv_at hl 0 rfl) ?_
  refine lv_bipush (v := 19) hx hb dX3_init_51 (by decide) ?_
  refine r_newa (atype := .long) (ty := .long) F rfl k_309 hK hP hD hS hA 2 rfl 19 (19, .inr (.inl (fun _ => 0))) (bw_cJ 19) (by decide) (by decide) (bw_by (k := 8) rfl (by omega)) (Nat.le_of_ble_eq_true rfl) (Nat.le_of_ble_eq_true rfl) dX3_init_53 (w1 := fun q6 => [(b, .inr (3, [.ref q1, .int 0, .ref q2, .ref q4, .int 0, .int 0, .null, .null, .int 0, .int 0, .int 0, .int 0, .long 0, .int 0])), (q1, .inl (cB, 900, .inl (fun _ => 0))), (q2, .inr (2, [.int 0, .ref (u3.1 0), .ref (u3.1 1), .ref (u3.1 2), .ref (u3.1 3), .ref (u3.1 4), .ref (u3.1 5), .ref (u3.1 6), .ref (u3.1 7)])), ((u3.1 0), .inl (cI, 10, .inl (u3.2 0))), ((u3.1 1), .inl (cI, 10, .inl (u3.2 1))), ((u3.1 2), .inl (cI, 10, .inl (u3.2 2))), ((u3.1 6), .inl (cI, 20, .inl (u3.2 3))), ((u3.1 7), .inl (cI, 20, .inl (fun _ => 0))), (q4, .inr (7, [.int 0, .ref (u5.1 0)])), (q6, .inl (cJ, 19, .inr (.inl (fun _ => 0))))]) (fun _ => rfl) (fun q6 H hP hD hS => ?_)
  refine r_putF F hK hP hD hS 0 6 rfl rfl in_X3 tyX3 tyX3_ok nmX3 (by decide) k_272 rfl hin rfl rfl rfl (Nat.le_of_ble_eq_true rfl) dX3_init_55 (w1 := [(b, .inr (3, [.ref q1, .int 0, .ref q2, .ref q4, .int 0, .int 0, .ref q6, .null, .int 0, .int 0, .int 0, .int 0, .long 0, .int 0])), (q1, .inl (cB, 900, .inl (fun _ => 0))), (q2, .inr (2, [.int 0, .ref (u3.1 0), .ref (u3.1 1), .ref (u3.1 2), .ref (u3.1 3), .ref (u3.1 4), .ref (u3.1 5), .ref (u3.1 6), .ref (u3.1 7)])), ((u3.1 0), .inl (cI, 10, .inl (u3.2 0))), ((u3.1 1), .inl (cI, 10, .inl (u3.2 1))), ((u3.1 2), .inl (cI, 10, .inl (u3.2 2))), ((u3.1 6), .inl (cI, 20, .inl (u3.2 3))), ((u3.1 7), .inl (cI, 20, .inl (fun _ => 0))), (q4, .inr (7, [.int 0, .ref (u5.1 0)])), (q6, .inl (cJ, 19, .inr (.inl (fun _ => 0))))]) rfl (fun H locs hP hD hS => ?_)
  refine lv_aload_n hx hb dX3_init_58 rfl (lv_at hl 0 rfl) ?_
  refine lv_bipush (v := 10) hx hb dX3_init_59 (by decide) ?_
  refine r_newa (atype := .long) (ty := .long) F rfl k_309 hK hP hD hS hA 2 rfl 10 (10, .inr (.inl (fun _ => 0))) (bw_cJ 10) (by decide) (by decide) (bw_by (k := 8) rfl (by omega)) (Nat.le_of_ble_eq_true rfl) (Nat.le_of_ble_eq_true rfl) dX3_init_61 (w1 := fun q7 => [(b, .inr (3, [.ref q1, .int 0, .ref q2, .ref q4, .int 0, .int 0, .ref q6, .null, .int 0, .int 0, .int 0, .int 0, .long 0, .int 0])), (q1, .inl (cB, 900, .inl (fun _ => 0))), (q2, .inr (2, [.int 0, .ref (u3.1 0), .ref (u3.1 1), .ref (u3.1 2), .ref (u3.1 3), .ref (u3.1 4), .ref (u3.1 5), .ref (u3.1 6), .ref (u3.1 7)])), ((u3.1 0), .inl (cI, 10, .inl (u3.2 0))), ((u3.1 1), .inl (cI, 10, .inl (u3.2 1))), ((u3.1 2), .inl (cI, 10, .inl (u3.2 2))), ((u3.1 6), .inl (cI, 20, .inl (u3.2 3))), ((u3.1 7), .inl (cI, 20, .inl (fun _ => 0))), (q4, .inr (7, [.int 0, .ref (u5.1 0)])), (q6, .inl (cJ, 19, .inr (.inl (fun _ => 0)))), (q7, .inl (cJ, 10, .inr (.inl (fun _ => 0))))]) (fun _ => rfl) (fun q7 H hP hD hS => ?_)
  refine r_putF F hK hP hD hS 0 7 rfl rfl in_X3 tyX3 tyX3_ok nmX3 (by decide) k_273 rfl hin rfl rfl rfl (Nat.le_of_ble_eq_true rfl) dX3_init_63 (w1 := [(b, .inr (3, [.ref q1, .int 0, .ref q2, .ref q4, .int 0, .int 0, .ref q6, .ref q7, .int 0, .int 0, .int 0, .int 0, .long 0, .int 0])), (q1, .inl (cB, 900, .inl (fun _ => 0))), (q2, .inr (2, [.int 0, .ref (u3.1 0), .ref (u3.1 1), .ref (u3.1 2), .ref (u3.1 3), .ref (u3.1 4), .ref (u3.1 5), .ref (u3.1 6), .ref (u3.1 7)])), ((u3.1 0), .inl (cI, 10, .inl (u3.2 0))), ((u3.1 1), .inl (cI, 10, .inl (u3.2 1))), ((u3.1 2), .inl (cI, 10, .inl (u3.2 2))), ((u3.1 6), .inl (cI, 20, .inl (u3.2 3))), ((u3.1 7), .inl (cI, 20, .inl (fun _ => 0))), (q4, .inr (7, [.int 0, .ref (u5.1 0)])), (q6, .inl (cJ, 19, .inr (.inl (fun _ => 0)))), (q7, .inl (cJ, 10, .inr (.inl (fun _ => 0))))]) rfl (fun H locs hP hD hS => ?_)
  refine lv_aload_n hx hb dX3_init_66 rfl (lv_at hl 0 rfl) ?_
  refine lv_iconst (v := 0) hx hb dX3_init_67 (by decide) ?_
  refine r_put F hK hP hD hS 0 8 rfl rfl in_X3 tyX3 tyX3_ok nmX3 (by decide) k_274 rfl rfl rfl (Nat.le_of_ble_eq_true rfl) dX3_init_68 (w1 := [(b, .inr (3, [.ref q1, .int 0, .ref q2, .ref q4, .int 0, .int 0, .ref q6, .ref q7, .int 0, .int 0, .int 0, .int 0, .long 0, .int 0])), (q1, .inl (cB, 900, .inl (fun _ => 0))), (q2, .inr (2, [.int 0, .ref (u3.1 0), .ref (u3.1 1), .ref (u3.1 2), .ref (u3.1 3), .ref (u3.1 4), .ref (u3.1 5), .ref (u3.1 6), .ref (u3.1 7)])), ((u3.1 0), .inl (cI, 10, .inl (u3.2 0))), ((u3.1 1), .inl (cI, 10, .inl (u3.2 1))), ((u3.1 2), .inl (cI, 10, .inl (u3.2 2))), ((u3.1 6), .inl (cI, 20, .inl (u3.2 3))), ((u3.1 7), .inl (cI, 20, .inl (fun _ => 0))), (q4, .inr (7, [.int 0, .ref (u5.1 0)])), (q6, .inl (cJ, 19, .inr (.inl (fun _ => 0)))), (q7, .inl (cJ, 10, .inr (.inl (fun _ => 0))))]) rfl (fun H locs hP hD hS => ?_)
  refine lv_aload_n hx hb dX3_init_71 rfl (lv_at hl 0 rfl) ?_
  refine lv_bipush (v := 24) hx hb dX3_init_72 (by decide) ?_
  refine r_put F hK hP hD hS 0 9 rfl rfl in_X3 tyX3 tyX3_ok nmX3 (by decide) k_275 rfl rfl rfl (Nat.le_of_ble_eq_true rfl) dX3_init_74 (w1 := [(b, .inr (3, [.ref q1, .int 0, .ref q2, .ref q4, .int 0, .int 0, .ref q6, .ref q7, .int 0, .int 24, .int 0, .int 0, .long 0, .int 0])), (q1, .inl (cB, 900, .inl (fun _ => 0))), (q2, .inr (2, [.int 0, .ref (u3.1 0), .ref (u3.1 1), .ref (u3.1 2), .ref (u3.1 3), .ref (u3.1 4), .ref (u3.1 5), .ref (u3.1 6), .ref (u3.1 7)])), ((u3.1 0), .inl (cI, 10, .inl (u3.2 0))), ((u3.1 1), .inl (cI, 10, .inl (u3.2 1))), ((u3.1 2), .inl (cI, 10, .inl (u3.2 2))), ((u3.1 6), .inl (cI, 20, .inl (u3.2 3))), ((u3.1 7), .inl (cI, 20, .inl (fun _ => 0))), (q4, .inr (7, [.int 0, .ref (u5.1 0)])), (q6, .inl (cJ, 19, .inr (.inl (fun _ => 0)))), (q7, .inl (cJ, 10, .inr (.inl (fun _ => 0))))]) rfl (fun H locs hP hD hS => ?_)
  refine lv_aload_n hx hb dX3_init_77 rfl (lv_at hl 0 rfl) ?_
  refine lv_iconst (v := 0) hx hb dX3_init_78 (by decide) ?_
  refine r_put F hK hP hD hS 0 10 rfl rfl in_X3 tyX3 tyX3_ok nmX3 (by decide) k_276 rfl rfl rfl (Nat.le_of_ble_eq_true rfl) dX3_init_79 (w1 := [(b, .inr (3, [.ref q1, .int 0, .ref q2, .ref q4, .int 0, .int 0, .ref q6, .ref q7, .int 0, .int 24, .int 0, .int 0, .long 0, .int 0])), (q1, .inl (cB, 900, .inl (fun _ => 0))), (q2, .inr (2, [.int 0, .ref (u3.1 0), .ref (u3.1 1), .ref (u3.1 2), .ref (u3.1 3), .ref (u3.1 4), .ref (u3.1 5), .ref (u3.1 6), .ref (u3.1 7)])), ((u3.1 0), .inl (cI, 10, .inl (u3.2 0))), ((u3.1 1), .inl (cI, 10, .inl (u3.2 1))), ((u3.1 2), .inl (cI, 10, .inl (u3.2 2))), ((u3.1 6), .inl (cI, 20, .inl (u3.2 3))), ((u3.1 7), .inl (cI, 20, .inl (fun _ => 0))), (q4, .inr (7, [.int 0, .ref (u5.1 0)])), (q6, .inl (cJ, 19, .inr (.inl (fun _ => 0)))), (q7, .inl (cJ, 10, .inr (.inl (fun _ => 0))))]) rfl (fun H locs hP hD hS => ?_)
  refine lv_aload_n hx hb dX3_init_82 rfl (lv_at hl 0 rfl) ?_
  refine lv_iconst (v := 0) hx hb dX3_init_83 (by decide) ?_
  refine r_put F hK hP hD hS 0 11 rfl rfl in_X3 tyX3 tyX3_ok nmX3 (by decide) k_277 rfl rfl rfl (Nat.le_of_ble_eq_true rfl) dX3_init_84 (w1 := [(b, .inr (3, [.ref q1, .int 0, .ref q2, .ref q4, .int 0, .int 0, .ref q6, .ref q7, .int 0, .int 24, .int 0, .int 0, .long 0, .int 0])), (q1, .inl (cB, 900, .inl (fun _ => 0))), (q2, .inr (2, [.int 0, .ref (u3.1 0), .ref (u3.1 1), .ref (u3.1 2), .ref (u3.1 3), .ref (u3.1 4), .ref (u3.1 5), .ref (u3.1 6), .ref (u3.1 7)])), ((u3.1 0), .inl (cI, 10, .inl (u3.2 0))), ((u3.1 1), .inl (cI, 10, .inl (u3.2 1))), ((u3.1 2), .inl (cI, 10, .inl (u3.2 2))), ((u3.1 6), .inl (cI, 20, .inl (u3.2 3))), ((u3.1 7), .inl (cI, 20, .inl (fun _ => 0))), (q4, .inr (7, [.int 0, .ref (u5.1 0)])), (q6, .inl (cJ, 19, .inr (.inl (fun _ => 0)))), (q7, .inl (cJ, 10, .inr (.inl (fun _ => 0))))]) rfl (fun H locs hP hD hS => ?_)
  refine lv_aload_n hx hb dX3_init_87 rfl (lv_at hl 0 rfl) ?_
  refine lv_lconst (v := 0) hx hb dX3_init_88 rfl ?_
  refine r_put F hK hP hD hS 0 12 rfl rfl in_X3 tyX3 tyX3_ok nmX3 (by decide) k_278 rfl rfl rfl (Nat.le_of_ble_eq_true rfl) dX3_init_89 (w1 := [(b, .inr (3, [.ref q1, .int 0, .ref q2, .ref q4, .int 0, .int 0, .ref q6, .ref q7, .int 0, .int 24, .int 0, .int 0, .long 0, .int 0])), (q1, .inl (cB, 900, .inl (fun _ => 0))), (q2, .inr (2, [.int 0, .ref (u3.1 0), .ref (u3.1 1), .ref (u3.1 2), .ref (u3.1 3), .ref (u3.1 4), .ref (u3.1 5), .ref (u3.1 6), .ref (u3.1 7)])), ((u3.1 0), .inl (cI, 10, .inl (u3.2 0))), ((u3.1 1), .inl (cI, 10, .inl (u3.2 1))), ((u3.1 2), .inl (cI, 10, .inl (u3.2 2))), ((u3.1 6), .inl (cI, 20, .inl (u3.2 3))), ((u3.1 7), .inl (cI, 20, .inl (fun _ => 0))), (q4, .inr (7, [.int 0, .ref (u5.1 0)])), (q6, .inl (cJ, 19, .inr (.inl (fun _ => 0)))), (q7, .inl (cJ, 10, .inr (.inl (fun _ => 0))))]) rfl (fun H locs hP hD hS => ?_)
  refine lv_aload_n hx hb dX3_init_92 rfl (lv_at hl 0 rfl) ?_
  refine lv_iconst (v := 0) hx hb dX3_init_93 (by decide) ?_
  refine r_put F hK hP hD hS 0 13 rfl rfl in_X3 tyX3 tyX3_ok nmX3 (by decide) k_279 rfl rfl rfl (Nat.le_of_ble_eq_true rfl) dX3_init_94 (w1 := [(b, .inr (3, [.ref q1, .int 0, .ref q2, .ref q4, .int 0, .int 0, .ref q6, .ref q7, .int 0, .int 24, .int 0, .int 0, .long 0, .int 0])), (q1, .inl (cB, 900, .inl (fun _ => 0))), (q2, .inr (2, [.int 0, .ref (u3.1 0), .ref (u3.1 1), .ref (u3.1 2), .ref (u3.1 3), .ref (u3.1 4), .ref (u3.1 5), .ref (u3.1 6), .ref (u3.1 7)])), ((u3.1 0), .inl (cI, 10, .inl (u3.2 0))), ((u3.1 1), .inl (cI, 10, .inl (u3.2 1))), ((u3.1 2), .inl (cI, 10, .inl (u3.2 2))), ((u3.1 6), .inl (cI, 20, .inl (u3.2 3))), ((u3.1 7), .inl (cI, 20, .inl (fun _ => 0))), (q4, .inr (7, [.int 0, .ref (u5.1 0)])), (q6, .inl (cJ, 19, .inr (.inl (fun _ => 0)))), (q7, .inl (cJ, 10, .inr (.inl (fun _ => 0))))]) rfl (fun H locs hP hD hS => ?_)
  refine lv_iconst (v := 0) hx hb dX3_init_97 (by decide) ?_
  refine lv_istore_n (lv' := [(1, .int 0), (0, .ref b)]) hx hb dX3_init_98 rfl hl (by decide) rfl (fun ls hl => ?_)
  refine lv_iconst (v := 0) hx hb dX3_init_99 (by decide) ?_
  refine lv_istore_n (lv' := [(2, .int 0), (1, .int 0), (0, .ref b)]) hx hb dX3_init_100 rfl hl (by decide) rfl (fun ls hl => ?_)
  refine W.widen (k := 14) (n := 1160) (Nat.le_of_ble_eq_true rfl) (Nat.le_of_ble_eq_true rfl) ?_
  refine (?_ : ∀ (n k a : Nat) (fz : Nat → Int64) (H : Heap) (locs : List Loc), k ≤ N → N + 1 ≤ k + n → a ≤ 19 → va_P G vwCl [(b, .inr (3, [.ref q1, .int 0, .ref q2, .ref q4, .int 0, .int 0, .ref q6, .ref q7, .int 0, .int 24, .int 0, .int 0, .long 0, .int 0])), (q1, .inl (cB, 900, .inl (fun _ => 0))), (q2, .inr (2, [.int 0, .ref (u3.1 0), .ref (u3.1 1), .ref (u3.1 2), .ref (u3.1 3), .ref (u3.1 4), .ref (u3.1 5), .ref (u3.1 6), .ref (u3.1 7)])), ((u3.1 0), .inl (cI, 10, .inl (u3.2 0))), ((u3.1 1), .inl (cI, 10, .inl (u3.2 1))), ((u3.1 2), .inl (cI, 10, .inl (u3.2 2))), ((u3.1 6), .inl (cI, 20, .inl (u3.2 3))), ((u3.1 7), .inl (cI, 20, .inl (fun _ => 0))), (q4, .inr (7, [.int 0, .ref (u5.1 0)])), (q6, .inl (cJ, 19, .inr (.inl fz))), (q7, .inl (cJ, 10, .inr (.inl (fun _ => 0))))] H → va_D A [(b, .inr (3, [.ref q1, .int 0, .ref q2, .ref q4, .int 0, .int 0, .ref q6, .ref q7, .int 0, .int 24, .int 0, .int 0, .long 0, .int 0])), (q1, .inl (cB, 900, .inl (fun _ => 0))), (q2, .inr (2, [.int 0, .ref (u3.1 0), .ref (u3.1 1), .ref (u3.1 2), .ref (u3.1 3), .ref (u3.1 4), .ref (u3.1 5), .ref (u3.1 6), .ref (u3.1 7)])), ((u3.1 0), .inl (cI, 10, .inl (u3.2 0))), ((u3.1 1), .inl (cI, 10, .inl (u3.2 1))), ((u3.1 2), .inl (cI, 10, .inl (u3.2 2))), ((u3.1 6), .inl (cI, 20, .inl (u3.2 3))), ((u3.1 7), .inl (cI, 20, .inl (fun _ => 0))), (q4, .inr (7, [.int 0, .ref (u5.1 0)])), (q6, .inl (cJ, 19, .inr (.inl fz))), (q7, .inl (cJ, 10, .inr (.inl (fun _ => 0))))] → va_S A s.heap H locs → ∀ ls : Array Slot, lv_has ls 4 [(2, .int (nI k)), (1, .int (nI a)), (0, .ref b)] → W p l e rm_X3_init s m ([.ref b] : List Value).toArray below meth c H locs 14 1160 Q (F0 m 101 ls [])) (N + 1) 0 0 _ _ _ (Nat.zero_le N) (by omega) (by omega) hP hD hS ls hl
  clear hP hD hS hl ls
  intro n
  induction n with
  | zero =>
    intro k a fz H locs h1 h2
    exact absurd h2 (by omega)
  | succ n ih =>
    intro k a fz H locs hk hn ha hP hD hS ls hl
    refine lv_iload_n hx hb dX3_init_101 rfl (lv_at hl 0 rfl) ?_
    refine va_ldcS hx hb hown (hT.2 _ _ hE).1 dX3_init_102 ?_
    refine r_callR (As := []) (rest := [.int (nI k)]) F hK hP hD hS hA hO hE (c_J0_length hO hT) k_212 kv_J0_length_8abf5 0 rfl (by decide +kernel) ⟨Nat.le_of_ble_eq_true rfl, Nat.le_of_ble_eq_true rfl⟩ [0, 1, 2, 3, 4, 5, 6, 7, 8, 9, 10] rfl (by decide) (by obtain ⟨cell, h1, h2, h3, _⟩ := ((hT.2 _ _ hE).2.1.1).kept hS.2.1; exact ⟨cell, h1, h2, h3⟩) hl.1 rfl (Nat.le_of_ble_eq_true rfl) dX3_init_104 ⟨Nat.le_of_ble_eq_true rfl, Nat.le_of_ble_eq_true rfl⟩ (fun r8 u9 H locs hp hP hD hS => ?_)
    subst hp
    refine lv_icmp_ge (tgt := 163) hx hb dX3_init_107 (by decide) (fun h7 => ?_) (fun h7 => ?_)
    · exact ret ((fun k => [q1, q2, q4, q6, q7, (u3.1 0), (u3.1 1), (u3.1 2), (u3.1 3), (u3.1 4), (u3.1 5), (u3.1 6), (u3.1 7), (u5.1 0)].getD k 0), (fun k => [(u3.2 0), (u3.2 1), (u3.2 2), (u3.2 3)].getD k (fun _ => 0))) _ _ _ _ _ _ trivial (bw_subP (isC := [0, 1, 2, 3, 4, 5, 6, 7, 8]) hP rfl) (hD.sub [0, 1, 2, 3, 4, 5, 6, 7, 8] (by decide) rfl) hS (Nat.le_of_ble_eq_true rfl) (Nat.le_of_ble_eq_true rfl) dX3_init_163
    · have hkN : k < N := by rcases Nat.lt_or_ge k N with q | q; exact q; exact absurd (nI_le q (by have := hT.1; omega)) h7
      refine lv_iload_n hx hb dX3_init_110 rfl (lv_at hl 1 rfl) ?_
      refine lv_bipush (v := 19) hx hb dX3_init_111 (by decide) ?_
      refine lv_icmp_ge (tgt := 163) hx hb dX3_init_113 (by decide) (fun h8 => ?_) (fun h8 => ?_)
      · exact ret ((fun k => [q1, q2, q4, q6, q7, (u3.1 0), (u3.1 1), (u3.1 2), (u3.1 3), (u3.1 4), (u3.1 5), (u3.1 6), (u3.1 7), (u5.1 0)].getD k 0), (fun k => [(u3.2 0), (u3.2 1), (u3.2 2), (u3.2 3)].getD k (fun _ => 0))) _ _ _ _ _ _ trivial (bw_subP (isC := [0, 1, 2, 3, 4, 5, 6, 7, 8]) hP rfl) (hD.sub [0, 1, 2, 3, 4, 5, 6, 7, 8] (by decide) rfl) hS (Nat.le_of_ble_eq_true rfl) (Nat.le_of_ble_eq_true rfl) dX3_init_163
      · have haN : a < 19 := by rcases Nat.lt_or_ge a 19 with q | q; exact q; exact absurd (nI_le (a := 19) q (by omega)) h8
        refine va_ldcS hx hb hown (hT.2 _ _ hE).1 dX3_init_116 ?_
        refine lv_iload_n hx hb dX3_init_118 rfl (lv_at hl 0 rfl) ?_
        refine r_callR (As := [.int (nI k)]) (rest := []) F hK hP hD hS hA hO hE (c_J0_charAt hO hT (nI k) (nI_pos (by have := hT.1; omega)) (nI_lt hkN hT.1)) k_222 kv_J0_charAt_5068e 1 rfl (by decide +kernel) ⟨Nat.le_of_ble_eq_true rfl, Nat.le_of_ble_eq_true rfl⟩ [0, 1, 2, 3, 4, 5, 6, 7, 8, 9, 10] rfl (by decide) (by obtain ⟨cell, h1, h2, h3, _⟩ := ((hT.2 _ _ hE).2.1.1).kept hS.2.1; exact ⟨cell, h1, h2, h3⟩) hl.1 rfl (Nat.le_of_ble_eq_true rfl) dX3_init_119 ⟨Nat.le_of_ble_eq_true rfl, Nat.le_of_ble_eq_true rfl⟩ (fun r10 u11 H locs hp hP hD hS => ?_)
        refine lv_istore_n (lv' := [(3, .int r10), (2, .int (nI k)), (1, .int (nI a)), (0, .ref b)]) hx hb dX3_init_122 rfl hl (by decide) rfl (fun ls hl => ?_)
        refine lv_iload_n hx hb dX3_init_123 rfl (lv_at hl 0 rfl) ?_
        refine lv_bipush (v := 32) hx hb dX3_init_124 (by decide) ?_
        refine lv_icmp_ne (tgt := 135) hx hb dX3_init_126 (by decide) (fun h9 => ?_) (fun h9 => ?_)
        · refine lv_aload_n hx hb dX3_init_135 rfl (lv_at hl 3 rfl) ?_
          refine r_get F hK hP 0 6 rfl rfl in_X3 (by decide) k_272 rfl dX3_init_136 ?_
          refine lv_iload_n hx hb dX3_init_139 rfl (lv_at hl 2 rfl) ?_
          refine lv_aload_n hx hb dX3_init_140 rfl (lv_at hl 3 rfl) ?_
          refine r_get F hK hP 0 6 rfl rfl in_X3 (by decide) k_272 rfl dX3_init_141 ?_
          refine lv_iload_n hx hb dX3_init_144 rfl (lv_at hl 2 rfl) ?_
          refine r_lald F hK hP 9 2 rfl rfl (vp_in_nI haN (by omega)) dX3_init_145 (fun z12 => ?_)
          refine lv_ldc2 hx hb hown (F.2.2.2.2 _ k_260) dX3_init_146 ?_
          refine lv_lmul hx hb dX3_init_149 ?_
          refine lv_topl (fun z13 _ => ?_)
          refine lv_iload_n hx hb dX3_init_150 rfl (lv_at hl 0 rfl) ?_
          refine lv_bipush (v := 96) hx hb dX3_init_151 (by decide) ?_
          refine r_isub (v := (r10 - 96)) F dX3_init_153 rfl ?_
          refine lv_i2l (v := ((r10 - 96)).toInt64) hx hb dX3_init_154 rfl ?_
          refine lv_ladd hx hb dX3_init_155 ?_
          refine lv_topl (fun z14 _ => ?_)
          refine r_lastX F hK hP hD hS 9 2 rfl rfl (vp_in_nI haN (by omega)) dX3_init_156 (w1 := fun f15 => [(b, .inr (3, [.ref q1, .int 0, .ref q2, .ref q4, .int 0, .int 0, .ref q6, .ref q7, .int 0, .int 24, .int 0, .int 0, .long 0, .int 0])), (q1, .inl (cB, 900, .inl (fun _ => 0))), (q2, .inr (2, [.int 0, .ref (u3.1 0), .ref (u3.1 1), .ref (u3.1 2), .ref (u3.1 3), .ref (u3.1 4), .ref (u3.1 5), .ref (u3.1 6), .ref (u3.1 7)])), ((u3.1 0), .inl (cI, 10, .inl (u3.2 0))), ((u3.1 1), .inl (cI, 10, .inl (u3.2 1))), ((u3.1 2), .inl (cI, 10, .inl (u3.2 2))), ((u3.1 6), .inl (cI, 20, .inl (u3.2 3))), ((u3.1 7), .inl (cI, 20, .inl (fun _ => 0))), (q4, .inr (7, [.int 0, .ref (u5.1 0)])), (q6, .inl (cJ, 19, .inr (.inl f15))), (q7, .inl (cJ, 10, .inr (.inl (fun _ => 0))))]) (fun _ => rfl) (fun f15 H locs hP hD hS => ?_)
          refine lv_iinc (v := (nI (k + 1))) (lv' := [(2, .int (nI (k + 1))), (3, .int r10), (1, .int (nI a)), (0, .ref b)]) hx hb dX3_init_157 hl (k := 1) rfl (nI_1 k) (by decide) rfl (fun ls hl => ?_)
          refine lv_goto (tgt := 101) hx hb dX3_init_160 (by decide) ?_
          exact ih (k + 1) a f15 _ _ (by omega) (by omega) (by omega) hP hD hS ls (lv_sub hl [0, 2, 3] rfl)
        · refine lv_iinc (v := (nI (a + 1))) (lv' := [(1, .int (nI (a + 1))), (3, .int r10), (2, .int (nI k)), (0, .ref b)]) hx hb dX3_init_129 hl (k := 2) rfl (nI_1 a) (by decide) rfl (fun ls hl => ?_)
          refine lv_goto (tgt := 157) hx hb dX3_init_132 (by decide) ?_
          refine lv_iinc (v := (nI (k + 1))) (lv' := [(2, .int (nI (k + 1))), (1, .int (nI (a + 1))), (3, .int r10), (0, .ref b)]) hx hb dX3_init_157 hl (k := 2) rfl (nI_1 k) (by decide) rfl (fun ls hl => ?_)
          refine lv_goto (tgt := 101) hx hb dX3_init_160 (by decide) ?_
          exact ih (k + 1) (a + 1) fz _ _ (by omega) (by omega) (by omega) hP hD hS ls (lv_sub hl [0, 1, 3] rfl)
