theorem dX2_init_0 : decode cX2_init 0 = .ok (.aload_n 0, 1) := by decide +kernel
theorem dX2_init_1 : decode cX2_init 1 = .ok (.invokespecial 3, 3) := by decide +kernel
theorem k_oi : Cond.instanceMethod Lib.objectInit ∈ bw_T := bw_m 122 (by decide +kernel) rfl
theorem k_oc : Cond.code Lib.objectInit ⟨#[0xb1]⟩ 1 none ∈ bw_T := bw_m 123 (by decide +kernel) rfl
theorem k_135 : Cond.methodLink RX2 3 Lib.objectInit ∈ bw_T := bw_m 135 (by decide +kernel) rfl
theorem dX2_init_4 : decode cX2_init 4 = .ok (.aload_n 0, 1) := by decide +kernel
theorem dX2_init_5 : decode cX2_init 5 = .ok (.iconst 0, 1) := by decide +kernel
theorem dX2_init_6 : decode cX2_init 6 = .ok (.putfield 9, 3) := by decide +kernel
theorem dX2_init_9 : decode cX2_init 9 = .ok (.aload_n 0, 1) := by decide +kernel
theorem dX2_init_10 : decode cX2_init 10 = .ok (.bipush 10, 2) := by decide +kernel
theorem dX2_init_12 : decode cX2_init 12 = .ok (.newarray .int, 2) := by decide +kernel
theorem k_194 : Cond.arrayClass .int ∈ bw_T := bw_m 194 (by decide +kernel) rfl
theorem dX2_init_14 : decode cX2_init 14 = .ok (.putfield 15, 3) := by decide +kernel
theorem dX2_init_17 : decode cX2_init 17 = .ok (.aload_n 0, 1) := by decide +kernel
theorem dX2_init_18 : decode cX2_init 18 = .ok (.bipush 10, 2) := by decide +kernel
theorem dX2_init_20 : decode cX2_init 20 = .ok (.newarray .int, 2) := by decide +kernel
theorem dX2_init_22 : decode cX2_init 22 = .ok (.putfield 19, 3) := by decide +kernel
theorem dX2_init_25 : decode cX2_init 25 = .ok (.aload_n 0, 1) := by decide +kernel
theorem dX2_init_26 : decode cX2_init 26 = .ok (.bipush 10, 2) := by decide +kernel
theorem dX2_init_28 : decode cX2_init 28 = .ok (.newarray .int, 2) := by decide +kernel
theorem dX2_init_30 : decode cX2_init 30 = .ok (.putfield 22, 3) := by decide +kernel
theorem dX2_init_33 : decode cX2_init 33 = .ok (.aload_n 0, 1) := by decide +kernel
theorem dX2_init_34 : decode cX2_init 34 = .ok (.bipush 40, 2) := by decide +kernel
theorem dX2_init_36 : decode cX2_init 36 = .ok (.newarray .int, 2) := by decide +kernel
theorem dX2_init_38 : decode cX2_init 38 = .ok (.putfield 25, 3) := by decide +kernel
theorem k_156 : Cond.fieldLink RX2 25 "BurntWays$Net" "actKinds" "[I" ∈ bw_T := bw_m 156 (by decide +kernel) rfl
theorem dX2_init_41 : decode cX2_init 41 = .ok (.aload_n 0, 1) := by decide +kernel
theorem dX2_init_42 : decode cX2_init 42 = .ok (.bipush 40, 2) := by decide +kernel
theorem dX2_init_44 : decode cX2_init 44 = .ok (.newarray .int, 2) := by decide +kernel
theorem dX2_init_46 : decode cX2_init 46 = .ok (.putfield 28, 3) := by decide +kernel
theorem k_159 : Cond.fieldLink RX2 28 "BurntWays$Net" "actTargets" "[I" ∈ bw_T := bw_m 159 (by decide +kernel) rfl
theorem dX2_init_49 : decode cX2_init 49 = .ok (.aload_n 0, 1) := by decide +kernel
theorem dX2_init_50 : decode cX2_init 50 = .ok (.bipush 40, 2) := by decide +kernel
theorem dX2_init_52 : decode cX2_init 52 = .ok (.newarray .int, 2) := by decide +kernel
theorem dX2_init_54 : decode cX2_init 54 = .ok (.putfield 31, 3) := by decide +kernel
theorem k_162 : Cond.fieldLink RX2 31 "BurntWays$Net" "actValues" "[I" ∈ bw_T := bw_m 162 (by decide +kernel) rfl
theorem dX2_init_57 : decode cX2_init 57 = .ok (.aload_n 0, 1) := by decide +kernel
theorem dX2_init_58 : decode cX2_init 58 = .ok (.bipush 20, 2) := by decide +kernel
theorem dX2_init_60 : decode cX2_init 60 = .ok (.newarray .int, 2) := by decide +kernel
theorem dX2_init_62 : decode cX2_init 62 = .ok (.putfield 34, 3) := by decide +kernel
theorem dX2_init_65 : decode cX2_init 65 = .ok (.aload_n 0, 1) := by decide +kernel
theorem dX2_init_66 : decode cX2_init 66 = .ok (.bipush 20, 2) := by decide +kernel
theorem dX2_init_68 : decode cX2_init 68 = .ok (.newarray .int, 2) := by decide +kernel
theorem dX2_init_70 : decode cX2_init 70 = .ok (.putfield 37, 3) := by decide +kernel
theorem dX2_init_73 : decode cX2_init 73 = .ok (.aload_n 0, 1) := by decide +kernel
theorem dX2_init_74 : decode cX2_init 74 = .ok (.invokevirtual 40, 3) := by decide +kernel
theorem k_136 : Cond.methodLink RX2 40 yX2_clear ∈ bw_T := bw_m 136 (by decide +kernel) rfl
theorem kv_X2_clear : bw_KV RX2 yX2_clear (Cond.code yX2_clear cX2_clear 2 none) := ⟨bw_m 137 (by decide +kernel) rfl, bw_m 138 (by decide +kernel) rfl, bw_m 96 (by decide +kernel) rfl, bw_m 139 (by decide +kernel) rfl⟩
theorem dX2_init_77 : decode cX2_init 77 = .ok (.return_, 1) := by decide +kernel
abbrev rm_X2_init : Room := { frames := 2, cells := 8, slots := 190, locals := 43 }
set_option maxRecDepth 100000 in
set_option maxHeartbeats 4000000 in
theorem c_X2_init {l : Launch} {E : (Nat → Prop) → State → Prop} (hO : bw_Ok E) {G : va_G} {cI cB cJ cN cW : ClassId} (b : Nat) : bw_Cv (S := bw_U) l yX2_init (bw_ws (Cond.code yX2_init cX2_init 1 none)) rm_X2_init E G (bw_kt cI cB cJ cN cW) [.ref b] [(b, .inr (2, [.int 0, .null, .null, .null, .null, .null, .null, .null, .null]))] (fun _ => True) (fun u => [(b, .inr (2, [.int 0, .ref (u.1 0), .ref (u.1 1), .ref (u.1 2), .ref (u.1 3), .ref (u.1 4), .ref (u.1 5), .ref (u.1 6), .ref (u.1 7)])), ((u.1 0), .inl (cI, 10, .inl (u.2 0))), ((u.1 1), .inl (cI, 10, .inl (u.2 1))), ((u.1 2), .inl (cI, 10, .inl (u.2 2))), ((u.1 6), .inl (cI, 20, .inl (u.2 3))), ((u.1 7), .inl (cI, 20, .inl (fun _ => 0)))]) := by
  refine bw_Cv.of (cc := cX2_init) (maxL := 1) (by decide) rfl (Nat.le_of_ble_eq_true rfl) ?_
  intro p e s m below meth c A Q hx hb hml hts hown hin hK hA hS hP hD hE ret ls hl
  have F : CallFix p m c cX2_init 1 s ([.ref b] : List Value).toArray bw_T RX2 := ⟨hx, hb, hml, hown, fun w h => hts w (List.mem_cons_of_mem _ h)⟩
  have hl : lv_has ls 1 [(0, .ref b)] := hl
  refine lv_aload_n hx hb dX2_init_0 rfl (lv_at hl 0 rfl) ?_
  refine r_objInit F k_135 k_oi k_oc hl.1 dX2_init_1 (Nat.le_of_ble_eq_true rfl) (Nat.le_of_ble_eq_true rfl) ?_
  refine lv_aload_n hx hb dX2_init_4 rfl (lv_at hl 0 rfl) ?_
  refine lv_iconst (v := 0) hx hb dX2_init_5 (by decide) ?_
  refine r_put F hK hP hD hS 0 0 rfl rfl in_X2 tyX2 tyX2_ok nmX2 (by decide) k_144 rfl rfl rfl (Nat.le_of_ble_eq_true rfl) dX2_init_6 (w1 := [(b, .inr (2, [.int 0, .null, .null, .null, .null, .null, .null, .null, .null]))]) rfl (fun H locs hP hD hS => ?_)
  refine lv_aload_n hx hb dX2_init_9 rfl (lv_at hl 0 rfl) ?_
  refine lv_bipush (v := 10) hx hb dX2_init_10 (by decide) ?_
  refine r_newa (atype := .int) (ty := .int) F rfl k_194 hK hP hD hS hA 0 rfl 10 (10, .inl (fun _ => 0)) (bw_cI 10) (by decide) (by decide) (bw_by (k := 4) rfl (by omega)) (Nat.le_of_ble_eq_true rfl) (Nat.le_of_ble_eq_true rfl) dX2_init_12 (w1 := fun q1 => [(b, .inr (2, [.int 0, .null, .null, .null, .null, .null, .null, .null, .null])), (q1, .inl (cI, 10, .inl (fun _ => 0)))]) (fun _ => rfl) (fun q1 H hP hD hS => ?_)
  refine r_putF F hK hP hD hS 0 1 rfl rfl in_X2 tyX2 tyX2_ok nmX2 (by decide) k_147 rfl hin rfl rfl rfl (Nat.le_of_ble_eq_true rfl) dX2_init_14 (w1 := [(b, .inr (2, [.int 0, .ref q1, .null, .null, .null, .null, .null, .null, .null])), (q1, .inl (cI, 10, .inl (fun _ => 0)))]) rfl (fun H locs hP hD hS => ?_)
  refine lv_aload_n hx hb dX2_init_17 rfl (lv_at hl 0 rfl) ?_
  refine lv_bipush (v := 10) hx hb dX2_init_18 (by decide) ?_
  refine r_newa (atype := .int) (ty := .int) F rfl k_194 hK hP hD hS hA 0 rfl 10 (10, .inl (fun _ => 0)) (bw_cI 10) (by decide) (by decide) (bw_by (k := 4) rfl (by omega)) (Nat.le_of_ble_eq_true rfl) (Nat.le_of_ble_eq_true rfl) dX2_init_20 (w1 := fun q2 => [(b, .inr (2, [.int 0, .ref q1, .null, .null, .null, .null, .null, .null, .null])), (q1, .inl (cI, 10, .inl (fun _ => 0))), (q2, .inl (cI, 10, .inl (fun _ => 0)))]) (fun _ => rfl) (fun q2 H hP hD hS => ?_)
  refine r_putF F hK hP hD hS 0 2 rfl rfl in_X2 tyX2 tyX2_ok nmX2 (by decide) k_150 rfl hin rfl rfl rfl (Nat.le_of_ble_eq_true rfl) dX2_init_22 (w1 := [(b, .inr (2, [.int 0, .ref q1, .ref q2, .null, .null, .null, .null, .null, .null])), (q1, .inl (cI, 10, .inl (fun _ => 0))), (q2, .inl (cI, 10, .inl (fun _ => 0)))]) rfl (fun H locs hP hD hS => ?_)
  refine lv_aload_n hx hb dX2_init_25 rfl (lv_at hl 0 rfl) ?_
  refine lv_bipush (v := 10) hx hb dX2_init_26 (by decide) ?_
  refine r_newa (atype := .int) (ty := .int) F rfl k_194 hK hP hD hS hA 0 rfl 10 (10, .inl (fun _ => 0)) (bw_cI 10) (by decide) (by decide) (bw_by (k := 4) rfl (by omega)) (Nat.le_of_ble_eq_true rfl) (Nat.le_of_ble_eq_true rfl) dX2_init_28 (w1 := fun q3 => [(b, .inr (2, [.int 0, .ref q1, .ref q2, .null, .null, .null, .null, .null, .null])), (q1, .inl (cI, 10, .inl (fun _ => 0))), (q2, .inl (cI, 10, .inl (fun _ => 0))), (q3, .inl (cI, 10, .inl (fun _ => 0)))]) (fun _ => rfl) (fun q3 H hP hD hS => ?_)
  refine r_putF F hK hP hD hS 0 3 rfl rfl in_X2 tyX2 tyX2_ok nmX2 (by decide) k_153 rfl hin rfl rfl rfl (Nat.le_of_ble_eq_true rfl) dX2_init_30 (w1 := [(b, .inr (2, [.int 0, .ref q1, .ref q2, .ref q3, .null, .null, .null, .null, .null])), (q1, .inl (cI, 10, .inl (fun _ => 0))), (q2, .inl (cI, 10, .inl (fun _ => 0))), (q3, .inl (cI, 10, .inl (fun _ => 0)))]) rfl (fun H locs hP hD hS => ?_)
  refine lv_aload_n hx hb dX2_init_33 rfl (lv_at hl 0 rfl) ?_
  refine lv_bipush (v := 40) hx hb dX2_init_34 (by decide) ?_
  refine r_newa (atype := .int) (ty := .int) F rfl k_194 hK hP hD hS hA 0 rfl 40 (40, .inl (fun _ => 0)) (bw_cI 40) (by decide) (by decide) (bw_by (k := 4) rfl (by omega)) (Nat.le_of_ble_eq_true rfl) (Nat.le_of_ble_eq_true rfl) dX2_init_36 (w1 := fun q4 => [(b, .inr (2, [.int 0, .ref q1, .ref q2, .ref q3, .null, .null, .null, .null, .null])), (q1, .inl (cI, 10, .inl (fun _ => 0))), (q2, .inl (cI, 10, .inl (fun _ => 0))), (q3, .inl (cI, 10, .inl (fun _ => 0))), (q4, .inl (cI, 40, .inl (fun _ => 0)))]) (fun _ => rfl) (fun q4 H hP hD hS => ?_)
  refine r_putF F hK hP hD hS 0 4 rfl rfl in_X2 tyX2 tyX2_ok nmX2 (by decide) k_156 rfl hin rfl rfl rfl (Nat.le_of_ble_eq_true rfl) dX2_init_38 (w1 := [(b, .inr (2, [.int 0, .ref q1, .ref q2, .ref q3, .ref q4, .null, .null, .null, .null])), (q1, .inl (cI, 10, .inl (fun _ => 0))), (q2, .inl (cI, 10, .inl (fun _ => 0))), (q3, .inl (cI, 10, .inl (fun _ => 0))), (q4, .inl (cI, 40, .inl (fun _ => 0)))]) rfl (fun H locs hP hD hS => ?_)
  refine lv_aload_n hx hb dX2_init_41 rfl (lv_at hl 0 rfl) ?_
  refine lv_bipush (v := 40) hx hb dX2_init_42 (by decide) ?_
  refine r_newa (atype := .int) (ty := .int) F rfl k_194 hK hP hD hS hA 0 rfl 40 (40, .inl (fun _ => 0)) (bw_cI 40) (by decide) (by decide) (bw_by (k := 4) rfl (by omega)) (Nat.le_of_ble_eq_true rfl) (Nat.le_of_ble_eq_true rfl) dX2_init_44 (w1 := fun q5 => [(b, .inr (2, [.int 0, .ref q1, .ref q2, .ref q3, .ref q4, .null, .null, .null, .null])), (q1, .inl (cI, 10, .inl (fun _ => 0))), (q2, .inl (cI, 10, .inl (fun _ => 0))), (q3, .inl (cI, 10, .inl (fun _ => 0))), (q4, .inl (cI, 40, .inl (fun _ => 0))), (q5, .inl (cI, 40, .inl (fun _ => 0)))]) (fun _ => rfl) (fun q5 H hP hD hS => ?_)
  refine r_putF F hK hP hD hS 0 5 rfl rfl in_X2 tyX2 tyX2_ok nmX2 (by decide) k_159 rfl hin rfl rfl rfl (Nat.le_of_ble_eq_true rfl) dX2_init_46 (w1 := [(b, .inr (2, [.int 0, .ref q1, .ref q2, .ref q3, .ref q4, .ref q5, .null, .null, .null])), (q1, .inl (cI, 10, .inl (fun _ => 0))), (q2, .inl (cI, 10, .inl (fun _ => 0))), (q3, .inl (cI, 10, .inl (fun _ => 0))), (q4, .inl (cI, 40, .inl (fun _ => 0))), (q5, .inl (cI, 40, .inl (fun _ => 0)))]) rfl (fun H locs hP hD hS => ?_)
  refine lv_aload_n hx hb dX2_init_49 rfl (lv_at hl 0 rfl) ?_
  refine lv_bipush (v := 40) hx hb dX2_init_50 (by decide) ?_
  refine r_newa (atype := .int) (ty := .int) F rfl k_194 hK hP hD hS hA 0 rfl 40 (40, .inl (fun _ => 0)) (bw_cI 40) (by decide) (by decide) (bw_by (k := 4) rfl (by omega)) (Nat.le_of_ble_eq_true rfl) (Nat.le_of_ble_eq_true rfl) dX2_init_52 (w1 := fun q6 => [(b, .inr (2, [.int 0, .ref q1, .ref q2, .ref q3, .ref q4, .ref q5, .null, .null, .null])), (q1, .inl (cI, 10, .inl (fun _ => 0))), (q2, .inl (cI, 10, .inl (fun _ => 0))), (q3, .inl (cI, 10, .inl (fun _ => 0))), (q4, .inl (cI, 40, .inl (fun _ => 0))), (q5, .inl (cI, 40, .inl (fun _ => 0))), (q6, .inl (cI, 40, .inl (fun _ => 0)))]) (fun _ => rfl) (fun q6 H hP hD hS => ?_)
  refine r_putF F hK hP hD hS 0 6 rfl rfl in_X2 tyX2 tyX2_ok nmX2 (by decide) k_162 rfl hin rfl rfl rfl (Nat.le_of_ble_eq_true rfl) dX2_init_54 (w1 := [(b, .inr (2, [.int 0, .ref q1, .ref q2, .ref q3, .ref q4, .ref q5, .ref q6, .null, .null])), (q1, .inl (cI, 10, .inl (fun _ => 0))), (q2, .inl (cI, 10, .inl (fun _ => 0))), (q3, .inl (cI, 10, .inl (fun _ => 0))), (q4, .inl (cI, 40, .inl (fun _ => 0))), (q5, .inl (cI, 40, .inl (fun _ => 0))), (q6, .inl (cI, 40, .inl (fun _ => 0)))]) rfl (fun H locs hP hD hS => ?_)
  refine lv_aload_n hx hb dX2_init_57 rfl (lv_at hl 0 rfl) ?_
  refine lv_bipush (v := 20) hx hb dX2_init_58 (by decide) ?_
  refine r_newa (atype := .int) (ty := .int) F rfl k_194 hK hP hD hS hA 0 rfl 20 (20, .inl (fun _ => 0)) (bw_cI 20) (by decide) (by decide) (bw_by (k := 4) rfl (by omega)) (Nat.le_of_ble_eq_true rfl) (Nat.le_of_ble_eq_true rfl) dX2_init_60 (w1 := fun q7 => [(b, .inr (2, [.int 0, .ref q1, .ref q2, .ref q3, .ref q4, .ref q5, .ref q6, .null, .null])), (q1, .inl (cI, 10, .inl (fun _ => 0))), (q2, .inl (cI, 10, .inl (fun _ => 0))), (q3, .inl (cI, 10, .inl (fun _ => 0))), (q4, .inl (cI, 40, .inl (fun _ => 0))), (q5, .inl (cI, 40, .inl (fun _ => 0))), (q6, .inl (cI, 40, .inl (fun _ => 0))), (q7, .inl (cI, 20, .inl (fun _ => 0)))]) (fun _ => rfl) (fun q7 H hP hD hS => ?_)
  refine r_putF F hK hP hD hS 0 7 rfl rfl in_X2 tyX2 tyX2_ok nmX2 (by decide) k_165 rfl hin rfl rfl rfl (Nat.le_of_ble_eq_true rfl) dX2_init_62 (w1 := [(b, .inr (2, [.int 0, .ref q1, .ref q2, .ref q3, .ref q4, .ref q5, .ref q6, .ref q7, .null])), (q1, .inl (cI, 10, .inl (fun _ => 0))), (q2, .inl (cI, 10, .inl (fun _ => 0))), (q3, .inl (cI, 10, .inl (fun _ => 0))), (q4, .inl (cI, 40, .inl (fun _ => 0))), (q5, .inl (cI, 40, .inl (fun _ => 0))), (q6, .inl (cI, 40, .inl (fun _ => 0))), (q7, .inl (cI, 20, .inl (fun _ => 0)))]) rfl (fun H locs hP hD hS => ?_)
  refine lv_aload_n hx hb dX2_init_65 rfl (lv_at hl 0 rfl) ?_
  refine lv_bipush (v := 20) hx hb dX2_init_66 (by decide) ?_
  refine r_newa (atype := .int) (ty := .int) F rfl k_194 hK hP hD hS hA 0 rfl 20 (20, .inl (fun _ => 0)) (bw_cI 20) (by decide) (by decide) (bw_by (k := 4) rfl (by omega)) (Nat.le_of_ble_eq_true rfl) (Nat.le_of_ble_eq_true rfl) dX2_init_68 (w1 := fun q8 => [(b, .inr (2, [.int 0, .ref q1, .ref q2, .ref q3, .ref q4, .ref q5, .ref q6, .ref q7, .null])), (q1, .inl (cI, 10, .inl (fun _ => 0))), (q2, .inl (cI, 10, .inl (fun _ => 0))), (q3, .inl (cI, 10, .inl (fun _ => 0))), (q4, .inl (cI, 40, .inl (fun _ => 0))), (q5, .inl (cI, 40, .inl (fun _ => 0))), (q6, .inl (cI, 40, .inl (fun _ => 0))), (q7, .inl (cI, 20, .inl (fun _ => 0))), (q8, .inl (cI, 20, .inl (fun _ => 0)))]) (fun _ => rfl) (fun q8 H hP hD hS => ?_)
  refine r_putF F hK hP hD hS 0 8 rfl rfl in_X2 tyX2 tyX2_ok nmX2 (by decide) k_169 rfl hin rfl rfl rfl (Nat.le_of_ble_eq_true rfl) dX2_init_70 (w1 := [(b, .inr (2, [.int 0, .ref q1, .ref q2, .ref q3, .ref q4, .ref q5, .ref q6, .ref q7, .ref q8])), (q1, .inl (cI, 10, .inl (fun _ => 0))), (q2, .inl (cI, 10, .inl (fun _ => 0))), (q3, .inl (cI, 10, .inl (fun _ => 0))), (q4, .inl (cI, 40, .inl (fun _ => 0))), (q5, .inl (cI, 40, .inl (fun _ => 0))), (q6, .inl (cI, 40, .inl (fun _ => 0))), (q7, .inl (cI, 20, .inl (fun _ => 0))), (q8, .inl (cI, 20, .inl (fun _ => 0)))]) rfl (fun H locs hP hD hS => ?_)
  refine lv_aload_n hx hb dX2_init_73 rfl (lv_at hl 0 rfl) ?_
  refine r_callVv (As := []) (rest := []) (wr := [(q4, .inl (cI, 40, .inl (fun _ => 0))), (q5, .inl (cI, 40, .inl (fun _ => 0))), (q6, .inl (cI, 40, .inl (fun _ => 0)))]) F hK hP hD hS hA hO hE (c_X2_clear hO b (fun k => [q1, q2, q3, q4, q5, q6, q7, q8].getD k 0) 0 (fun k => [(fun _ => 0), (fun _ => 0), (fun _ => 0), (fun _ => 0)].getD k (fun _ => 0))) k_136 kv_X2_clear 0 rfl (by decide +kernel) ⟨Nat.le_of_ble_eq_true rfl, Nat.le_of_ble_eq_true rfl⟩ [0, 1, 2, 3, 7, 8] [4, 5, 6] rfl rfl (by decide) (by decide) (by decide) 0 2 rfl rfl rfl hl.1 rfl (Nat.le_of_ble_eq_true rfl) dX2_init_74 ⟨Nat.le_of_ble_eq_true rfl, Nat.le_of_ble_eq_true rfl⟩ (w1 := fun u9 => [(q4, .inl (cI, 40, .inl (fun _ => 0))), (q5, .inl (cI, 40, .inl (fun _ => 0))), (q6, .inl (cI, 40, .inl (fun _ => 0))), (b, .inr (2, [.int 0, .ref q1, .ref q2, .ref q3, .ref q4, .ref q5, .ref q6, .ref q7, .ref q8])), (q1, .inl (cI, 10, .inl (u9.2 0))), (q2, .inl (cI, 10, .inl (u9.2 1))), (q3, .inl (cI, 10, .inl (u9.2 2))), (q7, .inl (cI, 20, .inl (u9.2 3))), (q8, .inl (cI, 20, .inl (fun _ => 0)))]) (fun _ => rfl) (fun  u9 H locs hp hP hD hS => ?_)
  exact ret ((fun k => [q1, q2, q3, q4, q5, q6, q7, q8].getD k 0), (fun k => [(u9.2 0), (u9.2 1), (u9.2 2), (u9.2 3)].getD k (fun _ => 0))) _ _ _ _ _ _ trivial (bw_subP (isC := [3, 4, 5, 6, 7, 8]) hP rfl) (hD.sub [3, 4, 5, 6, 7, 8] (by decide) rfl) hS (Nat.le_of_ble_eq_true rfl) (Nat.le_of_ble_eq_true rfl) dX2_init_77
theorem dX7_init_0 : decode cX7_init 0 = .ok (.aload_n 0, 1) := by decide +kernel
theorem dX7_init_1 : decode cX7_init 1 = .ok (.invokespecial 3, 3) := by decide +kernel
theorem k_200 : Cond.methodLink RX7 3 Lib.objectInit ∈ bw_T := bw_m 200 (by decide +kernel) rfl
theorem dX7_init_4 : decode cX7_init 4 = .ok (.aload_n 0, 1) := by decide +kernel
theorem dX7_init_5 : decode cX7_init 5 = .ok (.iconst 0, 1) := by decide +kernel
theorem dX7_init_6 : decode cX7_init 6 = .ok (.putfield 9, 3) := by decide +kernel
theorem k_201 : Cond.fieldLink RX7 9 "BurntWays$Wants" "count" "I" ∈ bw_T := bw_m 201 (by decide +kernel) rfl
theorem in_X7 : ∀ w ∈ wsX70, w ∈ bw_T := bw_ms _ [206, 208] (by decide +kernel) (by decide +kernel)
theorem dX7_init_9 : decode cX7_init 9 = .ok (.aload_n 0, 1) := by decide +kernel
theorem dX7_init_10 : decode cX7_init 10 = .ok (.bipush 30, 2) := by decide +kernel
theorem dX7_init_12 : decode cX7_init 12 = .ok (.newarray .int, 2) := by decide +kernel
theorem dX7_init_14 : decode cX7_init 14 = .ok (.putfield 15, 3) := by decide +kernel
theorem k_205 : Cond.fieldLink RX7 15 "BurntWays$Wants" "parts" "[I" ∈ bw_T := bw_m 205 (by decide +kernel) rfl
theorem dX7_init_17 : decode cX7_init 17 = .ok (.return_, 1) := by decide +kernel
abbrev rm_X7_init : Room := { frames := 1, cells := 1, slots := 30, locals := 12 }
set_option maxRecDepth 100000 in
set_option maxHeartbeats 4000000 in
theorem c_X7_init {l : Launch} {E : (Nat → Prop) → State → Prop} (hO : bw_Ok E) {G : va_G} {cI cB cJ cN cW : ClassId} (b : Nat) : bw_Cv (S := bw_U) l yX7_init (bw_ws (Cond.code yX7_init cX7_init 1 none)) rm_X7_init E G (bw_kt cI cB cJ cN cW) [.ref b] [(b, .inr (7, [.int 0, .null]))] (fun _ => True) (fun u => [(b, .inr (7, [.int 0, .ref (u.1 0)]))]) := by
  refine bw_Cv.of (cc := cX7_init) (maxL := 1) (by decide) rfl (Nat.le_of_ble_eq_true rfl) ?_
  intro p e s m below meth c A Q hx hb hml hts hown hin hK hA hS hP hD hE ret ls hl
  have F : CallFix p m c cX7_init 1 s ([.ref b] : List Value).toArray bw_T RX7 := ⟨hx, hb, hml, hown, fun w h => hts w (List.mem_cons_of_mem _ h)⟩
  have hl : lv_has ls 1 [(0, .ref b)] := hl
  refine lv_aload_n hx hb dX7_init_0 rfl (lv_at hl 0 rfl) ?_
  refine r_objInit F k_200 k_oi k_oc hl.1 dX7_init_1 (Nat.le_of_ble_eq_true rfl) (Nat.le_of_ble_eq_true rfl) ?_
  refine lv_aload_n hx hb dX7_init_4 rfl (lv_at hl 0 rfl) ?_
  refine lv_iconst (v := 0) hx hb dX7_init_5 (by decide) ?_
  refine r_put F hK hP hD hS 0 0 rfl rfl in_X7 tyX7 tyX7_ok nmX7 (by decide) k_201 rfl rfl rfl (Nat.le_of_ble_eq_true rfl) dX7_init_6 (w1 := [(b, .inr (7, [.int 0, .null]))]) rfl (fun H locs hP hD hS => ?_)
  refine lv_aload_n hx hb dX7_init_9 rfl (lv_at hl 0 rfl) ?_
  refine lv_bipush (v := 30) hx hb dX7_init_10 (by decide) ?_
  refine r_newa (atype := .int) (ty := .int) F rfl k_194 hK hP hD hS hA 0 rfl 30 (30, .inl (fun _ => 0)) (bw_cI 30) (by decide) (by decide) (bw_by (k := 4) rfl (by omega)) (Nat.le_of_ble_eq_true rfl) (Nat.le_of_ble_eq_true rfl) dX7_init_12 (w1 := fun q1 => [(b, .inr (7, [.int 0, .null])), (q1, .inl (cI, 30, .inl (fun _ => 0)))]) (fun _ => rfl) (fun q1 H hP hD hS => ?_)
  refine r_putF F hK hP hD hS 0 1 rfl rfl in_X7 tyX7 tyX7_ok nmX7 (by decide) k_205 rfl hin rfl rfl rfl (Nat.le_of_ble_eq_true rfl) dX7_init_14 (w1 := [(b, .inr (7, [.int 0, .ref q1])), (q1, .inl (cI, 30, .inl (fun _ => 0)))]) rfl (fun H locs hP hD hS => ?_)
  exact ret ((fun k => [q1].getD k 0), fun _ _ => 0) _ _ _ _ _ _ trivial (bw_subP (isC := [0]) hP rfl) (hD.sub [0] (by decide) rfl) hS (Nat.le_of_ble_eq_true rfl) (Nat.le_of_ble_eq_true rfl) dX7_init_17
theorem dX6_init_0 : decode cX6_init 0 = .ok (.aload_n 0, 1) := by decide +kernel
theorem dX6_init_1 : decode cX6_init 1 = .ok (.invokespecial 3, 3) := by decide +kernel
theorem k_319 : Cond.methodLink RX6 3 Lib.objectInit ∈ bw_T := bw_m 319 (by decide +kernel) rfl
theorem dX6_init_4 : decode cX6_init 4 = .ok (.aload_n 0, 1) := by decide +kernel
theorem dX6_init_5 : decode cX6_init 5 = .ok (.iconst 0, 1) := by decide +kernel
theorem dX6_init_6 : decode cX6_init 6 = .ok (.putfield 9, 3) := by decide +kernel
theorem k_320 : Cond.fieldLink RX6 9 "BurntWays$Walk" "at" "I" ∈ bw_T := bw_m 320 (by decide +kernel) rfl
theorem in_X6 : ∀ w ∈ wsX60, w ∈ bw_T := bw_ms _ [341, 343, 345, 347, 349, 351, 353, 355, 357, 359] (by decide +kernel) (by decide +kernel)
theorem dX6_init_9 : decode cX6_init 9 = .ok (.aload_n 0, 1) := by decide +kernel
theorem dX6_init_10 : decode cX6_init 10 = .ok (.iconst 0, 1) := by decide +kernel
theorem dX6_init_11 : decode cX6_init 11 = .ok (.putfield 15, 3) := by decide +kernel
theorem k_322 : Cond.fieldLink RX6 15 "BurntWays$Walk" "stepCount" "I" ∈ bw_T := bw_m 322 (by decide +kernel) rfl
theorem dX6_init_14 : decode cX6_init 14 = .ok (.aload_n 0, 1) := by decide +kernel
theorem dX6_init_15 : decode cX6_init 15 = .ok (.iconst 0, 1) := by decide +kernel
theorem dX6_init_16 : decode cX6_init 16 = .ok (.putfield 18, 3) := by decide +kernel
theorem k_325 : Cond.fieldLink RX6 18 "BurntWays$Walk" "ended" "I" ∈ bw_T := bw_m 325 (by decide +kernel) rfl
theorem dX6_init_19 : decode cX6_init 19 = .ok (.aload_n 0, 1) := by decide +kernel
theorem dX6_init_20 : decode cX6_init 20 = .ok (.iconst 0, 1) := by decide +kernel
theorem dX6_init_21 : decode cX6_init 21 = .ok (.putfield 21, 3) := by decide +kernel
theorem k_328 : Cond.fieldLink RX6 21 "BurntWays$Walk" "takenInAll" "I" ∈ bw_T := bw_m 328 (by decide +kernel) rfl
theorem dX6_init_24 : decode cX6_init 24 = .ok (.aload_n 0, 1) := by decide +kernel
theorem dX6_init_25 : decode cX6_init 25 = .ok (.iconst 0, 1) := by decide +kernel
theorem dX6_init_26 : decode cX6_init 26 = .ok (.putfield 24, 3) := by decide +kernel
theorem k_330 : Cond.fieldLink RX6 24 "BurntWays$Walk" "seenLines" "I" ∈ bw_T := bw_m 330 (by decide +kernel) rfl
theorem dX6_init_29 : decode cX6_init 29 = .ok (.aload_n 0, 1) := by decide +kernel
theorem dX6_init_30 : decode cX6_init 30 = .ok (.iconst 4, 1) := by decide +kernel
theorem dX6_init_31 : decode cX6_init 31 = .ok (.newarray .int, 2) := by decide +kernel
theorem dX6_init_33 : decode cX6_init 33 = .ok (.putfield 27, 3) := by decide +kernel
theorem k_332 : Cond.fieldLink RX6 27 "BurntWays$Walk" "counters" "[I" ∈ bw_T := bw_m 332 (by decide +kernel) rfl
theorem dX6_init_36 : decode cX6_init 36 = .ok (.aload_n 0, 1) := by decide +kernel
theorem dX6_init_37 : decode cX6_init 37 = .ok (.bipush 20, 2) := by decide +kernel
theorem dX6_init_39 : decode cX6_init 39 = .ok (.newarray .int, 2) := by decide +kernel
theorem dX6_init_41 : decode cX6_init 41 = .ok (.putfield 31, 3) := by decide +kernel
theorem k_334 : Cond.fieldLink RX6 31 "BurntWays$Walk" "taken" "[I" ∈ bw_T := bw_m 334 (by decide +kernel) rfl
theorem dX6_init_44 : decode cX6_init 44 = .ok (.aload_n 0, 1) := by decide +kernel
theorem dX6_init_45 : decode cX6_init 45 = .ok (.bipush 20, 2) := by decide +kernel
theorem dX6_init_47 : decode cX6_init 47 = .ok (.newarray .int, 2) := by decide +kernel
theorem dX6_init_49 : decode cX6_init 49 = .ok (.putfield 34, 3) := by decide +kernel
theorem k_336 : Cond.fieldLink RX6 34 "BurntWays$Walk" "everTaken" "[I" ∈ bw_T := bw_m 336 (by decide +kernel) rfl
theorem dX6_init_52 : decode cX6_init 52 = .ok (.aload_n 0, 1) := by decide +kernel
theorem dX6_init_53 : decode cX6_init 53 = .ok (.lconst 0, 1) := by decide +kernel
theorem dX6_init_54 : decode cX6_init 54 = .ok (.putfield 37, 3) := by decide +kernel
theorem k_338 : Cond.fieldLink RX6 37 "BurntWays$Walk" "given" "J" ∈ bw_T := bw_m 338 (by decide +kernel) rfl
theorem dX6_init_57 : decode cX6_init 57 = .ok (.aload_n 0, 1) := by decide +kernel
theorem dX6_init_58 : decode cX6_init 58 = .ok (.bipush 100, 2) := by decide +kernel
theorem dX6_init_60 : decode cX6_init 60 = .ok (.newarray .int, 2) := by decide +kernel
theorem dX6_init_62 : decode cX6_init 62 = .ok (.putfield 41, 3) := by decide +kernel
theorem k_339 : Cond.fieldLink RX6 41 "BurntWays$Walk" "linesBehind" "[I" ∈ bw_T := bw_m 339 (by decide +kernel) rfl
theorem dX6_init_65 : decode cX6_init 65 = .ok (.return_, 1) := by decide +kernel
abbrev rm_X6_init : Room := { frames := 1, cells := 4, slots := 144, locals := 12 }
set_option maxRecDepth 100000 in
set_option maxHeartbeats 4000000 in
theorem c_X6_init {l : Launch} {E : (Nat → Prop) → State → Prop} (hO : bw_Ok E) {G : va_G} {cI cB cJ cN cW : ClassId} (b : Nat) : bw_Cv (S := bw_U) l yX6_init (bw_ws (Cond.code yX6_init cX6_init 1 none)) rm_X6_init E G (bw_kt cI cB cJ cN cW) [.ref b] [(b, .inr (6, [.int 0, .int 0, .int 0, .int 0, .int 0, .null, .null, .null, .long 0, .null]))] (fun _ => True) (fun u => [(b, .inr (6, [.int 0, .int 0, .int 0, .int 0, .int 0, .ref (u.1 0), .ref (u.1 1), .ref (u.1 2), .long 0, .ref (u.1 3)]))]) := by
  refine bw_Cv.of (cc := cX6_init) (maxL := 1) (by decide) rfl (Nat.le_of_ble_eq_true rfl) ?_
  intro p e s m below meth c A Q hx hb hml hts hown hin hK hA hS hP hD hE ret ls hl
  have F : CallFix p m c cX6_init 1 s ([.ref b] : List Value).toArray bw_T RX6 := ⟨hx, hb, hml, hown, fun w h => hts w (List.mem_cons_of_mem _ h)⟩
  have hl : lv_has ls 1 [(0, .ref b)] := hl
  refine lv_aload_n hx hb dX6_init_0 rfl (lv_at hl 0 rfl) ?_
  refine r_objInit F k_319 k_oi k_oc hl.1 dX6_init_1 (Nat.le_of_ble_eq_true rfl) (Nat.le_of_ble_eq_true rfl) ?_
  refine lv_aload_n hx hb dX6_init_4 rfl (lv_at hl 0 rfl) ?_
  refine lv_iconst (v := 0) hx hb dX6_init_5 (by decide) ?_
  refine r_put F hK hP hD hS 0 0 rfl rfl in_X6 tyX6 tyX6_ok nmX6 (by decide) k_320 rfl rfl rfl (Nat.le_of_ble_eq_true rfl) dX6_init_6 (w1 := [(b, .inr (6, [.int 0, .int 0, .int 0, .int 0, .int 0, .null, .null, .null, .long 0, .null]))]) rfl (fun H locs hP hD hS => ?_)
  refine lv_aload_n hx hb dX6_init_9 rfl (lv_at hl 0 rfl) ?_
  refine lv_iconst (v := 0) hx hb dX6_init_10 (by decide) ?_
  refine r_put F hK hP hD hS 0 1 rfl rfl in_X6 tyX6 tyX6_ok nmX6 (by decide) k_322 rfl rfl rfl (Nat.le_of_ble_eq_true rfl) dX6_init_11 (w1 := [(b, .inr (6, [.int 0, .int 0, .int 0, .int 0, .int 0, .null, .null, .null, .long 0, .null]))]) rfl (fun H locs hP hD hS => ?_)
  refine lv_aload_n hx hb dX6_init_14 rfl (lv_at hl 0 rfl) ?_
  refine lv_iconst (v := 0) hx hb dX6_init_15 (by decide) ?_
  refine r_put F hK hP hD hS 0 2 rfl rfl in_X6 tyX6 tyX6_ok nmX6 (by decide) k_325 rfl rfl rfl (Nat.le_of_ble_eq_true rfl) dX6_init_16 (w1 := [(b, .inr (6, [.int 0, .int 0, .int 0, .int 0, .int 0, .null, .null, .null, .long 0, .null]))]) rfl (fun H locs hP hD hS => ?_)
  refine lv_aload_n hx hb dX6_init_19 rfl (lv_at hl 0 rfl) ?_
  refine lv_iconst (v := 0) hx hb dX6_init_20 (by decide) ?_
  refine r_put F hK hP hD hS 0 3 rfl rfl in_X6 tyX6 tyX6_ok nmX6 (by decide) k_328 rfl rfl rfl (Nat.le_of_ble_eq_true rfl) dX6_init_21 (w1 := [(b, .inr (6, [.int 0, .int 0, .int 0, .int 0, .int 0, .null, .null, .null, .long 0, .null]))]) rfl (fun H locs hP hD hS => ?_)
  refine lv_aload_n hx hb dX6_init_24 rfl (lv_at hl 0 rfl) ?_
  refine lv_iconst (v := 0) hx hb dX6_init_25 (by decide) ?_
  refine r_put F hK hP hD hS 0 4 rfl rfl in_X6 tyX6 tyX6_ok nmX6 (by decide) k_330 rfl rfl rfl (Nat.le_of_ble_eq_true rfl) dX6_init_26 (w1 := [(b, .inr (6, [.int 0, .int 0, .int 0, .int 0, .int 0, .null, .null, .null, .long 0, .null]))]) rfl (fun H locs hP hD hS => ?_)
  refine lv_aload_n hx hb dX6_init_29 rfl (lv_at hl 0 rfl) ?_
  refine lv_iconst (v := 4) hx hb dX6_init_30 (by decide) ?_
  refine r_newa (atype := .int) (ty := .int) F rfl k_194 hK hP hD hS hA 0 rfl 4 (4, .inl (fun _ => 0)) (bw_cI 4) (by decide) (by decide) (bw_by (k := 4) rfl (by omega)) (Nat.le_of_ble_eq_true rfl) (Nat.le_of_ble_eq_true rfl) dX6_init_31 (w1 := fun q1 => [(b, .inr (6, [.int 0, .int 0, .int 0, .int 0, .int 0, .null, .null, .null, .long 0, .null])), (q1, .inl (cI, 4, .inl (fun _ => 0)))]) (fun _ => rfl) (fun q1 H hP hD hS => ?_)
  refine r_putF F hK hP hD hS 0 5 rfl rfl in_X6 tyX6 tyX6_ok nmX6 (by decide) k_332 rfl hin rfl rfl rfl (Nat.le_of_ble_eq_true rfl) dX6_init_33 (w1 := [(b, .inr (6, [.int 0, .int 0, .int 0, .int 0, .int 0, .ref q1, .null, .null, .long 0, .null])), (q1, .inl (cI, 4, .inl (fun _ => 0)))]) rfl (fun H locs hP hD hS => ?_)
  refine lv_aload_n hx hb dX6_init_36 rfl (lv_at hl 0 rfl) ?_
  refine lv_bipush (v := 20) hx hb dX6_init_37 (by decide) ?_
  refine r_newa (atype := .int) (ty := .int) F rfl k_194 hK hP hD hS hA 0 rfl 20 (20, .inl (fun _ => 0)) (bw_cI 20) (by decide) (by decide) (bw_by (k := 4) rfl (by omega)) (Nat.le_of_ble_eq_true rfl) (Nat.le_of_ble_eq_true rfl) dX6_init_39 (w1 := fun q2 => [(b, .inr (6, [.int 0, .int 0, .int 0, .int 0, .int 0, .ref q1, .null, .null, .long 0, .null])), (q1, .inl (cI, 4, .inl (fun _ => 0))), (q2, .inl (cI, 20, .inl (fun _ => 0)))]) (fun _ => rfl) (fun q2 H hP hD hS => ?_)
  refine r_putF F hK hP hD hS 0 6 rfl rfl in_X6 tyX6 tyX6_ok nmX6 (by decide) k_334 rfl hin rfl rfl rfl (Nat.le_of_ble_eq_true rfl) dX6_init_41 (w1 := [(b, .inr (6, [.int 0, .int 0, .int 0, .int 0, .int 0, .ref q1, .ref q2, .null, .long 0, .null])), (q1, .inl (cI, 4, .inl (fun _ => 0))), (q2, .inl (cI, 20, .inl (fun _ => 0)))]) rfl (fun H locs hP hD hS => ?_)
  refine lv_aload_n hx hb dX6_init_44 rfl (lv_at hl 0 rfl) ?_
  refine lv_bipush (v := 20) hx hb dX6_init_45 (by decide) ?_
  refine r_newa (atype := .int) (ty := .int) F rfl k_194 hK hP hD hS hA 0 rfl 20 (20, .inl (fun _ => 0)) (bw_cI 20) (by decide) (by decide) (bw_by (k := 4) rfl (by omega)) (Nat.le_of_ble_eq_true rfl) (Nat.le_of_ble_eq_true rfl) dX6_init_47 (w1 := fun q3 => [(b, .inr (6, [.int 0, .int 0, .int 0, .int 0, .int 0, .ref q1, .ref q2, .null, .long 0, .null])), (q1, .inl (cI, 4, .inl (fun _ => 0))), (q2, .inl (cI, 20, .inl (fun _ => 0))), (q3, .inl (cI, 20, .inl (fun _ => 0)))]) (fun _ => rfl) (fun q3 H hP hD hS => ?_)
  refine r_putF F hK hP hD hS 0 7 rfl rfl in_X6 tyX6 tyX6_ok nmX6 (by decide) k_336 rfl hin rfl rfl rfl (Nat.le_of_ble_eq_true rfl) dX6_init_49 (w1 := [(b, .inr (6, [.int 0, .int 0, .int 0, .int 0, .int 0, .ref q1, .ref q2, .ref q3, .long 0, .null])), (q1, .inl (cI, 4, .inl (fun _ => 0))), (q2, .inl (cI, 20, .inl (fun _ => 0))), (q3, .inl (cI, 20, .inl (fun _ => 0)))]) rfl (fun H locs hP hD hS => ?_)
  refine lv_aload_n hx hb dX6_init_52 rfl (lv_at hl 0 rfl) ?_
  refine lv_lconst (v := 0) hx hb dX6_init_53 rfl ?_
  refine r_put F hK hP hD hS 0 8 rfl rfl in_X6 tyX6 tyX6_ok nmX6 (by decide) k_338 rfl rfl rfl (Nat.le_of_ble_eq_true rfl) dX6_init_54 (w1 := [(b, .inr (6, [.int 0, .int 0, .int 0, .int 0, .int 0, .ref q1, .ref q2, .ref q3, .long 0, .null])), (q1, .inl (cI, 4, .inl (fun _ => 0))), (q2, .inl (cI, 20, .inl (fun _ => 0))), (q3, .inl (cI, 20, .inl (fun _ => 0)))]) rfl (fun H locs hP hD hS => ?_)
  refine lv_aload_n hx hb dX6_init_57 rfl (lv_at hl 0 rfl) ?_
  refine lv_bipush (v := 100) hx hb dX6_init_58 (by decide) ?_
  refine r_newa (atype := .int) (ty := .int) F rfl k_194 hK hP hD hS hA 0 rfl 100 (100, .inl (fun _ => 0)) (bw_cI 100) (by decide) (by decide) (bw_by (k := 4) rfl (by omega)) (Nat.le_of_ble_eq_true rfl) (Nat.le_of_ble_eq_true rfl) dX6_init_60 (w1 := fun q4 => [(b, .inr (6, [.int 0, .int 0, .int 0, .int 0, .int 0, .ref q1, .ref q2, .ref q3, .long 0, .null])), (q1, .inl (cI, 4, .inl (fun _ => 0))), (q2, .inl (cI, 20, .inl (fun _ => 0))), (q3, .inl (cI, 20, .inl (fun _ => 0))), (q4, .inl (cI, 100, .inl (fun _ => 0)))]) (fun _ => rfl) (fun q4 H hP hD hS => ?_)
  refine r_putF F hK hP hD hS 0 9 rfl rfl in_X6 tyX6 tyX6_ok nmX6 (by decide) k_339 rfl hin rfl rfl rfl (Nat.le_of_ble_eq_true rfl) dX6_init_62 (w1 := [(b, .inr (6, [.int 0, .int 0, .int 0, .int 0, .int 0, .ref q1, .ref q2, .ref q3, .long 0, .ref q4])), (q1, .inl (cI, 4, .inl (fun _ => 0))), (q2, .inl (cI, 20, .inl (fun _ => 0))), (q3, .inl (cI, 20, .inl (fun _ => 0))), (q4, .inl (cI, 100, .inl (fun _ => 0)))]) rfl (fun H locs hP hD hS => ?_)
  exact ret ((fun k => [q1, q2, q3, q4].getD k 0), fun _ _ => 0) _ _ _ _ _ _ trivial (bw_subP (isC := [0]) hP rfl) (hD.sub [0] (by decide) rfl) hS (Nat.le_of_ble_eq_true rfl) (Nat.le_of_ble_eq_true rfl) dX6_init_65
theorem dX5_init_0 : decode cX5_init 0 = .ok (.aload_n 0, 1) := by decide +kernel
theorem dX5_init_1 : decode cX5_init 1 = .ok (.invokespecial 3, 3) := by decide +kernel
theorem k_425 : Cond.methodLink RX5 3 Lib.objectInit ∈ bw_T := bw_m 425 (by decide +kernel) rfl
theorem dX5_init_4 : decode cX5_init 4 = .ok (.aload_n 0, 1) := by decide +kernel
theorem dX5_init_5 : decode cX5_init 5 = .ok (.iconst 0, 1) := by decide +kernel
theorem dX5_init_6 : decode cX5_init 6 = .ok (.putfield 9, 3) := by decide +kernel
theorem k_426 : Cond.fieldLink RX5 9 "BurntWays$Trail" "known" "Z" ∈ bw_T := bw_m 426 (by decide +kernel) rfl
theorem in_X5 : ∀ w ∈ wsX50, w ∈ bw_T := bw_ms _ [433, 435, 437, 439] (by decide +kernel) (by decide +kernel)
theorem dX5_init_9 : decode cX5_init 9 = .ok (.aload_n 0, 1) := by decide +kernel
theorem dX5_init_10 : decode cX5_init 10 = .ok (.bipush (-2), 2) := by decide +kernel
theorem dX5_init_12 : decode cX5_init 12 = .ok (.putfield 15, 3) := by decide +kernel
theorem k_428 : Cond.fieldLink RX5 15 "BurntWays$Trail" "length" "I" ∈ bw_T := bw_m 428 (by decide +kernel) rfl
theorem dX5_init_15 : decode cX5_init 15 = .ok (.aload_n 0, 1) := by decide +kernel
theorem dX5_init_16 : decode cX5_init 16 = .ok (.sipush 180, 3) := by decide +kernel
theorem dX5_init_19 : decode cX5_init 19 = .ok (.newarray .int, 2) := by decide +kernel
theorem dX5_init_21 : decode cX5_init 21 = .ok (.putfield 19, 3) := by decide +kernel
theorem k_430 : Cond.fieldLink RX5 19 "BurntWays$Trail" "ways" "[I" ∈ bw_T := bw_m 430 (by decide +kernel) rfl
theorem dX5_init_24 : decode cX5_init 24 = .ok (.aload_n 0, 1) := by decide +kernel
theorem dX5_init_25 : decode cX5_init 25 = .ok (.bipush 20, 2) := by decide +kernel
theorem dX5_init_27 : decode cX5_init 27 = .ok (.newarray .int, 2) := by decide +kernel
theorem dX5_init_29 : decode cX5_init 29 = .ok (.putfield 23, 3) := by decide +kernel
theorem k_432 : Cond.fieldLink RX5 23 "BurntWays$Trail" "waysLeft" "[I" ∈ bw_T := bw_m 432 (by decide +kernel) rfl
theorem dX5_init_32 : decode cX5_init 32 = .ok (.return_, 1) := by decide +kernel
abbrev rm_X5_init : Room := { frames := 1, cells := 2, slots := 200, locals := 12 }
set_option maxRecDepth 100000 in
set_option maxHeartbeats 4000000 in
theorem c_X5_init {l : Launch} {E : (Nat → Prop) → State → Prop} (hO : bw_Ok E) {G : va_G} {cI cB cJ cN cW : ClassId} (b : Nat) : bw_Cv (S := bw_U) l yX5_init (bw_ws (Cond.code yX5_init cX5_init 1 none)) rm_X5_init E G (bw_kt cI cB cJ cN cW) [.ref b] [(b, .inr (5, [.int 0, .int 0, .null, .null]))] (fun _ => True) (fun _ => []) := by
  refine bw_Cv.of (cc := cX5_init) (maxL := 1) (by decide) rfl (Nat.le_of_ble_eq_true rfl) ?_
  intro p e s m below meth c A Q hx hb hml hts hown hin hK hA hS hP hD hE ret ls hl
  have F : CallFix p m c cX5_init 1 s ([.ref b] : List Value).toArray bw_T RX5 := ⟨hx, hb, hml, hown, fun w h => hts w (List.mem_cons_of_mem _ h)⟩
  have hl : lv_has ls 1 [(0, .ref b)] := hl
  refine lv_aload_n hx hb dX5_init_0 rfl (lv_at hl 0 rfl) ?_
  refine r_objInit F k_425 k_oi k_oc hl.1 dX5_init_1 (Nat.le_of_ble_eq_true rfl) (Nat.le_of_ble_eq_true rfl) ?_
  refine lv_aload_n hx hb dX5_init_4 rfl (lv_at hl 0 rfl) ?_
  refine lv_iconst (v := 0) hx hb dX5_init_5 (by decide) ?_
  refine r_put F hK hP hD hS 0 0 rfl rfl in_X5 tyX5 tyX5_ok nmX5 (by decide) k_426 rfl rfl rfl (Nat.le_of_ble_eq_true rfl) dX5_init_6 (w1 := [(b, .inr (5, [.int 0, .int 0, .null, .null]))]) rfl (fun H locs hP hD hS => ?_)
  refine lv_aload_n hx hb dX5_init_9 rfl (lv_at hl 0 rfl) ?_
  refine lv_bipush (v := (-2)) hx hb dX5_init_10 (by decide) ?_
  refine r_put F hK hP hD hS 0 1 rfl rfl in_X5 tyX5 tyX5_ok nmX5 (by decide) k_428 rfl rfl rfl (Nat.le_of_ble_eq_true rfl) dX5_init_12 (w1 := [(b, .inr (5, [.int 0, .int (-2), .null, .null]))]) rfl (fun H locs hP hD hS => ?_)
  refine lv_aload_n hx hb dX5_init_15 rfl (lv_at hl 0 rfl) ?_
  refine lv_sipush (v := 180) hx hb dX5_init_16 (by decide) ?_
  refine r_newa (atype := .int) (ty := .int) F rfl k_194 hK hP hD hS hA 0 rfl 180 (180, .inl (fun _ => 0)) (bw_cI 180) (by decide) (by decide) (bw_by (k := 4) rfl (by omega)) (Nat.le_of_ble_eq_true rfl) (Nat.le_of_ble_eq_true rfl) dX5_init_19 (w1 := fun q1 => [(b, .inr (5, [.int 0, .int (-2), .null, .null])), (q1, .inl (cI, 180, .inl (fun _ => 0)))]) (fun _ => rfl) (fun q1 H hP hD hS => ?_)
  refine r_putF F hK hP hD hS 0 2 rfl rfl in_X5 tyX5 tyX5_ok nmX5 (by decide) k_430 rfl hin rfl rfl rfl (Nat.le_of_ble_eq_true rfl) dX5_init_21 (w1 := [(b, .inr (5, [.int 0, .int (-2), .ref q1, .null])), (q1, .inl (cI, 180, .inl (fun _ => 0)))]) rfl (fun H locs hP hD hS => ?_)
  refine lv_aload_n hx hb dX5_init_24 rfl (lv_at hl 0 rfl) ?_
  refine lv_bipush (v := 20) hx hb dX5_init_25 (by decide) ?_
  refine r_newa (atype := .int) (ty := .int) F rfl k_194 hK hP hD hS hA 0 rfl 20 (20, .inl (fun _ => 0)) (bw_cI 20) (by decide) (by decide) (bw_by (k := 4) rfl (by omega)) (Nat.le_of_ble_eq_true rfl) (Nat.le_of_ble_eq_true rfl) dX5_init_27 (w1 := fun q2 => [(b, .inr (5, [.int 0, .int (-2), .ref q1, .null])), (q1, .inl (cI, 180, .inl (fun _ => 0))), (q2, .inl (cI, 20, .inl (fun _ => 0)))]) (fun _ => rfl) (fun q2 H hP hD hS => ?_)
  refine r_putF F hK hP hD hS 0 3 rfl rfl in_X5 tyX5 tyX5_ok nmX5 (by decide) k_432 rfl hin rfl rfl rfl (Nat.le_of_ble_eq_true rfl) dX5_init_29 (w1 := [(b, .inr (5, [.int 0, .int (-2), .ref q1, .ref q2])), (q1, .inl (cI, 180, .inl (fun _ => 0))), (q2, .inl (cI, 20, .inl (fun _ => 0)))]) rfl (fun H locs hP hD hS => ?_)
  exact ret (fun _ => 0, fun _ _ => 0) _ _ _ _ _ _ trivial (bw_subP (isC := []) hP rfl) (hD.sub [] (by decide) rfl) hS (Nat.le_of_ble_eq_true rfl) (Nat.le_of_ble_eq_true rfl) dX5_init_32
theorem dX0_init_0 : decode cX0_init 0 = .ok (.aload_n 0, 1) := by decide +kernel
theorem dX0_init_1 : decode cX0_init 1 = .ok (.invokespecial 3, 3) := by decide +kernel
theorem k_447 : Cond.methodLink RX0 3 Lib.objectInit ∈ bw_T := bw_m 447 (by decide +kernel) rfl
theorem dX0_init_4 : decode cX0_init 4 = .ok (.aload_n 0, 1) := by decide +kernel
theorem dX0_init_5 : decode cX0_init 5 = .ok (.bipush 10, 2) := by decide +kernel
theorem dX0_init_7 : decode cX0_init 7 = .ok (.newarray .int, 2) := by decide +kernel
theorem dX0_init_9 : decode cX0_init 9 = .ok (.putfield 9, 3) := by decide +kernel
theorem k_448 : Cond.fieldLink RX0 9 "BurntWays$Least" "lineCounts" "[I" ∈ bw_T := bw_m 448 (by decide +kernel) rfl
theorem in_X0 : ∀ w ∈ wsX00, w ∈ bw_T := bw_ms _ [455, 457, 459, 461, 463, 465, 467] (by decide +kernel) (by decide +kernel)
theorem dX0_init_12 : decode cX0_init 12 = .ok (.aload_n 0, 1) := by decide +kernel
theorem dX0_init_13 : decode cX0_init 13 = .ok (.bipush 30, 2) := by decide +kernel
theorem dX0_init_15 : decode cX0_init 15 = .ok (.newarray .int, 2) := by decide +kernel
theorem dX0_init_17 : decode cX0_init 17 = .ok (.putfield 15, 3) := by decide +kernel
theorem k_449 : Cond.fieldLink RX0 15 "BurntWays$Least" "found" "[I" ∈ bw_T := bw_m 449 (by decide +kernel) rfl
theorem dX0_init_20 : decode cX0_init 20 = .ok (.aload_n 0, 1) := by decide +kernel
theorem dX0_init_21 : decode cX0_init 21 = .ok (.iconst 3, 1) := by decide +kernel
theorem dX0_init_22 : decode cX0_init 22 = .ok (.newarray .int, 2) := by decide +kernel
theorem dX0_init_24 : decode cX0_init 24 = .ok (.putfield 18, 3) := by decide +kernel
theorem k_450 : Cond.fieldLink RX0 18 "BurntWays$Least" "numbers" "[I" ∈ bw_T := bw_m 450 (by decide +kernel) rfl
theorem dX0_init_27 : decode cX0_init 27 = .ok (.aload_n 0, 1) := by decide +kernel
theorem dX0_init_28 : decode cX0_init 28 = .ok (.iconst 3, 1) := by decide +kernel
theorem dX0_init_29 : decode cX0_init 29 = .ok (.newarray .int, 2) := by decide +kernel
theorem dX0_init_31 : decode cX0_init 31 = .ok (.putfield 21, 3) := by decide +kernel
theorem k_451 : Cond.fieldLink RX0 21 "BurntWays$Least" "acts" "[I" ∈ bw_T := bw_m 451 (by decide +kernel) rfl
theorem dX0_init_34 : decode cX0_init 34 = .ok (.aload_n 0, 1) := by decide +kernel
theorem dX0_init_35 : decode cX0_init 35 = .ok (.iconst 3, 1) := by decide +kernel
theorem dX0_init_36 : decode cX0_init 36 = .ok (.newarray .int, 2) := by decide +kernel
theorem dX0_init_38 : decode cX0_init 38 = .ok (.putfield 24, 3) := by decide +kernel
theorem k_452 : Cond.fieldLink RX0 24 "BurntWays$Least" "toLines" "[I" ∈ bw_T := bw_m 452 (by decide +kernel) rfl
theorem dX0_init_41 : decode cX0_init 41 = .ok (.aload_n 0, 1) := by decide +kernel
theorem dX0_init_42 : decode cX0_init 42 = .ok (.iconst 3, 1) := by decide +kernel
theorem dX0_init_43 : decode cX0_init 43 = .ok (.newarray .int, 2) := by decide +kernel
theorem dX0_init_45 : decode cX0_init 45 = .ok (.putfield 27, 3) := by decide +kernel
theorem k_453 : Cond.fieldLink RX0 27 "BurntWays$Least" "elseLines" "[I" ∈ bw_T := bw_m 453 (by decide +kernel) rfl
theorem dX0_init_48 : decode cX0_init 48 = .ok (.aload_n 0, 1) := by decide +kernel
theorem dX0_init_49 : decode cX0_init 49 = .ok (.bipush 6, 2) := by decide +kernel
theorem dX0_init_51 : decode cX0_init 51 = .ok (.newarray .int, 2) := by decide +kernel
theorem dX0_init_53 : decode cX0_init 53 = .ok (.putfield 30, 3) := by decide +kernel
theorem k_454 : Cond.fieldLink RX0 30 "BurntWays$Least" "taken" "[I" ∈ bw_T := bw_m 454 (by decide +kernel) rfl
theorem dX0_init_56 : decode cX0_init 56 = .ok (.return_, 1) := by decide +kernel
abbrev rm_X0_init : Room := { frames := 1, cells := 7, slots := 58, locals := 12 }
set_option maxRecDepth 100000 in
set_option maxHeartbeats 4000000 in
theorem c_X0_init {l : Launch} {E : (Nat → Prop) → State → Prop} (hO : bw_Ok E) {G : va_G} {cI cB cJ cN cW : ClassId} (b : Nat) : bw_Cv (S := bw_U) l yX0_init (bw_ws (Cond.code yX0_init cX0_init 1 none)) rm_X0_init E G (bw_kt cI cB cJ cN cW) [.ref b] [(b, .inr (0, [.null, .null, .null, .null, .null, .null, .null]))] (fun _ => True) (fun _ => []) := by
  refine bw_Cv.of (cc := cX0_init) (maxL := 1) (by decide) rfl (Nat.le_of_ble_eq_true rfl) ?_
  intro p e s m below meth c A Q hx hb hml hts hown hin hK hA hS hP hD hE ret ls hl
  have F : CallFix p m c cX0_init 1 s ([.ref b] : List Value).toArray bw_T RX0 := ⟨hx, hb, hml, hown, fun w h => hts w (List.mem_cons_of_mem _ h)⟩
  have hl : lv_has ls 1 [(0, .ref b)] := hl
  refine lv_aload_n hx hb dX0_init_0 rfl (lv_at hl 0 rfl) ?_
  refine r_objInit F k_447 k_oi k_oc hl.1 dX0_init_1 (Nat.le_of_ble_eq_true rfl) (Nat.le_of_ble_eq_true rfl) ?_
  refine lv_aload_n hx hb dX0_init_4 rfl (lv_at hl 0 rfl) ?_
  refine lv_bipush (v := 10) hx hb dX0_init_5 (by decide) ?_
  refine r_newa (atype := .int) (ty := .int) F rfl k_194 hK hP hD hS hA 0 rfl 10 (10, .inl (fun _ => 0)) (bw_cI 10) (by decide) (by decide) (bw_by (k := 4) rfl (by omega)) (Nat.le_of_ble_eq_true rfl) (Nat.le_of_ble_eq_true rfl) dX0_init_7 (w1 := fun q1 => [(b, .inr (0, [.null, .null, .null, .null, .null, .null, .null])), (q1, .inl (cI, 10, .inl (fun _ => 0)))]) (fun _ => rfl) (fun q1 H hP hD hS => ?_)
  refine r_putF F hK hP hD hS 0 0 rfl rfl in_X0 tyX0 tyX0_ok nmX0 (by decide) k_448 rfl hin rfl rfl rfl (Nat.le_of_ble_eq_true rfl) dX0_init_9 (w1 := [(b, .inr (0, [.ref q1, .null, .null, .null, .null, .null, .null])), (q1, .inl (cI, 10, .inl (fun _ => 0)))]) rfl (fun H locs hP hD hS => ?_)
  refine lv_aload_n hx hb dX0_init_12 rfl (lv_at hl 0 rfl) ?_
  refine lv_bipush (v := 30) hx hb dX0_init_13 (by decide) ?_
  refine r_newa (atype := .int) (ty := .int) F rfl k_194 hK hP hD hS hA 0 rfl 30 (30, .inl (fun _ => 0)) (bw_cI 30) (by decide) (by decide) (bw_by (k := 4) rfl (by omega)) (Nat.le_of_ble_eq_true rfl) (Nat.le_of_ble_eq_true rfl) dX0_init_15 (w1 := fun q2 => [(b, .inr (0, [.ref q1, .null, .null, .null, .null, .null, .null])), (q1, .inl (cI, 10, .inl (fun _ => 0))), (q2, .inl (cI, 30, .inl (fun _ => 0)))]) (fun _ => rfl) (fun q2 H hP hD hS => ?_)
  refine r_putF F hK hP hD hS 0 1 rfl rfl in_X0 tyX0 tyX0_ok nmX0 (by decide) k_449 rfl hin rfl rfl rfl (Nat.le_of_ble_eq_true rfl) dX0_init_17 (w1 := [(b, .inr (0, [.ref q1, .ref q2, .null, .null, .null, .null, .null])), (q1, .inl (cI, 10, .inl (fun _ => 0))), (q2, .inl (cI, 30, .inl (fun _ => 0)))]) rfl (fun H locs hP hD hS => ?_)
  refine lv_aload_n hx hb dX0_init_20 rfl (lv_at hl 0 rfl) ?_
  refine lv_iconst (v := 3) hx hb dX0_init_21 (by decide) ?_
  refine r_newa (atype := .int) (ty := .int) F rfl k_194 hK hP hD hS hA 0 rfl 3 (3, .inl (fun _ => 0)) (bw_cI 3) (by decide) (by decide) (bw_by (k := 4) rfl (by omega)) (Nat.le_of_ble_eq_true rfl) (Nat.le_of_ble_eq_true rfl) dX0_init_22 (w1 := fun q3 => [(b, .inr (0, [.ref q1, .ref q2, .null, .null, .null, .null, .null])), (q1, .inl (cI, 10, .inl (fun _ => 0))), (q2, .inl (cI, 30, .inl (fun _ => 0))), (q3, .inl (cI, 3, .inl (fun _ => 0)))]) (fun _ => rfl) (fun q3 H hP hD hS => ?_)
  refine r_putF F hK hP hD hS 0 2 rfl rfl in_X0 tyX0 tyX0_ok nmX0 (by decide) k_450 rfl hin rfl rfl rfl (Nat.le_of_ble_eq_true rfl) dX0_init_24 (w1 := [(b, .inr (0, [.ref q1, .ref q2, .ref q3, .null, .null, .null, .null])), (q1, .inl (cI, 10, .inl (fun _ => 0))), (q2, .inl (cI, 30, .inl (fun _ => 0))), (q3, .inl (cI, 3, .inl (fun _ => 0)))]) rfl (fun H locs hP hD hS => ?_)
  refine lv_aload_n hx hb dX0_init_27 rfl (lv_at hl 0 rfl) ?_
  refine lv_iconst (v := 3) hx hb dX0_init_28 (by decide) ?_
  refine r_newa (atype := .int) (ty := .int) F rfl k_194 hK hP hD hS hA 0 rfl 3 (3, .inl (fun _ => 0)) (bw_cI 3) (by decide) (by decide) (bw_by (k := 4) rfl (by omega)) (Nat.le_of_ble_eq_true rfl) (Nat.le_of_ble_eq_true rfl) dX0_init_29 (w1 := fun q4 => [(b, .inr (0, [.ref q1, .ref q2, .ref q3, .null, .null, .null, .null])), (q1, .inl (cI, 10, .inl (fun _ => 0))), (q2, .inl (cI, 30, .inl (fun _ => 0))), (q3, .inl (cI, 3, .inl (fun _ => 0))), (q4, .inl (cI, 3, .inl (fun _ => 0)))]) (fun _ => rfl) (fun q4 H hP hD hS => ?_)
  refine r_putF F hK hP hD hS 0 3 rfl rfl in_X0 tyX0 tyX0_ok nmX0 (by decide) k_451 rfl hin rfl rfl rfl (Nat.le_of_ble_eq_true rfl) dX0_init_31 (w1 := [(b, .inr (0, [.ref q1, .ref q2, .ref q3, .ref q4, .null, .null, .null])), (q1, .inl (cI, 10, .inl (fun _ => 0))), (q2, .inl (cI, 30, .inl (fun _ => 0))), (q3, .inl (cI, 3, .inl (fun _ => 0))), (q4, .inl (cI, 3, .inl (fun _ => 0)))]) rfl (fun H locs hP hD hS => ?_)
  refine lv_aload_n hx hb dX0_init_34 rfl (lv_at hl 0 rfl) ?_
  refine lv_iconst (v := 3) hx hb dX0_init_35 (by decide) ?_
  refine r_newa (atype := .int) (ty := .int) F rfl k_194 hK hP hD hS hA 0 rfl 3 (3, .inl (fun _ => 0)) (bw_cI 3) (by decide) (by decide) (bw_by (k := 4) rfl (by omega)) (Nat.le_of_ble_eq_true rfl) (Nat.le_of_ble_eq_true rfl) dX0_init_36 (w1 := fun q5 => [(b, .inr (0, [.ref q1, .ref q2, .ref q3, .ref q4, .null, .null, .null])), (q1, .inl (cI, 10, .inl (fun _ => 0))), (q2, .inl (cI, 30, .inl (fun _ => 0))), (q3, .inl (cI, 3, .inl (fun _ => 0))), (q4, .inl (cI, 3, .inl (fun _ => 0))), (q5, .inl (cI, 3, .inl (fun _ => 0)))]) (fun _ => rfl) (fun q5 H hP hD hS => ?_)
  refine r_putF F hK hP hD hS 0 4 rfl rfl in_X0 tyX0 tyX0_ok nmX0 (by decide) k_452 rfl hin rfl rfl rfl (Nat.le_of_ble_eq_true rfl) dX0_init_38 (w1 := [(b, .inr (0, [.ref q1, .ref q2, .ref q3, .ref q4, .ref q5, .null, .null])), (q1, .inl (cI, 10, .inl (fun _ => 0))), (q2, .inl (cI, 30, .inl (fun _ => 0))), (q3, .inl (cI, 3, .inl (fun _ => 0))), (q4, .inl (cI, 3, .inl (fun _ => 0))), (q5, .inl (cI, 3, .inl (fun _ => 0)))]) rfl (fun H locs hP hD hS => ?_)
  refine lv_aload_n hx hb dX0_init_41 rfl (lv_at hl 0 rfl) ?_
  refine lv_iconst (v := 3) hx hb dX0_init_42 (by decide) ?_
  refine r_newa (atype := .int) (ty := .int) F rfl k_194 hK hP hD hS hA 0 rfl 3 (3, .inl (fun _ => 0)) (bw_cI 3) (by decide) (by decide) (bw_by (k := 4) rfl (by omega)) (Nat.le_of_ble_eq_true rfl) (Nat.le_of_ble_eq_true rfl) dX0_init_43 (w1 := fun q6 => [(b, .inr (0, [.ref q1, .ref q2, .ref q3, .ref q4, .ref q5, .null, .null])), (q1, .inl (cI, 10, .inl (fun _ => 0))), (q2, .inl (cI, 30, .inl (fun _ => 0))), (q3, .inl (cI, 3, .inl (fun _ => 0))), (q4, .inl (cI, 3, .inl (fun _ => 0))), (q5, .inl (cI, 3, .inl (fun _ => 0))), (q6, .inl (cI, 3, .inl (fun _ => 0)))]) (fun _ => rfl) (fun q6 H hP hD hS => ?_)
  refine r_putF F hK hP hD hS 0 5 rfl rfl in_X0 tyX0 tyX0_ok nmX0 (by decide) k_453 rfl hin rfl rfl rfl (Nat.le_of_ble_eq_true rfl) dX0_init_45 (w1 := [(b, .inr (0, [.ref q1, .ref q2, .ref q3, .ref q4, .ref q5, .ref q6, .null])), (q1, .inl (cI, 10, .inl (fun _ => 0))), (q2, .inl (cI, 30, .inl (fun _ => 0))), (q3, .inl (cI, 3, .inl (fun _ => 0))), (q4, .inl (cI, 3, .inl (fun _ => 0))), (q5, .inl (cI, 3, .inl (fun _ => 0))), (q6, .inl (cI, 3, .inl (fun _ => 0)))]) rfl (fun H locs hP hD hS => ?_)
  refine lv_aload_n hx hb dX0_init_48 rfl (lv_at hl 0 rfl) ?_
  refine lv_bipush (v := 6) hx hb dX0_init_49 (by decide) ?_
  refine r_newa (atype := .int) (ty := .int) F rfl k_194 hK hP hD hS hA 0 rfl 6 (6, .inl (fun _ => 0)) (bw_cI 6) (by decide) (by decide) (bw_by (k := 4) rfl (by omega)) (Nat.le_of_ble_eq_true rfl) (Nat.le_of_ble_eq_true rfl) dX0_init_51 (w1 := fun q7 => [(b, .inr (0, [.ref q1, .ref q2, .ref q3, .ref q4, .ref q5, .ref q6, .null])), (q1, .inl (cI, 10, .inl (fun _ => 0))), (q2, .inl (cI, 30, .inl (fun _ => 0))), (q3, .inl (cI, 3, .inl (fun _ => 0))), (q4, .inl (cI, 3, .inl (fun _ => 0))), (q5, .inl (cI, 3, .inl (fun _ => 0))), (q6, .inl (cI, 3, .inl (fun _ => 0))), (q7, .inl (cI, 6, .inl (fun _ => 0)))]) (fun _ => rfl) (fun q7 H hP hD hS => ?_)
  refine r_putF F hK hP hD hS 0 6 rfl rfl in_X0 tyX0 tyX0_ok nmX0 (by decide) k_454 rfl hin rfl rfl rfl (Nat.le_of_ble_eq_true rfl) dX0_init_53 (w1 := [(b, .inr (0, [.ref q1, .ref q2, .ref q3, .ref q4, .ref q5, .ref q6, .ref q7])), (q1, .inl (cI, 10, .inl (fun _ => 0))), (q2, .inl (cI, 30, .inl (fun _ => 0))), (q3, .inl (cI, 3, .inl (fun _ => 0))), (q4, .inl (cI, 3, .inl (fun _ => 0))), (q5, .inl (cI, 3, .inl (fun _ => 0))), (q6, .inl (cI, 3, .inl (fun _ => 0))), (q7, .inl (cI, 6, .inl (fun _ => 0)))]) rfl (fun H locs hP hD hS => ?_)
  exact ret (fun _ => 0, fun _ _ => 0) _ _ _ _ _ _ trivial (bw_subP (isC := []) hP rfl) (hD.sub [] (by decide) rfl) hS (Nat.le_of_ble_eq_true rfl) (Nat.le_of_ble_eq_true rfl) dX0_init_56
