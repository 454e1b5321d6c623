abbrev WantsOk (n : Int) : Prop := 0 ≤ n ∧ n ≤ 6
def WalkOk (i : Nat → Int) (g : Nat → Nat → Int) : Prop := ((0 ≤ i 0 ∧ i 0 ≤ 9) ∧ 0 ≤ i 1 ∧ (0 ≤ i 2 ∧ i 2 ≤ 3)) ∧ (∀ k, k < 20 → 0 ≤ g 1 k ∧ g 1 k ≤ 9)
theorem dX7_part_0 : decode cX7_part 0 = .ok (.aload_n 0, 1) := bo_42 (by decide +kernel)
theorem dX7_part_1 : decode cX7_part 1 = .ok (.getfield 15, 3) := bo_180 0 15 (by decide +kernel)
theorem k_205 : Cond.fieldLink RX7 15 "BurntWays$Wants" "parts" "[I" ∈ bw_T := bw_m 205 (by decide +kernel) rfl
theorem in_X7 : ∀ w ∈ wsX70, w ∈ bw_T := bw_ms _ [206, 208] (by decide +kernel) (by decide +kernel)
theorem dX7_part_4 : decode cX7_part 4 = .ok (.iload_n 1, 1) := bo_27 (by decide +kernel)
theorem dX7_part_5 : decode cX7_part 5 = .ok (.iconst 5, 1) := bo_8 (by decide +kernel)
theorem dX7_part_6 : decode cX7_part 6 = .ok (.imul, 1) := bo_104 (by decide +kernel)
theorem dX7_part_7 : decode cX7_part 7 = .ok (.iload_n 2, 1) := bo_28 (by decide +kernel)
theorem dX7_part_8 : decode cX7_part 8 = .ok (.iadd, 1) := bo_96 (by decide +kernel)
theorem dX7_part_9 : decode cX7_part 9 = .ok (.iaload, 1) := bo_46 (by decide +kernel)
theorem dX7_part_10 : decode cX7_part 10 = .ok (.ireturn, 1) := bo_172 (by decide +kernel)
abbrev rm_X7_part : Room := { frames := 0, cells := 0, slots := 0, locals := 0 }
set_option maxRecDepth 100000 in
set_option maxHeartbeats 8000000 in
theorem c_X7_part {l : Launch} {E : (Nat → Prop) → State → Prop} (hO : bw_Ok E) {G : va_G} {cI cB cJ cN cW : ClassId} (b : Nat) (q : Nat → Nat) (n : Int) (g : Nat → Nat → Int) (hN : WantsOk n) (x y : Int) (hx9 : 0 ≤ x ∧ x < 6) (hy9 : 0 ≤ y ∧ y < 5) : bw_Ci (S := zU) l yX7_part (bw_ws (Cond.code yX7_part cX7_part 3 (some .int))) rm_X7_part E G (bw_kt cI cB cJ cN cW) [.ref b, .int (zI x), .int (zI y)] [(b, .inr (7, [.int (zI n), .ref (q 0)])), ((q 0), .inl (cI, 30, .inl (fun k => zI ((g 0) k))))] (fun r _ => ∃ z : Int, r = zI z ∧ zR z) (fun _ => [(b, .inr (7, [.int (zI n), .ref (q 0)])), ((q 0), .inl (cI, 30, .inl (fun k => zI ((g 0) k))))]) := by
  refine bw_Ci.of (cc := cX7_part) (maxL := 3) (ty := .int) (by decide) rfl (Nat.le_of_ble_eq_true rfl) ?_
  intro p e s m below meth c A Q hx hb hml hts hown hin hK hA hS hP hD hE ret ls hl
  have F : CallFix p m c cX7_part 3 s ([.ref b, .int (zI x), .int (zI y)] : List Value).toArray bw_T RX7 := ⟨hx, hb, hml, hown, fun w h => hts w (List.mem_cons_of_mem _ h)⟩
  replace hl : lv_has ls 3 [(0, .ref b), (1, .int (zI x)), (2, .int (zI y))] := hl
  refine lv_aload_n hx hb dX7_part_0 rfl (lv_at hl 0 rfl) ?_
  refine r_get F hK hP 0 1 rfl rfl in_X7 (by decide) k_205 rfl dX7_part_1 ?_
  refine lv_iload_n hx hb dX7_part_4 rfl (lv_at hl 1 rfl) ?_
  refine lv_iconst (v := zI 5) hx hb dX7_part_5 rfl ?_
  refine r_imul (v := zI (x * 5)) F dX7_part_6 (zI_mul _ _) ?_
  refine lv_iload_n hx hb dX7_part_7 rfl (lv_at hl 2 rfl) ?_
  refine r_iadd (v := zI ((x * 5) + y)) F dX7_part_8 (zI_add _ _) ?_
  refine rz_iald F hK hP 1 0 rfl rfl (by omega) (by omega) dX7_part_9 ?_
  refine rz_top (fun z1 h_z1 => ?_)
  exact ret (zI z1) (fun _ => 0, fun _ _ => 0) _ _ _ _ _ _ rfl (zI_any z1) (bw_subP (isC := [0, 1]) hP rfl) (hD.sub [0, 1] (by decide) rfl) hS (Nat.le_of_ble_eq_true rfl) (Nat.le_of_ble_eq_true rfl) dX7_part_10
theorem dX7_put_0 : decode cX7_put 0 = .ok (.aload_n 0, 1) := bo_42 (by decide +kernel)
theorem dX7_put_1 : decode cX7_put 1 = .ok (.getfield 15, 3) := bo_180 0 15 (by decide +kernel)
theorem dX7_put_4 : decode cX7_put 4 = .ok (.iload_n 1, 1) := bo_27 (by decide +kernel)
theorem dX7_put_5 : decode cX7_put 5 = .ok (.iconst 5, 1) := bo_8 (by decide +kernel)
theorem dX7_put_6 : decode cX7_put 6 = .ok (.imul, 1) := bo_104 (by decide +kernel)
theorem dX7_put_7 : decode cX7_put 7 = .ok (.iload_n 2, 1) := bo_28 (by decide +kernel)
theorem dX7_put_8 : decode cX7_put 8 = .ok (.iadd, 1) := bo_96 (by decide +kernel)
theorem dX7_put_9 : decode cX7_put 9 = .ok (.iload_n 3, 1) := bo_29 (by decide +kernel)
theorem dX7_put_10 : decode cX7_put 10 = .ok (.iastore, 1) := bo_79 (by decide +kernel)
theorem dX7_put_11 : decode cX7_put 11 = .ok (.return_, 1) := bo_177 (by decide +kernel)
theorem dX7_copyFrom_0 : decode cX7_copyFrom 0 = .ok (.aload_n 0, 1) := bo_42 (by decide +kernel)
theorem dX7_copyFrom_1 : decode cX7_copyFrom 1 = .ok (.aload_n 1, 1) := bo_43 (by decide +kernel)
theorem dX7_copyFrom_2 : decode cX7_copyFrom 2 = .ok (.getfield 9, 3) := bo_180 0 9 (by decide +kernel)
theorem k_201 : Cond.fieldLink RX7 9 "BurntWays$Wants" "count" "I" ∈ bw_T := bw_m 201 (by decide +kernel) rfl
theorem dX7_copyFrom_5 : decode cX7_copyFrom 5 = .ok (.putfield 9, 3) := bo_181 0 9 (by decide +kernel)
theorem dX7_copyFrom_8 : decode cX7_copyFrom 8 = .ok (.aload_n 1, 1) := bo_43 (by decide +kernel)
theorem dX7_copyFrom_9 : decode cX7_copyFrom 9 = .ok (.getfield 15, 3) := bo_180 0 15 (by decide +kernel)
theorem dX7_copyFrom_12 : decode cX7_copyFrom 12 = .ok (.iconst 0, 1) := bo_3 (by decide +kernel)
theorem dX7_copyFrom_13 : decode cX7_copyFrom 13 = .ok (.aload_n 0, 1) := bo_42 (by decide +kernel)
theorem dX7_copyFrom_14 : decode cX7_copyFrom 14 = .ok (.getfield 15, 3) := bo_180 0 15 (by decide +kernel)
theorem dX7_copyFrom_17 : decode cX7_copyFrom 17 = .ok (.iconst 0, 1) := bo_3 (by decide +kernel)
theorem dX7_copyFrom_18 : decode cX7_copyFrom 18 = .ok (.bipush 30, 2) := bo_16 30 (by decide +kernel)
theorem dX7_copyFrom_20 : decode cX7_copyFrom 20 = .ok (.invokestatic 19, 3) := bo_184 0 19 (by decide +kernel)
theorem k_646 : Cond.methodLink RX7 19 arraycopyName ∈ bw_T := bw_m 646 (by decide +kernel) rfl
theorem dX7_copyFrom_23 : decode cX7_copyFrom 23 = .ok (.return_, 1) := bo_177 (by decide +kernel)
theorem dX7_init_0 : decode cX7_init 0 = .ok (.aload_n 0, 1) := bo_42 (by decide +kernel)
theorem dX7_init_1 : decode cX7_init 1 = .ok (.invokespecial 3, 3) := bo_183 0 3 (by decide +kernel)
theorem k_200 : Cond.methodLink RX7 3 Lib.objectInit ∈ bw_T := bw_m 200 (by decide +kernel) rfl
theorem dX7_init_4 : decode cX7_init 4 = .ok (.aload_n 0, 1) := bo_42 (by decide +kernel)
theorem dX7_init_5 : decode cX7_init 5 = .ok (.iconst 0, 1) := bo_3 (by decide +kernel)
theorem dX7_init_6 : decode cX7_init 6 = .ok (.putfield 9, 3) := bo_181 0 9 (by decide +kernel)
theorem dX7_init_9 : decode cX7_init 9 = .ok (.aload_n 0, 1) := bo_42 (by decide +kernel)
theorem dX7_init_10 : decode cX7_init 10 = .ok (.bipush 30, 2) := bo_16 30 (by decide +kernel)
theorem dX7_init_12 : decode cX7_init 12 = .ok (.newarray .int, 2) := by decide +kernel
theorem dX7_init_14 : decode cX7_init 14 = .ok (.putfield 15, 3) := bo_181 0 15 (by decide +kernel)
theorem dX7_init_17 : decode cX7_init 17 = .ok (.return_, 1) := bo_177 (by decide +kernel)
abbrev rm_X7_init : Room := { frames := 1, cells := 1, slots := 30, locals := 12 }
set_option maxRecDepth 100000 in
set_option maxHeartbeats 8000000 in
theorem c_X7_init {l : Launch} {E : (Nat → Prop) → State → Prop} (hO : bw_Ok E) {G : va_G} {cI cB cJ cN cW : ClassId} (b : Nat) : bw_Cv (S := zU) l yX7_init (bw_ws (Cond.code yX7_init cX7_init 1 none)) rm_X7_init E G (bw_kt cI cB cJ cN cW) [.ref b] [(b, .inr (7, [.int (zI 0), .null]))] (fun _ => True) (fun u => [(b, .inr (7, [.int (zI 0), .ref ((aU u 0) 0)])), (((aU u 0) 0), .inl (cI, 30, .inl (fun k => zI ((u.2 0) k))))]) := by
  refine bw_Cv.of (cc := cX7_init) (maxL := 1) (by decide) rfl (Nat.le_of_ble_eq_true rfl) ?_
  intro p e s m below meth c A Q hx hb hml hts hown hin hK hA hS hP hD hE ret ls hl
  have F : CallFix p m c cX7_init 1 s ([.ref b] : List Value).toArray bw_T RX7 := ⟨hx, hb, hml, hown, fun w h => hts w (List.mem_cons_of_mem _ h)⟩
  replace hl : lv_has ls 1 [(0, .ref b)] := hl
  refine lv_aload_n hx hb dX7_init_0 rfl (lv_at hl 0 rfl) ?_
  refine r_objInit F k_200 k_oi k_oc hl.1 dX7_init_1 (Nat.le_of_ble_eq_true rfl) (Nat.le_of_ble_eq_true rfl) ?_
  refine lv_aload_n hx hb dX7_init_4 rfl (lv_at hl 0 rfl) ?_
  refine lv_iconst (v := zI 0) hx hb dX7_init_5 rfl ?_
  refine r_put F hK hP hD hS 0 0 rfl rfl in_X7 tyX7 tyX7_ok nmX7 (by decide) k_201 rfl rfl rfl (Nat.le_of_ble_eq_true rfl) dX7_init_6 (w1 := [(b, .inr (7, [.int (zI 0), .null]))]) rfl (fun H locs hP hD hS => ?_)
  refine lv_aload_n hx hb dX7_init_9 rfl (lv_at hl 0 rfl) ?_
  refine lv_bipush (v := zI 30) hx hb dX7_init_10 (by decide) ?_
  refine r_newa (atype := .int) (ty := .int) F rfl k_194 hK hP hD hS hA 0 rfl 30 (30, .inl (fun _ => 0)) (bw_cI 30) (by decide) (by decide) (bw_by (k := 4) rfl (by omega)) (Nat.le_of_ble_eq_true rfl) (Nat.le_of_ble_eq_true rfl) dX7_init_12 (w1 := fun q1 => [(b, .inr (7, [.int (zI 0), .null])), (q1, .inl (cI, 30, .inl (fun k => zI ((fun _ => 0) k))))]) (fun _ => rfl) (fun q1 H hP hD hS => ?_)
  refine r_putF F hK hP hD hS 0 1 rfl rfl in_X7 tyX7 tyX7_ok nmX7 (by decide) k_205 rfl hin rfl rfl rfl (Nat.le_of_ble_eq_true rfl) dX7_init_14 (w1 := [(b, .inr (7, [.int (zI 0), .ref q1])), (q1, .inl (cI, 30, .inl (fun k => zI ((fun _ => 0) k))))]) rfl (fun H locs hP hD hS => ?_)
  exact ret (fun _ => (q1 : Int), fun _ _ => 0) _ _ _ _ _ _ trivial (bw_subP (isC := [0, 1]) hP rfl) (hD.sub [0, 1] (by decide) rfl) hS (Nat.le_of_ble_eq_true rfl) (Nat.le_of_ble_eq_true rfl) dX7_init_17
