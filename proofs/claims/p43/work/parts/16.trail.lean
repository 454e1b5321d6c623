abbrev TrailOk (i : Nat → Int) : Prop := (i 0 = 0 ∨ i 0 = 1) ∧ (-2 ≤ i 1 ∧ i 1 ≤ 180)
theorem dX5_nextWay_0 : decode cX5_nextWay 0 = .ok (.iconst 2, 1) := bo_5 (by decide +kernel)
theorem dX5_nextWay_1 : decode cX5_nextWay 1 = .ok (.iload_n 2, 1) := bo_28 (by decide +kernel)
theorem dX5_nextWay_2 : decode cX5_nextWay 2 = .ok (.imul, 1) := bo_104 (by decide +kernel)
theorem dX5_nextWay_3 : decode cX5_nextWay 3 = .ok (.istore_n 3, 1) := bo_62 (by decide +kernel)
theorem dX5_nextWay_4 : decode cX5_nextWay 4 = .ok (.aload_n 0, 1) := bo_42 (by decide +kernel)
theorem dX5_nextWay_5 : decode cX5_nextWay 5 = .ok (.getfield 23, 3) := bo_180 0 23 (by decide +kernel)
theorem k_432 : Cond.fieldLink RX5 23 "BurntWays$Trail" "waysLeft" "[I" ∈ bw_T := bw_m 432 (by decide +kernel) rfl
theorem in_X5 : ∀ w ∈ wsX50, w ∈ bw_T := bw_ms _ [433, 435, 437, 439] (by decide +kernel) (by decide +kernel)
theorem dX5_nextWay_8 : decode cX5_nextWay 8 = .ok (.iload_n 3, 1) := bo_29 (by decide +kernel)
theorem dX5_nextWay_9 : decode cX5_nextWay 9 = .ok (.iaload, 1) := bo_46 (by decide +kernel)
theorem dX5_nextWay_10 : decode cX5_nextWay 10 = .ok (.ifCond .ne 7, 3) := bo_154 0 7 (by decide +kernel)
theorem dX5_nextWay_17 : decode cX5_nextWay 17 = .ok (.aload_n 0, 1) := bo_42 (by decide +kernel)
theorem dX5_nextWay_18 : decode cX5_nextWay 18 = .ok (.getfield 23, 3) := bo_180 0 23 (by decide +kernel)
theorem dX5_nextWay_21 : decode cX5_nextWay 21 = .ok (.iload_n 3, 1) := bo_29 (by decide +kernel)
theorem dX5_nextWay_22 : decode cX5_nextWay 22 = .ok (.iconst 1, 1) := bo_4 (by decide +kernel)
theorem dX5_nextWay_23 : decode cX5_nextWay 23 = .ok (.iadd, 1) := bo_96 (by decide +kernel)
theorem dX5_nextWay_24 : decode cX5_nextWay 24 = .ok (.iaload, 1) := bo_46 (by decide +kernel)
theorem dX5_nextWay_25 : decode cX5_nextWay 25 = .ok (.ifCond .ne 5, 3) := bo_154 0 5 (by decide +kernel)
theorem dX5_nextWay_30 : decode cX5_nextWay 30 = .ok (.aload_n 0, 1) := bo_42 (by decide +kernel)
theorem dX5_nextWay_31 : decode cX5_nextWay 31 = .ok (.getfield 23, 3) := bo_180 0 23 (by decide +kernel)
theorem dX5_nextWay_34 : decode cX5_nextWay 34 = .ok (.iload_n 3, 1) := bo_29 (by decide +kernel)
theorem dX5_nextWay_35 : decode cX5_nextWay 35 = .ok (.dup2, 1) := bo_92 (by decide +kernel)
theorem dX5_nextWay_36 : decode cX5_nextWay 36 = .ok (.iaload, 1) := bo_46 (by decide +kernel)
theorem dX5_nextWay_37 : decode cX5_nextWay 37 = .ok (.iconst 1, 1) := bo_4 (by decide +kernel)
theorem dX5_nextWay_38 : decode cX5_nextWay 38 = .ok (.isub, 1) := bo_100 (by decide +kernel)
theorem dX5_nextWay_39 : decode cX5_nextWay 39 = .ok (.iastore, 1) := bo_79 (by decide +kernel)
theorem dX5_nextWay_40 : decode cX5_nextWay 40 = .ok (.aload_n 1, 1) := bo_43 (by decide +kernel)
theorem dX5_nextWay_41 : decode cX5_nextWay 41 = .ok (.aload_n 0, 1) := bo_42 (by decide +kernel)
theorem dX5_nextWay_42 : decode cX5_nextWay 42 = .ok (.getfield 23, 3) := bo_180 0 23 (by decide +kernel)
theorem dX5_nextWay_45 : decode cX5_nextWay 45 = .ok (.aload_n 1, 1) := bo_43 (by decide +kernel)
theorem dX5_nextWay_46 : decode cX5_nextWay 46 = .ok (.getfield 57, 3) := bo_180 0 57 (by decide +kernel)
theorem k_166 : Cond.fieldLink RX5 57 "BurntWays$Net" "leads" "[I" ∈ bw_T := bw_m 166 (by decide +kernel) rfl
theorem dX5_nextWay_49 : decode cX5_nextWay 49 = .ok (.iload_n 3, 1) := bo_29 (by decide +kernel)
theorem dX5_nextWay_50 : decode cX5_nextWay 50 = .ok (.iaload, 1) := bo_46 (by decide +kernel)
theorem dX5_nextWay_51 : decode cX5_nextWay 51 = .ok (.invokevirtual 60, 3) := bo_182 0 60 (by decide +kernel)
theorem k_910 : Cond.methodLink RX5 60 yX2_hangTogether ∈ bw_T := bw_m 910 (by decide +kernel) rfl
theorem dX5_nextWay_54 : decode cX5_nextWay 54 = .ok (.istore 4, 2) := bo_54 (by decide +kernel)
theorem dX5_nextWay_56 : decode cX5_nextWay 56 = .ok (.aload_n 0, 1) := bo_42 (by decide +kernel)
theorem dX5_nextWay_57 : decode cX5_nextWay 57 = .ok (.getfield 23, 3) := bo_180 0 23 (by decide +kernel)
theorem dX5_nextWay_60 : decode cX5_nextWay 60 = .ok (.iload_n 3, 1) := bo_29 (by decide +kernel)
theorem dX5_nextWay_61 : decode cX5_nextWay 61 = .ok (.dup2, 1) := bo_92 (by decide +kernel)
theorem dX5_nextWay_62 : decode cX5_nextWay 62 = .ok (.iaload, 1) := bo_46 (by decide +kernel)
theorem dX5_nextWay_63 : decode cX5_nextWay 63 = .ok (.iconst 1, 1) := bo_4 (by decide +kernel)
theorem dX5_nextWay_64 : decode cX5_nextWay 64 = .ok (.iadd, 1) := bo_96 (by decide +kernel)
theorem dX5_nextWay_65 : decode cX5_nextWay 65 = .ok (.iastore, 1) := bo_79 (by decide +kernel)
theorem dX5_nextWay_66 : decode cX5_nextWay 66 = .ok (.iload 4, 2) := bo_21 (by decide +kernel)
theorem dX5_nextWay_68 : decode cX5_nextWay 68 = .ok (.ifCond .eq 7, 3) := bo_153 0 7 (by decide +kernel)
theorem dX5_nextWay_75 : decode cX5_nextWay 75 = .ok (.iload_n 3, 1) := bo_29 (by decide +kernel)
theorem dX5_nextWay_76 : decode cX5_nextWay 76 = .ok (.iconst 1, 1) := bo_4 (by decide +kernel)
theorem dX5_nextWay_77 : decode cX5_nextWay 77 = .ok (.iadd, 1) := bo_96 (by decide +kernel)
theorem dX5_nextWay_78 : decode cX5_nextWay 78 = .ok (.ireturn, 1) := bo_172 (by decide +kernel)
theorem dX5_nextWay_71 : decode cX5_nextWay 71 = .ok (.iload_n 3, 1) := bo_29 (by decide +kernel)
theorem dX5_nextWay_72 : decode cX5_nextWay 72 = .ok (.goto 6, 3) := bo_167 0 6 (by decide +kernel)
theorem dX5_nextWay_28 : decode cX5_nextWay 28 = .ok (.iload_n 3, 1) := bo_29 (by decide +kernel)
theorem dX5_nextWay_29 : decode cX5_nextWay 29 = .ok (.ireturn, 1) := bo_172 (by decide +kernel)
theorem dX5_nextWay_13 : decode cX5_nextWay 13 = .ok (.iload_n 3, 1) := bo_29 (by decide +kernel)
theorem dX5_nextWay_14 : decode cX5_nextWay 14 = .ok (.iconst 1, 1) := bo_4 (by decide +kernel)
theorem dX5_nextWay_15 : decode cX5_nextWay 15 = .ok (.iadd, 1) := bo_96 (by decide +kernel)
theorem dX5_nextWay_16 : decode cX5_nextWay 16 = .ok (.ireturn, 1) := bo_172 (by decide +kernel)
abbrev rm_X5_nextWay : Room := { frames := 1, cells := 0, slots := 0, locals := 26 }
set_option maxRecDepth 100000 in
set_option maxHeartbeats 8000000 in
theorem c_X5_nextWay {l : Launch} {E : (Nat → Prop) → State → Prop} (hO : bw_Ok E) {G : va_G} {cI cB cJ cN cW : ClassId} (b : Nat) (q : Nat → Nat) (i : Nat → Int) (g : Nat → Nat → Int) (hY : TrailOk i) (o : Nat) (qo : Nat → Nat) (no : Int) (go : Nat → Nat → Int) (hM : NetOk no go) (x : Int) (hx9 : 0 ≤ x ∧ x ≤ 9) : bw_Ci (S := zU) l yX5_nextWay (bw_ws (Cond.code yX5_nextWay cX5_nextWay 5 (some .int))) rm_X5_nextWay E G (bw_kt cI cB cJ cN cW) [.ref b, .ref o, .int (zI x)] [(b, .inr (5, [.int (zI (i 0)), .int (zI (i 1)), .ref (q 0), .ref (q 1)])), ((q 0), .inl (cI, 180, .inl (fun k => zI ((g 0) k)))), ((q 1), .inl (cI, 20, .inl (fun k => zI ((g 1) k)))), (o, .inr (2, [.int (zI no), .ref (qo 0), .ref (qo 1), .ref (qo 2), .ref (qo 3), .ref (qo 4), .ref (qo 5), .ref (qo 6), .ref (qo 7)])), ((qo 0), .inl (cI, 10, .inl (fun k => zI ((go 0) k)))), ((qo 1), .inl (cI, 10, .inl (fun k => zI ((go 1) k)))), ((qo 2), .inl (cI, 10, .inl (fun k => zI ((go 2) k)))), ((qo 3), .inl (cI, 40, .inl (fun k => zI ((go 3) k)))), ((qo 4), .inl (cI, 40, .inl (fun k => zI ((go 4) k)))), ((qo 5), .inl (cI, 40, .inl (fun k => zI ((go 5) k)))), ((qo 6), .inl (cI, 20, .inl (fun k => zI ((go 6) k)))), ((qo 7), .inl (cI, 20, .inl (fun k => zI ((go 7) k))))] (fun r u => ∃ z : Int, r = zI z ∧ TrailOk u.1 ∧ ((z = 2 * x ∨ z = 2 * x + 1) ∧ u.1 0 = i 0 ∧ u.1 1 = i 1)) (fun u => [(b, .inr (5, [.int (zI (u.1 0)), .int (zI (u.1 1)), .ref (q 0), .ref (q 1)])), ((q 0), .inl (cI, 180, .inl (fun k => zI ((u.2 0) k)))), ((q 1), .inl (cI, 20, .inl (fun k => zI ((u.2 1) k)))), (o, .inr (2, [.int (zI no), .ref (qo 0), .ref (qo 1), .ref (qo 2), .ref (qo 3), .ref (qo 4), .ref (qo 5), .ref (qo 6), .ref (qo 7)])), ((qo 0), .inl (cI, 10, .inl (fun k => zI ((go 0) k)))), ((qo 1), .inl (cI, 10, .inl (fun k => zI ((go 1) k)))), ((qo 2), .inl (cI, 10, .inl (fun k => zI ((go 2) k)))), ((qo 3), .inl (cI, 40, .inl (fun k => zI ((go 3) k)))), ((qo 4), .inl (cI, 40, .inl (fun k => zI ((go 4) k)))), ((qo 5), .inl (cI, 40, .inl (fun k => zI ((go 5) k)))), ((qo 6), .inl (cI, 20, .inl (fun k => zI ((go 6) k)))), ((qo 7), .inl (cI, 20, .inl (fun k => zI ((go 7) k))))]) := by
  refine bw_Ci.of (cc := cX5_nextWay) (maxL := 5) (ty := .int) (by decide) rfl (Nat.le_of_ble_eq_true rfl) ?_
  intro p e s m below meth c A Q hx hb hml hts hown hin hK hA hS hP hD hE ret ls hl
  have F : CallFix p m c cX5_nextWay 5 s ([.ref b, .ref o, .int (zI x)] : List Value).toArray bw_T RX5 := ⟨hx, hb, hml, hown, fun w h => hts w (List.mem_cons_of_mem _ h)⟩
  replace hl : lv_has ls 5 [(0, .ref b), (1, .ref o), (2, .int (zI x))] := hl
  have hM0 := hM.1
  refine lv_iconst (v := zI 2) hx hb dX5_nextWay_0 rfl ?_
  refine lv_iload_n hx hb dX5_nextWay_1 rfl (lv_at hl 2 rfl) ?_
  refine r_imul (v := zI (2 * x)) F dX5_nextWay_2 (zI_mul _ _) ?_
  refine lv_istore_n (lv' := [(3, .int (zI (2 * x))), (0, .ref b), (1, .ref o), (2, .int (zI x))]) hx hb dX5_nextWay_3 rfl hl (by decide) rfl (fun ls hl => ?_)
  refine lv_aload_n hx hb dX5_nextWay_4 rfl (lv_at hl 1 rfl) ?_
  refine r_get F hK hP 0 3 rfl rfl in_X5 (by decide) k_432 rfl dX5_nextWay_5 ?_
  refine lv_iload_n hx hb dX5_nextWay_8 rfl (lv_at hl 0 rfl) ?_
  refine rz_iald F hK hP 2 0 rfl rfl (by omega) (by omega) dX5_nextWay_9 ?_
  refine rz_top (fun z1 h_z1 => ?_)
  refine rz_if_ne (tgt := 17) F (by omega) dX5_nextWay_10 (by decide) (fun h10_1 => ?_) (fun h10_1 => ?_)
  · refine lv_aload_n hx hb dX5_nextWay_17 rfl (lv_at hl 1 rfl) ?_
    refine r_get F hK hP 0 3 rfl rfl in_X5 (by decide) k_432 rfl dX5_nextWay_18 ?_
    refine lv_iload_n hx hb dX5_nextWay_21 rfl (lv_at hl 0 rfl) ?_
    refine lv_iconst (v := zI 1) hx hb dX5_nextWay_22 rfl ?_
    refine r_iadd (v := zI ((2 * x) + 1)) F dX5_nextWay_23 (zI_add _ _) ?_
    refine rz_iald F hK hP 2 0 rfl rfl (by omega) (by omega) dX5_nextWay_24 ?_
    refine rz_top (fun z3 h_z3 => ?_)
    refine rz_if_ne (tgt := 30) F (by omega) dX5_nextWay_25 (by decide) (fun h25_3 => ?_) (fun h25_3 => ?_)
    · refine lv_aload_n hx hb dX5_nextWay_30 rfl (lv_at hl 1 rfl) ?_
      refine r_get F hK hP 0 3 rfl rfl in_X5 (by decide) k_432 rfl dX5_nextWay_31 ?_
      refine lv_iload_n hx hb dX5_nextWay_34 rfl (lv_at hl 0 rfl) ?_
      refine lv_dup2_11 hx hb dX5_nextWay_35 rfl rfl ?_
      refine rz_iald F hK hP 2 0 rfl rfl (by omega) (by omega) dX5_nextWay_36 ?_
      refine rz_top (fun z5 h_z5 => ?_)
      refine lv_iconst (v := zI 1) hx hb dX5_nextWay_37 rfl ?_
      refine r_isub (v := zI (z5 - 1)) F dX5_nextWay_38 (zI_sub _ _) ?_
      refine rz_iastG F hK hP hD hS 2 0 rfl rfl (by omega) (by omega) dX5_nextWay_39 (w1 := fun g6 => [(b, .inr (5, [.int (zI (i 0)), .int (zI (i 1)), .ref (q 0), .ref (q 1)])), ((q 0), .inl (cI, 180, .inl (fun k => zI ((g 0) k)))), ((q 1), .inl (cI, 20, .inl (fun k => zI (g6 k)))), (o, .inr (2, [.int (zI no), .ref (qo 0), .ref (qo 1), .ref (qo 2), .ref (qo 3), .ref (qo 4), .ref (qo 5), .ref (qo 6), .ref (qo 7)])), ((qo 0), .inl (cI, 10, .inl (fun k => zI ((go 0) k)))), ((qo 1), .inl (cI, 10, .inl (fun k => zI ((go 1) k)))), ((qo 2), .inl (cI, 10, .inl (fun k => zI ((go 2) k)))), ((qo 3), .inl (cI, 40, .inl (fun k => zI ((go 3) k)))), ((qo 4), .inl (cI, 40, .inl (fun k => zI ((go 4) k)))), ((qo 5), .inl (cI, 40, .inl (fun k => zI ((go 5) k)))), ((qo 6), .inl (cI, 20, .inl (fun k => zI ((go 6) k)))), ((qo 7), .inl (cI, 20, .inl (fun k => zI ((go 7) k))))]) (fun _ => rfl) (fun g6 e_g6 H locs hP hD hS => ?_)
      refine lv_aload_n hx hb dX5_nextWay_40 rfl (lv_at hl 2 rfl) ?_
      refine lv_aload_n hx hb dX5_nextWay_41 rfl (lv_at hl 1 rfl) ?_
      refine r_get F hK hP 0 3 rfl rfl in_X5 (by decide) k_432 rfl dX5_nextWay_42 ?_
      refine lv_aload_n hx hb dX5_nextWay_45 rfl (lv_at hl 2 rfl) ?_
      refine r_get F hK hP 3 7 rfl rfl in_X2 (by decide) k_166 rfl dX5_nextWay_46 ?_
      refine lv_iload_n hx hb dX5_nextWay_49 rfl (lv_at hl 0 rfl) ?_
      refine rz_iald F hK hP 10 0 rfl rfl (by omega) (by omega) dX5_nextWay_50 ?_
      have h_l50_6 := hM.2.2.2.2.2.2.2.1 ((2 * x)).toNat (by omega)
      refine r_callVi (As := [.ref (q 1), .int (zI ((go 6) ((2 * x)).toNat))]) (rest := []) (wr := [(b, .inr (5, [.int (zI (i 0)), .int (zI (i 1)), .ref (q 0), .ref (q 1)])), ((q 0), .inl (cI, 180, .inl (fun k => zI ((g 0) k))))]) F hK hP hD hS hA hO hE (c_X2_hangOther hO o qo no go hM (q 1) g6 ((go 6) ((2 * x)).toNat) (by omega)) k_910 kv_X2_hangTogether 2 rfl (by decide +kernel) ⟨Nat.le_of_ble_eq_true rfl, Nat.le_of_ble_eq_true rfl⟩ [3, 4, 5, 6, 7, 8, 9, 10, 11, 2] [0, 1] rfl rfl (by decide) (by decide) (by decide) 0 2 rfl rfl rfl hl.1 rfl (Nat.le_of_ble_eq_true rfl) dX5_nextWay_51 ⟨Nat.le_of_ble_eq_true rfl, Nat.le_of_ble_eq_true rfl⟩ (w1 := fun u8 => [(b, .inr (5, [.int (zI (i 0)), .int (zI (i 1)), .ref (q 0), .ref (q 1)])), ((q 0), .inl (cI, 180, .inl (fun k => zI ((g 0) k)))), (o, .inr (2, [.int (zI no), .ref (qo 0), .ref (qo 1), .ref (qo 2), .ref (qo 3), .ref (qo 4), .ref (qo 5), .ref (qo 6), .ref (qo 7)])), ((qo 0), .inl (cI, 10, .inl (fun k => zI ((go 0) k)))), ((qo 1), .inl (cI, 10, .inl (fun k => zI ((go 1) k)))), ((qo 2), .inl (cI, 10, .inl (fun k => zI ((go 2) k)))), ((qo 3), .inl (cI, 40, .inl (fun k => zI ((go 3) k)))), ((qo 4), .inl (cI, 40, .inl (fun k => zI ((go 4) k)))), ((qo 5), .inl (cI, 40, .inl (fun k => zI ((go 5) k)))), ((qo 6), .inl (cI, 20, .inl (fun k => zI ((go 6) k)))), ((qo 7), .inl (cI, 20, .inl (fun k => zI ((go 7) k)))), ((q 1), .inl (cI, 20, .inl (fun k => zI (g6 k))))]) (fun _ => rfl) (fun r9 u8 H locs hp10 hP hD hS => ?_)
      obtain ⟨z11, rfl, h_z11⟩ := hp10
      refine lv_istore (lv' := [(4, .int (zI z11)), (3, .int (zI (2 * x))), (0, .ref b), (1, .ref o), (2, .int (zI x))]) hx hb dX5_nextWay_54 hl (by decide) rfl (fun ls hl => ?_)
      refine lv_aload_n hx hb dX5_nextWay_56 rfl (lv_at hl 2 rfl) ?_
      refine r_get F hK hP 0 3 rfl rfl in_X5 (by decide) k_432 rfl dX5_nextWay_57 ?_
      refine lv_iload_n hx hb dX5_nextWay_60 rfl (lv_at hl 1 rfl) ?_
      refine lv_dup2_11 hx hb dX5_nextWay_61 rfl rfl ?_
      refine rz_iald F hK hP 11 0 rfl rfl (by omega) (by omega) dX5_nextWay_62 ?_
      refine rz_top (fun z12 h_z12 => ?_)
      refine lv_iconst (v := zI 1) hx hb dX5_nextWay_63 rfl ?_
      refine r_iadd (v := zI (z12 + 1)) F dX5_nextWay_64 (zI_add _ _) ?_
      refine rz_iastG F hK hP hD hS 11 0 rfl rfl (by omega) (by omega) dX5_nextWay_65 (w1 := fun g13 => [(b, .inr (5, [.int (zI (i 0)), .int (zI (i 1)), .ref (q 0), .ref (q 1)])), ((q 0), .inl (cI, 180, .inl (fun k => zI ((g 0) k)))), (o, .inr (2, [.int (zI no), .ref (qo 0), .ref (qo 1), .ref (qo 2), .ref (qo 3), .ref (qo 4), .ref (qo 5), .ref (qo 6), .ref (qo 7)])), ((qo 0), .inl (cI, 10, .inl (fun k => zI ((go 0) k)))), ((qo 1), .inl (cI, 10, .inl (fun k => zI ((go 1) k)))), ((qo 2), .inl (cI, 10, .inl (fun k => zI ((go 2) k)))), ((qo 3), .inl (cI, 40, .inl (fun k => zI ((go 3) k)))), ((qo 4), .inl (cI, 40, .inl (fun k => zI ((go 4) k)))), ((qo 5), .inl (cI, 40, .inl (fun k => zI ((go 5) k)))), ((qo 6), .inl (cI, 20, .inl (fun k => zI ((go 6) k)))), ((qo 7), .inl (cI, 20, .inl (fun k => zI ((go 7) k)))), ((q 1), .inl (cI, 20, .inl (fun k => zI (g13 k))))]) (fun _ => rfl) (fun g13 e_g13 H locs hP hD hS => ?_)
      refine lv_iload hx hb dX5_nextWay_66 (lv_at hl 0 rfl) ?_
      refine rz_if_eq (tgt := 75) F (by omega) dX5_nextWay_68 (by decide) (fun h68_13 => ?_) (fun h68_13 => ?_)
      · refine lv_iload_n hx hb dX5_nextWay_75 rfl (lv_at hl 1 rfl) ?_
        refine lv_iconst (v := zI 1) hx hb dX5_nextWay_76 rfl ?_
        refine r_iadd (v := zI ((2 * x) + 1)) F dX5_nextWay_77 (zI_add _ _) ?_
        obtain ⟨i15, e_i15⟩ : ∃ i15 : Nat → Int, i15 = fun k => [(i 0), (i 1)].getD k 0 := ⟨_, rfl⟩
        have e_i15_0 : i15 0 = (i 0) := congrFun e_i15 0
        have e_i15_1 : i15 1 = (i 1) := congrFun e_i15 1
        obtain ⟨gg16, e_gg16⟩ : ∃ gg16 : Nat → Nat → Int, gg16 = fun k => [(g 0), g13].getD k (fun _ => 0) := ⟨_, rfl⟩
        have hO17 : TrailOk i15 := ⟨by omega, by omega⟩
        have hf18 := hO17
        have hP : va_P G vwCl [(b, .inr (5, [.int (zI (i15 0)), .int (zI (i15 1)), .ref (q 0), .ref (q 1)])), ((q 0), .inl (cI, 180, .inl (fun k => zI ((gg16 0) k)))), (o, .inr (2, [.int (zI no), .ref (qo 0), .ref (qo 1), .ref (qo 2), .ref (qo 3), .ref (qo 4), .ref (qo 5), .ref (qo 6), .ref (qo 7)])), ((qo 0), .inl (cI, 10, .inl (fun k => zI ((go 0) k)))), ((qo 1), .inl (cI, 10, .inl (fun k => zI ((go 1) k)))), ((qo 2), .inl (cI, 10, .inl (fun k => zI ((go 2) k)))), ((qo 3), .inl (cI, 40, .inl (fun k => zI ((go 3) k)))), ((qo 4), .inl (cI, 40, .inl (fun k => zI ((go 4) k)))), ((qo 5), .inl (cI, 40, .inl (fun k => zI ((go 5) k)))), ((qo 6), .inl (cI, 20, .inl (fun k => zI ((go 6) k)))), ((qo 7), .inl (cI, 20, .inl (fun k => zI ((go 7) k)))), ((q 1), .inl (cI, 20, .inl (fun k => zI ((gg16 1) k))))] H := by subst e_i15 e_gg16; exact hP
        have hD : va_D A [(b, .inr (5, [.int (zI (i15 0)), .int (zI (i15 1)), .ref (q 0), .ref (q 1)])), ((q 0), .inl (cI, 180, .inl (fun k => zI ((gg16 0) k)))), (o, .inr (2, [.int (zI no), .ref (qo 0), .ref (qo 1), .ref (qo 2), .ref (qo 3), .ref (qo 4), .ref (qo 5), .ref (qo 6), .ref (qo 7)])), ((qo 0), .inl (cI, 10, .inl (fun k => zI ((go 0) k)))), ((qo 1), .inl (cI, 10, .inl (fun k => zI ((go 1) k)))), ((qo 2), .inl (cI, 10, .inl (fun k => zI ((go 2) k)))), ((qo 3), .inl (cI, 40, .inl (fun k => zI ((go 3) k)))), ((qo 4), .inl (cI, 40, .inl (fun k => zI ((go 4) k)))), ((qo 5), .inl (cI, 40, .inl (fun k => zI ((go 5) k)))), ((qo 6), .inl (cI, 20, .inl (fun k => zI ((go 6) k)))), ((qo 7), .inl (cI, 20, .inl (fun k => zI ((go 7) k)))), ((q 1), .inl (cI, 20, .inl (fun k => zI ((gg16 1) k))))] := by subst e_i15 e_gg16; exact hD
        exact ret (zI ((2 * x) + 1)) (i15, gg16) _ _ _ _ _ _ rfl ⟨((2 * x) + 1), rfl, hO17, by dsimp only; omega⟩ (bw_subP (isC := [0, 1, 11, 2, 3, 4, 5, 6, 7, 8, 9, 10]) hP rfl) (hD.sub [0, 1, 11, 2, 3, 4, 5, 6, 7, 8, 9, 10] (by decide) rfl) hS (Nat.le_of_ble_eq_true rfl) (Nat.le_of_ble_eq_true rfl) dX5_nextWay_78
      · refine lv_iload_n hx hb dX5_nextWay_71 rfl (lv_at hl 1 rfl) ?_
        refine lv_goto (tgt := 78) hx hb dX5_nextWay_72 (by decide) ?_
        obtain ⟨i19, e_i19⟩ : ∃ i19 : Nat → Int, i19 = fun k => [(i 0), (i 1)].getD k 0 := ⟨_, rfl⟩
        have e_i19_0 : i19 0 = (i 0) := congrFun e_i19 0
        have e_i19_1 : i19 1 = (i 1) := congrFun e_i19 1
        obtain ⟨gg20, e_gg20⟩ : ∃ gg20 : Nat → Nat → Int, gg20 = fun k => [(g 0), g13].getD k (fun _ => 0) := ⟨_, rfl⟩
        have hO21 : TrailOk i19 := ⟨by omega, by omega⟩
        have hf22 := hO21
        have hP : va_P G vwCl [(b, .inr (5, [.int (zI (i19 0)), .int (zI (i19 1)), .ref (q 0), .ref (q 1)])), ((q 0), .inl (cI, 180, .inl (fun k => zI ((gg20 0) k)))), (o, .inr (2, [.int (zI no), .ref (qo 0), .ref (qo 1), .ref (qo 2), .ref (qo 3), .ref (qo 4), .ref (qo 5), .ref (qo 6), .ref (qo 7)])), ((qo 0), .inl (cI, 10, .inl (fun k => zI ((go 0) k)))), ((qo 1), .inl (cI, 10, .inl (fun k => zI ((go 1) k)))), ((qo 2), .inl (cI, 10, .inl (fun k => zI ((go 2) k)))), ((qo 3), .inl (cI, 40, .inl (fun k => zI ((go 3) k)))), ((qo 4), .inl (cI, 40, .inl (fun k => zI ((go 4) k)))), ((qo 5), .inl (cI, 40, .inl (fun k => zI ((go 5) k)))), ((qo 6), .inl (cI, 20, .inl (fun k => zI ((go 6) k)))), ((qo 7), .inl (cI, 20, .inl (fun k => zI ((go 7) k)))), ((q 1), .inl (cI, 20, .inl (fun k => zI ((gg20 1) k))))] H := by subst e_i19 e_gg20; exact hP
        have hD : va_D A [(b, .inr (5, [.int (zI (i19 0)), .int (zI (i19 1)), .ref (q 0), .ref (q 1)])), ((q 0), .inl (cI, 180, .inl (fun k => zI ((gg20 0) k)))), (o, .inr (2, [.int (zI no), .ref (qo 0), .ref (qo 1), .ref (qo 2), .ref (qo 3), .ref (qo 4), .ref (qo 5), .ref (qo 6), .ref (qo 7)])), ((qo 0), .inl (cI, 10, .inl (fun k => zI ((go 0) k)))), ((qo 1), .inl (cI, 10, .inl (fun k => zI ((go 1) k)))), ((qo 2), .inl (cI, 10, .inl (fun k => zI ((go 2) k)))), ((qo 3), .inl (cI, 40, .inl (fun k => zI ((go 3) k)))), ((qo 4), .inl (cI, 40, .inl (fun k => zI ((go 4) k)))), ((qo 5), .inl (cI, 40, .inl (fun k => zI ((go 5) k)))), ((qo 6), .inl (cI, 20, .inl (fun k => zI ((go 6) k)))), ((qo 7), .inl (cI, 20, .inl (fun k => zI ((go 7) k)))), ((q 1), .inl (cI, 20, .inl (fun k => zI ((gg20 1) k))))] := by subst e_i19 e_gg20; exact hD
        exact ret (zI (2 * x)) (i19, gg20) _ _ _ _ _ _ rfl ⟨(2 * x), rfl, hO21, by dsimp only; omega⟩ (bw_subP (isC := [0, 1, 11, 2, 3, 4, 5, 6, 7, 8, 9, 10]) hP rfl) (hD.sub [0, 1, 11, 2, 3, 4, 5, 6, 7, 8, 9, 10] (by decide) rfl) hS (Nat.le_of_ble_eq_true rfl) (Nat.le_of_ble_eq_true rfl) dX5_nextWay_78
    · refine lv_iload_n hx hb dX5_nextWay_28 rfl (lv_at hl 0 rfl) ?_
      exact ret (zI (2 * x)) (i, g) _ _ _ _ _ _ rfl ⟨(2 * x), rfl, hY, by dsimp only; omega⟩ (bw_subP (isC := [0, 1, 2, 3, 4, 5, 6, 7, 8, 9, 10, 11]) hP rfl) (hD.sub [0, 1, 2, 3, 4, 5, 6, 7, 8, 9, 10, 11] (by decide) rfl) hS (Nat.le_of_ble_eq_true rfl) (Nat.le_of_ble_eq_true rfl) dX5_nextWay_29
  · refine lv_iload_n hx hb dX5_nextWay_13 rfl (lv_at hl 0 rfl) ?_
    refine lv_iconst (v := zI 1) hx hb dX5_nextWay_14 rfl ?_
    refine r_iadd (v := zI ((2 * x) + 1)) F dX5_nextWay_15 (zI_add _ _) ?_
    exact ret (zI ((2 * x) + 1)) (i, g) _ _ _ _ _ _ rfl ⟨((2 * x) + 1), rfl, hY, by dsimp only; omega⟩ (bw_subP (isC := [0, 1, 2, 3, 4, 5, 6, 7, 8, 9, 10, 11]) hP rfl) (hD.sub [0, 1, 2, 3, 4, 5, 6, 7, 8, 9, 10, 11] (by decide) rfl) hS (Nat.le_of_ble_eq_true rfl) (Nat.le_of_ble_eq_true rfl) dX5_nextWay_16
theorem dX5_goThrough_0 : decode cX5_goThrough 0 = .ok (.aload_n 1, 1) := bo_43 (by decide +kernel)
theorem dX5_goThrough_1 : decode cX5_goThrough 1 = .ok (.getfield 36, 3) := bo_180 0 36 (by decide +kernel)
theorem k_170 : Cond.fieldLink RX5 36 "BurntWays$Net" "laid" "[I" ∈ bw_T := bw_m 170 (by decide +kernel) rfl
theorem dX5_goThrough_4 : decode cX5_goThrough 4 = .ok (.iconst 0, 1) := bo_3 (by decide +kernel)
theorem dX5_goThrough_5 : decode cX5_goThrough 5 = .ok (.aload_n 0, 1) := bo_42 (by decide +kernel)
theorem dX5_goThrough_6 : decode cX5_goThrough 6 = .ok (.getfield 23, 3) := bo_180 0 23 (by decide +kernel)
theorem dX5_goThrough_9 : decode cX5_goThrough 9 = .ok (.iconst 0, 1) := bo_3 (by decide +kernel)
theorem dX5_goThrough_10 : decode cX5_goThrough 10 = .ok (.bipush 20, 2) := bo_16 20 (by decide +kernel)
theorem dX5_goThrough_12 : decode cX5_goThrough 12 = .ok (.invokestatic 39, 3) := bo_184 0 39 (by decide +kernel)
theorem k_901 : Cond.methodLink RX5 39 arraycopyName ∈ bw_T := bw_m 901 (by decide +kernel) rfl
theorem dX5_goThrough_15 : decode cX5_goThrough 15 = .ok (.aload_n 1, 1) := bo_43 (by decide +kernel)
theorem dX5_goThrough_16 : decode cX5_goThrough 16 = .ok (.invokevirtual 45, 3) := bo_182 0 45 (by decide +kernel)
theorem k_902 : Cond.methodLink RX5 45 yX2_laidInAll ∈ bw_T := bw_m 902 (by decide +kernel) rfl
theorem kv_X2_laidInAll : bw_KV RX2 yX2_laidInAll (Cond.code yX2_laidInAll cX2_laidInAll 3 (some .int)) := ⟨bw_m 903 (by decide +kernel) rfl, bw_m 904 (by decide +kernel) rfl, bw_m 96 (by decide +kernel) rfl, bw_m 905 (by decide +kernel) rfl⟩
theorem dX5_goThrough_19 : decode cX5_goThrough 19 = .ok (.istore_n 2, 1) := bo_61 (by decide +kernel)
theorem dX5_goThrough_20 : decode cX5_goThrough 20 = .ok (.iconst 0, 1) := bo_3 (by decide +kernel)
theorem dX5_goThrough_21 : decode cX5_goThrough 21 = .ok (.istore_n 3, 1) := bo_62 (by decide +kernel)
theorem dX5_goThrough_22 : decode cX5_goThrough 22 = .ok (.aload_n 0, 1) := bo_42 (by decide +kernel)
theorem dX5_goThrough_23 : decode cX5_goThrough 23 = .ok (.iconst 0, 1) := bo_3 (by decide +kernel)
theorem dX5_goThrough_24 : decode cX5_goThrough 24 = .ok (.putfield 15, 3) := bo_181 0 15 (by decide +kernel)
theorem k_428 : Cond.fieldLink RX5 15 "BurntWays$Trail" "length" "I" ∈ bw_T := bw_m 428 (by decide +kernel) rfl
theorem dX5_goThrough_27 : decode cX5_goThrough 27 = .ok (.iconst 0, 1) := bo_3 (by decide +kernel)
theorem dX5_goThrough_28 : decode cX5_goThrough 28 = .ok (.istore 4, 2) := bo_54 (by decide +kernel)
theorem dX5_goThrough_30 : decode cX5_goThrough 30 = .ok (.iload 4, 2) := bo_21 (by decide +kernel)
theorem dX5_goThrough_32 : decode cX5_goThrough 32 = .ok (.iload_n 2, 1) := bo_28 (by decide +kernel)
theorem dX5_goThrough_33 : decode cX5_goThrough 33 = .ok (.if_icmp .ge 73, 3) := bo_162 0 73 (by decide +kernel)
theorem dX5_goThrough_106 : decode cX5_goThrough 106 = .ok (.return_, 1) := bo_177 (by decide +kernel)
theorem dX5_goThrough_36 : decode cX5_goThrough 36 = .ok (.iload 4, 2) := bo_21 (by decide +kernel)
theorem dX5_goThrough_38 : decode cX5_goThrough 38 = .ok (.sipush 180, 3) := bo_17 0 180 (by decide +kernel)
theorem dX5_goThrough_41 : decode cX5_goThrough 41 = .ok (.if_icmp .ge 65, 3) := bo_162 0 65 (by decide +kernel)
theorem dX5_goThrough_44 : decode cX5_goThrough 44 = .ok (.aload_n 0, 1) := bo_42 (by decide +kernel)
theorem dX5_goThrough_45 : decode cX5_goThrough 45 = .ok (.aload_n 1, 1) := bo_43 (by decide +kernel)
theorem dX5_goThrough_46 : decode cX5_goThrough 46 = .ok (.iload_n 3, 1) := bo_29 (by decide +kernel)
theorem dX5_goThrough_47 : decode cX5_goThrough 47 = .ok (.invokevirtual 49, 3) := bo_182 0 49 (by decide +kernel)
theorem k_906 : Cond.methodLink RX5 49 yX5_nextWay ∈ bw_T := bw_m 906 (by decide +kernel) rfl
theorem kv_X5_nextWay : bw_KV RX5 yX5_nextWay (Cond.code yX5_nextWay cX5_nextWay 5 (some .int)) := ⟨bw_m 908 (by decide +kernel) rfl, bw_m 32 (by decide +kernel) rfl, bw_m 104 (by decide +kernel) rfl, bw_m 909 (by decide +kernel) rfl⟩
theorem dX5_goThrough_50 : decode cX5_goThrough 50 = .ok (.istore 5, 2) := bo_54 (by decide +kernel)
theorem dX5_goThrough_52 : decode cX5_goThrough 52 = .ok (.aload_n 1, 1) := bo_43 (by decide +kernel)
theorem dX5_goThrough_53 : decode cX5_goThrough 53 = .ok (.iload 5, 2) := bo_21 (by decide +kernel)
theorem dX5_goThrough_55 : decode cX5_goThrough 55 = .ok (.invokevirtual 53, 3) := bo_182 0 53 (by decide +kernel)
theorem k_911 : Cond.methodLink RX5 53 yX2_hasWay ∈ bw_T := bw_m 911 (by decide +kernel) rfl
theorem dX5_goThrough_58 : decode cX5_goThrough 58 = .ok (.ifCond .ne 4, 3) := bo_154 0 4 (by decide +kernel)
theorem dX5_goThrough_62 : decode cX5_goThrough 62 = .ok (.aload_n 0, 1) := bo_42 (by decide +kernel)
theorem dX5_goThrough_63 : decode cX5_goThrough 63 = .ok (.getfield 19, 3) := bo_180 0 19 (by decide +kernel)
theorem k_430 : Cond.fieldLink RX5 19 "BurntWays$Trail" "ways" "[I" ∈ bw_T := bw_m 430 (by decide +kernel) rfl
theorem dX5_goThrough_66 : decode cX5_goThrough 66 = .ok (.iload 4, 2) := bo_21 (by decide +kernel)
theorem dX5_goThrough_68 : decode cX5_goThrough 68 = .ok (.iload 5, 2) := bo_21 (by decide +kernel)
theorem dX5_goThrough_70 : decode cX5_goThrough 70 = .ok (.iastore, 1) := bo_79 (by decide +kernel)
theorem dX5_goThrough_71 : decode cX5_goThrough 71 = .ok (.aload_n 0, 1) := bo_42 (by decide +kernel)
theorem dX5_goThrough_72 : decode cX5_goThrough 72 = .ok (.getfield 23, 3) := bo_180 0 23 (by decide +kernel)
theorem dX5_goThrough_75 : decode cX5_goThrough 75 = .ok (.iload 5, 2) := bo_21 (by decide +kernel)
theorem dX5_goThrough_77 : decode cX5_goThrough 77 = .ok (.dup2, 1) := bo_92 (by decide +kernel)
theorem dX5_goThrough_78 : decode cX5_goThrough 78 = .ok (.iaload, 1) := bo_46 (by decide +kernel)
theorem dX5_goThrough_79 : decode cX5_goThrough 79 = .ok (.iconst 1, 1) := bo_4 (by decide +kernel)
theorem dX5_goThrough_80 : decode cX5_goThrough 80 = .ok (.isub, 1) := bo_100 (by decide +kernel)
theorem dX5_goThrough_81 : decode cX5_goThrough 81 = .ok (.iastore, 1) := bo_79 (by decide +kernel)
theorem dX5_goThrough_82 : decode cX5_goThrough 82 = .ok (.aload_n 1, 1) := bo_43 (by decide +kernel)
theorem dX5_goThrough_83 : decode cX5_goThrough 83 = .ok (.getfield 57, 3) := bo_180 0 57 (by decide +kernel)
theorem dX5_goThrough_86 : decode cX5_goThrough 86 = .ok (.iload 5, 2) := bo_21 (by decide +kernel)
theorem dX5_goThrough_88 : decode cX5_goThrough 88 = .ok (.iaload, 1) := bo_46 (by decide +kernel)
theorem dX5_goThrough_89 : decode cX5_goThrough 89 = .ok (.istore_n 3, 1) := bo_62 (by decide +kernel)
theorem dX5_goThrough_90 : decode cX5_goThrough 90 = .ok (.aload_n 0, 1) := bo_42 (by decide +kernel)
theorem dX5_goThrough_91 : decode cX5_goThrough 91 = .ok (.dup, 1) := bo_89 (by decide +kernel)
theorem dX5_goThrough_92 : decode cX5_goThrough 92 = .ok (.getfield 15, 3) := bo_180 0 15 (by decide +kernel)
theorem dX5_goThrough_95 : decode cX5_goThrough 95 = .ok (.iconst 1, 1) := bo_4 (by decide +kernel)
theorem dX5_goThrough_96 : decode cX5_goThrough 96 = .ok (.iadd, 1) := bo_96 (by decide +kernel)
theorem dX5_goThrough_97 : decode cX5_goThrough 97 = .ok (.putfield 15, 3) := bo_181 0 15 (by decide +kernel)
theorem dX5_goThrough_100 : decode cX5_goThrough 100 = .ok (.iinc 4 1, 3) := bo_132 4 1 (by decide +kernel)
theorem dX5_goThrough_103 : decode cX5_goThrough 103 = .ok (.goto (-73), 3) := bo_167 255 183 (by decide +kernel)
theorem dX5_goThrough_61 : decode cX5_goThrough 61 = .ok (.return_, 1) := bo_177 (by decide +kernel)
abbrev rm_X5_goThrough : Room := { frames := 2, cells := 0, slots := 0, locals := 50 }
set_option maxRecDepth 100000 in
set_option maxHeartbeats 8000000 in
theorem c_X5_goThrough {l : Launch} {E : (Nat → Prop) → State → Prop} (hO : bw_Ok E) {G : va_G} {cI cB cJ cN cW : ClassId} (b : Nat) (q : Nat → Nat) (i : Nat → Int) (g : Nat → Nat → Int) (hY : TrailOk i) (o : Nat) (qo : Nat → Nat) (no : Int) (go : Nat → Nat → Int) (hM : NetOk no go)  : bw_Cv (S := zU) l yX5_goThrough (bw_ws (Cond.code yX5_goThrough cX5_goThrough 6 none)) rm_X5_goThrough E G (bw_kt cI cB cJ cN cW) [.ref b, .ref o] [(b, .inr (5, [.int (zI (i 0)), .int (zI (i 1)), .ref (q 0), .ref (q 1)])), ((q 0), .inl (cI, 180, .inl (fun k => zI ((g 0) k)))), ((q 1), .inl (cI, 20, .inl (fun k => zI ((g 1) k)))), (o, .inr (2, [.int (zI no), .ref (qo 0), .ref (qo 1), .ref (qo 2), .ref (qo 3), .ref (qo 4), .ref (qo 5), .ref (qo 6), .ref (qo 7)])), ((qo 0), .inl (cI, 10, .inl (fun k => zI ((go 0) k)))), ((qo 1), .inl (cI, 10, .inl (fun k => zI ((go 1) k)))), ((qo 2), .inl (cI, 10, .inl (fun k => zI ((go 2) k)))), ((qo 3), .inl (cI, 40, .inl (fun k => zI ((go 3) k)))), ((qo 4), .inl (cI, 40, .inl (fun k => zI ((go 4) k)))), ((qo 5), .inl (cI, 40, .inl (fun k => zI ((go 5) k)))), ((qo 6), .inl (cI, 20, .inl (fun k => zI ((go 6) k)))), ((qo 7), .inl (cI, 20, .inl (fun k => zI ((go 7) k))))] (fun u => TrailOk u.1 ∧ (u.1 0 = i 0)) (fun u => [(b, .inr (5, [.int (zI (u.1 0)), .int (zI (u.1 1)), .ref (q 0), .ref (q 1)])), ((q 0), .inl (cI, 180, .inl (fun k => zI ((u.2 0) k)))), ((q 1), .inl (cI, 20, .inl (fun k => zI ((u.2 1) k)))), (o, .inr (2, [.int (zI no), .ref (qo 0), .ref (qo 1), .ref (qo 2), .ref (qo 3), .ref (qo 4), .ref (qo 5), .ref (qo 6), .ref (qo 7)])), ((qo 0), .inl (cI, 10, .inl (fun k => zI ((go 0) k)))), ((qo 1), .inl (cI, 10, .inl (fun k => zI ((go 1) k)))), ((qo 2), .inl (cI, 10, .inl (fun k => zI ((go 2) k)))), ((qo 3), .inl (cI, 40, .inl (fun k => zI ((go 3) k)))), ((qo 4), .inl (cI, 40, .inl (fun k => zI ((go 4) k)))), ((qo 5), .inl (cI, 40, .inl (fun k => zI ((go 5) k)))), ((qo 6), .inl (cI, 20, .inl (fun k => zI ((go 6) k)))), ((qo 7), .inl (cI, 20, .inl (fun k => zI ((go 7) k))))]) := by
  refine bw_Cv.of (cc := cX5_goThrough) (maxL := 6) (by decide) rfl (Nat.le_of_ble_eq_true rfl) ?_
  intro p e s m below meth c A Q hx hb hml hts hown hin hK hA hS hP hD hE ret ls hl
  have F : CallFix p m c cX5_goThrough 6 s ([.ref b, .ref o] : List Value).toArray bw_T RX5 := ⟨hx, hb, hml, hown, fun w h => hts w (List.mem_cons_of_mem _ h)⟩
  replace hl : lv_has ls 6 [(0, .ref b), (1, .ref o)] := hl
  have hM0 := hM.1
  refine lv_aload_n hx hb dX5_goThrough_0 rfl (lv_at hl 1 rfl) ?_
  refine r_get F hK hP 3 8 rfl rfl in_X2 (by decide) k_170 rfl dX5_goThrough_1 ?_
  refine lv_iconst (v := zI 0) hx hb dX5_goThrough_4 rfl ?_
  refine lv_aload_n hx hb dX5_goThrough_5 rfl (lv_at hl 0 rfl) ?_
  refine r_get F hK hP 0 3 rfl rfl in_X5 (by decide) k_432 rfl dX5_goThrough_6 ?_
  refine lv_iconst (v := zI 0) hx hb dX5_goThrough_9 rfl ?_
  refine lv_bipush (v := zI 20) hx hb dX5_goThrough_10 (by decide) ?_
  refine rz_copy F k_901 k_641 k_640 k_108 hK hP hD hS 11 2 0 rfl rfl rfl (by omega) hl.1 (Nat.le_of_ble_eq_true rfl) (Nat.le_of_ble_eq_true rfl) dX5_goThrough_12 (w1 := fun g1 => [(b, .inr (5, [.int (zI (i 0)), .int (zI (i 1)), .ref (q 0), .ref (q 1)])), ((q 0), .inl (cI, 180, .inl (fun k => zI ((g 0) k)))), ((q 1), .inl (cI, 20, .inl (fun k => zI (g1 k)))), (o, .inr (2, [.int (zI no), .ref (qo 0), .ref (qo 1), .ref (qo 2), .ref (qo 3), .ref (qo 4), .ref (qo 5), .ref (qo 6), .ref (qo 7)])), ((qo 0), .inl (cI, 10, .inl (fun k => zI ((go 0) k)))), ((qo 1), .inl (cI, 10, .inl (fun k => zI ((go 1) k)))), ((qo 2), .inl (cI, 10, .inl (fun k => zI ((go 2) k)))), ((qo 3), .inl (cI, 40, .inl (fun k => zI ((go 3) k)))), ((qo 4), .inl (cI, 40, .inl (fun k => zI ((go 4) k)))), ((qo 5), .inl (cI, 40, .inl (fun k => zI ((go 5) k)))), ((qo 6), .inl (cI, 20, .inl (fun k => zI ((go 6) k)))), ((qo 7), .inl (cI, 20, .inl (fun k => zI ((go 7) k))))]) (fun _ => rfl) (fun g1 e_g1 H locs hP hD hS => ?_)
  refine lv_aload_n hx hb dX5_goThrough_15 rfl (lv_at hl 1 rfl) ?_
  refine r_callVi (As := []) (rest := []) (wr := [(b, .inr (5, [.int (zI (i 0)), .int (zI (i 1)), .ref (q 0), .ref (q 1)])), ((q 0), .inl (cI, 180, .inl (fun k => zI ((g 0) k)))), ((q 1), .inl (cI, 20, .inl (fun k => zI (g1 k))))]) F hK hP hD hS hA hO hE (c_X2_laidInAll hO o qo no go hM) k_902 kv_X2_laidInAll 0 rfl (by decide +kernel) ⟨Nat.le_of_ble_eq_true rfl, Nat.le_of_ble_eq_true rfl⟩ [3, 4, 5, 6, 7, 8, 9, 10, 11] [0, 1, 2] rfl rfl (by decide) (by decide) (by decide) 0 2 rfl rfl rfl hl.1 rfl (Nat.le_of_ble_eq_true rfl) dX5_goThrough_16 ⟨Nat.le_of_ble_eq_true rfl, Nat.le_of_ble_eq_true rfl⟩ (w1 := fun u2 => [(b, .inr (5, [.int (zI (i 0)), .int (zI (i 1)), .ref (q 0), .ref (q 1)])), ((q 0), .inl (cI, 180, .inl (fun k => zI ((g 0) k)))), ((q 1), .inl (cI, 20, .inl (fun k => zI (g1 k)))), (o, .inr (2, [.int (zI no), .ref (qo 0), .ref (qo 1), .ref (qo 2), .ref (qo 3), .ref (qo 4), .ref (qo 5), .ref (qo 6), .ref (qo 7)])), ((qo 0), .inl (cI, 10, .inl (fun k => zI ((go 0) k)))), ((qo 1), .inl (cI, 10, .inl (fun k => zI ((go 1) k)))), ((qo 2), .inl (cI, 10, .inl (fun k => zI ((go 2) k)))), ((qo 3), .inl (cI, 40, .inl (fun k => zI ((go 3) k)))), ((qo 4), .inl (cI, 40, .inl (fun k => zI ((go 4) k)))), ((qo 5), .inl (cI, 40, .inl (fun k => zI ((go 5) k)))), ((qo 6), .inl (cI, 20, .inl (fun k => zI ((go 6) k)))), ((qo 7), .inl (cI, 20, .inl (fun k => zI ((go 7) k))))]) (fun _ => rfl) (fun r3 u2 H locs hp4 hP hD hS => ?_)
  obtain ⟨z5, rfl, h_z5⟩ := hp4
  refine lv_istore_n (lv' := [(2, .int (zI z5)), (0, .ref b), (1, .ref o)]) hx hb dX5_goThrough_19 rfl hl (by decide) rfl (fun ls hl => ?_)
  refine lv_iconst (v := zI 0) hx hb dX5_goThrough_20 rfl ?_
  refine lv_istore_n (lv' := [(3, .int (zI 0)), (2, .int (zI z5)), (0, .ref b), (1, .ref o)]) hx hb dX5_goThrough_21 rfl hl (by decide) rfl (fun ls hl => ?_)
  refine lv_aload_n hx hb dX5_goThrough_22 rfl (lv_at hl 2 rfl) ?_
  refine lv_iconst (v := zI 0) hx hb dX5_goThrough_23 rfl ?_
  refine r_put F hK hP hD hS 0 1 rfl rfl in_X5 tyX5 tyX5_ok nmX5 (by decide) k_428 rfl rfl rfl (Nat.le_of_ble_eq_true rfl) dX5_goThrough_24 (w1 := [(b, .inr (5, [.int (zI (i 0)), .int (zI 0), .ref (q 0), .ref (q 1)])), ((q 0), .inl (cI, 180, .inl (fun k => zI ((g 0) k)))), ((q 1), .inl (cI, 20, .inl (fun k => zI (g1 k)))), (o, .inr (2, [.int (zI no), .ref (qo 0), .ref (qo 1), .ref (qo 2), .ref (qo 3), .ref (qo 4), .ref (qo 5), .ref (qo 6), .ref (qo 7)])), ((qo 0), .inl (cI, 10, .inl (fun k => zI ((go 0) k)))), ((qo 1), .inl (cI, 10, .inl (fun k => zI ((go 1) k)))), ((qo 2), .inl (cI, 10, .inl (fun k => zI ((go 2) k)))), ((qo 3), .inl (cI, 40, .inl (fun k => zI ((go 3) k)))), ((qo 4), .inl (cI, 40, .inl (fun k => zI ((go 4) k)))), ((qo 5), .inl (cI, 40, .inl (fun k => zI ((go 5) k)))), ((qo 6), .inl (cI, 20, .inl (fun k => zI ((go 6) k)))), ((qo 7), .inl (cI, 20, .inl (fun k => zI ((go 7) k))))]) rfl (fun H locs hP hD hS => ?_)
  refine lv_iconst (v := zI 0) hx hb dX5_goThrough_27 rfl ?_
  refine lv_istore (lv' := [(4, .int (zI 0)), (3, .int (zI 0)), (2, .int (zI z5)), (0, .ref b), (1, .ref o)]) hx hb dX5_goThrough_28 hl (by decide) rfl (fun ls hl => ?_)
  obtain ⟨i6, e_i6⟩ : ∃ i6 : Nat → Int, i6 = fun k => [(i 0), 0].getD k 0 := ⟨_, rfl⟩
  have e_i6_0 : i6 0 = (i 0) := congrFun e_i6 0
  have e_i6_1 : i6 1 = 0 := congrFun e_i6 1
  obtain ⟨gg7, e_gg7⟩ : ∃ gg7 : Nat → Nat → Int, gg7 = fun k => [(g 0), g1].getD k (fun _ => 0) := ⟨_, rfl⟩
  have hO8 : TrailOk i6 := ⟨by omega, by omega⟩
  have hf9 := hO8
  have hP : va_P G vwCl [(b, .inr (5, [.int (zI (i6 0)), .int (zI (i6 1)), .ref (q 0), .ref (q 1)])), ((q 0), .inl (cI, 180, .inl (fun k => zI ((gg7 0) k)))), ((q 1), .inl (cI, 20, .inl (fun k => zI ((gg7 1) k)))), (o, .inr (2, [.int (zI no), .ref (qo 0), .ref (qo 1), .ref (qo 2), .ref (qo 3), .ref (qo 4), .ref (qo 5), .ref (qo 6), .ref (qo 7)])), ((qo 0), .inl (cI, 10, .inl (fun k => zI ((go 0) k)))), ((qo 1), .inl (cI, 10, .inl (fun k => zI ((go 1) k)))), ((qo 2), .inl (cI, 10, .inl (fun k => zI ((go 2) k)))), ((qo 3), .inl (cI, 40, .inl (fun k => zI ((go 3) k)))), ((qo 4), .inl (cI, 40, .inl (fun k => zI ((go 4) k)))), ((qo 5), .inl (cI, 40, .inl (fun k => zI ((go 5) k)))), ((qo 6), .inl (cI, 20, .inl (fun k => zI ((go 6) k)))), ((qo 7), .inl (cI, 20, .inl (fun k => zI ((go 7) k))))] H := by subst e_i6 e_gg7; exact hP
  have hD : va_D A [(b, .inr (5, [.int (zI (i6 0)), .int (zI (i6 1)), .ref (q 0), .ref (q 1)])), ((q 0), .inl (cI, 180, .inl (fun k => zI ((gg7 0) k)))), ((q 1), .inl (cI, 20, .inl (fun k => zI ((gg7 1) k)))), (o, .inr (2, [.int (zI no), .ref (qo 0), .ref (qo 1), .ref (qo 2), .ref (qo 3), .ref (qo 4), .ref (qo 5), .ref (qo 6), .ref (qo 7)])), ((qo 0), .inl (cI, 10, .inl (fun k => zI ((go 0) k)))), ((qo 1), .inl (cI, 10, .inl (fun k => zI ((go 1) k)))), ((qo 2), .inl (cI, 10, .inl (fun k => zI ((go 2) k)))), ((qo 3), .inl (cI, 40, .inl (fun k => zI ((go 3) k)))), ((qo 4), .inl (cI, 40, .inl (fun k => zI ((go 4) k)))), ((qo 5), .inl (cI, 40, .inl (fun k => zI ((go 5) k)))), ((qo 6), .inl (cI, 20, .inl (fun k => zI ((go 6) k)))), ((qo 7), .inl (cI, 20, .inl (fun k => zI ((go 7) k))))] := by subst e_i6 e_gg7; exact hD
  refine W.widen (k := 0) (n := 0) (Nat.le_of_ble_eq_true rfl) (Nat.le_of_ble_eq_true rfl) ?_
  refine (?_ : ∀ (n9_1 : Nat) (v3 : Int) (v4 : Int) (ii : Nat → Int) (gg : Nat → Nat → Int) (H : Heap) (locs : List Loc), (0 ≤ v4 ∧ v4 ≤ 180 ∧ 0 ≤ v3 ∧ v3 ≤ 9 ∧ ii 0 = i 0 ∧ ii 1 = v4) → (180 - v4 : Int).toNat < n9_1 → (TrailOk ii) → va_P G vwCl [(b, .inr (5, [.int (zI (ii 0)), .int (zI (ii 1)), .ref (q 0), .ref (q 1)])), ((q 0), .inl (cI, 180, .inl (fun k => zI ((gg 0) k)))), ((q 1), .inl (cI, 20, .inl (fun k => zI ((gg 1) k)))), (o, .inr (2, [.int (zI no), .ref (qo 0), .ref (qo 1), .ref (qo 2), .ref (qo 3), .ref (qo 4), .ref (qo 5), .ref (qo 6), .ref (qo 7)])), ((qo 0), .inl (cI, 10, .inl (fun k => zI ((go 0) k)))), ((qo 1), .inl (cI, 10, .inl (fun k => zI ((go 1) k)))), ((qo 2), .inl (cI, 10, .inl (fun k => zI ((go 2) k)))), ((qo 3), .inl (cI, 40, .inl (fun k => zI ((go 3) k)))), ((qo 4), .inl (cI, 40, .inl (fun k => zI ((go 4) k)))), ((qo 5), .inl (cI, 40, .inl (fun k => zI ((go 5) k)))), ((qo 6), .inl (cI, 20, .inl (fun k => zI ((go 6) k)))), ((qo 7), .inl (cI, 20, .inl (fun k => zI ((go 7) k))))] H → va_D A [(b, .inr (5, [.int (zI (ii 0)), .int (zI (ii 1)), .ref (q 0), .ref (q 1)])), ((q 0), .inl (cI, 180, .inl (fun k => zI ((gg 0) k)))), ((q 1), .inl (cI, 20, .inl (fun k => zI ((gg 1) k)))), (o, .inr (2, [.int (zI no), .ref (qo 0), .ref (qo 1), .ref (qo 2), .ref (qo 3), .ref (qo 4), .ref (qo 5), .ref (qo 6), .ref (qo 7)])), ((qo 0), .inl (cI, 10, .inl (fun k => zI ((go 0) k)))), ((qo 1), .inl (cI, 10, .inl (fun k => zI ((go 1) k)))), ((qo 2), .inl (cI, 10, .inl (fun k => zI ((go 2) k)))), ((qo 3), .inl (cI, 40, .inl (fun k => zI ((go 3) k)))), ((qo 4), .inl (cI, 40, .inl (fun k => zI ((go 4) k)))), ((qo 5), .inl (cI, 40, .inl (fun k => zI ((go 5) k)))), ((qo 6), .inl (cI, 20, .inl (fun k => zI ((go 6) k)))), ((qo 7), .inl (cI, 20, .inl (fun k => zI ((go 7) k))))] → va_S A s.heap H locs → ∀ ls : Array Slot, lv_has ls 6 [(4, .int (zI v4)), (3, .int (zI v3)), (2, .int (zI z5)), (0, .ref b), (1, .ref o)] → W p l e rm_X5_goThrough s m ([.ref b, .ref o] : List Value).toArray below meth c H locs 0 0 Q (F0 m 30 ls [])) ((180 - 0 : Int).toNat + 1) 0 0 i6 gg7 _ _ (by omega) (by omega) hO8 hP hD hS ls hl
  clear hP hD hS hl ls
  intro n9_1
  induction n9_1 with
  | zero =>
    intro v3 v4 ii gg H locs hI hM
    exact absurd hM (by omega)
  | succ n9_1 ih1 =>
    intro v3 v4 ii gg H locs hI1 hM1 hG hP hD hS ls hl
    have hf10 := hG
    refine lv_iload hx hb dX5_goThrough_30 (lv_at hl 0 rfl) ?_
    refine lv_iload_n hx hb dX5_goThrough_32 rfl (lv_at hl 2 rfl) ?_
    refine rz_icmp_ge (tgt := 106) F (by omega) (by omega) dX5_goThrough_33 (by decide) (fun h33_10 => ?_) (fun h33_10 => ?_)
    · exact ret (ii, gg) _ _ _ _ _ _ ⟨hG, by dsimp only; omega⟩ (bw_subP (isC := [0, 1, 2, 3, 4, 5, 6, 7, 8, 9, 10, 11]) hP rfl) (hD.sub [0, 1, 2, 3, 4, 5, 6, 7, 8, 9, 10, 11] (by decide) rfl) hS (Nat.le_of_ble_eq_true rfl) (Nat.le_of_ble_eq_true rfl) dX5_goThrough_106
    · refine lv_iload hx hb dX5_goThrough_36 (lv_at hl 0 rfl) ?_
      refine lv_sipush (v := zI 180) hx hb dX5_goThrough_38 (by decide) ?_
      refine rz_icmp_ge (tgt := 106) F (by omega) (by omega) dX5_goThrough_41 (by decide) (fun h41_11 => ?_) (fun h41_11 => ?_)
      · exact ret (ii, gg) _ _ _ _ _ _ ⟨hG, by dsimp only; omega⟩ (bw_subP (isC := [0, 1, 2, 3, 4, 5, 6, 7, 8, 9, 10, 11]) hP rfl) (hD.sub [0, 1, 2, 3, 4, 5, 6, 7, 8, 9, 10, 11] (by decide) rfl) hS (Nat.le_of_ble_eq_true rfl) (Nat.le_of_ble_eq_true rfl) dX5_goThrough_106
      · refine lv_aload_n hx hb dX5_goThrough_44 rfl (lv_at hl 3 rfl) ?_
        refine lv_aload_n hx hb dX5_goThrough_45 rfl (lv_at hl 4 rfl) ?_
        refine lv_iload_n hx hb dX5_goThrough_46 rfl (lv_at hl 1 rfl) ?_
        refine r_callVi (As := [.ref o, .int (zI v3)]) (rest := []) (wr := []) F hK hP hD hS hA hO hE (c_X5_nextWay hO b q ii gg hG o qo no go hM v3 (by omega)) k_906 kv_X5_nextWay 2 rfl (by decide +kernel) ⟨Nat.le_of_ble_eq_true rfl, Nat.le_of_ble_eq_true rfl⟩ [0, 1, 2, 3, 4, 5, 6, 7, 8, 9, 10, 11] [] rfl rfl (by decide) (by decide) (by decide) 0 5 rfl rfl rfl hl.1 rfl (Nat.le_of_ble_eq_true rfl) dX5_goThrough_47 ⟨Nat.le_of_ble_eq_true rfl, Nat.le_of_ble_eq_true rfl⟩ (w1 := fun u13 => [(b, .inr (5, [.int (zI (u13.1 0)), .int (zI (u13.1 1)), .ref (q 0), .ref (q 1)])), ((q 0), .inl (cI, 180, .inl (fun k => zI ((u13.2 0) k)))), ((q 1), .inl (cI, 20, .inl (fun k => zI ((u13.2 1) k)))), (o, .inr (2, [.int (zI no), .ref (qo 0), .ref (qo 1), .ref (qo 2), .ref (qo 3), .ref (qo 4), .ref (qo 5), .ref (qo 6), .ref (qo 7)])), ((qo 0), .inl (cI, 10, .inl (fun k => zI ((go 0) k)))), ((qo 1), .inl (cI, 10, .inl (fun k => zI ((go 1) k)))), ((qo 2), .inl (cI, 10, .inl (fun k => zI ((go 2) k)))), ((qo 3), .inl (cI, 40, .inl (fun k => zI ((go 3) k)))), ((qo 4), .inl (cI, 40, .inl (fun k => zI ((go 4) k)))), ((qo 5), .inl (cI, 40, .inl (fun k => zI ((go 5) k)))), ((qo 6), .inl (cI, 20, .inl (fun k => zI ((go 6) k)))), ((qo 7), .inl (cI, 20, .inl (fun k => zI ((go 7) k))))]) (fun _ => rfl) (fun r14 u13 H locs hp15 hP hD hS => ?_)
        obtain ⟨z16, rfl, h_z16⟩ := hp15
        have hx17 := h_z16.2
        have hf18 := h_z16.1
        refine lv_istore (lv' := [(5, .int (zI z16)), (4, .int (zI v4)), (3, .int (zI v3)), (2, .int (zI z5)), (0, .ref b), (1, .ref o)]) hx hb dX5_goThrough_50 hl (by decide) rfl (fun ls hl => ?_)
        refine lv_aload_n hx hb dX5_goThrough_52 rfl (lv_at hl 5 rfl) ?_
        refine lv_iload hx hb dX5_goThrough_53 (lv_at hl 0 rfl) ?_
        refine r_callVi (As := [.int (zI z16)]) (rest := []) (wr := [(b, .inr (5, [.int (zI (u13.1 0)), .int (zI (u13.1 1)), .ref (q 0), .ref (q 1)])), ((q 0), .inl (cI, 180, .inl (fun k => zI ((u13.2 0) k)))), ((q 1), .inl (cI, 20, .inl (fun k => zI ((u13.2 1) k))))]) F hK hP hD hS hA hO hE (c_X2_hasWay hO o qo no go hM z16 (by omega)) k_911 kv_X2_hasWay 1 rfl (by decide +kernel) ⟨Nat.le_of_ble_eq_true rfl, Nat.le_of_ble_eq_true rfl⟩ [3, 4, 5, 6, 7, 8, 9, 10, 11] [0, 1, 2] rfl rfl (by decide) (by decide) (by decide) 0 2 rfl rfl rfl hl.1 rfl (Nat.le_of_ble_eq_true rfl) dX5_goThrough_55 ⟨Nat.le_of_ble_eq_true rfl, Nat.le_of_ble_eq_true rfl⟩ (w1 := fun u19 => [(b, .inr (5, [.int (zI (u13.1 0)), .int (zI (u13.1 1)), .ref (q 0), .ref (q 1)])), ((q 0), .inl (cI, 180, .inl (fun k => zI ((u13.2 0) k)))), ((q 1), .inl (cI, 20, .inl (fun k => zI ((u13.2 1) k)))), (o, .inr (2, [.int (zI no), .ref (qo 0), .ref (qo 1), .ref (qo 2), .ref (qo 3), .ref (qo 4), .ref (qo 5), .ref (qo 6), .ref (qo 7)])), ((qo 0), .inl (cI, 10, .inl (fun k => zI ((go 0) k)))), ((qo 1), .inl (cI, 10, .inl (fun k => zI ((go 1) k)))), ((qo 2), .inl (cI, 10, .inl (fun k => zI ((go 2) k)))), ((qo 3), .inl (cI, 40, .inl (fun k => zI ((go 3) k)))), ((qo 4), .inl (cI, 40, .inl (fun k => zI ((go 4) k)))), ((qo 5), .inl (cI, 40, .inl (fun k => zI ((go 5) k)))), ((qo 6), .inl (cI, 20, .inl (fun k => zI ((go 6) k)))), ((qo 7), .inl (cI, 20, .inl (fun k => zI ((go 7) k))))]) (fun _ => rfl) (fun r20 u19 H locs hp21 hP hD hS => ?_)
        obtain ⟨z22, rfl, h_z22⟩ := hp21
        refine rz_if_ne (tgt := 62) F (by omega) dX5_goThrough_58 (by decide) (fun h58_22 => ?_) (fun h58_22 => ?_)
        · refine lv_aload_n hx hb dX5_goThrough_62 rfl (lv_at hl 4 rfl) ?_
          refine r_get F hK hP 0 2 rfl rfl in_X5 (by decide) k_430 rfl dX5_goThrough_63 ?_
          refine lv_iload hx hb dX5_goThrough_66 (lv_at hl 1 rfl) ?_
          refine lv_iload hx hb dX5_goThrough_68 (lv_at hl 0 rfl) ?_
          refine rz_iastG F hK hP hD hS 1 0 rfl rfl (by omega) (by omega) dX5_goThrough_70 (w1 := fun g24 => [(b, .inr (5, [.int (zI (u13.1 0)), .int (zI (u13.1 1)), .ref (q 0), .ref (q 1)])), ((q 0), .inl (cI, 180, .inl (fun k => zI (g24 k)))), ((q 1), .inl (cI, 20, .inl (fun k => zI ((u13.2 1) k)))), (o, .inr (2, [.int (zI no), .ref (qo 0), .ref (qo 1), .ref (qo 2), .ref (qo 3), .ref (qo 4), .ref (qo 5), .ref (qo 6), .ref (qo 7)])), ((qo 0), .inl (cI, 10, .inl (fun k => zI ((go 0) k)))), ((qo 1), .inl (cI, 10, .inl (fun k => zI ((go 1) k)))), ((qo 2), .inl (cI, 10, .inl (fun k => zI ((go 2) k)))), ((qo 3), .inl (cI, 40, .inl (fun k => zI ((go 3) k)))), ((qo 4), .inl (cI, 40, .inl (fun k => zI ((go 4) k)))), ((qo 5), .inl (cI, 40, .inl (fun k => zI ((go 5) k)))), ((qo 6), .inl (cI, 20, .inl (fun k => zI ((go 6) k)))), ((qo 7), .inl (cI, 20, .inl (fun k => zI ((go 7) k))))]) (fun _ => rfl) (fun g24 e_g24 H locs hP hD hS => ?_)
          refine lv_aload_n hx hb dX5_goThrough_71 rfl (lv_at hl 4 rfl) ?_
          refine r_get F hK hP 0 3 rfl rfl in_X5 (by decide) k_432 rfl dX5_goThrough_72 ?_
          refine lv_iload hx hb dX5_goThrough_75 (lv_at hl 0 rfl) ?_
          refine lv_dup2_11 hx hb dX5_goThrough_77 rfl rfl ?_
          refine rz_iald F hK hP 2 0 rfl rfl (by omega) (by omega) dX5_goThrough_78 ?_
          refine rz_top (fun z25 h_z25 => ?_)
          refine lv_iconst (v := zI 1) hx hb dX5_goThrough_79 rfl ?_
          refine r_isub (v := zI (z25 - 1)) F dX5_goThrough_80 (zI_sub _ _) ?_
          refine rz_iastG F hK hP hD hS 2 0 rfl rfl (by omega) (by omega) dX5_goThrough_81 (w1 := fun g26 => [(b, .inr (5, [.int (zI (u13.1 0)), .int (zI (u13.1 1)), .ref (q 0), .ref (q 1)])), ((q 0), .inl (cI, 180, .inl (fun k => zI (g24 k)))), ((q 1), .inl (cI, 20, .inl (fun k => zI (g26 k)))), (o, .inr (2, [.int (zI no), .ref (qo 0), .ref (qo 1), .ref (qo 2), .ref (qo 3), .ref (qo 4), .ref (qo 5), .ref (qo 6), .ref (qo 7)])), ((qo 0), .inl (cI, 10, .inl (fun k => zI ((go 0) k)))), ((qo 1), .inl (cI, 10, .inl (fun k => zI ((go 1) k)))), ((qo 2), .inl (cI, 10, .inl (fun k => zI ((go 2) k)))), ((qo 3), .inl (cI, 40, .inl (fun k => zI ((go 3) k)))), ((qo 4), .inl (cI, 40, .inl (fun k => zI ((go 4) k)))), ((qo 5), .inl (cI, 40, .inl (fun k => zI ((go 5) k)))), ((qo 6), .inl (cI, 20, .inl (fun k => zI ((go 6) k)))), ((qo 7), .inl (cI, 20, .inl (fun k => zI ((go 7) k))))]) (fun _ => rfl) (fun g26 e_g26 H locs hP hD hS => ?_)
          refine lv_aload_n hx hb dX5_goThrough_82 rfl (lv_at hl 5 rfl) ?_
          refine r_get F hK hP 3 7 rfl rfl in_X2 (by decide) k_166 rfl dX5_goThrough_83 ?_
          refine lv_iload hx hb dX5_goThrough_86 (lv_at hl 0 rfl) ?_
          refine rz_iald F hK hP 10 0 rfl rfl (by omega) (by omega) dX5_goThrough_88 ?_
          have h_l88_26 := hM.2.2.2.2.2.2.2.1 (z16).toNat (by omega)
          refine lv_istore_n (lv' := [(3, .int (zI ((go 6) (z16).toNat))), (5, .int (zI z16)), (4, .int (zI v4)), (2, .int (zI z5)), (0, .ref b), (1, .ref o)]) hx hb dX5_goThrough_89 rfl hl (by decide) rfl (fun ls hl => ?_)
          refine lv_aload_n hx hb dX5_goThrough_90 rfl (lv_at hl 4 rfl) ?_
          refine lv_dup hx hb dX5_goThrough_91 rfl ?_
          refine r_get F hK hP 0 1 rfl rfl in_X5 (by decide) k_428 rfl dX5_goThrough_92 ?_
          refine lv_iconst (v := zI 1) hx hb dX5_goThrough_95 rfl ?_
          refine r_iadd (v := zI ((u13.1 1) + 1)) F dX5_goThrough_96 (zI_add _ _) ?_
          refine r_put F hK hP hD hS 0 1 rfl rfl in_X5 tyX5 tyX5_ok nmX5 (by decide) k_428 rfl rfl rfl (Nat.le_of_ble_eq_true rfl) dX5_goThrough_97 (w1 := [(b, .inr (5, [.int (zI (u13.1 0)), .int (zI ((u13.1 1) + 1)), .ref (q 0), .ref (q 1)])), ((q 0), .inl (cI, 180, .inl (fun k => zI (g24 k)))), ((q 1), .inl (cI, 20, .inl (fun k => zI (g26 k)))), (o, .inr (2, [.int (zI no), .ref (qo 0), .ref (qo 1), .ref (qo 2), .ref (qo 3), .ref (qo 4), .ref (qo 5), .ref (qo 6), .ref (qo 7)])), ((qo 0), .inl (cI, 10, .inl (fun k => zI ((go 0) k)))), ((qo 1), .inl (cI, 10, .inl (fun k => zI ((go 1) k)))), ((qo 2), .inl (cI, 10, .inl (fun k => zI ((go 2) k)))), ((qo 3), .inl (cI, 40, .inl (fun k => zI ((go 3) k)))), ((qo 4), .inl (cI, 40, .inl (fun k => zI ((go 4) k)))), ((qo 5), .inl (cI, 40, .inl (fun k => zI ((go 5) k)))), ((qo 6), .inl (cI, 20, .inl (fun k => zI ((go 6) k)))), ((qo 7), .inl (cI, 20, .inl (fun k => zI ((go 7) k))))]) rfl (fun H locs hP hD hS => ?_)
          refine lv_iinc (v := zI (v4 + 1)) (lv' := [(4, .int (zI (v4 + 1))), (3, .int (zI ((go 6) (z16).toNat))), (5, .int (zI z16)), (2, .int (zI z5)), (0, .ref b), (1, .ref o)]) hx hb dX5_goThrough_100 hl (k := 2) rfl (zI_add _ _) (by decide) rfl (fun ls hl => ?_)
          refine lv_goto (tgt := 30) hx hb dX5_goThrough_103 (by decide) ?_
          obtain ⟨i28, e_i28⟩ : ∃ i28 : Nat → Int, i28 = fun k => [(u13.1 0), ((u13.1 1) + 1)].getD k 0 := ⟨_, rfl⟩
          have e_i28_0 : i28 0 = (u13.1 0) := congrFun e_i28 0
          have e_i28_1 : i28 1 = ((u13.1 1) + 1) := congrFun e_i28 1
          obtain ⟨gg29, e_gg29⟩ : ∃ gg29 : Nat → Nat → Int, gg29 = fun k => [g24, g26].getD k (fun _ => 0) := ⟨_, rfl⟩
          have hO30 : TrailOk i28 := ⟨by omega, by omega⟩
          have hf31 := hO30
          have hP : va_P G vwCl [(b, .inr (5, [.int (zI (i28 0)), .int (zI (i28 1)), .ref (q 0), .ref (q 1)])), ((q 0), .inl (cI, 180, .inl (fun k => zI ((gg29 0) k)))), ((q 1), .inl (cI, 20, .inl (fun k => zI ((gg29 1) k)))), (o, .inr (2, [.int (zI no), .ref (qo 0), .ref (qo 1), .ref (qo 2), .ref (qo 3), .ref (qo 4), .ref (qo 5), .ref (qo 6), .ref (qo 7)])), ((qo 0), .inl (cI, 10, .inl (fun k => zI ((go 0) k)))), ((qo 1), .inl (cI, 10, .inl (fun k => zI ((go 1) k)))), ((qo 2), .inl (cI, 10, .inl (fun k => zI ((go 2) k)))), ((qo 3), .inl (cI, 40, .inl (fun k => zI ((go 3) k)))), ((qo 4), .inl (cI, 40, .inl (fun k => zI ((go 4) k)))), ((qo 5), .inl (cI, 40, .inl (fun k => zI ((go 5) k)))), ((qo 6), .inl (cI, 20, .inl (fun k => zI ((go 6) k)))), ((qo 7), .inl (cI, 20, .inl (fun k => zI ((go 7) k))))] H := by subst e_i28 e_gg29; exact hP
          have hD : va_D A [(b, .inr (5, [.int (zI (i28 0)), .int (zI (i28 1)), .ref (q 0), .ref (q 1)])), ((q 0), .inl (cI, 180, .inl (fun k => zI ((gg29 0) k)))), ((q 1), .inl (cI, 20, .inl (fun k => zI ((gg29 1) k)))), (o, .inr (2, [.int (zI no), .ref (qo 0), .ref (qo 1), .ref (qo 2), .ref (qo 3), .ref (qo 4), .ref (qo 5), .ref (qo 6), .ref (qo 7)])), ((qo 0), .inl (cI, 10, .inl (fun k => zI ((go 0) k)))), ((qo 1), .inl (cI, 10, .inl (fun k => zI ((go 1) k)))), ((qo 2), .inl (cI, 10, .inl (fun k => zI ((go 2) k)))), ((qo 3), .inl (cI, 40, .inl (fun k => zI ((go 3) k)))), ((qo 4), .inl (cI, 40, .inl (fun k => zI ((go 4) k)))), ((qo 5), .inl (cI, 40, .inl (fun k => zI ((go 5) k)))), ((qo 6), .inl (cI, 20, .inl (fun k => zI ((go 6) k)))), ((qo 7), .inl (cI, 20, .inl (fun k => zI ((go 7) k))))] := by subst e_i28 e_gg29; exact hD
          exact ih1 ((go 6) (z16).toNat) (v4 + 1) i28 gg29 _ _ (by omega) (by omega) hO30 hP hD hS ls (lv_sub hl [0, 1, 3, 4, 5] rfl)
        · exact ret (u13.1, u13.2) _ _ _ _ _ _ ⟨h_z16.1, by dsimp only; omega⟩ (bw_subP (isC := [0, 1, 2, 3, 4, 5, 6, 7, 8, 9, 10, 11]) hP rfl) (hD.sub [0, 1, 2, 3, 4, 5, 6, 7, 8, 9, 10, 11] (by decide) rfl) hS (Nat.le_of_ble_eq_true rfl) (Nat.le_of_ble_eq_true rfl) dX5_goThrough_61
theorem dX5_find_0 : decode cX5_find 0 = .ok (.aload_n 0, 1) := bo_42 (by decide +kernel)
theorem dX5_find_1 : decode cX5_find 1 = .ok (.getfield 9, 3) := bo_180 0 9 (by decide +kernel)
theorem k_426 : Cond.fieldLink RX5 9 "BurntWays$Trail" "known" "Z" ∈ bw_T := bw_m 426 (by decide +kernel) rfl
theorem dX5_find_4 : decode cX5_find 4 = .ok (.ifCond .eq 4, 3) := bo_153 0 4 (by decide +kernel)
theorem dX5_find_8 : decode cX5_find 8 = .ok (.aload_n 0, 1) := bo_42 (by decide +kernel)
theorem dX5_find_9 : decode cX5_find 9 = .ok (.iconst 1, 1) := bo_4 (by decide +kernel)
theorem dX5_find_10 : decode cX5_find 10 = .ok (.putfield 9, 3) := bo_181 0 9 (by decide +kernel)
theorem dX5_find_13 : decode cX5_find 13 = .ok (.aload_n 0, 1) := bo_42 (by decide +kernel)
theorem dX5_find_14 : decode cX5_find 14 = .ok (.bipush (-2), 2) := bo_16 254 (by decide +kernel)
theorem dX5_find_16 : decode cX5_find 16 = .ok (.putfield 15, 3) := bo_181 0 15 (by decide +kernel)
theorem dX5_find_19 : decode cX5_find 19 = .ok (.aload_n 1, 1) := bo_43 (by decide +kernel)
theorem dX5_find_20 : decode cX5_find 20 = .ok (.invokevirtual 26, 3) := bo_182 0 26 (by decide +kernel)
theorem k_896 : Cond.methodLink RX5 26 yX2_isEven ∈ bw_T := bw_m 896 (by decide +kernel) rfl
theorem kv_X2_isEven : bw_KV RX2 yX2_isEven (Cond.code yX2_isEven cX2_isEven 1 (some .boolean)) := ⟨bw_m 864 (by decide +kernel) rfl, bw_m 865 (by decide +kernel) rfl, bw_m 96 (by decide +kernel) rfl, bw_m 866 (by decide +kernel) rfl⟩
theorem dX5_find_23 : decode cX5_find 23 = .ok (.ifCond .eq 8, 3) := bo_153 0 8 (by decide +kernel)
theorem dX5_find_31 : decode cX5_find 31 = .ok (.return_, 1) := bo_177 (by decide +kernel)
theorem dX5_find_26 : decode cX5_find 26 = .ok (.aload_n 0, 1) := bo_42 (by decide +kernel)
theorem dX5_find_27 : decode cX5_find 27 = .ok (.aload_n 1, 1) := bo_43 (by decide +kernel)
theorem dX5_find_28 : decode cX5_find 28 = .ok (.invokevirtual 32, 3) := bo_182 0 32 (by decide +kernel)
theorem k_897 : Cond.methodLink RX5 32 yX5_goThrough ∈ bw_T := bw_m 897 (by decide +kernel) rfl
theorem kv_X5_goThrough : bw_KV RX5 yX5_goThrough (Cond.code yX5_goThrough cX5_goThrough 6 none) := ⟨bw_m 899 (by decide +kernel) rfl, bw_m 31 (by decide +kernel) rfl, bw_m 104 (by decide +kernel) rfl, bw_m 900 (by decide +kernel) rfl⟩
theorem dX5_find_7 : decode cX5_find 7 = .ok (.return_, 1) := bo_177 (by decide +kernel)
abbrev rm_X5_find : Room := { frames := 3, cells := 0, slots := 0, locals := 75 }
set_option maxRecDepth 100000 in
set_option maxHeartbeats 8000000 in
theorem c_X5_find {l : Launch} {E : (Nat → Prop) → State → Prop} (hO : bw_Ok E) {G : va_G} {cI cB cJ cN cW : ClassId} (b : Nat) (q : Nat → Nat) (i : Nat → Int) (g : Nat → Nat → Int) (hY : TrailOk i) (o : Nat) (qo : Nat → Nat) (no : Int) (go : Nat → Nat → Int) (hM : NetOk no go)  : bw_Cv (S := zU) l yX5_find (bw_ws (Cond.code yX5_find cX5_find 2 none)) rm_X5_find E G (bw_kt cI cB cJ cN cW) [.ref b, .ref o] [(b, .inr (5, [.int (zI (i 0)), .int (zI (i 1)), .ref (q 0), .ref (q 1)])), ((q 0), .inl (cI, 180, .inl (fun k => zI ((g 0) k)))), ((q 1), .inl (cI, 20, .inl (fun k => zI ((g 1) k)))), (o, .inr (2, [.int (zI no), .ref (qo 0), .ref (qo 1), .ref (qo 2), .ref (qo 3), .ref (qo 4), .ref (qo 5), .ref (qo 6), .ref (qo 7)])), ((qo 0), .inl (cI, 10, .inl (fun k => zI ((go 0) k)))), ((qo 1), .inl (cI, 10, .inl (fun k => zI ((go 1) k)))), ((qo 2), .inl (cI, 10, .inl (fun k => zI ((go 2) k)))), ((qo 3), .inl (cI, 40, .inl (fun k => zI ((go 3) k)))), ((qo 4), .inl (cI, 40, .inl (fun k => zI ((go 4) k)))), ((qo 5), .inl (cI, 40, .inl (fun k => zI ((go 5) k)))), ((qo 6), .inl (cI, 20, .inl (fun k => zI ((go 6) k)))), ((qo 7), .inl (cI, 20, .inl (fun k => zI ((go 7) k))))] (fun u => TrailOk u.1 ∧ (u.1 0 = 1)) (fun u => [(b, .inr (5, [.int (zI (u.1 0)), .int (zI (u.1 1)), .ref (q 0), .ref (q 1)])), ((q 0), .inl (cI, 180, .inl (fun k => zI ((u.2 0) k)))), ((q 1), .inl (cI, 20, .inl (fun k => zI ((u.2 1) k)))), (o, .inr (2, [.int (zI no), .ref (qo 0), .ref (qo 1), .ref (qo 2), .ref (qo 3), .ref (qo 4), .ref (qo 5), .ref (qo 6), .ref (qo 7)])), ((qo 0), .inl (cI, 10, .inl (fun k => zI ((go 0) k)))), ((qo 1), .inl (cI, 10, .inl (fun k => zI ((go 1) k)))), ((qo 2), .inl (cI, 10, .inl (fun k => zI ((go 2) k)))), ((qo 3), .inl (cI, 40, .inl (fun k => zI ((go 3) k)))), ((qo 4), .inl (cI, 40, .inl (fun k => zI ((go 4) k)))), ((qo 5), .inl (cI, 40, .inl (fun k => zI ((go 5) k)))), ((qo 6), .inl (cI, 20, .inl (fun k => zI ((go 6) k)))), ((qo 7), .inl (cI, 20, .inl (fun k => zI ((go 7) k))))]) := by
  refine bw_Cv.of (cc := cX5_find) (maxL := 2) (by decide) rfl (Nat.le_of_ble_eq_true rfl) ?_
  intro p e s m below meth c A Q hx hb hml hts hown hin hK hA hS hP hD hE ret ls hl
  have F : CallFix p m c cX5_find 2 s ([.ref b, .ref o] : List Value).toArray bw_T RX5 := ⟨hx, hb, hml, hown, fun w h => hts w (List.mem_cons_of_mem _ h)⟩
  replace hl : lv_has ls 2 [(0, .ref b), (1, .ref o)] := hl
  have hM0 := hM.1
  refine lv_aload_n hx hb dX5_find_0 rfl (lv_at hl 0 rfl) ?_
  refine r_get F hK hP 0 0 rfl rfl in_X5 (by decide) k_426 rfl dX5_find_1 ?_
  refine rz_if_eq (tgt := 8) F (by omega) dX5_find_4 (by decide) (fun h4_0 => ?_) (fun h4_0 => ?_)
  · refine lv_aload_n hx hb dX5_find_8 rfl (lv_at hl 0 rfl) ?_
    refine lv_iconst (v := zI 1) hx hb dX5_find_9 rfl ?_
    refine r_put F hK hP hD hS 0 0 rfl rfl in_X5 tyX5 tyX5_ok nmX5 (by decide) k_426 rfl (zI_nz (by omega)) (zI_fz (by omega)) (Nat.le_of_ble_eq_true rfl) dX5_find_10 (w1 := [(b, .inr (5, [.int (zI 1), .int (zI (i 1)), .ref (q 0), .ref (q 1)])), ((q 0), .inl (cI, 180, .inl (fun k => zI ((g 0) k)))), ((q 1), .inl (cI, 20, .inl (fun k => zI ((g 1) k)))), (o, .inr (2, [.int (zI no), .ref (qo 0), .ref (qo 1), .ref (qo 2), .ref (qo 3), .ref (qo 4), .ref (qo 5), .ref (qo 6), .ref (qo 7)])), ((qo 0), .inl (cI, 10, .inl (fun k => zI ((go 0) k)))), ((qo 1), .inl (cI, 10, .inl (fun k => zI ((go 1) k)))), ((qo 2), .inl (cI, 10, .inl (fun k => zI ((go 2) k)))), ((qo 3), .inl (cI, 40, .inl (fun k => zI ((go 3) k)))), ((qo 4), .inl (cI, 40, .inl (fun k => zI ((go 4) k)))), ((qo 5), .inl (cI, 40, .inl (fun k => zI ((go 5) k)))), ((qo 6), .inl (cI, 20, .inl (fun k => zI ((go 6) k)))), ((qo 7), .inl (cI, 20, .inl (fun k => zI ((go 7) k))))]) rfl (fun H locs hP hD hS => ?_)
    refine lv_aload_n hx hb dX5_find_13 rfl (lv_at hl 0 rfl) ?_
    refine lv_bipush (v := zI (-2)) hx hb dX5_find_14 (by decide) ?_
    refine r_put F hK hP hD hS 0 1 rfl rfl in_X5 tyX5 tyX5_ok nmX5 (by decide) k_428 rfl rfl rfl (Nat.le_of_ble_eq_true rfl) dX5_find_16 (w1 := [(b, .inr (5, [.int (zI 1), .int (zI (-2)), .ref (q 0), .ref (q 1)])), ((q 0), .inl (cI, 180, .inl (fun k => zI ((g 0) k)))), ((q 1), .inl (cI, 20, .inl (fun k => zI ((g 1) k)))), (o, .inr (2, [.int (zI no), .ref (qo 0), .ref (qo 1), .ref (qo 2), .ref (qo 3), .ref (qo 4), .ref (qo 5), .ref (qo 6), .ref (qo 7)])), ((qo 0), .inl (cI, 10, .inl (fun k => zI ((go 0) k)))), ((qo 1), .inl (cI, 10, .inl (fun k => zI ((go 1) k)))), ((qo 2), .inl (cI, 10, .inl (fun k => zI ((go 2) k)))), ((qo 3), .inl (cI, 40, .inl (fun k => zI ((go 3) k)))), ((qo 4), .inl (cI, 40, .inl (fun k => zI ((go 4) k)))), ((qo 5), .inl (cI, 40, .inl (fun k => zI ((go 5) k)))), ((qo 6), .inl (cI, 20, .inl (fun k => zI ((go 6) k)))), ((qo 7), .inl (cI, 20, .inl (fun k => zI ((go 7) k))))]) rfl (fun H locs hP hD hS => ?_)
    refine lv_aload_n hx hb dX5_find_19 rfl (lv_at hl 1 rfl) ?_
    refine r_callVi (As := []) (rest := []) (wr := [(b, .inr (5, [.int (zI 1), .int (zI (-2)), .ref (q 0), .ref (q 1)])), ((q 0), .inl (cI, 180, .inl (fun k => zI ((g 0) k)))), ((q 1), .inl (cI, 20, .inl (fun k => zI ((g 1) k))))]) F hK hP hD hS hA hO hE (c_X2_isEven hO o qo no go hM) k_896 kv_X2_isEven 0 rfl (by decide +kernel) ⟨Nat.le_of_ble_eq_true rfl, Nat.le_of_ble_eq_true rfl⟩ [3, 4, 5, 6, 7, 8, 9, 10, 11] [0, 1, 2] rfl rfl (by decide) (by decide) (by decide) 0 2 rfl rfl rfl hl.1 rfl (Nat.le_of_ble_eq_true rfl) dX5_find_20 ⟨Nat.le_of_ble_eq_true rfl, Nat.le_of_ble_eq_true rfl⟩ (w1 := fun u2 => [(b, .inr (5, [.int (zI 1), .int (zI (-2)), .ref (q 0), .ref (q 1)])), ((q 0), .inl (cI, 180, .inl (fun k => zI ((g 0) k)))), ((q 1), .inl (cI, 20, .inl (fun k => zI ((g 1) k)))), (o, .inr (2, [.int (zI no), .ref (qo 0), .ref (qo 1), .ref (qo 2), .ref (qo 3), .ref (qo 4), .ref (qo 5), .ref (qo 6), .ref (qo 7)])), ((qo 0), .inl (cI, 10, .inl (fun k => zI ((go 0) k)))), ((qo 1), .inl (cI, 10, .inl (fun k => zI ((go 1) k)))), ((qo 2), .inl (cI, 10, .inl (fun k => zI ((go 2) k)))), ((qo 3), .inl (cI, 40, .inl (fun k => zI ((go 3) k)))), ((qo 4), .inl (cI, 40, .inl (fun k => zI ((go 4) k)))), ((qo 5), .inl (cI, 40, .inl (fun k => zI ((go 5) k)))), ((qo 6), .inl (cI, 20, .inl (fun k => zI ((go 6) k)))), ((qo 7), .inl (cI, 20, .inl (fun k => zI ((go 7) k))))]) (fun _ => rfl) (fun r3 u2 H locs hp4 hP hD hS => ?_)
    obtain ⟨z5, rfl, h_z5⟩ := hp4
    refine rz_if_eq (tgt := 31) F (by omega) dX5_find_23 (by decide) (fun h23_5 => ?_) (fun h23_5 => ?_)
    · obtain ⟨i7, e_i7⟩ : ∃ i7 : Nat → Int, i7 = fun k => [1, (-2)].getD k 0 := ⟨_, rfl⟩
      have e_i7_0 : i7 0 = 1 := congrFun e_i7 0
      have e_i7_1 : i7 1 = (-2) := congrFun e_i7 1
      obtain ⟨gg8, e_gg8⟩ : ∃ gg8 : Nat → Nat → Int, gg8 = fun k => [(g 0), (g 1)].getD k (fun _ => 0) := ⟨_, rfl⟩
      have hO9 : TrailOk i7 := ⟨by omega, by omega⟩
      have hf10 := hO9
      have hP : va_P G vwCl [(b, .inr (5, [.int (zI (i7 0)), .int (zI (i7 1)), .ref (q 0), .ref (q 1)])), ((q 0), .inl (cI, 180, .inl (fun k => zI ((gg8 0) k)))), ((q 1), .inl (cI, 20, .inl (fun k => zI ((gg8 1) k)))), (o, .inr (2, [.int (zI no), .ref (qo 0), .ref (qo 1), .ref (qo 2), .ref (qo 3), .ref (qo 4), .ref (qo 5), .ref (qo 6), .ref (qo 7)])), ((qo 0), .inl (cI, 10, .inl (fun k => zI ((go 0) k)))), ((qo 1), .inl (cI, 10, .inl (fun k => zI ((go 1) k)))), ((qo 2), .inl (cI, 10, .inl (fun k => zI ((go 2) k)))), ((qo 3), .inl (cI, 40, .inl (fun k => zI ((go 3) k)))), ((qo 4), .inl (cI, 40, .inl (fun k => zI ((go 4) k)))), ((qo 5), .inl (cI, 40, .inl (fun k => zI ((go 5) k)))), ((qo 6), .inl (cI, 20, .inl (fun k => zI ((go 6) k)))), ((qo 7), .inl (cI, 20, .inl (fun k => zI ((go 7) k))))] H := by subst e_i7 e_gg8; exact hP
      have hD : va_D A [(b, .inr (5, [.int (zI (i7 0)), .int (zI (i7 1)), .ref (q 0), .ref (q 1)])), ((q 0), .inl (cI, 180, .inl (fun k => zI ((gg8 0) k)))), ((q 1), .inl (cI, 20, .inl (fun k => zI ((gg8 1) k)))), (o, .inr (2, [.int (zI no), .ref (qo 0), .ref (qo 1), .ref (qo 2), .ref (qo 3), .ref (qo 4), .ref (qo 5), .ref (qo 6), .ref (qo 7)])), ((qo 0), .inl (cI, 10, .inl (fun k => zI ((go 0) k)))), ((qo 1), .inl (cI, 10, .inl (fun k => zI ((go 1) k)))), ((qo 2), .inl (cI, 10, .inl (fun k => zI ((go 2) k)))), ((qo 3), .inl (cI, 40, .inl (fun k => zI ((go 3) k)))), ((qo 4), .inl (cI, 40, .inl (fun k => zI ((go 4) k)))), ((qo 5), .inl (cI, 40, .inl (fun k => zI ((go 5) k)))), ((qo 6), .inl (cI, 20, .inl (fun k => zI ((go 6) k)))), ((qo 7), .inl (cI, 20, .inl (fun k => zI ((go 7) k))))] := by subst e_i7 e_gg8; exact hD
      exact ret (i7, gg8) _ _ _ _ _ _ ⟨hO9, by dsimp only; omega⟩ (bw_subP (isC := [0, 1, 2, 3, 4, 5, 6, 7, 8, 9, 10, 11]) hP rfl) (hD.sub [0, 1, 2, 3, 4, 5, 6, 7, 8, 9, 10, 11] (by decide) rfl) hS (Nat.le_of_ble_eq_true rfl) (Nat.le_of_ble_eq_true rfl) dX5_find_31
    · refine lv_aload_n hx hb dX5_find_26 rfl (lv_at hl 0 rfl) ?_
      refine lv_aload_n hx hb dX5_find_27 rfl (lv_at hl 1 rfl) ?_
      obtain ⟨i11, e_i11⟩ : ∃ i11 : Nat → Int, i11 = fun k => [1, (-2)].getD k 0 := ⟨_, rfl⟩
      have e_i11_0 : i11 0 = 1 := congrFun e_i11 0
      have e_i11_1 : i11 1 = (-2) := congrFun e_i11 1
      obtain ⟨gg12, e_gg12⟩ : ∃ gg12 : Nat → Nat → Int, gg12 = fun k => [(g 0), (g 1)].getD k (fun _ => 0) := ⟨_, rfl⟩
      have hO13 : TrailOk i11 := ⟨by omega, by omega⟩
      have hf14 := hO13
      have hP : va_P G vwCl [(b, .inr (5, [.int (zI (i11 0)), .int (zI (i11 1)), .ref (q 0), .ref (q 1)])), ((q 0), .inl (cI, 180, .inl (fun k => zI ((gg12 0) k)))), ((q 1), .inl (cI, 20, .inl (fun k => zI ((gg12 1) k)))), (o, .inr (2, [.int (zI no), .ref (qo 0), .ref (qo 1), .ref (qo 2), .ref (qo 3), .ref (qo 4), .ref (qo 5), .ref (qo 6), .ref (qo 7)])), ((qo 0), .inl (cI, 10, .inl (fun k => zI ((go 0) k)))), ((qo 1), .inl (cI, 10, .inl (fun k => zI ((go 1) k)))), ((qo 2), .inl (cI, 10, .inl (fun k => zI ((go 2) k)))), ((qo 3), .inl (cI, 40, .inl (fun k => zI ((go 3) k)))), ((qo 4), .inl (cI, 40, .inl (fun k => zI ((go 4) k)))), ((qo 5), .inl (cI, 40, .inl (fun k => zI ((go 5) k)))), ((qo 6), .inl (cI, 20, .inl (fun k => zI ((go 6) k)))), ((qo 7), .inl (cI, 20, .inl (fun k => zI ((go 7) k))))] H := by subst e_i11 e_gg12; exact hP
      have hD : va_D A [(b, .inr (5, [.int (zI (i11 0)), .int (zI (i11 1)), .ref (q 0), .ref (q 1)])), ((q 0), .inl (cI, 180, .inl (fun k => zI ((gg12 0) k)))), ((q 1), .inl (cI, 20, .inl (fun k => zI ((gg12 1) k)))), (o, .inr (2, [.int (zI no), .ref (qo 0), .ref (qo 1), .ref (qo 2), .ref (qo 3), .ref (qo 4), .ref (qo 5), .ref (qo 6), .ref (qo 7)])), ((qo 0), .inl (cI, 10, .inl (fun k => zI ((go 0) k)))), ((qo 1), .inl (cI, 10, .inl (fun k => zI ((go 1) k)))), ((qo 2), .inl (cI, 10, .inl (fun k => zI ((go 2) k)))), ((qo 3), .inl (cI, 40, .inl (fun k => zI ((go 3) k)))), ((qo 4), .inl (cI, 40, .inl (fun k => zI ((go 4) k)))), ((qo 5), .inl (cI, 40, .inl (fun k => zI ((go 5) k)))), ((qo 6), .inl (cI, 20, .inl (fun k => zI ((go 6) k)))), ((qo 7), .inl (cI, 20, .inl (fun k => zI ((go 7) k))))] := by subst e_i11 e_gg12; exact hD
      refine r_callVv (As := [.ref o]) (rest := []) (wr := []) F hK hP hD hS hA hO hE (c_X5_goThrough hO b q i11 gg12 hO13 o qo no go hM) k_897 kv_X5_goThrough 1 rfl (by decide +kernel) ⟨Nat.le_of_ble_eq_true rfl, Nat.le_of_ble_eq_true rfl⟩ [0, 1, 2, 3, 4, 5, 6, 7, 8, 9, 10, 11] [] rfl rfl (by decide) (by decide) (by decide) 0 5 rfl rfl rfl hl.1 rfl (Nat.le_of_ble_eq_true rfl) dX5_find_28 ⟨Nat.le_of_ble_eq_true rfl, Nat.le_of_ble_eq_true rfl⟩ (w1 := fun u15 => [(b, .inr (5, [.int (zI (u15.1 0)), .int (zI (u15.1 1)), .ref (q 0), .ref (q 1)])), ((q 0), .inl (cI, 180, .inl (fun k => zI ((u15.2 0) k)))), ((q 1), .inl (cI, 20, .inl (fun k => zI ((u15.2 1) k)))), (o, .inr (2, [.int (zI no), .ref (qo 0), .ref (qo 1), .ref (qo 2), .ref (qo 3), .ref (qo 4), .ref (qo 5), .ref (qo 6), .ref (qo 7)])), ((qo 0), .inl (cI, 10, .inl (fun k => zI ((go 0) k)))), ((qo 1), .inl (cI, 10, .inl (fun k => zI ((go 1) k)))), ((qo 2), .inl (cI, 10, .inl (fun k => zI ((go 2) k)))), ((qo 3), .inl (cI, 40, .inl (fun k => zI ((go 3) k)))), ((qo 4), .inl (cI, 40, .inl (fun k => zI ((go 4) k)))), ((qo 5), .inl (cI, 40, .inl (fun k => zI ((go 5) k)))), ((qo 6), .inl (cI, 20, .inl (fun k => zI ((go 6) k)))), ((qo 7), .inl (cI, 20, .inl (fun k => zI ((go 7) k))))]) (fun _ => rfl) (fun  u15 H locs hp16 hP hD hS => ?_)
      have hx17 := hp16.2
      have hf18 := hp16.1
      exact ret (u15.1, u15.2) _ _ _ _ _ _ ⟨hp16.1, by dsimp only; omega⟩ (bw_subP (isC := [0, 1, 2, 3, 4, 5, 6, 7, 8, 9, 10, 11]) hP rfl) (hD.sub [0, 1, 2, 3, 4, 5, 6, 7, 8, 9, 10, 11] (by decide) rfl) hS (Nat.le_of_ble_eq_true rfl) (Nat.le_of_ble_eq_true rfl) dX5_find_31
  · exact ret (i, g) _ _ _ _ _ _ ⟨hY, by dsimp only; omega⟩ (bw_subP (isC := [0, 1, 2, 3, 4, 5, 6, 7, 8, 9, 10, 11]) hP rfl) (hD.sub [0, 1, 2, 3, 4, 5, 6, 7, 8, 9, 10, 11] (by decide) rfl) hS (Nat.le_of_ble_eq_true rfl) (Nat.le_of_ble_eq_true rfl) dX5_find_7
