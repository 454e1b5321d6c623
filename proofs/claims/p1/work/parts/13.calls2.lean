theorem bw_loop_1' {a b : Int32} (h : (1 ≤ a ∧ a ≤ 9) ∧ (1 ≤ b ∧ b ≤ 99)) (h1 : a = 1) : a * ((b + 10 - 1) / 10) = bw_loop a b := by
  unfold bw_loop; rw [if_pos h, if_pos h1]
theorem dX8_loop_0 : decode cX8_loop 0 = .ok (.iload_n 1, 1) := by decide +kernel
theorem dX8_loop_1 : decode cX8_loop 1 = .ok (.iconst 1, 1) := by decide +kernel
theorem dX8_loop_2 : decode cX8_loop 2 = .ok (.if_icmp .lt 20, 3) := by decide +kernel
theorem dX8_loop_22 : decode cX8_loop 22 = .ok (.aload_n 0, 1) := by decide +kernel
theorem dX8_loop_23 : decode cX8_loop 23 = .ok (.iconst 2, 1) := by decide +kernel
theorem dX8_loop_24 : decode cX8_loop 24 = .ok (.invokevirtual 92, 3) := by decide +kernel
theorem dX8_loop_27 : decode cX8_loop 27 = .ok (.ireturn, 1) := by decide +kernel
theorem dX8_loop_5 : decode cX8_loop 5 = .ok (.iload_n 1, 1) := by decide +kernel
theorem dX8_loop_6 : decode cX8_loop 6 = .ok (.bipush 9, 2) := by decide +kernel
theorem dX8_loop_8 : decode cX8_loop 8 = .ok (.if_icmp .gt 14, 3) := by decide +kernel
theorem dX8_loop_11 : decode cX8_loop 11 = .ok (.iload_n 2, 1) := by decide +kernel
theorem dX8_loop_12 : decode cX8_loop 12 = .ok (.iconst 1, 1) := by decide +kernel
theorem dX8_loop_13 : decode cX8_loop 13 = .ok (.if_icmp .lt 9, 3) := by decide +kernel
theorem dX8_loop_16 : decode cX8_loop 16 = .ok (.iload_n 2, 1) := by decide +kernel
theorem dX8_loop_17 : decode cX8_loop 17 = .ok (.bipush 99, 2) := by decide +kernel
theorem dX8_loop_19 : decode cX8_loop 19 = .ok (.if_icmp .le 9, 3) := by decide +kernel
theorem dX8_loop_28 : decode cX8_loop 28 = .ok (.iload_n 1, 1) := by decide +kernel
theorem dX8_loop_29 : decode cX8_loop 29 = .ok (.iconst 1, 1) := by decide +kernel
theorem dX8_loop_30 : decode cX8_loop 30 = .ok (.if_icmp .ne 8, 3) := by decide +kernel
theorem dX8_loop_38 : decode cX8_loop 38 = .ok (.bipush 9, 2) := by decide +kernel
theorem dX8_loop_40 : decode cX8_loop 40 = .ok (.istore_n 3, 1) := by decide +kernel
theorem dX8_loop_41 : decode cX8_loop 41 = .ok (.iload_n 2, 1) := by decide +kernel
theorem dX8_loop_42 : decode cX8_loop 42 = .ok (.iload_n 3, 1) := by decide +kernel
theorem dX8_loop_43 : decode cX8_loop 43 = .ok (.iadd, 1) := by decide +kernel
theorem dX8_loop_44 : decode cX8_loop 44 = .ok (.iconst 1, 1) := by decide +kernel
theorem dX8_loop_45 : decode cX8_loop 45 = .ok (.isub, 1) := by decide +kernel
theorem dX8_loop_46 : decode cX8_loop 46 = .ok (.iload_n 3, 1) := by decide +kernel
theorem dX8_loop_47 : decode cX8_loop 47 = .ok (.idiv, 1) := by decide +kernel
theorem dX8_loop_48 : decode cX8_loop 48 = .ok (.istore 4, 2) := by decide +kernel
theorem dX8_loop_50 : decode cX8_loop 50 = .ok (.aload_n 0, 1) := by decide +kernel
theorem dX8_loop_51 : decode cX8_loop 51 = .ok (.iload_n 1, 1) := by decide +kernel
theorem dX8_loop_52 : decode cX8_loop 52 = .ok (.iload 4, 2) := by decide +kernel
theorem dX8_loop_54 : decode cX8_loop 54 = .ok (.imul, 1) := by decide +kernel
theorem dX8_loop_55 : decode cX8_loop 55 = .ok (.invokevirtual 125, 3) := by decide +kernel
theorem k_663 : Cond.methodLink RX8 125 yX8_grant ∈ bw_T := bw_m 663 (by decide +kernel) rfl
theorem kv_X8_grant : bw_KV RX8 yX8_grant (Cond.code yX8_grant cX8_grant 2 (some .int)) := ⟨bw_m 665 (by decide +kernel) rfl, bw_m 20 (by decide +kernel) rfl, bw_m 94 (by decide +kernel) rfl, bw_m 666 (by decide +kernel) rfl⟩
theorem dX8_loop_58 : decode cX8_loop 58 = .ok (.ireturn, 1) := by decide +kernel
theorem dX8_loop_33 : decode cX8_loop 33 = .ok (.bipush 10, 2) := by decide +kernel
theorem dX8_loop_35 : decode cX8_loop 35 = .ok (.goto 5, 3) := by decide +kernel
abbrev rm_X8_loop : Room := { frames := 1, cells := 0, slots := 0, locals := 21 }
set_option maxRecDepth 100000 in
set_option maxHeartbeats 4000000 in
theorem c_X8_loop {l : Launch} {E : (Nat → Prop) → State → Prop} (hO : bw_Ok E) {G : va_G} {cI cB cJ cN cW : ClassId} (b : Nat) (q : Nat → Nat) (x : Int32) (y : Int32) : bw_Ci (S := bw_U) l yX8_loop (bw_ws (Cond.code yX8_loop cX8_loop 5 (some .int))) rm_X8_loop E G (bw_kt cI cB cJ cN cW) [.ref b, .int x, .int y] [(b, .inr (8, [.int 0, .int 0, .ref (q 0), .ref (q 1), .ref (q 2), .ref (q 3), .ref (q 4), .ref (q 5), .ref (q 6), .ref (q 7), .ref (q 8), .ref (q 9), .ref (q 10), .ref (q 11)]))] (fun r _ => r = bw_loop x y) (fun _ => []) := by
  refine bw_Ci.of (cc := cX8_loop) (maxL := 5) (ty := .int) (by decide) rfl (Nat.le_of_ble_eq_true rfl) ?_
  intro p e s m below meth c A Q hx hb hml hts hown hin hK hA hS hP hD hE ret ls hl
  have F : CallFix p m c cX8_loop 5 s ([.ref b, .int x, .int y] : List Value).toArray bw_T RX8 := ⟨hx, hb, hml, hown, fun w h => hts w (List.mem_cons_of_mem _ h)⟩
  have hl : lv_has ls 5 [(0, .ref b), (1, .int x), (2, .int y)] := hl
  refine lv_iload_n hx hb dX8_loop_0 rfl (lv_at hl 1 rfl) ?_
  refine lv_iconst (v := 1) hx hb dX8_loop_1 (by decide) ?_
  refine lv_icmp_lt (tgt := 22) hx hb dX8_loop_2 (by decide) (fun h1 => ?_) (fun h1 => ?_)
  · refine lv_aload_n hx hb dX8_loop_22 rfl (lv_at hl 0 rfl) ?_
    refine lv_iconst (v := 2) hx hb dX8_loop_23 (by decide) ?_
    refine r_callVi (As := [.int 2]) (rest := []) (wr := []) F hK hP hD hS hA hO hE (c_X8_refuse hO b q 2) k_550 kv_X8_refuse 1 rfl (by decide +kernel) ⟨Nat.le_of_ble_eq_true rfl, Nat.le_of_ble_eq_true rfl⟩ [0] [] rfl rfl (by decide) (by decide) (by decide) 0 8 rfl rfl rfl hl.1 rfl (Nat.le_of_ble_eq_true rfl) dX8_loop_24 ⟨Nat.le_of_ble_eq_true rfl, Nat.le_of_ble_eq_true rfl⟩ (w1 := fun u1 => []) (fun _ => rfl) (fun r2 u1 H locs hp hP hD hS => ?_)
    subst hp
    exact ret (-1) (fun _ => 0, fun _ _ => 0) _ _ _ _ _ _ rfl (by refine (bw_loop_no (fun q9 => ?_)).symm; obtain ⟨⟨q1, q2⟩, q3, q4⟩ := q9; first | exact absurd q1 (Int32.not_le.mpr h1) | exact absurd q2 (Int32.not_le.mpr h2) | exact absurd q3 (Int32.not_le.mpr h3) | exact h4 q4) (bw_subP (isC := []) hP rfl) (hD.sub [] (by decide) rfl) hS (Nat.le_of_ble_eq_true rfl) (Nat.le_of_ble_eq_true rfl) dX8_loop_27
  · refine lv_iload_n hx hb dX8_loop_5 rfl (lv_at hl 1 rfl) ?_
    refine lv_bipush (v := 9) hx hb dX8_loop_6 (by decide) ?_
    refine lv_icmp_gt (tgt := 22) hx hb dX8_loop_8 (by decide) (fun h2 => ?_) (fun h2 => ?_)
    · refine lv_aload_n hx hb dX8_loop_22 rfl (lv_at hl 0 rfl) ?_
      refine lv_iconst (v := 2) hx hb dX8_loop_23 (by decide) ?_
      refine r_callVi (As := [.int 2]) (rest := []) (wr := []) F hK hP hD hS hA hO hE (c_X8_refuse hO b q 2) k_550 kv_X8_refuse 1 rfl (by decide +kernel) ⟨Nat.le_of_ble_eq_true rfl, Nat.le_of_ble_eq_true rfl⟩ [0] [] rfl rfl (by decide) (by decide) (by decide) 0 8 rfl rfl rfl hl.1 rfl (Nat.le_of_ble_eq_true rfl) dX8_loop_24 ⟨Nat.le_of_ble_eq_true rfl, Nat.le_of_ble_eq_true rfl⟩ (w1 := fun u1 => []) (fun _ => rfl) (fun r2 u1 H locs hp hP hD hS => ?_)
      subst hp
      exact ret (-1) (fun _ => 0, fun _ _ => 0) _ _ _ _ _ _ rfl (by refine (bw_loop_no (fun q9 => ?_)).symm; obtain ⟨⟨q1, q2⟩, q3, q4⟩ := q9; first | exact absurd q1 (Int32.not_le.mpr h1) | exact absurd q2 (Int32.not_le.mpr h2) | exact absurd q3 (Int32.not_le.mpr h3) | exact h4 q4) (bw_subP (isC := []) hP rfl) (hD.sub [] (by decide) rfl) hS (Nat.le_of_ble_eq_true rfl) (Nat.le_of_ble_eq_true rfl) dX8_loop_27
    · refine lv_iload_n hx hb dX8_loop_11 rfl (lv_at hl 2 rfl) ?_
      refine lv_iconst (v := 1) hx hb dX8_loop_12 (by decide) ?_
      refine lv_icmp_lt (tgt := 22) hx hb dX8_loop_13 (by decide) (fun h3 => ?_) (fun h3 => ?_)
      · refine lv_aload_n hx hb dX8_loop_22 rfl (lv_at hl 0 rfl) ?_
        refine lv_iconst (v := 2) hx hb dX8_loop_23 (by decide) ?_
        refine r_callVi (As := [.int 2]) (rest := []) (wr := []) F hK hP hD hS hA hO hE (c_X8_refuse hO b q 2) k_550 kv_X8_refuse 1 rfl (by decide +kernel) ⟨Nat.le_of_ble_eq_true rfl, Nat.le_of_ble_eq_true rfl⟩ [0] [] rfl rfl (by decide) (by decide) (by decide) 0 8 rfl rfl rfl hl.1 rfl (Nat.le_of_ble_eq_true rfl) dX8_loop_24 ⟨Nat.le_of_ble_eq_true rfl, Nat.le_of_ble_eq_true rfl⟩ (w1 := fun u1 => []) (fun _ => rfl) (fun r2 u1 H locs hp hP hD hS => ?_)
        subst hp
        exact ret (-1) (fun _ => 0, fun _ _ => 0) _ _ _ _ _ _ rfl (by refine (bw_loop_no (fun q9 => ?_)).symm; obtain ⟨⟨q1, q2⟩, q3, q4⟩ := q9; first | exact absurd q1 (Int32.not_le.mpr h1) | exact absurd q2 (Int32.not_le.mpr h2) | exact absurd q3 (Int32.not_le.mpr h3) | exact h4 q4) (bw_subP (isC := []) hP rfl) (hD.sub [] (by decide) rfl) hS (Nat.le_of_ble_eq_true rfl) (Nat.le_of_ble_eq_true rfl) dX8_loop_27
      · refine lv_iload_n hx hb dX8_loop_16 rfl (lv_at hl 2 rfl) ?_
        refine lv_bipush (v := 99) hx hb dX8_loop_17 (by decide) ?_
        refine lv_icmp_le (tgt := 28) hx hb dX8_loop_19 (by decide) (fun h4 => ?_) (fun h4 => ?_)
        · refine lv_iload_n hx hb dX8_loop_28 rfl (lv_at hl 1 rfl) ?_
          refine lv_iconst (v := 1) hx hb dX8_loop_29 (by decide) ?_
          refine lv_icmp_ne (tgt := 38) hx hb dX8_loop_30 (by decide) (fun h5 => ?_) (fun h5 => ?_)
          · refine lv_bipush (v := 9) hx hb dX8_loop_38 (by decide) ?_
            refine lv_istore_n (lv' := [(3, .int 9), (0, .ref b), (1, .int x), (2, .int y)]) hx hb dX8_loop_40 rfl hl (by decide) rfl (fun ls hl => ?_)
            refine lv_iload_n hx hb dX8_loop_41 rfl (lv_at hl 3 rfl) ?_
            refine lv_iload_n hx hb dX8_loop_42 rfl (lv_at hl 0 rfl) ?_
            refine r_iadd (v := (y + 9)) F dX8_loop_43 rfl ?_
            refine lv_iconst (v := 1) hx hb dX8_loop_44 (by decide) ?_
            refine r_isub (v := ((y + 9) - 1)) F dX8_loop_45 rfl ?_
            refine lv_iload_n hx hb dX8_loop_46 rfl (lv_at hl 0 rfl) ?_
            refine r_idiv (v := (((y + 9) - 1) / 9)) F dX8_loop_47 (by decide) rfl ?_
            refine lv_istore (lv' := [(4, .int (((y + 9) - 1) / 9)), (3, .int 9), (0, .ref b), (1, .int x), (2, .int y)]) hx hb dX8_loop_48 hl (by decide) rfl (fun ls hl => ?_)
            refine lv_aload_n hx hb dX8_loop_50 rfl (lv_at hl 2 rfl) ?_
            refine lv_iload_n hx hb dX8_loop_51 rfl (lv_at hl 3 rfl) ?_
            refine lv_iload hx hb dX8_loop_52 (lv_at hl 0 rfl) ?_
            refine r_imul (v := (x * (((y + 9) - 1) / 9))) F dX8_loop_54 rfl ?_
            refine r_callVi (As := [.int (x * (((y + 9) - 1) / 9))]) (rest := []) (wr := []) F hK hP hD hS hA hO hE (c_X8_grant hO b q (x * (((y + 9) - 1) / 9))) k_663 kv_X8_grant 1 rfl (by decide +kernel) ⟨Nat.le_of_ble_eq_true rfl, Nat.le_of_ble_eq_true rfl⟩ [0] [] rfl rfl (by decide) (by decide) (by decide) 0 8 rfl rfl rfl hl.1 rfl (Nat.le_of_ble_eq_true rfl) dX8_loop_55 ⟨Nat.le_of_ble_eq_true rfl, Nat.le_of_ble_eq_true rfl⟩ (w1 := fun u1 => []) (fun _ => rfl) (fun r2 u1 H locs hp hP hD hS => ?_)
            subst hp
            exact ret (x * (((y + 9) - 1) / 9)) (fun _ => 0, fun _ _ => 0) _ _ _ _ _ _ rfl (bw_loop_n ⟨⟨Int32.not_lt.mp h1, Int32.not_lt.mp h2⟩, Int32.not_lt.mp h3, h4⟩ h5).symm (bw_subP (isC := []) hP rfl) (hD.sub [] (by decide) rfl) hS (Nat.le_of_ble_eq_true rfl) (Nat.le_of_ble_eq_true rfl) dX8_loop_58
          · refine lv_bipush (v := 10) hx hb dX8_loop_33 (by decide) ?_
            refine lv_goto (tgt := 40) hx hb dX8_loop_35 (by decide) ?_
            refine lv_istore_n (lv' := [(3, .int 10), (0, .ref b), (1, .int x), (2, .int y)]) hx hb dX8_loop_40 rfl hl (by decide) rfl (fun ls hl => ?_)
            refine lv_iload_n hx hb dX8_loop_41 rfl (lv_at hl 3 rfl) ?_
            refine lv_iload_n hx hb dX8_loop_42 rfl (lv_at hl 0 rfl) ?_
            refine r_iadd (v := (y + 10)) F dX8_loop_43 rfl ?_
            refine lv_iconst (v := 1) hx hb dX8_loop_44 (by decide) ?_
            refine r_isub (v := ((y + 10) - 1)) F dX8_loop_45 rfl ?_
            refine lv_iload_n hx hb dX8_loop_46 rfl (lv_at hl 0 rfl) ?_
            refine r_idiv (v := (((y + 10) - 1) / 10)) F dX8_loop_47 (by decide) rfl ?_
            refine lv_istore (lv' := [(4, .int (((y + 10) - 1) / 10)), (3, .int 10), (0, .ref b), (1, .int x), (2, .int y)]) hx hb dX8_loop_48 hl (by decide) rfl (fun ls hl => ?_)
            refine lv_aload_n hx hb dX8_loop_50 rfl (lv_at hl 2 rfl) ?_
            refine lv_iload_n hx hb dX8_loop_51 rfl (lv_at hl 3 rfl) ?_
            refine lv_iload hx hb dX8_loop_52 (lv_at hl 0 rfl) ?_
            refine r_imul (v := (x * (((y + 10) - 1) / 10))) F dX8_loop_54 rfl ?_
            refine r_callVi (As := [.int (x * (((y + 10) - 1) / 10))]) (rest := []) (wr := []) F hK hP hD hS hA hO hE (c_X8_grant hO b q (x * (((y + 10) - 1) / 10))) k_663 kv_X8_grant 1 rfl (by decide +kernel) ⟨Nat.le_of_ble_eq_true rfl, Nat.le_of_ble_eq_true rfl⟩ [0] [] rfl rfl (by decide) (by decide) (by decide) 0 8 rfl rfl rfl hl.1 rfl (Nat.le_of_ble_eq_true rfl) dX8_loop_55 ⟨Nat.le_of_ble_eq_true rfl, Nat.le_of_ble_eq_true rfl⟩ (w1 := fun u1 => []) (fun _ => rfl) (fun r2 u1 H locs hp hP hD hS => ?_)
            subst hp
            exact ret (x * (((y + 10) - 1) / 10)) (fun _ => 0, fun _ _ => 0) _ _ _ _ _ _ rfl (bw_loop_1' ⟨⟨Int32.not_lt.mp h1, Int32.not_lt.mp h2⟩, Int32.not_lt.mp h3, h4⟩ h5) (bw_subP (isC := []) hP rfl) (hD.sub [] (by decide) rfl) hS (Nat.le_of_ble_eq_true rfl) (Nat.le_of_ble_eq_true rfl) dX8_loop_58
        · refine lv_aload_n hx hb dX8_loop_22 rfl (lv_at hl 0 rfl) ?_
          refine lv_iconst (v := 2) hx hb dX8_loop_23 (by decide) ?_
          refine r_callVi (As := [.int 2]) (rest := []) (wr := []) F hK hP hD hS hA hO hE (c_X8_refuse hO b q 2) k_550 kv_X8_refuse 1 rfl (by decide +kernel) ⟨Nat.le_of_ble_eq_true rfl, Nat.le_of_ble_eq_true rfl⟩ [0] [] rfl rfl (by decide) (by decide) (by decide) 0 8 rfl rfl rfl hl.1 rfl (Nat.le_of_ble_eq_true rfl) dX8_loop_24 ⟨Nat.le_of_ble_eq_true rfl, Nat.le_of_ble_eq_true rfl⟩ (w1 := fun u1 => []) (fun _ => rfl) (fun r2 u1 H locs hp hP hD hS => ?_)
          subst hp
          exact ret (-1) (fun _ => 0, fun _ _ => 0) _ _ _ _ _ _ rfl (by refine (bw_loop_no (fun q9 => ?_)).symm; obtain ⟨⟨q1, q2⟩, q3, q4⟩ := q9; first | exact absurd q1 (Int32.not_le.mpr h1) | exact absurd q2 (Int32.not_le.mpr h2) | exact absurd q3 (Int32.not_le.mpr h3) | exact h4 q4) (bw_subP (isC := []) hP rfl) (hD.sub [] (by decide) rfl) hS (Nat.le_of_ble_eq_true rfl) (Nat.le_of_ble_eq_true rfl) dX8_loop_27
theorem dX3_put_0 : decode cX3_put 0 = .ok (.bipush 24, 2) := by decide +kernel
theorem dX3_put_2 : decode cX3_put 2 = .ok (.istore_n 2, 1) := by decide +kernel
theorem dX3_put_3 : decode cX3_put 3 = .ok (.iload_n 2, 1) := by decide +kernel
theorem dX3_put_4 : decode cX3_put 4 = .ok (.ifCond .lt 32, 3) := by decide +kernel
theorem dX3_put_7 : decode cX3_put 7 = .ok (.aload_n 0, 1) := by decide +kernel
theorem dX3_put_8 : decode cX3_put 8 = .ok (.getfield 9, 3) := by decide +kernel
theorem dX3_put_11 : decode cX3_put 11 = .ok (.aload_n 0, 1) := by decide +kernel
theorem dX3_put_12 : decode cX3_put 12 = .ok (.getfield 15, 3) := by decide +kernel
theorem dX3_put_15 : decode cX3_put 15 = .ok (.iload_n 1, 1) := by decide +kernel
theorem dX3_put_16 : decode cX3_put 16 = .ok (.iload_n 2, 1) := by decide +kernel
theorem dX3_put_17 : decode cX3_put 17 = .ok (.ishr, 1) := by decide +kernel
theorem dX3_put_18 : decode cX3_put 18 = .ok (.i2b, 1) := by decide +kernel
theorem dX3_put_19 : decode cX3_put 19 = .ok (.bastore, 1) := by decide +kernel
theorem dX3_put_20 : decode cX3_put 20 = .ok (.aload_n 0, 1) := by decide +kernel
theorem dX3_put_21 : decode cX3_put 21 = .ok (.dup, 1) := by decide +kernel
theorem dX3_put_22 : decode cX3_put 22 = .ok (.getfield 15, 3) := by decide +kernel
theorem dX3_put_25 : decode cX3_put 25 = .ok (.iconst 1, 1) := by decide +kernel
theorem dX3_put_26 : decode cX3_put 26 = .ok (.iadd, 1) := by decide +kernel
theorem dX3_put_27 : decode cX3_put 27 = .ok (.putfield 15, 3) := by decide +kernel
theorem dX3_put_30 : decode cX3_put 30 = .ok (.iinc 2 (-8), 3) := by decide +kernel
theorem dX3_put_33 : decode cX3_put 33 = .ok (.goto (-30), 3) := by decide +kernel
theorem dX3_put_36 : decode cX3_put 36 = .ok (.return_, 1) := by decide +kernel
abbrev rm_X3_put_0 : Room := { frames := 0, cells := 0, slots := 0, locals := 0 }
set_option maxRecDepth 100000 in
set_option maxHeartbeats 4000000 in
theorem c_X3_put_0 {l : Launch} {E : (Nat → Prop) → State → Prop} (hO : bw_Ok E) {G : va_G} {cI cB cJ cN cW : ClassId} (b : Nat) (q : Nat → Nat) (f : Nat → Int32) (x : Int32) : bw_Cv (S := bw_U) l yX3_put (bw_ws (Cond.code yX3_put cX3_put 3 none)) rm_X3_put_0 E G (bw_kt cI cB cJ cN cW) [.ref b, .int x] [(b, .inr (3, [.ref (q 20), .int 0, .ref (q 21), .ref (q 22), .int 0, .int 0, .ref (q 23), .ref (q 24), .int 0, .int 24, .int 0, .int 0, .long 0, .int 0])), ((q 20), .inl (cB, 900, .inl f))] (fun _ => True) (fun u => [(b, .inr (3, [.ref (q 20), .int 4, .ref (q 21), .ref (q 22), .int 0, .int 0, .ref (q 23), .ref (q 24), .int 0, .int 24, .int 0, .int 0, .long 0, .int 0])), ((q 20), .inl (cB, 900, .inl (u.2 0)))]) := by
  refine bw_Cv.of (cc := cX3_put) (maxL := 3) (by decide) rfl (Nat.le_of_ble_eq_true rfl) ?_
  intro p e s m below meth c A Q hx hb hml hts hown hin hK hA hS hP hD hE ret ls hl
  have F : CallFix p m c cX3_put 3 s ([.ref b, .int x] : List Value).toArray bw_T RX3 := ⟨hx, hb, hml, hown, fun w h => hts w (List.mem_cons_of_mem _ h)⟩
  have hl : lv_has ls 3 [(0, .ref b), (1, .int x)] := hl
  refine lv_bipush (v := 24) hx hb dX3_put_0 (by decide) ?_
  refine lv_istore_n (lv' := [(2, .int 24), (0, .ref b), (1, .int x)]) hx hb dX3_put_2 rfl hl (by decide) rfl (fun ls hl => ?_)
  refine lv_iload_n hx hb dX3_put_3 rfl (lv_at hl 0 rfl) ?_
  refine lv_if_lt (tgt := 36) hx hb dX3_put_4 (by decide) (fun h9 => absurd h9 (by decide)) (fun _ => ?_)
  refine lv_aload_n hx hb dX3_put_7 rfl (lv_at hl 1 rfl) ?_
  refine r_get F hK hP 0 0 rfl rfl in_X3 (by decide) k_261 rfl dX3_put_8 ?_
  refine lv_aload_n hx hb dX3_put_11 rfl (lv_at hl 1 rfl) ?_
  refine r_get F hK hP 0 1 rfl rfl in_X3 (by decide) k_262 rfl dX3_put_12 ?_
  refine lv_iload_n hx hb dX3_put_15 rfl (lv_at hl 2 rfl) ?_
  refine lv_iload_n hx hb dX3_put_16 rfl (lv_at hl 0 rfl) ?_
  refine r_ishr (v := (x >>> (24 &&& 31))) F dX3_put_17 rfl ?_
  refine lv_i2b (v := ((x >>> (24 &&& 31))).toInt8.toInt32) hx hb dX3_put_18 rfl ?_
  refine r_bastX F hK hP hD hS 1 1 rfl rfl (bw_vin (by decide)) dX3_put_19 (w1 := fun f1 => [(b, .inr (3, [.ref (q 20), .int 0, .ref (q 21), .ref (q 22), .int 0, .int 0, .ref (q 23), .ref (q 24), .int 0, .int 24, .int 0, .int 0, .long 0, .int 0])), ((q 20), .inl (cB, 900, .inl f1))]) (fun _ => rfl) (fun f1 H locs hP hD hS => ?_)
  refine lv_aload_n hx hb dX3_put_20 rfl (lv_at hl 1 rfl) ?_
  refine lv_dup hx hb dX3_put_21 rfl ?_
  refine r_get F hK hP 0 1 rfl rfl in_X3 (by decide) k_262 rfl dX3_put_22 ?_
  refine lv_iconst (v := 1) hx hb dX3_put_25 (by decide) ?_
  refine r_iadd (v := 1) F dX3_put_26 (by decide) ?_
  refine r_put F hK hP hD hS 0 1 rfl rfl in_X3 tyX3 tyX3_ok nmX3 (by decide) k_262 rfl rfl rfl (Nat.le_of_ble_eq_true rfl) dX3_put_27 (w1 := [(b, .inr (3, [.ref (q 20), .int 1, .ref (q 21), .ref (q 22), .int 0, .int 0, .ref (q 23), .ref (q 24), .int 0, .int 24, .int 0, .int 0, .long 0, .int 0])), ((q 20), .inl (cB, 900, .inl f1))]) rfl (fun H locs hP hD hS => ?_)
  refine lv_iinc (v := 16) (lv' := [(2, .int 16), (0, .ref b), (1, .int x)]) hx hb dX3_put_30 hl (k := 0) rfl (by decide) (by decide) rfl (fun ls hl => ?_)
  refine lv_goto (tgt := 3) hx hb dX3_put_33 (by decide) ?_
  refine lv_iload_n hx hb dX3_put_3 rfl (lv_at hl 0 rfl) ?_
  refine lv_if_lt (tgt := 36) hx hb dX3_put_4 (by decide) (fun h9 => absurd h9 (by decide)) (fun _ => ?_)
  refine lv_aload_n hx hb dX3_put_7 rfl (lv_at hl 1 rfl) ?_
  refine r_get F hK hP 0 0 rfl rfl in_X3 (by decide) k_261 rfl dX3_put_8 ?_
  refine lv_aload_n hx hb dX3_put_11 rfl (lv_at hl 1 rfl) ?_
  refine r_get F hK hP 0 1 rfl rfl in_X3 (by decide) k_262 rfl dX3_put_12 ?_
  refine lv_iload_n hx hb dX3_put_15 rfl (lv_at hl 2 rfl) ?_
  refine lv_iload_n hx hb dX3_put_16 rfl (lv_at hl 0 rfl) ?_
  refine r_ishr (v := (x >>> (16 &&& 31))) F dX3_put_17 rfl ?_
  refine lv_i2b (v := ((x >>> (16 &&& 31))).toInt8.toInt32) hx hb dX3_put_18 rfl ?_
  refine r_bastX F hK hP hD hS 1 1 rfl rfl (bw_vin (by decide)) dX3_put_19 (w1 := fun f2 => [(b, .inr (3, [.ref (q 20), .int 1, .ref (q 21), .ref (q 22), .int 0, .int 0, .ref (q 23), .ref (q 24), .int 0, .int 24, .int 0, .int 0, .long 0, .int 0])), ((q 20), .inl (cB, 900, .inl f2))]) (fun _ => rfl) (fun f2 H locs hP hD hS => ?_)
  refine lv_aload_n hx hb dX3_put_20 rfl (lv_at hl 1 rfl) ?_
  refine lv_dup hx hb dX3_put_21 rfl ?_
  refine r_get F hK hP 0 1 rfl rfl in_X3 (by decide) k_262 rfl dX3_put_22 ?_
  refine lv_iconst (v := 1) hx hb dX3_put_25 (by decide) ?_
  refine r_iadd (v := 2) F dX3_put_26 (by decide) ?_
  refine r_put F hK hP hD hS 0 1 rfl rfl in_X3 tyX3 tyX3_ok nmX3 (by decide) k_262 rfl rfl rfl (Nat.le_of_ble_eq_true rfl) dX3_put_27 (w1 := [(b, .inr (3, [.ref (q 20), .int 2, .ref (q 21), .ref (q 22), .int 0, .int 0, .ref (q 23), .ref (q 24), .int 0, .int 24, .int 0, .int 0, .long 0, .int 0])), ((q 20), .inl (cB, 900, .inl f2))]) rfl (fun H locs hP hD hS => ?_)
  refine lv_iinc (v := 8) (lv' := [(2, .int 8), (0, .ref b), (1, .int x)]) hx hb dX3_put_30 hl (k := 0) rfl (by decide) (by decide) rfl (fun ls hl => ?_)
  refine lv_goto (tgt := 3) hx hb dX3_put_33 (by decide) ?_
  refine lv_iload_n hx hb dX3_put_3 rfl (lv_at hl 0 rfl) ?_
  refine lv_if_lt (tgt := 36) hx hb dX3_put_4 (by decide) (fun h9 => absurd h9 (by decide)) (fun _ => ?_)
  refine lv_aload_n hx hb dX3_put_7 rfl (lv_at hl 1 rfl) ?_
  refine r_get F hK hP 0 0 rfl rfl in_X3 (by decide) k_261 rfl dX3_put_8 ?_
  refine lv_aload_n hx hb dX3_put_11 rfl (lv_at hl 1 rfl) ?_
  refine r_get F hK hP 0 1 rfl rfl in_X3 (by decide) k_262 rfl dX3_put_12 ?_
  refine lv_iload_n hx hb dX3_put_15 rfl (lv_at hl 2 rfl) ?_
  refine lv_iload_n hx hb dX3_put_16 rfl (lv_at hl 0 rfl) ?_
  refine r_ishr (v := (x >>> (8 &&& 31))) F dX3_put_17 rfl ?_
  refine lv_i2b (v := ((x >>> (8 &&& 31))).toInt8.toInt32) hx hb dX3_put_18 rfl ?_
  refine r_bastX F hK hP hD hS 1 1 rfl rfl (bw_vin (by decide)) dX3_put_19 (w1 := fun f3 => [(b, .inr (3, [.ref (q 20), .int 2, .ref (q 21), .ref (q 22), .int 0, .int 0, .ref (q 23), .ref (q 24), .int 0, .int 24, .int 0, .int 0, .long 0, .int 0])), ((q 20), .inl (cB, 900, .inl f3))]) (fun _ => rfl) (fun f3 H locs hP hD hS => ?_)
  refine lv_aload_n hx hb dX3_put_20 rfl (lv_at hl 1 rfl) ?_
  refine lv_dup hx hb dX3_put_21 rfl ?_
  refine r_get F hK hP 0 1 rfl rfl in_X3 (by decide) k_262 rfl dX3_put_22 ?_
  refine lv_iconst (v := 1) hx hb dX3_put_25 (by decide) ?_
  refine r_iadd (v := 3) F dX3_put_26 (by decide) ?_
  refine r_put F hK hP hD hS 0 1 rfl rfl in_X3 tyX3 tyX3_ok nmX3 (by decide) k_262 rfl rfl rfl (Nat.le_of_ble_eq_true rfl) dX3_put_27 (w1 := [(b, .inr (3, [.ref (q 20), .int 3, .ref (q 21), .ref (q 22), .int 0, .int 0, .ref (q 23), .ref (q 24), .int 0, .int 24, .int 0, .int 0, .long 0, .int 0])), ((q 20), .inl (cB, 900, .inl f3))]) rfl (fun H locs hP hD hS => ?_)
  refine lv_iinc (v := 0) (lv' := [(2, .int 0), (0, .ref b), (1, .int x)]) hx hb dX3_put_30 hl (k := 0) rfl (by decide) (by decide) rfl (fun ls hl => ?_)
  refine lv_goto (tgt := 3) hx hb dX3_put_33 (by decide) ?_
  refine lv_iload_n hx hb dX3_put_3 rfl (lv_at hl 0 rfl) ?_
  refine lv_if_lt (tgt := 36) hx hb dX3_put_4 (by decide) (fun h9 => absurd h9 (by decide)) (fun _ => ?_)
  refine lv_aload_n hx hb dX3_put_7 rfl (lv_at hl 1 rfl) ?_
  refine r_get F hK hP 0 0 rfl rfl in_X3 (by decide) k_261 rfl dX3_put_8 ?_
  refine lv_aload_n hx hb dX3_put_11 rfl (lv_at hl 1 rfl) ?_
  refine r_get F hK hP 0 1 rfl rfl in_X3 (by decide) k_262 rfl dX3_put_12 ?_
  refine lv_iload_n hx hb dX3_put_15 rfl (lv_at hl 2 rfl) ?_
  refine lv_iload_n hx hb dX3_put_16 rfl (lv_at hl 0 rfl) ?_
  refine r_ishr (v := (x >>> (0 &&& 31))) F dX3_put_17 rfl ?_
  refine lv_i2b (v := ((x >>> (0 &&& 31))).toInt8.toInt32) hx hb dX3_put_18 rfl ?_
  refine r_bastX F hK hP hD hS 1 1 rfl rfl (bw_vin (by decide)) dX3_put_19 (w1 := fun f4 => [(b, .inr (3, [.ref (q 20), .int 3, .ref (q 21), .ref (q 22), .int 0, .int 0, .ref (q 23), .ref (q 24), .int 0, .int 24, .int 0, .int 0, .long 0, .int 0])), ((q 20), .inl (cB, 900, .inl f4))]) (fun _ => rfl) (fun f4 H locs hP hD hS => ?_)
  refine lv_aload_n hx hb dX3_put_20 rfl (lv_at hl 1 rfl) ?_
  refine lv_dup hx hb dX3_put_21 rfl ?_
  refine r_get F hK hP 0 1 rfl rfl in_X3 (by decide) k_262 rfl dX3_put_22 ?_
  refine lv_iconst (v := 1) hx hb dX3_put_25 (by decide) ?_
  refine r_iadd (v := 4) F dX3_put_26 (by decide) ?_
  refine r_put F hK hP hD hS 0 1 rfl rfl in_X3 tyX3 tyX3_ok nmX3 (by decide) k_262 rfl rfl rfl (Nat.le_of_ble_eq_true rfl) dX3_put_27 (w1 := [(b, .inr (3, [.ref (q 20), .int 4, .ref (q 21), .ref (q 22), .int 0, .int 0, .ref (q 23), .ref (q 24), .int 0, .int 24, .int 0, .int 0, .long 0, .int 0])), ((q 20), .inl (cB, 900, .inl f4))]) rfl (fun H locs hP hD hS => ?_)
  refine lv_iinc (v := (-8)) (lv' := [(2, .int (-8)), (0, .ref b), (1, .int x)]) hx hb dX3_put_30 hl (k := 0) rfl (by decide) (by decide) rfl (fun ls hl => ?_)
  refine lv_goto (tgt := 3) hx hb dX3_put_33 (by decide) ?_
  refine lv_iload_n hx hb dX3_put_3 rfl (lv_at hl 0 rfl) ?_
  refine lv_if_lt (tgt := 36) hx hb dX3_put_4 (by decide) (fun _ => ?_) (fun h9 => absurd (by decide) h9)
  exact ret (fun _ => 0, fun _ => f4) _ _ _ _ _ _ trivial (bw_subP (isC := [0, 1]) hP rfl) (hD.sub [0, 1] (by decide) rfl) hS (Nat.le_of_ble_eq_true rfl) (Nat.le_of_ble_eq_true rfl) dX3_put_36
abbrev rm_X3_put_4 : Room := { frames := 0, cells := 0, slots := 0, locals := 0 }
set_option maxRecDepth 100000 in
set_option maxHeartbeats 4000000 in
theorem c_X3_put_4 {l : Launch} {E : (Nat → Prop) → State → Prop} (hO : bw_Ok E) {G : va_G} {cI cB cJ cN cW : ClassId} (b : Nat) (q : Nat → Nat) (f : Nat → Int32) (x : Int32) : bw_Cv (S := bw_U) l yX3_put (bw_ws (Cond.code yX3_put cX3_put 3 none)) rm_X3_put_4 E G (bw_kt cI cB cJ cN cW) [.ref b, .int x] [(b, .inr (3, [.ref (q 20), .int 4, .ref (q 21), .ref (q 22), .int 0, .int 0, .ref (q 23), .ref (q 24), .int 0, .int 24, .int 0, .int 0, .long 0, .int 0])), ((q 20), .inl (cB, 900, .inl f))] (fun _ => True) (fun u => [(b, .inr (3, [.ref (q 20), .int 8, .ref (q 21), .ref (q 22), .int 0, .int 0, .ref (q 23), .ref (q 24), .int 0, .int 24, .int 0, .int 0, .long 0, .int 0])), ((q 20), .inl (cB, 900, .inl (u.2 0)))]) := by
  refine bw_Cv.of (cc := cX3_put) (maxL := 3) (by decide) rfl (Nat.le_of_ble_eq_true rfl) ?_
  intro p e s m below meth c A Q hx hb hml hts hown hin hK hA hS hP hD hE ret ls hl
  have F : CallFix p m c cX3_put 3 s ([.ref b, .int x] : List Value).toArray bw_T RX3 := ⟨hx, hb, hml, hown, fun w h => hts w (List.mem_cons_of_mem _ h)⟩
  have hl : lv_has ls 3 [(0, .ref b), (1, .int x)] := hl
  refine lv_bipush (v := 24) hx hb dX3_put_0 (by decide) ?_
  refine lv_istore_n (lv' := [(2, .int 24), (0, .ref b), (1, .int x)]) hx hb dX3_put_2 rfl hl (by decide) rfl (fun ls hl => ?_)
  refine lv_iload_n hx hb dX3_put_3 rfl (lv_at hl 0 rfl) ?_
  refine lv_if_lt (tgt := 36) hx hb dX3_put_4 (by decide) (fun h9 => absurd h9 (by decide)) (fun _ => ?_)
  refine lv_aload_n hx hb dX3_put_7 rfl (lv_at hl 1 rfl) ?_
  refine r_get F hK hP 0 0 rfl rfl in_X3 (by decide) k_261 rfl dX3_put_8 ?_
  refine lv_aload_n hx hb dX3_put_11 rfl (lv_at hl 1 rfl) ?_
  refine r_get F hK hP 0 1 rfl rfl in_X3 (by decide) k_262 rfl dX3_put_12 ?_
  refine lv_iload_n hx hb dX3_put_15 rfl (lv_at hl 2 rfl) ?_
  refine lv_iload_n hx hb dX3_put_16 rfl (lv_at hl 0 rfl) ?_
  refine r_ishr (v := (x >>> (24 &&& 31))) F dX3_put_17 rfl ?_
  refine lv_i2b (v := ((x >>> (24 &&& 31))).toInt8.toInt32) hx hb dX3_put_18 rfl ?_
  refine r_bastX F hK hP hD hS 1 1 rfl rfl (bw_vin (by decide)) dX3_put_19 (w1 := fun f1 => [(b, .inr (3, [.ref (q 20), .int 4, .ref (q 21), .ref (q 22), .int 0, .int 0, .ref (q 23), .ref (q 24), .int 0, .int 24, .int 0, .int 0, .long 0, .int 0])), ((q 20), .inl (cB, 900, .inl f1))]) (fun _ => rfl) (fun f1 H locs hP hD hS => ?_)
  refine lv_aload_n hx hb dX3_put_20 rfl (lv_at hl 1 rfl) ?_
  refine lv_dup hx hb dX3_put_21 rfl ?_
  refine r_get F hK hP 0 1 rfl rfl in_X3 (by decide) k_262 rfl dX3_put_22 ?_
  refine lv_iconst (v := 1) hx hb dX3_put_25 (by decide) ?_
  refine r_iadd (v := 5) F dX3_put_26 (by decide) ?_
  refine r_put F hK hP hD hS 0 1 rfl rfl in_X3 tyX3 tyX3_ok nmX3 (by decide) k_262 rfl rfl rfl (Nat.le_of_ble_eq_true rfl) dX3_put_27 (w1 := [(b, .inr (3, [.ref (q 20), .int 5, .ref (q 21), .ref (q 22), .int 0, .int 0, .ref (q 23), .ref (q 24), .int 0, .int 24, .int 0, .int 0, .long 0, .int 0])), ((q 20), .inl (cB, 900, .inl f1))]) rfl (fun H locs hP hD hS => ?_)
  refine lv_iinc (v := 16) (lv' := [(2, .int 16), (0, .ref b), (1, .int x)]) hx hb dX3_put_30 hl (k := 0) rfl (by decide) (by decide) rfl (fun ls hl => ?_)
  refine lv_goto (tgt := 3) hx hb dX3_put_33 (by decide) ?_
  refine lv_iload_n hx hb dX3_put_3 rfl (lv_at hl 0 rfl) ?_
  refine lv_if_lt (tgt := 36) hx hb dX3_put_4 (by decide) (fun h9 => absurd h9 (by decide)) (fun _ => ?_)
  refine lv_aload_n hx hb dX3_put_7 rfl (lv_at hl 1 rfl) ?_
  refine r_get F hK hP 0 0 rfl rfl in_X3 (by decide) k_261 rfl dX3_put_8 ?_
  refine lv_aload_n hx hb dX3_put_11 rfl (lv_at hl 1 rfl) ?_
  refine r_get F hK hP 0 1 rfl rfl in_X3 (by decide) k_262 rfl dX3_put_12 ?_
  refine lv_iload_n hx hb dX3_put_15 rfl (lv_at hl 2 rfl) ?_
  refine lv_iload_n hx hb dX3_put_16 rfl (lv_at hl 0 rfl) ?_
  refine r_ishr (v := (x >>> (16 &&& 31))) F dX3_put_17 rfl ?_
  refine lv_i2b (v := ((x >>> (16 &&& 31))).toInt8.toInt32) hx hb dX3_put_18 rfl ?_
  refine r_bastX F hK hP hD hS 1 1 rfl rfl (bw_vin (by decide)) dX3_put_19 (w1 := fun f2 => [(b, .inr (3, [.ref (q 20), .int 5, .ref (q 21), .ref (q 22), .int 0, .int 0, .ref (q 23), .ref (q 24), .int 0, .int 24, .int 0, .int 0, .long 0, .int 0])), ((q 20), .inl (cB, 900, .inl f2))]) (fun _ => rfl) (fun f2 H locs hP hD hS => ?_)
  refine lv_aload_n hx hb dX3_put_20 rfl (lv_at hl 1 rfl) ?_
  refine lv_dup hx hb dX3_put_21 rfl ?_
  refine r_get F hK hP 0 1 rfl rfl in_X3 (by decide) k_262 rfl dX3_put_22 ?_
  refine lv_iconst (v := 1) hx hb dX3_put_25 (by decide) ?_
  refine r_iadd (v := 6) F dX3_put_26 (by decide) ?_
  refine r_put F hK hP hD hS 0 1 rfl rfl in_X3 tyX3 tyX3_ok nmX3 (by decide) k_262 rfl rfl rfl (Nat.le_of_ble_eq_true rfl) dX3_put_27 (w1 := [(b, .inr (3, [.ref (q 20), .int 6, .ref (q 21), .ref (q 22), .int 0, .int 0, .ref (q 23), .ref (q 24), .int 0, .int 24, .int 0, .int 0, .long 0, .int 0])), ((q 20), .inl (cB, 900, .inl f2))]) rfl (fun H locs hP hD hS => ?_)
  refine lv_iinc (v := 8) (lv' := [(2, .int 8), (0, .ref b), (1, .int x)]) hx hb dX3_put_30 hl (k := 0) rfl (by decide) (by decide) rfl (fun ls hl => ?_)
  refine lv_goto (tgt := 3) hx hb dX3_put_33 (by decide) ?_
  refine lv_iload_n hx hb dX3_put_3 rfl (lv_at hl 0 rfl) ?_
  refine lv_if_lt (tgt := 36) hx hb dX3_put_4 (by decide) (fun h9 => absurd h9 (by decide)) (fun _ => ?_)
  refine lv_aload_n hx hb dX3_put_7 rfl (lv_at hl 1 rfl) ?_
  refine r_get F hK hP 0 0 rfl rfl in_X3 (by decide) k_261 rfl dX3_put_8 ?_
  refine lv_aload_n hx hb dX3_put_11 rfl (lv_at hl 1 rfl) ?_
  refine r_get F hK hP 0 1 rfl rfl in_X3 (by decide) k_262 rfl dX3_put_12 ?_
  refine lv_iload_n hx hb dX3_put_15 rfl (lv_at hl 2 rfl) ?_
  refine lv_iload_n hx hb dX3_put_16 rfl (lv_at hl 0 rfl) ?_
  refine r_ishr (v := (x >>> (8 &&& 31))) F dX3_put_17 rfl ?_
  refine lv_i2b (v := ((x >>> (8 &&& 31))).toInt8.toInt32) hx hb dX3_put_18 rfl ?_
  refine r_bastX F hK hP hD hS 1 1 rfl rfl (bw_vin (by decide)) dX3_put_19 (w1 := fun f3 => [(b, .inr (3, [.ref (q 20), .int 6, .ref (q 21), .ref (q 22), .int 0, .int 0, .ref (q 23), .ref (q 24), .int 0, .int 24, .int 0, .int 0, .long 0, .int 0])), ((q 20), .inl (cB, 900, .inl f3))]) (fun _ => rfl) (fun f3 H locs hP hD hS => ?_)
  refine lv_aload_n hx hb dX3_put_20 rfl (lv_at hl 1 rfl) ?_
  refine lv_dup hx hb dX3_put_21 rfl ?_
  refine r_get F hK hP 0 1 rfl rfl in_X3 (by decide) k_262 rfl dX3_put_22 ?_
  refine lv_iconst (v := 1) hx hb dX3_put_25 (by decide) ?_
  refine r_iadd (v := 7) F dX3_put_26 (by decide) ?_
  refine r_put F hK hP hD hS 0 1 rfl rfl in_X3 tyX3 tyX3_ok nmX3 (by decide) k_262 rfl rfl rfl (Nat.le_of_ble_eq_true rfl) dX3_put_27 (w1 := [(b, .inr (3, [.ref (q 20), .int 7, .ref (q 21), .ref (q 22), .int 0, .int 0, .ref (q 23), .ref (q 24), .int 0, .int 24, .int 0, .int 0, .long 0, .int 0])), ((q 20), .inl (cB, 900, .inl f3))]) rfl (fun H locs hP hD hS => ?_)
  refine lv_iinc (v := 0) (lv' := [(2, .int 0), (0, .ref b), (1, .int x)]) hx hb dX3_put_30 hl (k := 0) rfl (by decide) (by decide) rfl (fun ls hl => ?_)
  refine lv_goto (tgt := 3) hx hb dX3_put_33 (by decide) ?_
  refine lv_iload_n hx hb dX3_put_3 rfl (lv_at hl 0 rfl) ?_
  refine lv_if_lt (tgt := 36) hx hb dX3_put_4 (by decide) (fun h9 => absurd h9 (by decide)) (fun _ => ?_)
  refine lv_aload_n hx hb dX3_put_7 rfl (lv_at hl 1 rfl) ?_
  refine r_get F hK hP 0 0 rfl rfl in_X3 (by decide) k_261 rfl dX3_put_8 ?_
  refine lv_aload_n hx hb dX3_put_11 rfl (lv_at hl 1 rfl) ?_
  refine r_get F hK hP 0 1 rfl rfl in_X3 (by decide) k_262 rfl dX3_put_12 ?_
  refine lv_iload_n hx hb dX3_put_15 rfl (lv_at hl 2 rfl) ?_
  refine lv_iload_n hx hb dX3_put_16 rfl (lv_at hl 0 rfl) ?_
  refine r_ishr (v := (x >>> (0 &&& 31))) F dX3_put_17 rfl ?_
  refine lv_i2b (v := ((x >>> (0 &&& 31))).toInt8.toInt32) hx hb dX3_put_18 rfl ?_
  refine r_bastX F hK hP hD hS 1 1 rfl rfl (bw_vin (by decide)) dX3_put_19 (w1 := fun f4 => [(b, .inr (3, [.ref (q 20), .int 7, .ref (q 21), .ref (q 22), .int 0, .int 0, .ref (q 23), .ref (q 24), .int 0, .int 24, .int 0, .int 0, .long 0, .int 0])), ((q 20), .inl (cB, 900, .inl f4))]) (fun _ => rfl) (fun f4 H locs hP hD hS => ?_)
  refine lv_aload_n hx hb dX3_put_20 rfl (lv_at hl 1 rfl) ?_
  refine lv_dup hx hb dX3_put_21 rfl ?_
  refine r_get F hK hP 0 1 rfl rfl in_X3 (by decide) k_262 rfl dX3_put_22 ?_
  refine lv_iconst (v := 1) hx hb dX3_put_25 (by decide) ?_
  refine r_iadd (v := 8) F dX3_put_26 (by decide) ?_
  refine r_put F hK hP hD hS 0 1 rfl rfl in_X3 tyX3 tyX3_ok nmX3 (by decide) k_262 rfl rfl rfl (Nat.le_of_ble_eq_true rfl) dX3_put_27 (w1 := [(b, .inr (3, [.ref (q 20), .int 8, .ref (q 21), .ref (q 22), .int 0, .int 0, .ref (q 23), .ref (q 24), .int 0, .int 24, .int 0, .int 0, .long 0, .int 0])), ((q 20), .inl (cB, 900, .inl f4))]) rfl (fun H locs hP hD hS => ?_)
  refine lv_iinc (v := (-8)) (lv' := [(2, .int (-8)), (0, .ref b), (1, .int x)]) hx hb dX3_put_30 hl (k := 0) rfl (by decide) (by decide) rfl (fun ls hl => ?_)
  refine lv_goto (tgt := 3) hx hb dX3_put_33 (by decide) ?_
  refine lv_iload_n hx hb dX3_put_3 rfl (lv_at hl 0 rfl) ?_
  refine lv_if_lt (tgt := 36) hx hb dX3_put_4 (by decide) (fun _ => ?_) (fun h9 => absurd (by decide) h9)
  exact ret (fun _ => 0, fun _ => f4) _ _ _ _ _ _ trivial (bw_subP (isC := [0, 1]) hP rfl) (hD.sub [0, 1] (by decide) rfl) hS (Nat.le_of_ble_eq_true rfl) (Nat.le_of_ble_eq_true rfl) dX3_put_36
abbrev rm_X3_put_8 : Room := { frames := 0, cells := 0, slots := 0, locals := 0 }
set_option maxRecDepth 100000 in
set_option maxHeartbeats 4000000 in
theorem c_X3_put_8 {l : Launch} {E : (Nat → Prop) → State → Prop} (hO : bw_Ok E) {G : va_G} {cI cB cJ cN cW : ClassId} (b : Nat) (q : Nat → Nat) (f : Nat → Int32) (x : Int32) : bw_Cv (S := bw_U) l yX3_put (bw_ws (Cond.code yX3_put cX3_put 3 none)) rm_X3_put_8 E G (bw_kt cI cB cJ cN cW) [.ref b, .int x] [(b, .inr (3, [.ref (q 20), .int 8, .ref (q 21), .ref (q 22), .int 0, .int 0, .ref (q 23), .ref (q 24), .int 0, .int 24, .int 0, .int 0, .long 0, .int 0])), ((q 20), .inl (cB, 900, .inl f))] (fun _ => True) (fun u => [(b, .inr (3, [.ref (q 20), .int 12, .ref (q 21), .ref (q 22), .int 0, .int 0, .ref (q 23), .ref (q 24), .int 0, .int 24, .int 0, .int 0, .long 0, .int 0])), ((q 20), .inl (cB, 900, .inl (u.2 0)))]) := by
  refine bw_Cv.of (cc := cX3_put) (maxL := 3) (by decide) rfl (Nat.le_of_ble_eq_true rfl) ?_
  intro p e s m below meth c A Q hx hb hml hts hown hin hK hA hS hP hD hE ret ls hl
  have F : CallFix p m c cX3_put 3 s ([.ref b, .int x] : List Value).toArray bw_T RX3 := ⟨hx, hb, hml, hown, fun w h => hts w (List.mem_cons_of_mem _ h)⟩
  have hl : lv_has ls 3 [(0, .ref b), (1, .int x)] := hl
  refine lv_bipush (v := 24) hx hb dX3_put_0 (by decide) ?_
  refine lv_istore_n (lv' := [(2, .int 24), (0, .ref b), (1, .int x)]) hx hb dX3_put_2 rfl hl (by decide) rfl (fun ls hl => ?_)
  refine lv_iload_n hx hb dX3_put_3 rfl (lv_at hl 0 rfl) ?_
  refine lv_if_lt (tgt := 36) hx hb dX3_put_4 (by decide) (fun h9 => absurd h9 (by decide)) (fun _ => ?_)
  refine lv_aload_n hx hb dX3_put_7 rfl (lv_at hl 1 rfl) ?_
  refine r_get F hK hP 0 0 rfl rfl in_X3 (by decide) k_261 rfl dX3_put_8 ?_
  refine lv_aload_n hx hb dX3_put_11 rfl (lv_at hl 1 rfl) ?_
  refine r_get F hK hP 0 1 rfl rfl in_X3 (by decide) k_262 rfl dX3_put_12 ?_
  refine lv_iload_n hx hb dX3_put_15 rfl (lv_at hl 2 rfl) ?_
  refine lv_iload_n hx hb dX3_put_16 rfl (lv_at hl 0 rfl) ?_
  refine r_ishr (v := (x >>> (24 &&& 31))) F dX3_put_17 rfl ?_
  refine lv_i2b (v := ((x >>> (24 &&& 31))).toInt8.toInt32) hx hb dX3_put_18 rfl ?_
  refine r_bastX F hK hP hD hS 1 1 rfl rfl (bw_vin (by decide)) dX3_put_19 (w1 := fun f1 => [(b, .inr (3, [.ref (q 20), .int 8, .ref (q 21), .ref (q 22), .int 0, .int 0, .ref (q 23), .ref (q 24), .int 0, .int 24, .int 0, .int 0, .long 0, .int 0])), ((q 20), .inl (cB, 900, .inl f1))]) (fun _ => rfl) (fun f1 H locs hP hD hS => ?_)
  refine lv_aload_n hx hb dX3_put_20 rfl (lv_at hl 1 rfl) ?_
  refine lv_dup hx hb dX3_put_21 rfl ?_
  refine r_get F hK hP 0 1 rfl rfl in_X3 (by decide) k_262 rfl dX3_put_22 ?_
  refine lv_iconst (v := 1) hx hb dX3_put_25 (by decide) ?_
  refine r_iadd (v := 9) F dX3_put_26 (by decide) ?_
  refine r_put F hK hP hD hS 0 1 rfl rfl in_X3 tyX3 tyX3_ok nmX3 (by decide) k_262 rfl rfl rfl (Nat.le_of_ble_eq_true rfl) dX3_put_27 (w1 := [(b, .inr (3, [.ref (q 20), .int 9, .ref (q 21), .ref (q 22), .int 0, .int 0, .ref (q 23), .ref (q 24), .int 0, .int 24, .int 0, .int 0, .long 0, .int 0])), ((q 20), .inl (cB, 900, .inl f1))]) rfl (fun H locs hP hD hS => ?_)
  refine lv_iinc (v := 16) (lv' := [(2, .int 16), (0, .ref b), (1, .int x)]) hx hb dX3_put_30 hl (k := 0) rfl (by decide) (by decide) rfl (fun ls hl => ?_)
  refine lv_goto (tgt := 3) hx hb dX3_put_33 (by decide) ?_
  refine lv_iload_n hx hb dX3_put_3 rfl (lv_at hl 0 rfl) ?_
  refine lv_if_lt (tgt := 36) hx hb dX3_put_4 (by decide) (fun h9 => absurd h9 (by decide)) (fun _ => ?_)
  refine lv_aload_n hx hb dX3_put_7 rfl (lv_at hl 1 rfl) ?_
  refine r_get F hK hP 0 0 rfl rfl in_X3 (by decide) k_261 rfl dX3_put_8 ?_
  refine lv_aload_n hx hb dX3_put_11 rfl (lv_at hl 1 rfl) ?_
  refine r_get F hK hP 0 1 rfl rfl in_X3 (by decide) k_262 rfl dX3_put_12 ?_
  refine lv_iload_n hx hb dX3_put_15 rfl (lv_at hl 2 rfl) ?_
  refine lv_iload_n hx hb dX3_put_16 rfl (lv_at hl 0 rfl) ?_
  refine r_ishr (v := (x >>> (16 &&& 31))) F dX3_put_17 rfl ?_
  refine lv_i2b (v := ((x >>> (16 &&& 31))).toInt8.toInt32) hx hb dX3_put_18 rfl ?_
  refine r_bastX F hK hP hD hS 1 1 rfl rfl (bw_vin (by decide)) dX3_put_19 (w1 := fun f2 => [(b, .inr (3, [.ref (q 20), .int 9, .ref (q 21), .ref (q 22), .int 0, .int 0, .ref (q 23), .ref (q 24), .int 0, .int 24, .int 0, .int 0, .long 0, .int 0])), ((q 20), .inl (cB, 900, .inl f2))]) (fun _ => rfl) (fun f2 H locs hP hD hS => ?_)
  refine lv_aload_n hx hb dX3_put_20 rfl (lv_at hl 1 rfl) ?_
  refine lv_dup hx hb dX3_put_21 rfl ?_
  refine r_get F hK hP 0 1 rfl rfl in_X3 (by decide) k_262 rfl dX3_put_22 ?_
  refine lv_iconst (v := 1) hx hb dX3_put_25 (by decide) ?_
  refine r_iadd (v := 10) F dX3_put_26 (by decide) ?_
  refine r_put F hK hP hD hS 0 1 rfl rfl in_X3 tyX3 tyX3_ok nmX3 (by decide) k_262 rfl rfl rfl (Nat.le_of_ble_eq_true rfl) dX3_put_27 (w1 := [(b, .inr (3, [.ref (q 20), .int 10, .ref (q 21), .ref (q 22), .int 0, .int 0, .ref (q 23), .ref (q 24), .int 0, .int 24, .int 0, .int 0, .long 0, .int 0])), ((q 20), .inl (cB, 900, .inl f2))]) rfl (fun H locs hP hD hS => ?_)
  refine lv_iinc (v := 8) (lv' := [(2, .int 8), (0, .ref b), (1, .int x)]) hx hb dX3_put_30 hl (k := 0) rfl (by decide) (by decide) rfl (fun ls hl => ?_)
  refine lv_goto (tgt := 3) hx hb dX3_put_33 (by decide) ?_
  refine lv_iload_n hx hb dX3_put_3 rfl (lv_at hl 0 rfl) ?_
  refine lv_if_lt (tgt := 36) hx hb dX3_put_4 (by decide) (fun h9 => absurd h9 (by decide)) (fun _ => ?_)
  refine lv_aload_n hx hb dX3_put_7 rfl (lv_at hl 1 rfl) ?_
  refine r_get F hK hP 0 0 rfl rfl in_X3 (by decide) k_261 rfl dX3_put_8 ?_
  refine lv_aload_n hx hb dX3_put_11 rfl (lv_at hl 1 rfl) ?_
  refine r_get F hK hP 0 1 rfl rfl in_X3 (by decide) k_262 rfl dX3_put_12 ?_
  refine lv_iload_n hx hb dX3_put_15 rfl (lv_at hl 2 rfl) ?_
  refine lv_iload_n hx hb dX3_put_16 rfl (lv_at hl 0 rfl) ?_
  refine r_ishr (v := (x >>> (8 &&& 31))) F dX3_put_17 rfl ?_
  refine lv_i2b (v := ((x >>> (8 &&& 31))).toInt8.toInt32) hx hb dX3_put_18 rfl ?_
  refine r_bastX F hK hP hD hS 1 1 rfl rfl (bw_vin (by decide)) dX3_put_19 (w1 := fun f3 => [(b, .inr (3, [.ref (q 20), .int 10, .ref (q 21), .ref (q 22), .int 0, .int 0, .ref (q 23), .ref (q 24), .int 0, .int 24, .int 0, .int 0, .long 0, .int 0])), ((q 20), .inl (cB, 900, .inl f3))]) (fun _ => rfl) (fun f3 H locs hP hD hS => ?_)
  refine lv_aload_n hx hb dX3_put_20 rfl (lv_at hl 1 rfl) ?_
  refine lv_dup hx hb dX3_put_21 rfl ?_
  refine r_get F hK hP 0 1 rfl rfl in_X3 (by decide) k_262 rfl dX3_put_22 ?_
  refine lv_iconst (v := 1) hx hb dX3_put_25 (by decide) ?_
  refine r_iadd (v := 11) F dX3_put_26 (by decide) ?_
  refine r_put F hK hP hD hS 0 1 rfl rfl in_X3 tyX3 tyX3_ok nmX3 (by decide) k_262 rfl rfl rfl (Nat.le_of_ble_eq_true rfl) dX3_put_27 (w1 := [(b, .inr (3, [.ref (q 20), .int 11, .ref (q 21), .ref (q 22), .int 0, .int 0, .ref (q 23), .ref (q 24), .int 0, .int 24, .int 0, .int 0, .long 0, .int 0])), ((q 20), .inl (cB, 900, .inl f3))]) rfl (fun H locs hP hD hS => ?_)
  refine lv_iinc (v := 0) (lv' := [(2, .int 0), (0, .ref b), (1, .int x)]) hx hb dX3_put_30 hl (k := 0) rfl (by decide) (by decide) rfl (fun ls hl => ?_)
  refine lv_goto (tgt := 3) hx hb dX3_put_33 (by decide) ?_
  refine lv_iload_n hx hb dX3_put_3 rfl (lv_at hl 0 rfl) ?_
  refine lv_if_lt (tgt := 36) hx hb dX3_put_4 (by decide) (fun h9 => absurd h9 (by decide)) (fun _ => ?_)
  refine lv_aload_n hx hb dX3_put_7 rfl (lv_at hl 1 rfl) ?_
  refine r_get F hK hP 0 0 rfl rfl in_X3 (by decide) k_261 rfl dX3_put_8 ?_
  refine lv_aload_n hx hb dX3_put_11 rfl (lv_at hl 1 rfl) ?_
  refine r_get F hK hP 0 1 rfl rfl in_X3 (by decide) k_262 rfl dX3_put_12 ?_
  refine lv_iload_n hx hb dX3_put_15 rfl (lv_at hl 2 rfl) ?_
  refine lv_iload_n hx hb dX3_put_16 rfl (lv_at hl 0 rfl) ?_
  refine r_ishr (v := (x >>> (0 &&& 31))) F dX3_put_17 rfl ?_
  refine lv_i2b (v := ((x >>> (0 &&& 31))).toInt8.toInt32) hx hb dX3_put_18 rfl ?_
  refine r_bastX F hK hP hD hS 1 1 rfl rfl (bw_vin (by decide)) dX3_put_19 (w1 := fun f4 => [(b, .inr (3, [.ref (q 20), .int 11, .ref (q 21), .ref (q 22), .int 0, .int 0, .ref (q 23), .ref (q 24), .int 0, .int 24, .int 0, .int 0, .long 0, .int 0])), ((q 20), .inl (cB, 900, .inl f4))]) (fun _ => rfl) (fun f4 H locs hP hD hS => ?_)
  refine lv_aload_n hx hb dX3_put_20 rfl (lv_at hl 1 rfl) ?_
  refine lv_dup hx hb dX3_put_21 rfl ?_
  refine r_get F hK hP 0 1 rfl rfl in_X3 (by decide) k_262 rfl dX3_put_22 ?_
  refine lv_iconst (v := 1) hx hb dX3_put_25 (by decide) ?_
  refine r_iadd (v := 12) F dX3_put_26 (by decide) ?_
  refine r_put F hK hP hD hS 0 1 rfl rfl in_X3 tyX3 tyX3_ok nmX3 (by decide) k_262 rfl rfl rfl (Nat.le_of_ble_eq_true rfl) dX3_put_27 (w1 := [(b, .inr (3, [.ref (q 20), .int 12, .ref (q 21), .ref (q 22), .int 0, .int 0, .ref (q 23), .ref (q 24), .int 0, .int 24, .int 0, .int 0, .long 0, .int 0])), ((q 20), .inl (cB, 900, .inl f4))]) rfl (fun H locs hP hD hS => ?_)
  refine lv_iinc (v := (-8)) (lv' := [(2, .int (-8)), (0, .ref b), (1, .int x)]) hx hb dX3_put_30 hl (k := 0) rfl (by decide) (by decide) rfl (fun ls hl => ?_)
  refine lv_goto (tgt := 3) hx hb dX3_put_33 (by decide) ?_
  refine lv_iload_n hx hb dX3_put_3 rfl (lv_at hl 0 rfl) ?_
  refine lv_if_lt (tgt := 36) hx hb dX3_put_4 (by decide) (fun _ => ?_) (fun h9 => absurd (by decide) h9)
  exact ret (fun _ => 0, fun _ => f4) _ _ _ _ _ _ trivial (bw_subP (isC := [0, 1]) hP rfl) (hD.sub [0, 1] (by decide) rfl) hS (Nat.le_of_ble_eq_true rfl) (Nat.le_of_ble_eq_true rfl) dX3_put_36
abbrev rm_X3_put_12 : Room := { frames := 0, cells := 0, slots := 0, locals := 0 }
set_option maxRecDepth 100000 in
set_option maxHeartbeats 4000000 in
theorem c_X3_put_12 {l : Launch} {E : (Nat → Prop) → State → Prop} (hO : bw_Ok E) {G : va_G} {cI cB cJ cN cW : ClassId} (b : Nat) (q : Nat → Nat) (f : Nat → Int32) (x : Int32) : bw_Cv (S := bw_U) l yX3_put (bw_ws (Cond.code yX3_put cX3_put 3 none)) rm_X3_put_12 E G (bw_kt cI cB cJ cN cW) [.ref b, .int x] [(b, .inr (3, [.ref (q 20), .int 12, .ref (q 21), .ref (q 22), .int 0, .int 0, .ref (q 23), .ref (q 24), .int 0, .int 24, .int 0, .int 0, .long 0, .int 0])), ((q 20), .inl (cB, 900, .inl f))] (fun _ => True) (fun u => [(b, .inr (3, [.ref (q 20), .int 16, .ref (q 21), .ref (q 22), .int 0, .int 0, .ref (q 23), .ref (q 24), .int 0, .int 24, .int 0, .int 0, .long 0, .int 0])), ((q 20), .inl (cB, 900, .inl (u.2 0)))]) := by
  refine bw_Cv.of (cc := cX3_put) (maxL := 3) (by decide) rfl (Nat.le_of_ble_eq_true rfl) ?_
  intro p e s m below meth c A Q hx hb hml hts hown hin hK hA hS hP hD hE ret ls hl
  have F : CallFix p m c cX3_put 3 s ([.ref b, .int x] : List Value).toArray bw_T RX3 := ⟨hx, hb, hml, hown, fun w h => hts w (List.mem_cons_of_mem _ h)⟩
  have hl : lv_has ls 3 [(0, .ref b), (1, .int x)] := hl
  refine lv_bipush (v := 24) hx hb dX3_put_0 (by decide) ?_
  refine lv_istore_n (lv' := [(2, .int 24), (0, .ref b), (1, .int x)]) hx hb dX3_put_2 rfl hl (by decide) rfl (fun ls hl => ?_)
  refine lv_iload_n hx hb dX3_put_3 rfl (lv_at hl 0 rfl) ?_
  refine lv_if_lt (tgt := 36) hx hb dX3_put_4 (by decide) (fun h9 => absurd h9 (by decide)) (fun _ => ?_)
  refine lv_aload_n hx hb dX3_put_7 rfl (lv_at hl 1 rfl) ?_
  refine r_get F hK hP 0 0 rfl rfl in_X3 (by decide) k_261 rfl dX3_put_8 ?_
  refine lv_aload_n hx hb dX3_put_11 rfl (lv_at hl 1 rfl) ?_
  refine r_get F hK hP 0 1 rfl rfl in_X3 (by decide) k_262 rfl dX3_put_12 ?_
  refine lv_iload_n hx hb dX3_put_15 rfl (lv_at hl 2 rfl) ?_
  refine lv_iload_n hx hb dX3_put_16 rfl (lv_at hl 0 rfl) ?_
  refine r_ishr (v := (x >>> (24 &&& 31))) F dX3_put_17 rfl ?_
  refine lv_i2b (v := ((x >>> (24 &&& 31))).toInt8.toInt32) hx hb dX3_put_18 rfl ?_
  refine r_bastX F hK hP hD hS 1 1 rfl rfl (bw_vin (by decide)) dX3_put_19 (w1 := fun f1 => [(b, .inr (3, [.ref (q 20), .int 12, .ref (q 21), .ref (q 22), .int 0, .int 0, .ref (q 23), .ref (q 24), .int 0, .int 24, .int 0, .int 0, .long 0, .int 0])), ((q 20), .inl (cB, 900, .inl f1))]) (fun _ => rfl) (fun f1 H locs hP hD hS => ?_)
  refine lv_aload_n hx hb dX3_put_20 rfl (lv_at hl 1 rfl) ?_
  refine lv_dup hx hb dX3_put_21 rfl ?_
  refine r_get F hK hP 0 1 rfl rfl in_X3 (by decide) k_262 rfl dX3_put_22 ?_
  refine lv_iconst (v := 1) hx hb dX3_put_25 (by decide) ?_
  refine r_iadd (v := 13) F dX3_put_26 (by decide) ?_
  refine r_put F hK hP hD hS 0 1 rfl rfl in_X3 tyX3 tyX3_ok nmX3 (by decide) k_262 rfl rfl rfl (Nat.le_of_ble_eq_true rfl) dX3_put_27 (w1 := [(b, .inr (3, [.ref (q 20), .int 13, .ref (q 21), .ref (q 22), .int 0, .int 0, .ref (q 23), .ref (q 24), .int 0, .int 24, .int 0, .int 0, .long 0, .int 0])), ((q 20), .inl (cB, 900, .inl f1))]) rfl (fun H locs hP hD hS => ?_)
  refine lv_iinc (v := 16) (lv' := [(2, .int 16), (0, .ref b), (1, .int x)]) hx hb dX3_put_30 hl (k := 0) rfl (by decide) (by decide) rfl (fun ls hl => ?_)
  refine lv_goto (tgt := 3) hx hb dX3_put_33 (by decide) ?_
  refine lv_iload_n hx hb dX3_put_3 rfl (lv_at hl 0 rfl) ?_
  refine lv_if_lt (tgt := 36) hx hb dX3_put_4 (by decide) (fun h9 => absurd h9 (by decide)) (fun _ => ?_)
  refine lv_aload_n hx hb dX3_put_7 rfl (lv_at hl 1 rfl) ?_
  refine r_get F hK hP 0 0 rfl rfl in_X3 (by decide) k_261 rfl dX3_put_8 ?_
  refine lv_aload_n hx hb dX3_put_11 rfl (lv_at hl 1 rfl) ?_
  refine r_get F hK hP 0 1 rfl rfl in_X3 (by decide) k_262 rfl dX3_put_12 ?_
  refine lv_iload_n hx hb dX3_put_15 rfl (lv_at hl 2 rfl) ?_
  refine lv_iload_n hx hb dX3_put_16 rfl (lv_at hl 0 rfl) ?_
  refine r_ishr (v := (x >>> (16 &&& 31))) F dX3_put_17 rfl ?_
  refine lv_i2b (v := ((x >>> (16 &&& 31))).toInt8.toInt32) hx hb dX3_put_18 rfl ?_
  refine r_bastX F hK hP hD hS 1 1 rfl rfl (bw_vin (by decide)) dX3_put_19 (w1 := fun f2 => [(b, .inr (3, [.ref (q 20), .int 13, .ref (q 21), .ref (q 22), .int 0, .int 0, .ref (q 23), .ref (q 24), .int 0, .int 24, .int 0, .int 0, .long 0, .int 0])), ((q 20), .inl (cB, 900, .inl f2))]) (fun _ => rfl) (fun f2 H locs hP hD hS => ?_)
  refine lv_aload_n hx hb dX3_put_20 rfl (lv_at hl 1 rfl) ?_
  refine lv_dup hx hb dX3_put_21 rfl ?_
  refine r_get F hK hP 0 1 rfl rfl in_X3 (by decide) k_262 rfl dX3_put_22 ?_
  refine lv_iconst (v := 1) hx hb dX3_put_25 (by decide) ?_
  refine r_iadd (v := 14) F dX3_put_26 (by decide) ?_
  refine r_put F hK hP hD hS 0 1 rfl rfl in_X3 tyX3 tyX3_ok nmX3 (by decide) k_262 rfl rfl rfl (Nat.le_of_ble_eq_true rfl) dX3_put_27 (w1 := [(b, .inr (3, [.ref (q 20), .int 14, .ref (q 21), .ref (q 22), .int 0, .int 0, .ref (q 23), .ref (q 24), .int 0, .int 24, .int 0, .int 0, .long 0, .int 0])), ((q 20), .inl (cB, 900, .inl f2))]) rfl (fun H locs hP hD hS => ?_)
  refine lv_iinc (v := 8) (lv' := [(2, .int 8), (0, .ref b), (1, .int x)]) hx hb dX3_put_30 hl (k := 0) rfl (by decide) (by decide) rfl (fun ls hl => ?_)
  refine lv_goto (tgt := 3) hx hb dX3_put_33 (by decide) ?_
  refine lv_iload_n hx hb dX3_put_3 rfl (lv_at hl 0 rfl) ?_
  refine lv_if_lt (tgt := 36) hx hb dX3_put_4 (by decide) (fun h9 => absurd h9 (by decide)) (fun _ => ?_)
  refine lv_aload_n hx hb dX3_put_7 rfl (lv_at hl 1 rfl) ?_
  refine r_get F hK hP 0 0 rfl rfl in_X3 (by decide) k_261 rfl dX3_put_8 ?_
  refine lv_aload_n hx hb dX3_put_11 rfl (lv_at hl 1 rfl) ?_
  refine r_get F hK hP 0 1 rfl rfl in_X3 (by decide) k_262 rfl dX3_put_12 ?_
  refine lv_iload_n hx hb dX3_put_15 rfl (lv_at hl 2 rfl) ?_
  refine lv_iload_n hx hb dX3_put_16 rfl (lv_at hl 0 rfl) ?_
  refine r_ishr (v := (x >>> (8 &&& 31))) F dX3_put_17 rfl ?_
  refine lv_i2b (v := ((x >>> (8 &&& 31))).toInt8.toInt32) hx hb dX3_put_18 rfl ?_
  refine r_bastX F hK hP hD hS 1 1 rfl rfl (bw_vin (by decide)) dX3_put_19 (w1 := fun f3 => [(b, .inr (3, [.ref (q 20), .int 14, .ref (q 21), .ref (q 22), .int 0, .int 0, .ref (q 23), .ref (q 24), .int 0, .int 24, .int 0, .int 0, .long 0, .int 0])), ((q 20), .inl (cB, 900, .inl f3))]) (fun _ => rfl) (fun f3 H locs hP hD hS => ?_)
  refine lv_aload_n hx hb dX3_put_20 rfl (lv_at hl 1 rfl) ?_
  refine lv_dup hx hb dX3_put_21 rfl ?_
  refine r_get F hK hP 0 1 rfl rfl in_X3 (by decide) k_262 rfl dX3_put_22 ?_
  refine lv_iconst (v := 1) hx hb dX3_put_25 (by decide) ?_
  refine r_iadd (v := 15) F dX3_put_26 (by decide) ?_
  refine r_put F hK hP hD hS 0 1 rfl rfl in_X3 tyX3 tyX3_ok nmX3 (by decide) k_262 rfl rfl rfl (Nat.le_of_ble_eq_true rfl) dX3_put_27 (w1 := [(b, .inr (3, [.ref (q 20), .int 15, .ref (q 21), .ref (q 22), .int 0, .int 0, .ref (q 23), .ref (q 24), .int 0, .int 24, .int 0, .int 0, .long 0, .int 0])), ((q 20), .inl (cB, 900, .inl f3))]) rfl (fun H locs hP hD hS => ?_)
  refine lv_iinc (v := 0) (lv' := [(2, .int 0), (0, .ref b), (1, .int x)]) hx hb dX3_put_30 hl (k := 0) rfl (by decide) (by decide) rfl (fun ls hl => ?_)
  refine lv_goto (tgt := 3) hx hb dX3_put_33 (by decide) ?_
  refine lv_iload_n hx hb dX3_put_3 rfl (lv_at hl 0 rfl) ?_
  refine lv_if_lt (tgt := 36) hx hb dX3_put_4 (by decide) (fun h9 => absurd h9 (by decide)) (fun _ => ?_)
  refine lv_aload_n hx hb dX3_put_7 rfl (lv_at hl 1 rfl) ?_
  refine r_get F hK hP 0 0 rfl rfl in_X3 (by decide) k_261 rfl dX3_put_8 ?_
  refine lv_aload_n hx hb dX3_put_11 rfl (lv_at hl 1 rfl) ?_
  refine r_get F hK hP 0 1 rfl rfl in_X3 (by decide) k_262 rfl dX3_put_12 ?_
  refine lv_iload_n hx hb dX3_put_15 rfl (lv_at hl 2 rfl) ?_
  refine lv_iload_n hx hb dX3_put_16 rfl (lv_at hl 0 rfl) ?_
  refine r_ishr (v := (x >>> (0 &&& 31))) F dX3_put_17 rfl ?_
  refine lv_i2b (v := ((x >>> (0 &&& 31))).toInt8.toInt32) hx hb dX3_put_18 rfl ?_
  refine r_bastX F hK hP hD hS 1 1 rfl rfl (bw_vin (by decide)) dX3_put_19 (w1 := fun f4 => [(b, .inr (3, [.ref (q 20), .int 15, .ref (q 21), .ref (q 22), .int 0, .int 0, .ref (q 23), .ref (q 24), .int 0, .int 24, .int 0, .int 0, .long 0, .int 0])), ((q 20), .inl (cB, 900, .inl f4))]) (fun _ => rfl) (fun f4 H locs hP hD hS => ?_)
  refine lv_aload_n hx hb dX3_put_20 rfl (lv_at hl 1 rfl) ?_
  refine lv_dup hx hb dX3_put_21 rfl ?_
  refine r_get F hK hP 0 1 rfl rfl in_X3 (by decide) k_262 rfl dX3_put_22 ?_
  refine lv_iconst (v := 1) hx hb dX3_put_25 (by decide) ?_
  refine r_iadd (v := 16) F dX3_put_26 (by decide) ?_
  refine r_put F hK hP hD hS 0 1 rfl rfl in_X3 tyX3 tyX3_ok nmX3 (by decide) k_262 rfl rfl rfl (Nat.le_of_ble_eq_true rfl) dX3_put_27 (w1 := [(b, .inr (3, [.ref (q 20), .int 16, .ref (q 21), .ref (q 22), .int 0, .int 0, .ref (q 23), .ref (q 24), .int 0, .int 24, .int 0, .int 0, .long 0, .int 0])), ((q 20), .inl (cB, 900, .inl f4))]) rfl (fun H locs hP hD hS => ?_)
  refine lv_iinc (v := (-8)) (lv' := [(2, .int (-8)), (0, .ref b), (1, .int x)]) hx hb dX3_put_30 hl (k := 0) rfl (by decide) (by decide) rfl (fun ls hl => ?_)
  refine lv_goto (tgt := 3) hx hb dX3_put_33 (by decide) ?_
  refine lv_iload_n hx hb dX3_put_3 rfl (lv_at hl 0 rfl) ?_
  refine lv_if_lt (tgt := 36) hx hb dX3_put_4 (by decide) (fun _ => ?_) (fun h9 => absurd (by decide) h9)
  exact ret (fun _ => 0, fun _ => f4) _ _ _ _ _ _ trivial (bw_subP (isC := [0, 1]) hP rfl) (hD.sub [0, 1] (by decide) rfl) hS (Nat.le_of_ble_eq_true rfl) (Nat.le_of_ble_eq_true rfl) dX3_put_36
abbrev rm_X3_put_16 : Room := { frames := 0, cells := 0, slots := 0, locals := 0 }
set_option maxRecDepth 100000 in
set_option maxHeartbeats 4000000 in
theorem c_X3_put_16 {l : Launch} {E : (Nat → Prop) → State → Prop} (hO : bw_Ok E) {G : va_G} {cI cB cJ cN cW : ClassId} (b : Nat) (q : Nat → Nat) (f : Nat → Int32) (x : Int32) : bw_Cv (S := bw_U) l yX3_put (bw_ws (Cond.code yX3_put cX3_put 3 none)) rm_X3_put_16 E G (bw_kt cI cB cJ cN cW) [.ref b, .int x] [(b, .inr (3, [.ref (q 20), .int 16, .ref (q 21), .ref (q 22), .int 0, .int 0, .ref (q 23), .ref (q 24), .int 0, .int 24, .int 0, .int 0, .long 0, .int 0])), ((q 20), .inl (cB, 900, .inl f))] (fun _ => True) (fun u => [(b, .inr (3, [.ref (q 20), .int 20, .ref (q 21), .ref (q 22), .int 0, .int 0, .ref (q 23), .ref (q 24), .int 0, .int 24, .int 0, .int 0, .long 0, .int 0])), ((q 20), .inl (cB, 900, .inl (u.2 0)))]) := by
  refine bw_Cv.of (cc := cX3_put) (maxL := 3) (by decide) rfl (Nat.le_of_ble_eq_true rfl) ?_
  intro p e s m below meth c A Q hx hb hml hts hown hin hK hA hS hP hD hE ret ls hl
  have F : CallFix p m c cX3_put 3 s ([.ref b, .int x] : List Value).toArray bw_T RX3 := ⟨hx, hb, hml, hown, fun w h => hts w (List.mem_cons_of_mem _ h)⟩
  have hl : lv_has ls 3 [(0, .ref b), (1, .int x)] := hl
  refine lv_bipush (v := 24) hx hb dX3_put_0 (by decide) ?_
  refine lv_istore_n (lv' := [(2, .int 24), (0, .ref b), (1, .int x)]) hx hb dX3_put_2 rfl hl (by decide) rfl (fun ls hl => ?_)
  refine lv_iload_n hx hb dX3_put_3 rfl (lv_at hl 0 rfl) ?_
  refine lv_if_lt (tgt := 36) hx hb dX3_put_4 (by decide) (fun h9 => absurd h9 (by decide)) (fun _ => ?_)
  refine lv_aload_n hx hb dX3_put_7 rfl (lv_at hl 1 rfl) ?_
  refine r_get F hK hP 0 0 rfl rfl in_X3 (by decide) k_261 rfl dX3_put_8 ?_
  refine lv_aload_n hx hb dX3_put_11 rfl (lv_at hl 1 rfl) ?_
  refine r_get F hK hP 0 1 rfl rfl in_X3 (by decide) k_262 rfl dX3_put_12 ?_
  refine lv_iload_n hx hb dX3_put_15 rfl (lv_at hl 2 rfl) ?_
  refine lv_iload_n hx hb dX3_put_16 rfl (lv_at hl 0 rfl) ?_
  refine r_ishr (v := (x >>> (24 &&& 31))) F dX3_put_17 rfl ?_
  refine lv_i2b (v := ((x >>> (24 &&& 31))).toInt8.toInt32) hx hb dX3_put_18 rfl ?_
  refine r_bastX F hK hP hD hS 1 1 rfl rfl (bw_vin (by decide)) dX3_put_19 (w1 := fun f1 => [(b, .inr (3, [.ref (q 20), .int 16, .ref (q 21), .ref (q 22), .int 0, .int 0, .ref (q 23), .ref (q 24), .int 0, .int 24, .int 0, .int 0, .long 0, .int 0])), ((q 20), .inl (cB, 900, .inl f1))]) (fun _ => rfl) (fun f1 H locs hP hD hS => ?_)
  refine lv_aload_n hx hb dX3_put_20 rfl (lv_at hl 1 rfl) ?_
  refine lv_dup hx hb dX3_put_21 rfl ?_
  refine r_get F hK hP 0 1 rfl rfl in_X3 (by decide) k_262 rfl dX3_put_22 ?_
  refine lv_iconst (v := 1) hx hb dX3_put_25 (by decide) ?_
  refine r_iadd (v := 17) F dX3_put_26 (by decide) ?_
  refine r_put F hK hP hD hS 0 1 rfl rfl in_X3 tyX3 tyX3_ok nmX3 (by decide) k_262 rfl rfl rfl (Nat.le_of_ble_eq_true rfl) dX3_put_27 (w1 := [(b, .inr (3, [.ref (q 20), .int 17, .ref (q 21), .ref (q 22), .int 0, .int 0, .ref (q 23), .ref (q 24), .int 0, .int 24, .int 0, .int 0, .long 0, .int 0])), ((q 20), .inl (cB, 900, .inl f1))]) rfl (fun H locs hP hD hS => ?_)
  refine lv_iinc (v := 16) (lv' := [(2, .int 16), (0, .ref b), (1, .int x)]) hx hb dX3_put_30 hl (k := 0) rfl (by decide) (by decide) rfl (fun ls hl => ?_)
  refine lv_goto (tgt := 3) hx hb dX3_put_33 (by decide) ?_
  refine lv_iload_n hx hb dX3_put_3 rfl (lv_at hl 0 rfl) ?_
  refine lv_if_lt (tgt := 36) hx hb dX3_put_4 (by decide) (fun h9 => absurd h9 (by decide)) (fun _ => ?_)
  refine lv_aload_n hx hb dX3_put_7 rfl (lv_at hl 1 rfl) ?_
  refine r_get F hK hP 0 0 rfl rfl in_X3 (by decide) k_261 rfl dX3_put_8 ?_
  refine lv_aload_n hx hb dX3_put_11 rfl (lv_at hl 1 rfl) ?_
  refine r_get F hK hP 0 1 rfl rfl in_X3 (by decide) k_262 rfl dX3_put_12 ?_
  refine lv_iload_n hx hb dX3_put_15 rfl (lv_at hl 2 rfl) ?_
  refine lv_iload_n hx hb dX3_put_16 rfl (lv_at hl 0 rfl) ?_
  refine r_ishr (v := (x >>> (16 &&& 31))) F dX3_put_17 rfl ?_
  refine lv_i2b (v := ((x >>> (16 &&& 31))).toInt8.toInt32) hx hb dX3_put_18 rfl ?_
  refine r_bastX F hK hP hD hS 1 1 rfl rfl (bw_vin (by decide)) dX3_put_19 (w1 := fun f2 => [(b, .inr (3, [.ref (q 20), .int 17, .ref (q 21), .ref (q 22), .int 0, .int 0, .ref (q 23), .ref (q 24), .int 0, .int 24, .int 0, .int 0, .long 0, .int 0])), ((q 20), .inl (cB, 900, .inl f2))]) (fun _ => rfl) (fun f2 H locs hP hD hS => ?_)
  refine lv_aload_n hx hb dX3_put_20 rfl (lv_at hl 1 rfl) ?_
  refine lv_dup hx hb dX3_put_21 rfl ?_
  refine r_get F hK hP 0 1 rfl rfl in_X3 (by decide) k_262 rfl dX3_put_22 ?_
  refine lv_iconst (v := 1) hx hb dX3_put_25 (by decide) ?_
  refine r_iadd (v := 18) F dX3_put_26 (by decide) ?_
  refine r_put F hK hP hD hS 0 1 rfl rfl in_X3 tyX3 tyX3_ok nmX3 (by decide) k_262 rfl rfl rfl (Nat.le_of_ble_eq_true rfl) dX3_put_27 (w1 := [(b, .inr (3, [.ref (q 20), .int 18, .ref (q 21), .ref (q 22), .int 0, .int 0, .ref (q 23), .ref (q 24), .int 0, .int 24, .int 0, .int 0, .long 0, .int 0])), ((q 20), .inl (cB, 900, .inl f2))]) rfl (fun H locs hP hD hS => ?_)
  refine lv_iinc (v := 8) (lv' := [(2, .int 8), (0, .ref b), (1, .int x)]) hx hb dX3_put_30 hl (k := 0) rfl (by decide) (by decide) rfl (fun ls hl => ?_)
  refine lv_goto (tgt := 3) hx hb dX3_put_33 (by decide) ?_
  refine lv_iload_n hx hb dX3_put_3 rfl (lv_at hl 0 rfl) ?_
  refine lv_if_lt (tgt := 36) hx hb dX3_put_4 (by decide) (fun h9 => absurd h9 (by decide)) (fun _ => ?_)
  refine lv_aload_n hx hb dX3_put_7 rfl (lv_at hl 1 rfl) ?_
  refine r_get F hK hP 0 0 rfl rfl in_X3 (by decide) k_261 rfl dX3_put_8 ?_
  refine lv_aload_n hx hb dX3_put_11 rfl (lv_at hl 1 rfl) ?_
  refine r_get F hK hP 0 1 rfl rfl in_X3 (by decide) k_262 rfl dX3_put_12 ?_
  refine lv_iload_n hx hb dX3_put_15 rfl (lv_at hl 2 rfl) ?_
  refine lv_iload_n hx hb dX3_put_16 rfl (lv_at hl 0 rfl) ?_
  refine r_ishr (v := (x >>> (8 &&& 31))) F dX3_put_17 rfl ?_
  refine lv_i2b (v := ((x >>> (8 &&& 31))).toInt8.toInt32) hx hb dX3_put_18 rfl ?_
  refine r_bastX F hK hP hD hS 1 1 rfl rfl (bw_vin (by decide)) dX3_put_19 (w1 := fun f3 => [(b, .inr (3, [.ref (q 20), .int 18, .ref (q 21), .ref (q 22), .int 0, .int 0, .ref (q 23), .ref (q 24), .int 0, .int 24, .int 0, .int 0, .long 0, .int 0])), ((q 20), .inl (cB, 900, .inl f3))]) (fun _ => rfl) (fun f3 H locs hP hD hS => ?_)
  refine lv_aload_n hx hb dX3_put_20 rfl (lv_at hl 1 rfl) ?_
  refine lv_dup hx hb dX3_put_21 rfl ?_
  refine r_get F hK hP 0 1 rfl rfl in_X3 (by decide) k_262 rfl dX3_put_22 ?_
  refine lv_iconst (v := 1) hx hb dX3_put_25 (by decide) ?_
  refine r_iadd (v := 19) F dX3_put_26 (by decide) ?_
  refine r_put F hK hP hD hS 0 1 rfl rfl in_X3 tyX3 tyX3_ok nmX3 (by decide) k_262 rfl rfl rfl (Nat.le_of_ble_eq_true rfl) dX3_put_27 (w1 := [(b, .inr (3, [.ref (q 20), .int 19, .ref (q 21), .ref (q 22), .int 0, .int 0, .ref (q 23), .ref (q 24), .int 0, .int 24, .int 0, .int 0, .long 0, .int 0])), ((q 20), .inl (cB, 900, .inl f3))]) rfl (fun H locs hP hD hS => ?_)
  refine lv_iinc (v := 0) (lv' := [(2, .int 0), (0, .ref b), (1, .int x)]) hx hb dX3_put_30 hl (k := 0) rfl (by decide) (by decide) rfl (fun ls hl => ?_)
  refine lv_goto (tgt := 3) hx hb dX3_put_33 (by decide) ?_
  refine lv_iload_n hx hb dX3_put_3 rfl (lv_at hl 0 rfl) ?_
  refine lv_if_lt (tgt := 36) hx hb dX3_put_4 (by decide) (fun h9 => absurd h9 (by decide)) (fun _ => ?_)
  refine lv_aload_n hx hb dX3_put_7 rfl (lv_at hl 1 rfl) ?_
  refine r_get F hK hP 0 0 rfl rfl in_X3 (by decide) k_261 rfl dX3_put_8 ?_
  refine lv_aload_n hx hb dX3_put_11 rfl (lv_at hl 1 rfl) ?_
  refine r_get F hK hP 0 1 rfl rfl in_X3 (by decide) k_262 rfl dX3_put_12 ?_
  refine lv_iload_n hx hb dX3_put_15 rfl (lv_at hl 2 rfl) ?_
  refine lv_iload_n hx hb dX3_put_16 rfl (lv_at hl 0 rfl) ?_
  refine r_ishr (v := (x >>> (0 &&& 31))) F dX3_put_17 rfl ?_
  refine lv_i2b (v := ((x >>> (0 &&& 31))).toInt8.toInt32) hx hb dX3_put_18 rfl ?_
  refine r_bastX F hK hP hD hS 1 1 rfl rfl (bw_vin (by decide)) dX3_put_19 (w1 := fun f4 => [(b, .inr (3, [.ref (q 20), .int 19, .ref (q 21), .ref (q 22), .int 0, .int 0, .ref (q 23), .ref (q 24), .int 0, .int 24, .int 0, .int 0, .long 0, .int 0])), ((q 20), .inl (cB, 900, .inl f4))]) (fun _ => rfl) (fun f4 H locs hP hD hS => ?_)
  refine lv_aload_n hx hb dX3_put_20 rfl (lv_at hl 1 rfl) ?_
  refine lv_dup hx hb dX3_put_21 rfl ?_
  refine r_get F hK hP 0 1 rfl rfl in_X3 (by decide) k_262 rfl dX3_put_22 ?_
  refine lv_iconst (v := 1) hx hb dX3_put_25 (by decide) ?_
  refine r_iadd (v := 20) F dX3_put_26 (by decide) ?_
  refine r_put F hK hP hD hS 0 1 rfl rfl in_X3 tyX3 tyX3_ok nmX3 (by decide) k_262 rfl rfl rfl (Nat.le_of_ble_eq_true rfl) dX3_put_27 (w1 := [(b, .inr (3, [.ref (q 20), .int 20, .ref (q 21), .ref (q 22), .int 0, .int 0, .ref (q 23), .ref (q 24), .int 0, .int 24, .int 0, .int 0, .long 0, .int 0])), ((q 20), .inl (cB, 900, .inl f4))]) rfl (fun H locs hP hD hS => ?_)
  refine lv_iinc (v := (-8)) (lv' := [(2, .int (-8)), (0, .ref b), (1, .int x)]) hx hb dX3_put_30 hl (k := 0) rfl (by decide) (by decide) rfl (fun ls hl => ?_)
  refine lv_goto (tgt := 3) hx hb dX3_put_33 (by decide) ?_
  refine lv_iload_n hx hb dX3_put_3 rfl (lv_at hl 0 rfl) ?_
  refine lv_if_lt (tgt := 36) hx hb dX3_put_4 (by decide) (fun _ => ?_) (fun h9 => absurd (by decide) h9)
  exact ret (fun _ => 0, fun _ => f4) _ _ _ _ _ _ trivial (bw_subP (isC := [0, 1]) hP rfl) (hD.sub [0, 1] (by decide) rfl) hS (Nat.le_of_ble_eq_true rfl) (Nat.le_of_ble_eq_true rfl) dX3_put_36
theorem dX8_feed_0 : decode cX8_feed 0 = .ok (.aload_n 0, 1) := by decide +kernel
theorem dX8_feed_1 : decode cX8_feed 1 = .ok (.getfield 20, 3) := by decide +kernel
theorem dX8_feed_4 : decode cX8_feed 4 = .ok (.getfield 85, 3) := by decide +kernel
theorem k_263 : Cond.fieldLink RX8 85 "BurntWays$Reader" "tapeLength" "I" ∈ bw_T := bw_m 263 (by decide +kernel) rfl
theorem dX8_feed_7 : decode cX8_feed 7 = .ok (.bipush 20, 2) := by decide +kernel
theorem dX8_feed_9 : decode cX8_feed 9 = .ok (.iadd, 1) := by decide +kernel
theorem dX8_feed_10 : decode cX8_feed 10 = .ok (.sipush 900, 3) := by decide +kernel
theorem dX8_feed_13 : decode cX8_feed 13 = .ok (.if_icmp .le 5, 3) := by decide +kernel
theorem dX8_feed_18 : decode cX8_feed 18 = .ok (.aload_n 0, 1) := by decide +kernel
theorem dX8_feed_19 : decode cX8_feed 19 = .ok (.getfield 20, 3) := by decide +kernel
theorem dX8_feed_22 : decode cX8_feed 22 = .ok (.iload_n 1, 1) := by decide +kernel
theorem dX8_feed_23 : decode cX8_feed 23 = .ok (.invokevirtual 88, 3) := by decide +kernel
theorem k_542 : Cond.methodLink RX8 88 yX3_put ∈ bw_T := bw_m 542 (by decide +kernel) rfl
theorem kv_X3_put : bw_KV RX3 yX3_put (Cond.code yX3_put cX3_put 3 none) := ⟨bw_m 543 (by decide +kernel) rfl, bw_m 544 (by decide +kernel) rfl, bw_m 95 (by decide +kernel) rfl, bw_m 545 (by decide +kernel) rfl⟩
theorem dX8_feed_26 : decode cX8_feed 26 = .ok (.aload_n 0, 1) := by decide +kernel
theorem dX8_feed_27 : decode cX8_feed 27 = .ok (.getfield 20, 3) := by decide +kernel
theorem dX8_feed_30 : decode cX8_feed 30 = .ok (.iload_n 2, 1) := by decide +kernel
theorem dX8_feed_31 : decode cX8_feed 31 = .ok (.invokevirtual 88, 3) := by decide +kernel
theorem dX8_feed_34 : decode cX8_feed 34 = .ok (.aload_n 0, 1) := by decide +kernel
theorem dX8_feed_35 : decode cX8_feed 35 = .ok (.getfield 20, 3) := by decide +kernel
theorem dX8_feed_38 : decode cX8_feed 38 = .ok (.iload_n 3, 1) := by decide +kernel
theorem dX8_feed_39 : decode cX8_feed 39 = .ok (.invokevirtual 88, 3) := by decide +kernel
theorem dX8_feed_42 : decode cX8_feed 42 = .ok (.aload_n 0, 1) := by decide +kernel
theorem dX8_feed_43 : decode cX8_feed 43 = .ok (.getfield 20, 3) := by decide +kernel
theorem dX8_feed_46 : decode cX8_feed 46 = .ok (.iload 4, 2) := by decide +kernel
theorem dX8_feed_48 : decode cX8_feed 48 = .ok (.invokevirtual 88, 3) := by decide +kernel
theorem dX8_feed_51 : decode cX8_feed 51 = .ok (.aload_n 0, 1) := by decide +kernel
theorem dX8_feed_52 : decode cX8_feed 52 = .ok (.getfield 20, 3) := by decide +kernel
theorem dX8_feed_55 : decode cX8_feed 55 = .ok (.iload 5, 2) := by decide +kernel
theorem dX8_feed_57 : decode cX8_feed 57 = .ok (.invokevirtual 88, 3) := by decide +kernel
theorem dX8_feed_60 : decode cX8_feed 60 = .ok (.aload_n 0, 1) := by decide +kernel
theorem dX8_feed_61 : decode cX8_feed 61 = .ok (.getfield 20, 3) := by decide +kernel
theorem dX8_feed_64 : decode cX8_feed 64 = .ok (.getfield 85, 3) := by decide +kernel
theorem dX8_feed_67 : decode cX8_feed 67 = .ok (.ireturn, 1) := by decide +kernel
abbrev rm_X8_feed : Room := { frames := 1, cells := 0, slots := 0, locals := 22 }
set_option maxRecDepth 100000 in
set_option maxHeartbeats 4000000 in
theorem c_X8_feed {l : Launch} {E : (Nat → Prop) → State → Prop} (hO : bw_Ok E) {G : va_G} {cI cB cJ cN cW : ClassId} (b : Nat) (q : Nat → Nat) (a1 : Int32) (a2 : Int32) (a3 : Int32) (a4 : Int32) (a5 : Int32) : bw_Ci (S := bw_U) l yX8_feed (bw_ws (Cond.code yX8_feed cX8_feed 6 (some .int))) rm_X8_feed E G (bw_kt cI cB cJ cN cW) [.ref b, .int a1, .int a2, .int a3, .int a4, .int a5] [(b, .inr (8, [.int 0, .int 0, .ref (q 0), .ref (q 1), .ref (q 2), .ref (q 3), .ref (q 4), .ref (q 5), .ref (q 6), .ref (q 7), .ref (q 8), .ref (q 9), .ref (q 10), .ref (q 11)])), ((q 0), .inr (3, [.ref (q 20), .int 0, .ref (q 21), .ref (q 22), .int 0, .int 0, .ref (q 23), .ref (q 24), .int 0, .int 24, .int 0, .int 0, .long 0, .int 0])), ((q 20), .inl (cB, 900, .inl (fun _ => 0)))] (fun r _ => r = 20) (fun _ => []) := by
  refine bw_Ci.of (cc := cX8_feed) (maxL := 6) (ty := .int) (by decide) rfl (Nat.le_of_ble_eq_true rfl) ?_
  intro p e s m below meth c A Q hx hb hml hts hown hin hK hA hS hP hD hE ret ls hl
  have F : CallFix p m c cX8_feed 6 s ([.ref b, .int a1, .int a2, .int a3, .int a4, .int a5] : List Value).toArray bw_T RX8 := ⟨hx, hb, hml, hown, fun w h => hts w (List.mem_cons_of_mem _ h)⟩
  have hl : lv_has ls 6 [(0, .ref b), (1, .int a1), (2, .int a2), (3, .int a3), (4, .int a4), (5, .int a5)] := hl
  refine lv_aload_n hx hb dX8_feed_0 rfl (lv_at hl 0 rfl) ?_
  refine r_get F hK hP 0 2 rfl rfl in_X8 (by decide) k_497 rfl dX8_feed_1 ?_
  refine r_get F hK hP 1 1 rfl rfl in_X3 (by decide) k_263 rfl dX8_feed_4 ?_
  refine lv_bipush (v := 20) hx hb dX8_feed_7 (by decide) ?_
  refine r_iadd (v := 20) F dX8_feed_9 (by decide) ?_
  refine lv_sipush (v := 900) hx hb dX8_feed_10 (by decide) ?_
  refine lv_icmp_le (tgt := 18) hx hb dX8_feed_13 (by decide) (fun _ => ?_) (fun h9 => absurd (by decide) h9)
  refine lv_aload_n hx hb dX8_feed_18 rfl (lv_at hl 0 rfl) ?_
  refine r_get F hK hP 0 2 rfl rfl in_X8 (by decide) k_497 rfl dX8_feed_19 ?_
  refine lv_iload_n hx hb dX8_feed_22 rfl (lv_at hl 1 rfl) ?_
  refine r_callVv (As := [.int a1]) (rest := []) (wr := [(b, .inr (8, [.int 0, .int 0, .ref (q 0), .ref (q 1), .ref (q 2), .ref (q 3), .ref (q 4), .ref (q 5), .ref (q 6), .ref (q 7), .ref (q 8), .ref (q 9), .ref (q 10), .ref (q 11)]))]) F hK hP hD hS hA hO hE (c_X3_put_0 hO (q 0) q (fun _ => 0) a1) k_542 kv_X3_put 1 rfl (by decide +kernel) ⟨Nat.le_of_ble_eq_true rfl, Nat.le_of_ble_eq_true rfl⟩ [1, 2] [0] rfl rfl (by decide) (by decide) (by decide) 0 3 rfl rfl rfl hl.1 rfl (Nat.le_of_ble_eq_true rfl) dX8_feed_23 ⟨Nat.le_of_ble_eq_true rfl, Nat.le_of_ble_eq_true rfl⟩ (w1 := fun u1 => [(b, .inr (8, [.int 0, .int 0, .ref (q 0), .ref (q 1), .ref (q 2), .ref (q 3), .ref (q 4), .ref (q 5), .ref (q 6), .ref (q 7), .ref (q 8), .ref (q 9), .ref (q 10), .ref (q 11)])), ((q 0), .inr (3, [.ref (q 20), .int 4, .ref (q 21), .ref (q 22), .int 0, .int 0, .ref (q 23), .ref (q 24), .int 0, .int 24, .int 0, .int 0, .long 0, .int 0])), ((q 20), .inl (cB, 900, .inl (u1.2 0)))]) (fun _ => rfl) (fun  u1 H locs hp hP hD hS => ?_)
  refine lv_aload_n hx hb dX8_feed_26 rfl (lv_at hl 0 rfl) ?_
  refine r_get F hK hP 0 2 rfl rfl in_X8 (by decide) k_497 rfl dX8_feed_27 ?_
  refine lv_iload_n hx hb dX8_feed_30 rfl (lv_at hl 2 rfl) ?_
  refine r_callVv (As := [.int a2]) (rest := []) (wr := [(b, .inr (8, [.int 0, .int 0, .ref (q 0), .ref (q 1), .ref (q 2), .ref (q 3), .ref (q 4), .ref (q 5), .ref (q 6), .ref (q 7), .ref (q 8), .ref (q 9), .ref (q 10), .ref (q 11)]))]) F hK hP hD hS hA hO hE (c_X3_put_4 hO (q 0) q (u1.2 0) a2) k_542 kv_X3_put 1 rfl (by decide +kernel) ⟨Nat.le_of_ble_eq_true rfl, Nat.le_of_ble_eq_true rfl⟩ [1, 2] [0] rfl rfl (by decide) (by decide) (by decide) 0 3 rfl rfl rfl hl.1 rfl (Nat.le_of_ble_eq_true rfl) dX8_feed_31 ⟨Nat.le_of_ble_eq_true rfl, Nat.le_of_ble_eq_true rfl⟩ (w1 := fun u2 => [(b, .inr (8, [.int 0, .int 0, .ref (q 0), .ref (q 1), .ref (q 2), .ref (q 3), .ref (q 4), .ref (q 5), .ref (q 6), .ref (q 7), .ref (q 8), .ref (q 9), .ref (q 10), .ref (q 11)])), ((q 0), .inr (3, [.ref (q 20), .int 8, .ref (q 21), .ref (q 22), .int 0, .int 0, .ref (q 23), .ref (q 24), .int 0, .int 24, .int 0, .int 0, .long 0, .int 0])), ((q 20), .inl (cB, 900, .inl (u2.2 0)))]) (fun _ => rfl) (fun  u2 H locs hp hP hD hS => ?_)
  refine lv_aload_n hx hb dX8_feed_34 rfl (lv_at hl 0 rfl) ?_
  refine r_get F hK hP 0 2 rfl rfl in_X8 (by decide) k_497 rfl dX8_feed_35 ?_
  refine lv_iload_n hx hb dX8_feed_38 rfl (lv_at hl 3 rfl) ?_
  refine r_callVv (As := [.int a3]) (rest := []) (wr := [(b, .inr (8, [.int 0, .int 0, .ref (q 0), .ref (q 1), .ref (q 2), .ref (q 3), .ref (q 4), .ref (q 5), .ref (q 6), .ref (q 7), .ref (q 8), .ref (q 9), .ref (q 10), .ref (q 11)]))]) F hK hP hD hS hA hO hE (c_X3_put_8 hO (q 0) q (u2.2 0) a3) k_542 kv_X3_put 1 rfl (by decide +kernel) ⟨Nat.le_of_ble_eq_true rfl, Nat.le_of_ble_eq_true rfl⟩ [1, 2] [0] rfl rfl (by decide) (by decide) (by decide) 0 3 rfl rfl rfl hl.1 rfl (Nat.le_of_ble_eq_true rfl) dX8_feed_39 ⟨Nat.le_of_ble_eq_true rfl, Nat.le_of_ble_eq_true rfl⟩ (w1 := fun u3 => [(b, .inr (8, [.int 0, .int 0, .ref (q 0), .ref (q 1), .ref (q 2), .ref (q 3), .ref (q 4), .ref (q 5), .ref (q 6), .ref (q 7), .ref (q 8), .ref (q 9), .ref (q 10), .ref (q 11)])), ((q 0), .inr (3, [.ref (q 20), .int 12, .ref (q 21), .ref (q 22), .int 0, .int 0, .ref (q 23), .ref (q 24), .int 0, .int 24, .int 0, .int 0, .long 0, .int 0])), ((q 20), .inl (cB, 900, .inl (u3.2 0)))]) (fun _ => rfl) (fun  u3 H locs hp hP hD hS => ?_)
  refine lv_aload_n hx hb dX8_feed_42 rfl (lv_at hl 0 rfl) ?_
  refine r_get F hK hP 0 2 rfl rfl in_X8 (by decide) k_497 rfl dX8_feed_43 ?_
  refine lv_iload hx hb dX8_feed_46 (lv_at hl 4 rfl) ?_
  refine r_callVv (As := [.int a4]) (rest := []) (wr := [(b, .inr (8, [.int 0, .int 0, .ref (q 0), .ref (q 1), .ref (q 2), .ref (q 3), .ref (q 4), .ref (q 5), .ref (q 6), .ref (q 7), .ref (q 8), .ref (q 9), .ref (q 10), .ref (q 11)]))]) F hK hP hD hS hA hO hE (c_X3_put_12 hO (q 0) q (u3.2 0) a4) k_542 kv_X3_put 1 rfl (by decide +kernel) ⟨Nat.le_of_ble_eq_true rfl, Nat.le_of_ble_eq_true rfl⟩ [1, 2] [0] rfl rfl (by decide) (by decide) (by decide) 0 3 rfl rfl rfl hl.1 rfl (Nat.le_of_ble_eq_true rfl) dX8_feed_48 ⟨Nat.le_of_ble_eq_true rfl, Nat.le_of_ble_eq_true rfl⟩ (w1 := fun u4 => [(b, .inr (8, [.int 0, .int 0, .ref (q 0), .ref (q 1), .ref (q 2), .ref (q 3), .ref (q 4), .ref (q 5), .ref (q 6), .ref (q 7), .ref (q 8), .ref (q 9), .ref (q 10), .ref (q 11)])), ((q 0), .inr (3, [.ref (q 20), .int 16, .ref (q 21), .ref (q 22), .int 0, .int 0, .ref (q 23), .ref (q 24), .int 0, .int 24, .int 0, .int 0, .long 0, .int 0])), ((q 20), .inl (cB, 900, .inl (u4.2 0)))]) (fun _ => rfl) (fun  u4 H locs hp hP hD hS => ?_)
  refine lv_aload_n hx hb dX8_feed_51 rfl (lv_at hl 0 rfl) ?_
  refine r_get F hK hP 0 2 rfl rfl in_X8 (by decide) k_497 rfl dX8_feed_52 ?_
  refine lv_iload hx hb dX8_feed_55 (lv_at hl 5 rfl) ?_
  refine r_callVv (As := [.int a5]) (rest := []) (wr := [(b, .inr (8, [.int 0, .int 0, .ref (q 0), .ref (q 1), .ref (q 2), .ref (q 3), .ref (q 4), .ref (q 5), .ref (q 6), .ref (q 7), .ref (q 8), .ref (q 9), .ref (q 10), .ref (q 11)]))]) F hK hP hD hS hA hO hE (c_X3_put_16 hO (q 0) q (u4.2 0) a5) k_542 kv_X3_put 1 rfl (by decide +kernel) ⟨Nat.le_of_ble_eq_true rfl, Nat.le_of_ble_eq_true rfl⟩ [1, 2] [0] rfl rfl (by decide) (by decide) (by decide) 0 3 rfl rfl rfl hl.1 rfl (Nat.le_of_ble_eq_true rfl) dX8_feed_57 ⟨Nat.le_of_ble_eq_true rfl, Nat.le_of_ble_eq_true rfl⟩ (w1 := fun u5 => [(b, .inr (8, [.int 0, .int 0, .ref (q 0), .ref (q 1), .ref (q 2), .ref (q 3), .ref (q 4), .ref (q 5), .ref (q 6), .ref (q 7), .ref (q 8), .ref (q 9), .ref (q 10), .ref (q 11)])), ((q 0), .inr (3, [.ref (q 20), .int 20, .ref (q 21), .ref (q 22), .int 0, .int 0, .ref (q 23), .ref (q 24), .int 0, .int 24, .int 0, .int 0, .long 0, .int 0])), ((q 20), .inl (cB, 900, .inl (u5.2 0)))]) (fun _ => rfl) (fun  u5 H locs hp hP hD hS => ?_)
  refine lv_aload_n hx hb dX8_feed_60 rfl (lv_at hl 0 rfl) ?_
  refine r_get F hK hP 0 2 rfl rfl in_X8 (by decide) k_497 rfl dX8_feed_61 ?_
  refine r_get F hK hP 1 1 rfl rfl in_X3 (by decide) k_263 rfl dX8_feed_64 ?_
  exact ret 20 (fun _ => 0, fun _ _ => 0) _ _ _ _ _ _ rfl rfl (bw_subP (isC := []) hP rfl) (hD.sub [] (by decide) rfl) hS (Nat.le_of_ble_eq_true rfl) (Nat.le_of_ble_eq_true rfl) dX8_feed_67
theorem dX3_advance_0 : decode cX3_advance 0 = .ok (.aload_n 0, 1) := by decide +kernel
theorem dX3_advance_1 : decode cX3_advance 1 = .ok (.aload_n 0, 1) := by decide +kernel
theorem dX3_advance_2 : decode cX3_advance 2 = .ok (.getfield 55, 3) := by decide +kernel
theorem dX3_advance_5 : decode cX3_advance 5 = .ok (.putfield 52, 3) := by decide +kernel
theorem dX3_advance_8 : decode cX3_advance 8 = .ok (.aload_n 0, 1) := by decide +kernel
theorem dX3_advance_9 : decode cX3_advance 9 = .ok (.getfield 52, 3) := by decide +kernel
theorem dX3_advance_12 : decode cX3_advance 12 = .ok (.aload_n 0, 1) := by decide +kernel
theorem dX3_advance_13 : decode cX3_advance 13 = .ok (.getfield 46, 3) := by decide +kernel
theorem dX3_advance_16 : decode cX3_advance 16 = .ok (.if_icmp .ge 30, 3) := by decide +kernel
theorem dX3_advance_46 : decode cX3_advance 46 = .ok (.aload_n 0, 1) := by decide +kernel
theorem dX3_advance_47 : decode cX3_advance 47 = .ok (.aload_n 0, 1) := by decide +kernel
theorem dX3_advance_48 : decode cX3_advance 48 = .ok (.getfield 52, 3) := by decide +kernel
theorem dX3_advance_51 : decode cX3_advance 51 = .ok (.putfield 55, 3) := by decide +kernel
theorem dX3_advance_54 : decode cX3_advance 54 = .ok (.aload_n 0, 1) := by decide +kernel
theorem dX3_advance_55 : decode cX3_advance 55 = .ok (.getfield 52, 3) := by decide +kernel
theorem dX3_advance_58 : decode cX3_advance 58 = .ok (.aload_n 0, 1) := by decide +kernel
theorem dX3_advance_59 : decode cX3_advance 59 = .ok (.getfield 46, 3) := by decide +kernel
theorem dX3_advance_62 : decode cX3_advance 62 = .ok (.if_icmp .lt 10, 3) := by decide +kernel
theorem dX3_advance_65 : decode cX3_advance 65 = .ok (.aload_n 0, 1) := by decide +kernel
theorem dX3_advance_66 : decode cX3_advance 66 = .ok (.bipush 24, 2) := by decide +kernel
theorem dX3_advance_68 : decode cX3_advance 68 = .ok (.putfield 49, 3) := by decide +kernel
theorem dX3_advance_71 : decode cX3_advance 71 = .ok (.return_, 1) := by decide +kernel
abbrev rm_X3_advance : Room := { frames := 0, cells := 0, slots := 0, locals := 0 }
set_option maxRecDepth 100000 in
set_option maxHeartbeats 4000000 in
theorem c_X3_advance {l : Launch} {E : (Nat → Prop) → State → Prop} (hO : bw_Ok E) {G : va_G} {cI cB cJ cN cW : ClassId} (b : Nat) (q : Nat → Nat) : bw_Cv (S := bw_U) l yX3_advance (bw_ws (Cond.code yX3_advance cX3_advance 2 none)) rm_X3_advance E G (bw_kt cI cB cJ cN cW) [.ref b] [(b, .inr (3, [.ref (q 20), .int 0, .ref (q 21), .ref (q 22), .int 0, .int 0, .ref (q 23), .ref (q 24), .int 0, .int 24, .int 0, .int 0, .long 0, .int 0]))] (fun _ => True) (fun _ => [(b, .inr (3, [.ref (q 20), .int 0, .ref (q 21), .ref (q 22), .int 0, .int 0, .ref (q 23), .ref (q 24), .int 0, .int 24, .int 0, .int 0, .long 0, .int 0]))]) := by
  refine bw_Cv.of (cc := cX3_advance) (maxL := 2) (by decide) rfl (Nat.le_of_ble_eq_true rfl) ?_
  intro p e s m below meth c A Q hx hb hml hts hown hin hK hA hS hP hD hE ret ls hl
  have F : CallFix p m c cX3_advance 2 s ([.ref b] : List Value).toArray bw_T RX3 := ⟨hx, hb, hml, hown, fun w h => hts w (List.mem_cons_of_mem _ h)⟩
  have hl : lv_has ls 2 [(0, .ref b)] := hl
  refine lv_aload_n hx hb dX3_advance_0 rfl (lv_at hl 0 rfl) ?_
  refine lv_aload_n hx hb dX3_advance_1 rfl (lv_at hl 0 rfl) ?_
  refine r_get F hK hP 0 11 rfl rfl in_X3 (by decide) k_277 rfl dX3_advance_2 ?_
  refine r_put F hK hP hD hS 0 10 rfl rfl in_X3 tyX3 tyX3_ok nmX3 (by decide) k_276 rfl rfl rfl (Nat.le_of_ble_eq_true rfl) dX3_advance_5 (w1 := [(b, .inr (3, [.ref (q 20), .int 0, .ref (q 21), .ref (q 22), .int 0, .int 0, .ref (q 23), .ref (q 24), .int 0, .int 24, .int 0, .int 0, .long 0, .int 0]))]) rfl (fun H locs hP hD hS => ?_)
  refine lv_aload_n hx hb dX3_advance_8 rfl (lv_at hl 0 rfl) ?_
  refine r_get F hK hP 0 10 rfl rfl in_X3 (by decide) k_276 rfl dX3_advance_9 ?_
  refine lv_aload_n hx hb dX3_advance_12 rfl (lv_at hl 0 rfl) ?_
  refine r_get F hK hP 0 8 rfl rfl in_X3 (by decide) k_274 rfl dX3_advance_13 ?_
  refine lv_icmp_ge (tgt := 46) hx hb dX3_advance_16 (by decide) (fun _ => ?_) (fun h9 => absurd (by decide) h9)
  refine lv_aload_n hx hb dX3_advance_46 rfl (lv_at hl 0 rfl) ?_
  refine lv_aload_n hx hb dX3_advance_47 rfl (lv_at hl 0 rfl) ?_
  refine r_get F hK hP 0 10 rfl rfl in_X3 (by decide) k_276 rfl dX3_advance_48 ?_
  refine r_put F hK hP hD hS 0 11 rfl rfl in_X3 tyX3 tyX3_ok nmX3 (by decide) k_277 rfl rfl rfl (Nat.le_of_ble_eq_true rfl) dX3_advance_51 (w1 := [(b, .inr (3, [.ref (q 20), .int 0, .ref (q 21), .ref (q 22), .int 0, .int 0, .ref (q 23), .ref (q 24), .int 0, .int 24, .int 0, .int 0, .long 0, .int 0]))]) rfl (fun H locs hP hD hS => ?_)
  refine lv_aload_n hx hb dX3_advance_54 rfl (lv_at hl 0 rfl) ?_
  refine r_get F hK hP 0 10 rfl rfl in_X3 (by decide) k_276 rfl dX3_advance_55 ?_
  refine lv_aload_n hx hb dX3_advance_58 rfl (lv_at hl 0 rfl) ?_
  refine r_get F hK hP 0 8 rfl rfl in_X3 (by decide) k_274 rfl dX3_advance_59 ?_
  refine lv_icmp_lt (tgt := 72) hx hb dX3_advance_62 (by decide) (fun h9 => absurd h9 (by decide)) (fun _ => ?_)
  refine lv_aload_n hx hb dX3_advance_65 rfl (lv_at hl 0 rfl) ?_
  refine lv_bipush (v := 24) hx hb dX3_advance_66 (by decide) ?_
  refine r_put F hK hP hD hS 0 9 rfl rfl in_X3 tyX3 tyX3_ok nmX3 (by decide) k_275 rfl rfl rfl (Nat.le_of_ble_eq_true rfl) dX3_advance_68 (w1 := [(b, .inr (3, [.ref (q 20), .int 0, .ref (q 21), .ref (q 22), .int 0, .int 0, .ref (q 23), .ref (q 24), .int 0, .int 24, .int 0, .int 0, .long 0, .int 0]))]) rfl (fun H locs hP hD hS => ?_)
  exact ret (fun _ => 0, fun _ _ => 0) _ _ _ _ _ _ trivial (bw_subP (isC := [0]) hP rfl) (hD.sub [0] (by decide) rfl) hS (Nat.le_of_ble_eq_true rfl) (Nat.le_of_ble_eq_true rfl) dX3_advance_71
theorem dX3_fail_0 : decode cX3_fail 0 = .ok (.aload_n 0, 1) := by decide +kernel
theorem dX3_fail_1 : decode cX3_fail 1 = .ok (.iload_n 1, 1) := by decide +kernel
theorem dX3_fail_2 : decode cX3_fail 2 = .ok (.putfield 33, 3) := by decide +kernel
theorem dX3_fail_5 : decode cX3_fail 5 = .ok (.aload_n 0, 1) := by decide +kernel
theorem dX3_fail_6 : decode cX3_fail 6 = .ok (.aload_n 0, 1) := by decide +kernel
theorem dX3_fail_7 : decode cX3_fail 7 = .ok (.getfield 52, 3) := by decide +kernel
theorem dX3_fail_10 : decode cX3_fail 10 = .ok (.putfield 36, 3) := by decide +kernel
theorem dX3_fail_13 : decode cX3_fail 13 = .ok (.iconst 0, 1) := by decide +kernel
theorem dX3_fail_14 : decode cX3_fail 14 = .ok (.ireturn, 1) := by decide +kernel
abbrev rm_X3_fail : Room := { frames := 0, cells := 0, slots := 0, locals := 0 }
set_option maxRecDepth 100000 in
set_option maxHeartbeats 4000000 in
theorem c_X3_fail {l : Launch} {E : (Nat → Prop) → State → Prop} (hO : bw_Ok E) {G : va_G} {cI cB cJ cN cW : ClassId} (b : Nat) (q : Nat → Nat) (n : Int32) : bw_Ci (S := bw_U) l yX3_fail (bw_ws (Cond.code yX3_fail cX3_fail 2 (some .boolean))) rm_X3_fail E G (bw_kt cI cB cJ cN cW) [.ref b, .int n] [(b, .inr (3, [.ref (q 20), .int 0, .ref (q 21), .ref (q 22), .int 0, .int 0, .ref (q 23), .ref (q 24), .int 0, .int 24, .int 0, .int 0, .long 0, .int 0]))] (fun r _ => r = 0) (fun _ => []) := by
  refine bw_Ci.of (cc := cX3_fail) (maxL := 2) (ty := .boolean) (by decide) rfl (Nat.le_of_ble_eq_true rfl) ?_
  intro p e s m below meth c A Q hx hb hml hts hown hin hK hA hS hP hD hE ret ls hl
  have F : CallFix p m c cX3_fail 2 s ([.ref b, .int n] : List Value).toArray bw_T RX3 := ⟨hx, hb, hml, hown, fun w h => hts w (List.mem_cons_of_mem _ h)⟩
  have hl : lv_has ls 2 [(0, .ref b), (1, .int n)] := hl
  refine lv_aload_n hx hb dX3_fail_0 rfl (lv_at hl 0 rfl) ?_
  refine lv_iload_n hx hb dX3_fail_1 rfl (lv_at hl 1 rfl) ?_
  refine r_put F hK hP hD hS 0 4 rfl rfl in_X3 tyX3 tyX3_ok nmX3 (by decide) k_268 rfl rfl rfl (Nat.le_of_ble_eq_true rfl) dX3_fail_2 (w1 := [(b, .inr (3, [.ref (q 20), .int 0, .ref (q 21), .ref (q 22), .int n, .int 0, .ref (q 23), .ref (q 24), .int 0, .int 24, .int 0, .int 0, .long 0, .int 0]))]) rfl (fun H locs hP hD hS => ?_)
  refine lv_aload_n hx hb dX3_fail_5 rfl (lv_at hl 0 rfl) ?_
  refine lv_aload_n hx hb dX3_fail_6 rfl (lv_at hl 0 rfl) ?_
  refine r_get F hK hP 0 10 rfl rfl in_X3 (by decide) k_276 rfl dX3_fail_7 ?_
  refine r_put F hK hP hD hS 0 5 rfl rfl in_X3 tyX3 tyX3_ok nmX3 (by decide) k_270 rfl rfl rfl (Nat.le_of_ble_eq_true rfl) dX3_fail_10 (w1 := [(b, .inr (3, [.ref (q 20), .int 0, .ref (q 21), .ref (q 22), .int n, .int 0, .ref (q 23), .ref (q 24), .int 0, .int 24, .int 0, .int 0, .long 0, .int 0]))]) rfl (fun H locs hP hD hS => ?_)
  refine lv_iconst (v := 0) hx hb dX3_fail_13 (by decide) ?_
  exact ret 0 (fun _ => 0, fun _ _ => 0) _ _ _ _ _ _ rfl rfl (bw_subP (isC := []) hP rfl) (hD.sub [] (by decide) rfl) hS (Nat.le_of_ble_eq_true rfl) (Nat.le_of_ble_eq_true rfl) dX3_fail_14
theorem dX3_read_0 : decode cX3_read 0 = .ok (.aload_n 0, 1) := by decide +kernel
theorem dX3_read_1 : decode cX3_read 1 = .ok (.iload_n 1, 1) := by decide +kernel
theorem dX3_read_2 : decode cX3_read 2 = .ok (.putfield 46, 3) := by decide +kernel
theorem dX3_read_5 : decode cX3_read 5 = .ok (.aload_n 0, 1) := by decide +kernel
theorem dX3_read_6 : decode cX3_read 6 = .ok (.iconst 0, 1) := by decide +kernel
theorem dX3_read_7 : decode cX3_read 7 = .ok (.putfield 15, 3) := by decide +kernel
theorem dX3_read_10 : decode cX3_read 10 = .ok (.aload_n 0, 1) := by decide +kernel
theorem dX3_read_11 : decode cX3_read 11 = .ok (.iconst 0, 1) := by decide +kernel
theorem dX3_read_12 : decode cX3_read 12 = .ok (.putfield 33, 3) := by decide +kernel
theorem dX3_read_15 : decode cX3_read 15 = .ok (.aload_n 0, 1) := by decide +kernel
theorem dX3_read_16 : decode cX3_read 16 = .ok (.iconst 0, 1) := by decide +kernel
theorem dX3_read_17 : decode cX3_read 17 = .ok (.putfield 36, 3) := by decide +kernel
theorem dX3_read_20 : decode cX3_read 20 = .ok (.aload_n 0, 1) := by decide +kernel
theorem dX3_read_21 : decode cX3_read 21 = .ok (.iconst 0, 1) := by decide +kernel
theorem dX3_read_22 : decode cX3_read 22 = .ok (.putfield 55, 3) := by decide +kernel
theorem dX3_read_25 : decode cX3_read 25 = .ok (.aload_n 0, 1) := by decide +kernel
theorem dX3_read_26 : decode cX3_read 26 = .ok (.getfield 22, 3) := by decide +kernel
theorem dX3_read_29 : decode cX3_read 29 = .ok (.invokevirtual 79, 3) := by decide +kernel
theorem k_558 : Cond.methodLink RX3 79 yX2_clear ∈ bw_T := bw_m 558 (by decide +kernel) rfl
theorem dX3_read_32 : decode cX3_read 32 = .ok (.aload_n 0, 1) := by decide +kernel
theorem dX3_read_33 : decode cX3_read 33 = .ok (.getfield 29, 3) := by decide +kernel
theorem dX3_read_36 : decode cX3_read 36 = .ok (.iconst 0, 1) := by decide +kernel
theorem dX3_read_37 : decode cX3_read 37 = .ok (.putfield 82, 3) := by decide +kernel
theorem k_202 : Cond.fieldLink RX3 82 "BurntWays$Wants" "count" "I" ∈ bw_T := bw_m 202 (by decide +kernel) rfl
theorem dX3_read_40 : decode cX3_read 40 = .ok (.iconst 0, 1) := by decide +kernel
theorem dX3_read_41 : decode cX3_read 41 = .ok (.istore_n 2, 1) := by decide +kernel
theorem dX3_read_42 : decode cX3_read 42 = .ok (.iload_n 2, 1) := by decide +kernel
theorem dX3_read_43 : decode cX3_read 43 = .ok (.sipush 900, 3) := by decide +kernel
theorem dX3_read_46 : decode cX3_read 46 = .ok (.if_icmp .gt 81, 3) := by decide +kernel
theorem dX3_read_49 : decode cX3_read 49 = .ok (.aload_n 0, 1) := by decide +kernel
theorem dX3_read_50 : decode cX3_read 50 = .ok (.invokevirtual 85, 3) := by decide +kernel
theorem k_559 : Cond.methodLink RX3 85 yX3_advance ∈ bw_T := bw_m 559 (by decide +kernel) rfl
theorem kv_X3_advance : bw_KV RX3 yX3_advance (Cond.code yX3_advance cX3_advance 2 none) := ⟨bw_m 561 (by decide +kernel) rfl, bw_m 2 (by decide +kernel) rfl, bw_m 95 (by decide +kernel) rfl, bw_m 562 (by decide +kernel) rfl⟩
theorem dX3_read_53 : decode cX3_read 53 = .ok (.aload_n 0, 1) := by decide +kernel
theorem dX3_read_54 : decode cX3_read 54 = .ok (.getfield 49, 3) := by decide +kernel
theorem dX3_read_57 : decode cX3_read 57 = .ok (.ifCond .ne 10, 3) := by decide +kernel
theorem dX3_read_67 : decode cX3_read 67 = .ok (.aload_n 0, 1) := by decide +kernel
theorem dX3_read_68 : decode cX3_read 68 = .ok (.getfield 49, 3) := by decide +kernel
theorem dX3_read_71 : decode cX3_read 71 = .ok (.iconst 1, 1) := by decide +kernel
theorem dX3_read_72 : decode cX3_read 72 = .ok (.if_icmp .ne 10, 3) := by decide +kernel
theorem dX3_read_82 : decode cX3_read 82 = .ok (.aload_n 0, 1) := by decide +kernel
theorem dX3_read_83 : decode cX3_read 83 = .ok (.getfield 49, 3) := by decide +kernel
theorem dX3_read_86 : decode cX3_read 86 = .ok (.iconst 2, 1) := by decide +kernel
theorem dX3_read_87 : decode cX3_read 87 = .ok (.if_icmp .ne 10, 3) := by decide +kernel
theorem dX3_read_97 : decode cX3_read 97 = .ok (.aload_n 0, 1) := by decide +kernel
theorem dX3_read_98 : decode cX3_read 98 = .ok (.iconst 1, 1) := by decide +kernel
theorem dX3_read_99 : decode cX3_read 99 = .ok (.invokevirtual 98, 3) := by decide +kernel
theorem k_575 : Cond.methodLink RX3 98 yX3_fail ∈ bw_T := bw_m 575 (by decide +kernel) rfl
theorem kv_X3_fail : bw_KV RX3 yX3_fail (Cond.code yX3_fail cX3_fail 2 (some .boolean)) := ⟨bw_m 577 (by decide +kernel) rfl, bw_m 6 (by decide +kernel) rfl, bw_m 95 (by decide +kernel) rfl, bw_m 578 (by decide +kernel) rfl⟩
theorem dX3_read_102 : decode cX3_read 102 = .ok (.istore_n 3, 1) := by decide +kernel
theorem dX3_read_103 : decode cX3_read 103 = .ok (.iload_n 3, 1) := by decide +kernel
theorem dX3_read_104 : decode cX3_read 104 = .ok (.ifCond .ne 5, 3) := by decide +kernel
theorem dX3_read_107 : decode cX3_read 107 = .ok (.iconst 0, 1) := by decide +kernel
theorem dX3_read_108 : decode cX3_read 108 = .ok (.ireturn, 1) := by decide +kernel
abbrev rm_X3_read : Room := { frames := 2, cells := 0, slots := 0, locals := 43 }
set_option maxRecDepth 100000 in
set_option maxHeartbeats 4000000 in
theorem c_X3_read {l : Launch} {E : (Nat → Prop) → State → Prop} (hO : bw_Ok E) {G : va_G} {cI cB cJ cN cW : ClassId} (b : Nat) (q : Nat → Nat) (f : Nat → Nat → Int32) : bw_Ci (S := bw_U) l yX3_read (bw_ws (Cond.code yX3_read cX3_read 4 (some .boolean))) rm_X3_read E G (bw_kt cI cB cJ cN cW) [.ref b, .int 0] [(b, .inr (3, [.ref (q 20), .int 0, .ref (q 21), .ref (q 22), .int 0, .int 0, .ref (q 23), .ref (q 24), .int 0, .int 24, .int 0, .int 0, .long 0, .int 0])), ((q 21), .inr (2, [.int 0, .ref (q 25), .ref (q 26), .ref (q 27), .ref (q 28), .ref (q 29), .ref (q 30), .ref (q 31), .ref (q 32)])), ((q 25), .inl (cI, 10, .inl (f 0))), ((q 26), .inl (cI, 10, .inl (f 1))), ((q 27), .inl (cI, 10, .inl (f 2))), ((q 31), .inl (cI, 20, .inl (f 3))), ((q 32), .inl (cI, 20, .inl (fun _ => 0))), ((q 22), .inr (7, [.int 0, .ref (q 33)]))] (fun r _ => r = 0) (fun _ => []) := by
  refine bw_Ci.of (cc := cX3_read) (maxL := 4) (ty := .boolean) (by decide) rfl (Nat.le_of_ble_eq_true rfl) ?_
  intro p e s m below meth c A Q hx hb hml hts hown hin hK hA hS hP hD hE ret ls hl
  have F : CallFix p m c cX3_read 4 s ([.ref b, .int 0] : List Value).toArray bw_T RX3 := ⟨hx, hb, hml, hown, fun w h => hts w (List.mem_cons_of_mem _ h)⟩
  have hl : lv_has ls 4 [(0, .ref b), (1, .int 0)] := hl
  refine lv_aload_n hx hb dX3_read_0 rfl (lv_at hl 0 rfl) ?_
  refine lv_iload_n hx hb dX3_read_1 rfl (lv_at hl 1 rfl) ?_
  refine r_put F hK hP hD hS 0 8 rfl rfl in_X3 tyX3 tyX3_ok nmX3 (by decide) k_274 rfl rfl rfl (Nat.le_of_ble_eq_true rfl) dX3_read_2 (w1 := [(b, .inr (3, [.ref (q 20), .int 0, .ref (q 21), .ref (q 22), .int 0, .int 0, .ref (q 23), .ref (q 24), .int 0, .int 24, .int 0, .int 0, .long 0, .int 0])), ((q 21), .inr (2, [.int 0, .ref (q 25), .ref (q 26), .ref (q 27), .ref (q 28), .ref (q 29), .ref (q 30), .ref (q 31), .ref (q 32)])), ((q 25), .inl (cI, 10, .inl (f 0))), ((q 26), .inl (cI, 10, .inl (f 1))), ((q 27), .inl (cI, 10, .inl (f 2))), ((q 31), .inl (cI, 20, .inl (f 3))), ((q 32), .inl (cI, 20, .inl (fun _ => 0))), ((q 22), .inr (7, [.int 0, .ref (q 33)]))]) rfl (fun H locs hP hD hS => ?_)
  refine lv_aload_n hx hb dX3_read_5 rfl (lv_at hl 0 rfl) ?_
  refine lv_iconst (v := 0) hx hb dX3_read_6 (by decide) ?_
  refine r_put F hK hP hD hS 0 1 rfl rfl in_X3 tyX3 tyX3_ok nmX3 (by decide) k_262 rfl rfl rfl (Nat.le_of_ble_eq_true rfl) dX3_read_7 (w1 := [(b, .inr (3, [.ref (q 20), .int 0, .ref (q 21), .ref (q 22), .int 0, .int 0, .ref (q 23), .ref (q 24), .int 0, .int 24, .int 0, .int 0, .long 0, .int 0])), ((q 21), .inr (2, [.int 0, .ref (q 25), .ref (q 26), .ref (q 27), .ref (q 28), .ref (q 29), .ref (q 30), .ref (q 31), .ref (q 32)])), ((q 25), .inl (cI, 10, .inl (f 0))), ((q 26), .inl (cI, 10, .inl (f 1))), ((q 27), .inl (cI, 10, .inl (f 2))), ((q 31), .inl (cI, 20, .inl (f 3))), ((q 32), .inl (cI, 20, .inl (fun _ => 0))), ((q 22), .inr (7, [.int 0, .ref (q 33)]))]) rfl (fun H locs hP hD hS => ?_)
  refine lv_aload_n hx hb dX3_read_10 rfl (lv_at hl 0 rfl) ?_
  refine lv_iconst (v := 0) hx hb dX3_read_11 (by decide) ?_
  refine r_put F hK hP hD hS 0 4 rfl rfl in_X3 tyX3 tyX3_ok nmX3 (by decide) k_268 rfl rfl rfl (Nat.le_of_ble_eq_true rfl) dX3_read_12 (w1 := [(b, .inr (3, [.ref (q 20), .int 0, .ref (q 21), .ref (q 22), .int 0, .int 0, .ref (q 23), .ref (q 24), .int 0, .int 24, .int 0, .int 0, .long 0, .int 0])), ((q 21), .inr (2, [.int 0, .ref (q 25), .ref (q 26), .ref (q 27), .ref (q 28), .ref (q 29), .ref (q 30), .ref (q 31), .ref (q 32)])), ((q 25), .inl (cI, 10, .inl (f 0))), ((q 26), .inl (cI, 10, .inl (f 1))), ((q 27), .inl (cI, 10, .inl (f 2))), ((q 31), .inl (cI, 20, .inl (f 3))), ((q 32), .inl (cI, 20, .inl (fun _ => 0))), ((q 22), .inr (7, [.int 0, .ref (q 33)]))]) rfl (fun H locs hP hD hS => ?_)
  refine lv_aload_n hx hb dX3_read_15 rfl (lv_at hl 0 rfl) ?_
  refine lv_iconst (v := 0) hx hb dX3_read_16 (by decide) ?_
  refine r_put F hK hP hD hS 0 5 rfl rfl in_X3 tyX3 tyX3_ok nmX3 (by decide) k_270 rfl rfl rfl (Nat.le_of_ble_eq_true rfl) dX3_read_17 (w1 := [(b, .inr (3, [.ref (q 20), .int 0, .ref (q 21), .ref (q 22), .int 0, .int 0, .ref (q 23), .ref (q 24), .int 0, .int 24, .int 0, .int 0, .long 0, .int 0])), ((q 21), .inr (2, [.int 0, .ref (q 25), .ref (q 26), .ref (q 27), .ref (q 28), .ref (q 29), .ref (q 30), .ref (q 31), .ref (q 32)])), ((q 25), .inl (cI, 10, .inl (f 0))), ((q 26), .inl (cI, 10, .inl (f 1))), ((q 27), .inl (cI, 10, .inl (f 2))), ((q 31), .inl (cI, 20, .inl (f 3))), ((q 32), .inl (cI, 20, .inl (fun _ => 0))), ((q 22), .inr (7, [.int 0, .ref (q 33)]))]) rfl (fun H locs hP hD hS => ?_)
  refine lv_aload_n hx hb dX3_read_20 rfl (lv_at hl 0 rfl) ?_
  refine lv_iconst (v := 0) hx hb dX3_read_21 (by decide) ?_
  refine r_put F hK hP hD hS 0 11 rfl rfl in_X3 tyX3 tyX3_ok nmX3 (by decide) k_277 rfl rfl rfl (Nat.le_of_ble_eq_true rfl) dX3_read_22 (w1 := [(b, .inr (3, [.ref (q 20), .int 0, .ref (q 21), .ref (q 22), .int 0, .int 0, .ref (q 23), .ref (q 24), .int 0, .int 24, .int 0, .int 0, .long 0, .int 0])), ((q 21), .inr (2, [.int 0, .ref (q 25), .ref (q 26), .ref (q 27), .ref (q 28), .ref (q 29), .ref (q 30), .ref (q 31), .ref (q 32)])), ((q 25), .inl (cI, 10, .inl (f 0))), ((q 26), .inl (cI, 10, .inl (f 1))), ((q 27), .inl (cI, 10, .inl (f 2))), ((q 31), .inl (cI, 20, .inl (f 3))), ((q 32), .inl (cI, 20, .inl (fun _ => 0))), ((q 22), .inr (7, [.int 0, .ref (q 33)]))]) rfl (fun H locs hP hD hS => ?_)
  refine lv_aload_n hx hb dX3_read_25 rfl (lv_at hl 0 rfl) ?_
  refine r_get F hK hP 0 2 rfl rfl in_X3 (by decide) k_264 rfl dX3_read_26 ?_
  refine r_callVv (As := []) (rest := []) (wr := [(b, .inr (3, [.ref (q 20), .int 0, .ref (q 21), .ref (q 22), .int 0, .int 0, .ref (q 23), .ref (q 24), .int 0, .int 24, .int 0, .int 0, .long 0, .int 0])), ((q 22), .inr (7, [.int 0, .ref (q 33)]))]) F hK hP hD hS hA hO hE (c_X2_clear hO (q 21) (fun k => [(q 25), (q 26), (q 27), (q 28), (q 29), (q 30), (q 31), (q 32)].getD k 0) 0 (fun k => [(f 0), (f 1), (f 2), (f 3)].getD k (fun _ => 0))) k_558 kv_X2_clear 0 rfl (by decide +kernel) ⟨Nat.le_of_ble_eq_true rfl, Nat.le_of_ble_eq_true rfl⟩ [1, 2, 3, 4, 5, 6] [0, 7] rfl rfl (by decide) (by decide) (by decide) 0 2 rfl rfl rfl hl.1 rfl (Nat.le_of_ble_eq_true rfl) dX3_read_29 ⟨Nat.le_of_ble_eq_true rfl, Nat.le_of_ble_eq_true rfl⟩ (w1 := fun u1 => [(b, .inr (3, [.ref (q 20), .int 0, .ref (q 21), .ref (q 22), .int 0, .int 0, .ref (q 23), .ref (q 24), .int 0, .int 24, .int 0, .int 0, .long 0, .int 0])), ((q 22), .inr (7, [.int 0, .ref (q 33)])), ((q 21), .inr (2, [.int 0, .ref (q 25), .ref (q 26), .ref (q 27), .ref (q 28), .ref (q 29), .ref (q 30), .ref (q 31), .ref (q 32)])), ((q 25), .inl (cI, 10, .inl (u1.2 0))), ((q 26), .inl (cI, 10, .inl (u1.2 1))), ((q 27), .inl (cI, 10, .inl (u1.2 2))), ((q 31), .inl (cI, 20, .inl (u1.2 3))), ((q 32), .inl (cI, 20, .inl (fun _ => 0)))]) (fun _ => rfl) (fun  u1 H locs hp hP hD hS => ?_)
  refine lv_aload_n hx hb dX3_read_32 rfl (lv_at hl 0 rfl) ?_
  refine r_get F hK hP 0 3 rfl rfl in_X3 (by decide) k_266 rfl dX3_read_33 ?_
  refine lv_iconst (v := 0) hx hb dX3_read_36 (by decide) ?_
  refine r_put F hK hP hD hS 1 0 rfl rfl in_X7 tyX7 tyX7_ok nmX7 (by decide) k_202 rfl rfl rfl (Nat.le_of_ble_eq_true rfl) dX3_read_37 (w1 := [(b, .inr (3, [.ref (q 20), .int 0, .ref (q 21), .ref (q 22), .int 0, .int 0, .ref (q 23), .ref (q 24), .int 0, .int 24, .int 0, .int 0, .long 0, .int 0])), ((q 22), .inr (7, [.int 0, .ref (q 33)])), ((q 21), .inr (2, [.int 0, .ref (q 25), .ref (q 26), .ref (q 27), .ref (q 28), .ref (q 29), .ref (q 30), .ref (q 31), .ref (q 32)])), ((q 25), .inl (cI, 10, .inl (u1.2 0))), ((q 26), .inl (cI, 10, .inl (u1.2 1))), ((q 27), .inl (cI, 10, .inl (u1.2 2))), ((q 31), .inl (cI, 20, .inl (u1.2 3))), ((q 32), .inl (cI, 20, .inl (fun _ => 0)))]) rfl (fun H locs hP hD hS => ?_)
  refine lv_iconst (v := 0) hx hb dX3_read_40 (by decide) ?_
  refine lv_istore_n (lv' := [(2, .int 0), (0, .ref b), (1, .int 0)]) hx hb dX3_read_41 rfl hl (by decide) rfl (fun ls hl => ?_)
  refine lv_iload_n hx hb dX3_read_42 rfl (lv_at hl 0 rfl) ?_
  refine lv_sipush (v := 900) hx hb dX3_read_43 (by decide) ?_
  refine lv_icmp_gt (tgt := 127) hx hb dX3_read_46 (by decide) (fun h9 => absurd h9 (by decide)) (fun _ => ?_)
  refine lv_aload_n hx hb dX3_read_49 rfl (lv_at hl 1 rfl) ?_
  refine r_callVv (As := []) (rest := []) (wr := [((q 22), .inr (7, [.int 0, .ref (q 33)])), ((q 21), .inr (2, [.int 0, .ref (q 25), .ref (q 26), .ref (q 27), .ref (q 28), .ref (q 29), .ref (q 30), .ref (q 31), .ref (q 32)])), ((q 25), .inl (cI, 10, .inl (u1.2 0))), ((q 26), .inl (cI, 10, .inl (u1.2 1))), ((q 27), .inl (cI, 10, .inl (u1.2 2))), ((q 31), .inl (cI, 20, .inl (u1.2 3))), ((q 32), .inl (cI, 20, .inl (fun _ => 0)))]) F hK hP hD hS hA hO hE (c_X3_advance hO b q) k_559 kv_X3_advance 0 rfl (by decide +kernel) ⟨Nat.le_of_ble_eq_true rfl, Nat.le_of_ble_eq_true rfl⟩ [0] [1, 2, 3, 4, 5, 6, 7] rfl rfl (by decide) (by decide) (by decide) 0 3 rfl rfl rfl hl.1 rfl (Nat.le_of_ble_eq_true rfl) dX3_read_50 ⟨Nat.le_of_ble_eq_true rfl, Nat.le_of_ble_eq_true rfl⟩ (w1 := fun u2 => [((q 22), .inr (7, [.int 0, .ref (q 33)])), ((q 21), .inr (2, [.int 0, .ref (q 25), .ref (q 26), .ref (q 27), .ref (q 28), .ref (q 29), .ref (q 30), .ref (q 31), .ref (q 32)])), ((q 25), .inl (cI, 10, .inl (u1.2 0))), ((q 26), .inl (cI, 10, .inl (u1.2 1))), ((q 27), .inl (cI, 10, .inl (u1.2 2))), ((q 31), .inl (cI, 20, .inl (u1.2 3))), ((q 32), .inl (cI, 20, .inl (fun _ => 0))), (b, .inr (3, [.ref (q 20), .int 0, .ref (q 21), .ref (q 22), .int 0, .int 0, .ref (q 23), .ref (q 24), .int 0, .int 24, .int 0, .int 0, .long 0, .int 0]))]) (fun _ => rfl) (fun  u2 H locs hp hP hD hS => ?_)
  refine lv_aload_n hx hb dX3_read_53 rfl (lv_at hl 1 rfl) ?_
  refine r_get F hK hP 7 9 rfl rfl in_X3 (by decide) k_275 rfl dX3_read_54 ?_
  refine lv_if_ne (tgt := 67) hx hb dX3_read_57 (by decide) (fun _ => ?_) (fun h9 => absurd h9 (by decide))
  refine lv_aload_n hx hb dX3_read_67 rfl (lv_at hl 1 rfl) ?_
  refine r_get F hK hP 7 9 rfl rfl in_X3 (by decide) k_275 rfl dX3_read_68 ?_
  refine lv_iconst (v := 1) hx hb dX3_read_71 (by decide) ?_
  refine lv_icmp_ne (tgt := 82) hx hb dX3_read_72 (by decide) (fun _ => ?_) (fun h9 => absurd h9 (by decide))
  refine lv_aload_n hx hb dX3_read_82 rfl (lv_at hl 1 rfl) ?_
  refine r_get F hK hP 7 9 rfl rfl in_X3 (by decide) k_275 rfl dX3_read_83 ?_
  refine lv_iconst (v := 2) hx hb dX3_read_86 (by decide) ?_
  refine lv_icmp_ne (tgt := 97) hx hb dX3_read_87 (by decide) (fun _ => ?_) (fun h9 => absurd h9 (by decide))
  refine lv_aload_n hx hb dX3_read_97 rfl (lv_at hl 1 rfl) ?_
  refine lv_iconst (v := 1) hx hb dX3_read_98 (by decide) ?_
  refine r_callVi (As := [.int 1]) (rest := []) (wr := [((q 22), .inr (7, [.int 0, .ref (q 33)])), ((q 21), .inr (2, [.int 0, .ref (q 25), .ref (q 26), .ref (q 27), .ref (q 28), .ref (q 29), .ref (q 30), .ref (q 31), .ref (q 32)])), ((q 25), .inl (cI, 10, .inl (u1.2 0))), ((q 26), .inl (cI, 10, .inl (u1.2 1))), ((q 27), .inl (cI, 10, .inl (u1.2 2))), ((q 31), .inl (cI, 20, .inl (u1.2 3))), ((q 32), .inl (cI, 20, .inl (fun _ => 0)))]) F hK hP hD hS hA hO hE (c_X3_fail hO b q 1) k_575 kv_X3_fail 1 rfl (by decide +kernel) ⟨Nat.le_of_ble_eq_true rfl, Nat.le_of_ble_eq_true rfl⟩ [7] [0, 1, 2, 3, 4, 5, 6] rfl rfl (by decide) (by decide) (by decide) 0 3 rfl rfl rfl hl.1 rfl (Nat.le_of_ble_eq_true rfl) dX3_read_99 ⟨Nat.le_of_ble_eq_true rfl, Nat.le_of_ble_eq_true rfl⟩ (w1 := fun u3 => [((q 22), .inr (7, [.int 0, .ref (q 33)])), ((q 21), .inr (2, [.int 0, .ref (q 25), .ref (q 26), .ref (q 27), .ref (q 28), .ref (q 29), .ref (q 30), .ref (q 31), .ref (q 32)])), ((q 25), .inl (cI, 10, .inl (u1.2 0))), ((q 26), .inl (cI, 10, .inl (u1.2 1))), ((q 27), .inl (cI, 10, .inl (u1.2 2))), ((q 31), .inl (cI, 20, .inl (u1.2 3))), ((q 32), .inl (cI, 20, .inl (fun _ => 0)))]) (fun _ => rfl) (fun r4 u3 H locs hp hP hD hS => ?_)
  subst hp
  refine lv_istore_n (lv' := [(3, .int 0), (2, .int 0), (0, .ref b), (1, .int 0)]) hx hb dX3_read_102 rfl hl (by decide) rfl (fun ls hl => ?_)
  refine lv_iload_n hx hb dX3_read_103 rfl (lv_at hl 0 rfl) ?_
  refine lv_if_ne (tgt := 109) hx hb dX3_read_104 (by decide) (fun h9 => absurd (by decide) h9) (fun _ => ?_)
  refine lv_iconst (v := 0) hx hb dX3_read_107 (by decide) ?_
  exact ret 0 (fun _ => 0, fun _ _ => 0) _ _ _ _ _ _ rfl rfl (bw_subP (isC := []) hP rfl) (hD.sub [] (by decide) rfl) hS (Nat.le_of_ble_eq_true rfl) (Nat.le_of_ble_eq_true rfl) dX3_read_108
theorem bw_tri (n : Int32) : n < 0 ∨ n = 0 ∨ 0 < n := by
  rcases Int32.lt_or_le n 0 with h | h
  · exact Or.inl h
  · by_cases e : n = 0
    · exact Or.inr (Or.inl e)
    · exact Or.inr (Or.inr (Int32.lt_iff_toInt_lt.mpr (by
        have a := Int32.le_iff_toInt_le.mp h
        have b : ¬ n.toInt = (0 : Int32).toInt := fun q => e (Int32.toInt_inj.mp q)
        omega)))
theorem bw_pos {n : Int32} (h : 0 < n) : ¬ n < 0 := fun q => absurd (Int32.lt_trans h q) (by decide)
theorem dX8_program_0 : decode cX8_program 0 = .ok (.iload_n 1, 1) := by decide +kernel
theorem dX8_program_1 : decode cX8_program 1 = .ok (.ifCond .lt 14, 3) := by decide +kernel
theorem dX8_program_15 : decode cX8_program 15 = .ok (.aload_n 0, 1) := by decide +kernel
theorem dX8_program_16 : decode cX8_program 16 = .ok (.iconst 2, 1) := by decide +kernel
theorem dX8_program_17 : decode cX8_program 17 = .ok (.invokevirtual 92, 3) := by decide +kernel
theorem dX8_program_20 : decode cX8_program 20 = .ok (.ireturn, 1) := by decide +kernel
theorem dX8_program_4 : decode cX8_program 4 = .ok (.iload_n 1, 1) := by decide +kernel
theorem dX8_program_5 : decode cX8_program 5 = .ok (.aload_n 0, 1) := by decide +kernel
theorem dX8_program_6 : decode cX8_program 6 = .ok (.getfield 20, 3) := by decide +kernel
theorem dX8_program_9 : decode cX8_program 9 = .ok (.getfield 85, 3) := by decide +kernel
theorem dX8_program_12 : decode cX8_program 12 = .ok (.if_icmp .le 9, 3) := by decide +kernel
theorem dX8_program_21 : decode cX8_program 21 = .ok (.aload_n 0, 1) := by decide +kernel
theorem dX8_program_22 : decode cX8_program 22 = .ok (.getfield 20, 3) := by decide +kernel
theorem dX8_program_25 : decode cX8_program 25 = .ok (.iload_n 1, 1) := by decide +kernel
theorem dX8_program_26 : decode cX8_program 26 = .ok (.invokevirtual 96, 3) := by decide +kernel
theorem k_554 : Cond.methodLink RX8 96 yX3_read ∈ bw_T := bw_m 554 (by decide +kernel) rfl
theorem kv_X3_read : bw_KV RX3 yX3_read (Cond.code yX3_read cX3_read 4 (some .boolean)) := ⟨bw_m 555 (by decide +kernel) rfl, bw_m 556 (by decide +kernel) rfl, bw_m 95 (by decide +kernel) rfl, bw_m 557 (by decide +kernel) rfl⟩
theorem dX8_program_29 : decode cX8_program 29 = .ok (.ifCond .ne 9, 3) := by decide +kernel
theorem dX8_program_32 : decode cX8_program 32 = .ok (.aload_n 0, 1) := by decide +kernel
theorem dX8_program_33 : decode cX8_program 33 = .ok (.iconst 4, 1) := by decide +kernel
theorem dX8_program_34 : decode cX8_program 34 = .ok (.invokevirtual 92, 3) := by decide +kernel
theorem dX8_program_37 : decode cX8_program 37 = .ok (.ireturn, 1) := by decide +kernel
abbrev rm_X8_program : Room := { frames := 3, cells := 0, slots := 0, locals := 66 }
set_option maxRecDepth 100000 in
set_option maxHeartbeats 4000000 in
theorem c_X8_program {l : Launch} {E : (Nat → Prop) → State → Prop} (hO : bw_Ok E) {G : va_G} {cI cB cJ cN cW : ClassId} (b : Nat) (q : Nat → Nat) (f : Nat → Nat → Int32) (n : Int32) : bw_Ci (S := bw_U) l yX8_program (bw_ws (Cond.code yX8_program cX8_program 2 (some .int))) rm_X8_program E G (bw_kt cI cB cJ cN cW) [.ref b, .int n] [(b, .inr (8, [.int 0, .int 0, .ref (q 0), .ref (q 1), .ref (q 2), .ref (q 3), .ref (q 4), .ref (q 5), .ref (q 6), .ref (q 7), .ref (q 8), .ref (q 9), .ref (q 10), .ref (q 11)])), ((q 0), .inr (3, [.ref (q 20), .int 0, .ref (q 21), .ref (q 22), .int 0, .int 0, .ref (q 23), .ref (q 24), .int 0, .int 24, .int 0, .int 0, .long 0, .int 0])), ((q 21), .inr (2, [.int 0, .ref (q 25), .ref (q 26), .ref (q 27), .ref (q 28), .ref (q 29), .ref (q 30), .ref (q 31), .ref (q 32)])), ((q 25), .inl (cI, 10, .inl (f 0))), ((q 26), .inl (cI, 10, .inl (f 1))), ((q 27), .inl (cI, 10, .inl (f 2))), ((q 31), .inl (cI, 20, .inl (f 3))), ((q 32), .inl (cI, 20, .inl (fun _ => 0))), ((q 22), .inr (7, [.int 0, .ref (q 33)]))] (fun r _ => r = -1) (fun _ => []) := by
  refine bw_Ci.of (cc := cX8_program) (maxL := 2) (ty := .int) (by decide) rfl (Nat.le_of_ble_eq_true rfl) ?_
  intro p e s m below meth c A Q hx hb hml hts hown hin hK hA hS hP hD hE ret ls hl
  have F : CallFix p m c cX8_program 2 s ([.ref b, .int n] : List Value).toArray bw_T RX8 := ⟨hx, hb, hml, hown, fun w h => hts w (List.mem_cons_of_mem _ h)⟩
  have hl : lv_has ls 2 [(0, .ref b), (1, .int n)] := hl
  rcases bw_tri n with h1 | rfl | h1
  · refine lv_iload_n hx hb dX8_program_0 rfl (lv_at hl 1 rfl) ?_
    refine lv_if_lt (tgt := 15) hx hb dX8_program_1 (by decide) (fun _ => ?_) (fun h9 => absurd h1 h9)
    refine lv_aload_n hx hb dX8_program_15 rfl (lv_at hl 0 rfl) ?_
    refine lv_iconst (v := 2) hx hb dX8_program_16 (by decide) ?_
    refine r_callVi (As := [.int 2]) (rest := []) (wr := [((q 0), .inr (3, [.ref (q 20), .int 0, .ref (q 21), .ref (q 22), .int 0, .int 0, .ref (q 23), .ref (q 24), .int 0, .int 24, .int 0, .int 0, .long 0, .int 0])), ((q 21), .inr (2, [.int 0, .ref (q 25), .ref (q 26), .ref (q 27), .ref (q 28), .ref (q 29), .ref (q 30), .ref (q 31), .ref (q 32)])), ((q 25), .inl (cI, 10, .inl (f 0))), ((q 26), .inl (cI, 10, .inl (f 1))), ((q 27), .inl (cI, 10, .inl (f 2))), ((q 31), .inl (cI, 20, .inl (f 3))), ((q 32), .inl (cI, 20, .inl (fun _ => 0))), ((q 22), .inr (7, [.int 0, .ref (q 33)]))]) F hK hP hD hS hA hO hE (c_X8_refuse hO b q 2) k_550 kv_X8_refuse 1 rfl (by decide +kernel) ⟨Nat.le_of_ble_eq_true rfl, Nat.le_of_ble_eq_true rfl⟩ [0] [1, 2, 3, 4, 5, 6, 7, 8] rfl rfl (by decide) (by decide) (by decide) 0 8 rfl rfl rfl hl.1 rfl (Nat.le_of_ble_eq_true rfl) dX8_program_17 ⟨Nat.le_of_ble_eq_true rfl, Nat.le_of_ble_eq_true rfl⟩ (w1 := fun u1 => [((q 0), .inr (3, [.ref (q 20), .int 0, .ref (q 21), .ref (q 22), .int 0, .int 0, .ref (q 23), .ref (q 24), .int 0, .int 24, .int 0, .int 0, .long 0, .int 0])), ((q 21), .inr (2, [.int 0, .ref (q 25), .ref (q 26), .ref (q 27), .ref (q 28), .ref (q 29), .ref (q 30), .ref (q 31), .ref (q 32)])), ((q 25), .inl (cI, 10, .inl (f 0))), ((q 26), .inl (cI, 10, .inl (f 1))), ((q 27), .inl (cI, 10, .inl (f 2))), ((q 31), .inl (cI, 20, .inl (f 3))), ((q 32), .inl (cI, 20, .inl (fun _ => 0))), ((q 22), .inr (7, [.int 0, .ref (q 33)]))]) (fun _ => rfl) (fun r2 u1 H locs hp hP hD hS => ?_)
    subst hp
    exact ret (-1) (fun _ => 0, fun _ _ => 0) _ _ _ _ _ _ rfl rfl (bw_subP (isC := []) hP rfl) (hD.sub [] (by decide) rfl) hS (Nat.le_of_ble_eq_true rfl) (Nat.le_of_ble_eq_true rfl) dX8_program_20
  · refine lv_iload_n hx hb dX8_program_0 rfl (lv_at hl 1 rfl) ?_
    refine lv_if_lt (tgt := 15) hx hb dX8_program_1 (by decide) (fun h9 => absurd h9 (by decide)) (fun _ => ?_)
    refine lv_iload_n hx hb dX8_program_4 rfl (lv_at hl 1 rfl) ?_
    refine lv_aload_n hx hb dX8_program_5 rfl (lv_at hl 0 rfl) ?_
    refine r_get F hK hP 0 2 rfl rfl in_X8 (by decide) k_497 rfl dX8_program_6 ?_
    refine r_get F hK hP 1 1 rfl rfl in_X3 (by decide) k_263 rfl dX8_program_9 ?_
    refine lv_icmp_le (tgt := 21) hx hb dX8_program_12 (by decide) (fun _ => ?_) (fun h9 => absurd (by decide) h9)
    refine lv_aload_n hx hb dX8_program_21 rfl (lv_at hl 0 rfl) ?_
    refine r_get F hK hP 0 2 rfl rfl in_X8 (by decide) k_497 rfl dX8_program_22 ?_
    refine lv_iload_n hx hb dX8_program_25 rfl (lv_at hl 1 rfl) ?_
    refine r_callVi (As := [.int 0]) (rest := []) (wr := [(b, .inr (8, [.int 0, .int 0, .ref (q 0), .ref (q 1), .ref (q 2), .ref (q 3), .ref (q 4), .ref (q 5), .ref (q 6), .ref (q 7), .ref (q 8), .ref (q 9), .ref (q 10), .ref (q 11)]))]) F hK hP hD hS hA hO hE (c_X3_read hO (q 0) q f) k_554 kv_X3_read 1 rfl (by decide +kernel) ⟨Nat.le_of_ble_eq_true rfl, Nat.le_of_ble_eq_true rfl⟩ [1, 2, 3, 4, 5, 6, 7, 8] [0] rfl rfl (by decide) (by decide) (by decide) 0 3 rfl rfl rfl hl.1 rfl (Nat.le_of_ble_eq_true rfl) dX8_program_26 ⟨Nat.le_of_ble_eq_true rfl, Nat.le_of_ble_eq_true rfl⟩ (w1 := fun u1 => [(b, .inr (8, [.int 0, .int 0, .ref (q 0), .ref (q 1), .ref (q 2), .ref (q 3), .ref (q 4), .ref (q 5), .ref (q 6), .ref (q 7), .ref (q 8), .ref (q 9), .ref (q 10), .ref (q 11)]))]) (fun _ => rfl) (fun r2 u1 H locs hp hP hD hS => ?_)
    subst hp
    refine lv_if_ne (tgt := 38) hx hb dX8_program_29 (by decide) (fun h9 => absurd (by decide) h9) (fun _ => ?_)
    refine lv_aload_n hx hb dX8_program_32 rfl (lv_at hl 0 rfl) ?_
    refine lv_iconst (v := 4) hx hb dX8_program_33 (by decide) ?_
    refine r_callVi (As := [.int 4]) (rest := []) (wr := []) F hK hP hD hS hA hO hE (c_X8_refuse hO b q 4) k_550 kv_X8_refuse 1 rfl (by decide +kernel) ⟨Nat.le_of_ble_eq_true rfl, Nat.le_of_ble_eq_true rfl⟩ [0] [] rfl rfl (by decide) (by decide) (by decide) 0 8 rfl rfl rfl hl.1 rfl (Nat.le_of_ble_eq_true rfl) dX8_program_34 ⟨Nat.le_of_ble_eq_true rfl, Nat.le_of_ble_eq_true rfl⟩ (w1 := fun u3 => []) (fun _ => rfl) (fun r4 u3 H locs hp hP hD hS => ?_)
    subst hp
    exact ret (-1) (fun _ => 0, fun _ _ => 0) _ _ _ _ _ _ rfl rfl (bw_subP (isC := []) hP rfl) (hD.sub [] (by decide) rfl) hS (Nat.le_of_ble_eq_true rfl) (Nat.le_of_ble_eq_true rfl) dX8_program_37
  · refine lv_iload_n hx hb dX8_program_0 rfl (lv_at hl 1 rfl) ?_
    refine lv_if_lt (tgt := 15) hx hb dX8_program_1 (by decide) (fun h9 => absurd h9 (bw_pos h1)) (fun _ => ?_)
    refine lv_iload_n hx hb dX8_program_4 rfl (lv_at hl 1 rfl) ?_
    refine lv_aload_n hx hb dX8_program_5 rfl (lv_at hl 0 rfl) ?_
    refine r_get F hK hP 0 2 rfl rfl in_X8 (by decide) k_497 rfl dX8_program_6 ?_
    refine r_get F hK hP 1 1 rfl rfl in_X3 (by decide) k_263 rfl dX8_program_9 ?_
    refine lv_icmp_le (tgt := 21) hx hb dX8_program_12 (by decide) (fun h9 => absurd h9 (Int32.not_le.mpr h1)) (fun _ => ?_)
    refine lv_aload_n hx hb dX8_program_15 rfl (lv_at hl 0 rfl) ?_
    refine lv_iconst (v := 2) hx hb dX8_program_16 (by decide) ?_
    refine r_callVi (As := [.int 2]) (rest := []) (wr := [((q 0), .inr (3, [.ref (q 20), .int 0, .ref (q 21), .ref (q 22), .int 0, .int 0, .ref (q 23), .ref (q 24), .int 0, .int 24, .int 0, .int 0, .long 0, .int 0])), ((q 21), .inr (2, [.int 0, .ref (q 25), .ref (q 26), .ref (q 27), .ref (q 28), .ref (q 29), .ref (q 30), .ref (q 31), .ref (q 32)])), ((q 25), .inl (cI, 10, .inl (f 0))), ((q 26), .inl (cI, 10, .inl (f 1))), ((q 27), .inl (cI, 10, .inl (f 2))), ((q 31), .inl (cI, 20, .inl (f 3))), ((q 32), .inl (cI, 20, .inl (fun _ => 0))), ((q 22), .inr (7, [.int 0, .ref (q 33)]))]) F hK hP hD hS hA hO hE (c_X8_refuse hO b q 2) k_550 kv_X8_refuse 1 rfl (by decide +kernel) ⟨Nat.le_of_ble_eq_true rfl, Nat.le_of_ble_eq_true rfl⟩ [0] [1, 2, 3, 4, 5, 6, 7, 8] rfl rfl (by decide) (by decide) (by decide) 0 8 rfl rfl rfl hl.1 rfl (Nat.le_of_ble_eq_true rfl) dX8_program_17 ⟨Nat.le_of_ble_eq_true rfl, Nat.le_of_ble_eq_true rfl⟩ (w1 := fun u1 => [((q 0), .inr (3, [.ref (q 20), .int 0, .ref (q 21), .ref (q 22), .int 0, .int 0, .ref (q 23), .ref (q 24), .int 0, .int 24, .int 0, .int 0, .long 0, .int 0])), ((q 21), .inr (2, [.int 0, .ref (q 25), .ref (q 26), .ref (q 27), .ref (q 28), .ref (q 29), .ref (q 30), .ref (q 31), .ref (q 32)])), ((q 25), .inl (cI, 10, .inl (f 0))), ((q 26), .inl (cI, 10, .inl (f 1))), ((q 27), .inl (cI, 10, .inl (f 2))), ((q 31), .inl (cI, 20, .inl (f 3))), ((q 32), .inl (cI, 20, .inl (fun _ => 0))), ((q 22), .inr (7, [.int 0, .ref (q 33)]))]) (fun _ => rfl) (fun r2 u1 H locs hp hP hD hS => ?_)
    subst hp
    exact ret (-1) (fun _ => 0, fun _ _ => 0) _ _ _ _ _ _ rfl rfl (bw_subP (isC := []) hP rfl) (hD.sub [] (by decide) rfl) hS (Nat.le_of_ble_eq_true rfl) (Nat.le_of_ble_eq_true rfl) dX8_program_20
theorem dX2_toldLines_0 : decode cX2_toldLines 0 = .ok (.iconst 0, 1) := by decide +kernel
theorem dX2_toldLines_1 : decode cX2_toldLines 1 = .ok (.istore_n 1, 1) := by decide +kernel
theorem dX2_toldLines_2 : decode cX2_toldLines 2 = .ok (.iconst 0, 1) := by decide +kernel
theorem dX2_toldLines_3 : decode cX2_toldLines 3 = .ok (.istore_n 2, 1) := by decide +kernel
theorem dX2_toldLines_4 : decode cX2_toldLines 4 = .ok (.iload_n 2, 1) := by decide +kernel
theorem dX2_toldLines_5 : decode cX2_toldLines 5 = .ok (.aload_n 0, 1) := by decide +kernel
theorem dX2_toldLines_6 : decode cX2_toldLines 6 = .ok (.getfield 9, 3) := by decide +kernel
theorem dX2_toldLines_9 : decode cX2_toldLines 9 = .ok (.if_icmp .ge 25, 3) := by decide +kernel
theorem dX2_toldLines_34 : decode cX2_toldLines 34 = .ok (.iload_n 1, 1) := by decide +kernel
theorem dX2_toldLines_35 : decode cX2_toldLines 35 = .ok (.ireturn, 1) := by decide +kernel
abbrev rm_X2_toldLines : Room := { frames := 0, cells := 0, slots := 0, locals := 0 }
set_option maxRecDepth 100000 in
set_option maxHeartbeats 4000000 in
theorem c_X2_toldLines {l : Launch} {E : (Nat → Prop) → State → Prop} (hO : bw_Ok E) {G : va_G} {cI cB cJ cN cW : ClassId} (b : Nat) (q : Nat → Nat) : bw_Ci (S := bw_U) l yX2_toldLines (bw_ws (Cond.code yX2_toldLines cX2_toldLines 3 (some .int))) rm_X2_toldLines E G (bw_kt cI cB cJ cN cW) [.ref b] [(b, .inr (2, [.int 0, .ref (q 40), .ref (q 41), .ref (q 42), .ref (q 43), .ref (q 44), .ref (q 45), .ref (q 46), .ref (q 47)]))] (fun r _ => r = 0) (fun _ => []) := by
  refine bw_Ci.of (cc := cX2_toldLines) (maxL := 3) (ty := .int) (by decide) rfl (Nat.le_of_ble_eq_true rfl) ?_
  intro p e s m below meth c A Q hx hb hml hts hown hin hK hA hS hP hD hE ret ls hl
  have F : CallFix p m c cX2_toldLines 3 s ([.ref b] : List Value).toArray bw_T RX2 := ⟨hx, hb, hml, hown, fun w h => hts w (List.mem_cons_of_mem _ h)⟩
  have hl : lv_has ls 3 [(0, .ref b)] := hl
  refine lv_iconst (v := 0) hx hb dX2_toldLines_0 (by decide) ?_
  refine lv_istore_n (lv' := [(1, .int 0), (0, .ref b)]) hx hb dX2_toldLines_1 rfl hl (by decide) rfl (fun ls hl => ?_)
  refine lv_iconst (v := 0) hx hb dX2_toldLines_2 (by decide) ?_
  refine lv_istore_n (lv' := [(2, .int 0), (1, .int 0), (0, .ref b)]) hx hb dX2_toldLines_3 rfl hl (by decide) rfl (fun ls hl => ?_)
  refine lv_iload_n hx hb dX2_toldLines_4 rfl (lv_at hl 0 rfl) ?_
  refine lv_aload_n hx hb dX2_toldLines_5 rfl (lv_at hl 2 rfl) ?_
  refine r_get F hK hP 0 0 rfl rfl in_X2 (by decide) k_144 rfl dX2_toldLines_6 ?_
  refine lv_icmp_ge (tgt := 34) hx hb dX2_toldLines_9 (by decide) (fun _ => ?_) (fun h9 => absurd (by decide) h9)
  refine lv_iload_n hx hb dX2_toldLines_34 rfl (lv_at hl 1 rfl) ?_
  exact ret 0 (fun _ => 0, fun _ _ => 0) _ _ _ _ _ _ rfl rfl (bw_subP (isC := []) hP rfl) (hD.sub [] (by decide) rfl) hS (Nat.le_of_ble_eq_true rfl) (Nat.le_of_ble_eq_true rfl) dX2_toldLines_35
-- sizes
abbrev rm_X2_hasWayK : Room := { frames := 0, cells := 0, slots := 0, locals := 0 }
set_option maxRecDepth 100000 in
set_option maxHeartbeats 4000000 in
theorem c_X2_hasWayK {l : Launch} {E : (Nat → Prop) → State → Prop} (hO : bw_Ok E) {G : va_G} {cI cB cJ cN cW : ClassId} (b : Nat) (q : Nat → Nat) (x : Int32) : bw_Ci (S := bw_U) l yX2_hasWay (bw_ws (Cond.code yX2_hasWay cX2_hasWay 2 (some .boolean))) rm_X2_hasWayK E G (bw_kt cI cB cJ cN cW) [.ref b, .int x] [(b, .inr (2, [.int 0, .ref (q 40), .ref (q 41), .ref (q 42), .ref (q 43), .ref (q 44), .ref (q 45), .ref (q 46), .ref (q 47)])), ((q 47), .inl (cI, 20, .inl (fun _ => 0)))] (fun r _ => r = 0) (fun _ => [(b, .inr (2, [.int 0, .ref (q 40), .ref (q 41), .ref (q 42), .ref (q 43), .ref (q 44), .ref (q 45), .ref (q 46), .ref (q 47)])), ((q 47), .inl (cI, 20, .inl (fun _ => 0)))]) := by
  refine bw_Ci.of (cc := cX2_hasWay) (maxL := 2) (ty := .boolean) (by decide) rfl (Nat.le_of_ble_eq_true rfl) ?_
  intro p e s m below meth c A Q hx hb hml hts hown hin hK hA hS hP hD hE ret ls hl
  have F : CallFix p m c cX2_hasWay 2 s ([.ref b, .int x] : List Value).toArray bw_T RX2 := ⟨hx, hb, hml, hown, fun w h => hts w (List.mem_cons_of_mem _ h)⟩
  have hl : lv_has ls 2 [(0, .ref b), (1, .int x)] := hl
  refine lv_iload_n hx hb dX2_hasWay_0 rfl (lv_at hl 1 rfl) ?_
  refine lv_if_lt (tgt := 23) hx hb dX2_hasWay_1 (by decide) (fun h1 => ?_) (fun h1 => ?_)
  · refine lv_iconst (v := 0) hx hb dX2_hasWay_23 (by decide) ?_
    exact ret 0 (fun _ => 0, fun _ _ => 0) _ _ _ _ _ _ rfl rfl (bw_subP (isC := [0, 1]) hP rfl) (hD.sub [0, 1] (by decide) rfl) hS (Nat.le_of_ble_eq_true rfl) (Nat.le_of_ble_eq_true rfl) dX2_hasWay_24
  · refine lv_iload_n hx hb dX2_hasWay_4 rfl (lv_at hl 1 rfl) ?_
    refine lv_bipush (v := 20) hx hb dX2_hasWay_5 (by decide) ?_
    refine lv_icmp_ge (tgt := 23) hx hb dX2_hasWay_7 (by decide) (fun h2 => ?_) (fun h2 => ?_)
    · refine lv_iconst (v := 0) hx hb dX2_hasWay_23 (by decide) ?_
      exact ret 0 (fun _ => 0, fun _ _ => 0) _ _ _ _ _ _ rfl rfl (bw_subP (isC := [0, 1]) hP rfl) (hD.sub [0, 1] (by decide) rfl) hS (Nat.le_of_ble_eq_true rfl) (Nat.le_of_ble_eq_true rfl) dX2_hasWay_24
    · refine lv_aload_n hx hb dX2_hasWay_10 rfl (lv_at hl 0 rfl) ?_
      refine r_get F hK hP 0 8 rfl rfl in_X2 (by decide) k_169 rfl dX2_hasWay_11 ?_
      refine lv_iload_n hx hb dX2_hasWay_14 rfl (lv_at hl 1 rfl) ?_
      refine r_iald (v := 0) F hK hP 1 0 rfl rfl (bw_in20 h1 h2) dX2_hasWay_15 rfl ?_
      refine lv_if_le (tgt := 23) hx hb dX2_hasWay_16 (by decide) (fun _ => ?_) (fun h9 => absurd (by decide) h9)
      refine lv_iconst (v := 0) hx hb dX2_hasWay_23 (by decide) ?_
      exact ret 0 (fun _ => 0, fun _ _ => 0) _ _ _ _ _ _ rfl rfl (bw_subP (isC := [0, 1]) hP rfl) (hD.sub [0, 1] (by decide) rfl) hS (Nat.le_of_ble_eq_true rfl) (Nat.le_of_ble_eq_true rfl) dX2_hasWay_24
theorem dX2_wayBits_0 : decode cX2_wayBits 0 = .ok (.iconst 0, 1) := by decide +kernel
theorem dX2_wayBits_1 : decode cX2_wayBits 1 = .ok (.istore_n 1, 1) := by decide +kernel
theorem dX2_wayBits_2 : decode cX2_wayBits 2 = .ok (.iconst 0, 1) := by decide +kernel
theorem dX2_wayBits_3 : decode cX2_wayBits 3 = .ok (.istore_n 2, 1) := by decide +kernel
theorem dX2_wayBits_4 : decode cX2_wayBits 4 = .ok (.iload_n 2, 1) := by decide +kernel
theorem dX2_wayBits_5 : decode cX2_wayBits 5 = .ok (.bipush 20, 2) := by decide +kernel
theorem dX2_wayBits_7 : decode cX2_wayBits 7 = .ok (.if_icmp .ge 27, 3) := by decide +kernel
theorem dX2_wayBits_10 : decode cX2_wayBits 10 = .ok (.iload_n 1, 1) := by decide +kernel
theorem dX2_wayBits_11 : decode cX2_wayBits 11 = .ok (.aload_n 0, 1) := by decide +kernel
theorem dX2_wayBits_12 : decode cX2_wayBits 12 = .ok (.iload_n 2, 1) := by decide +kernel
theorem dX2_wayBits_13 : decode cX2_wayBits 13 = .ok (.invokevirtual 67, 3) := by decide +kernel
theorem k_801 : Cond.methodLink RX2 67 yX2_hasWay ∈ bw_T := bw_m 801 (by decide +kernel) rfl
theorem dX2_wayBits_16 : decode cX2_wayBits 16 = .ok (.ifCond .eq 9, 3) := by decide +kernel
theorem dX2_wayBits_25 : decode cX2_wayBits 25 = .ok (.iconst 0, 1) := by decide +kernel
theorem dX2_wayBits_26 : decode cX2_wayBits 26 = .ok (.ior, 1) := by decide +kernel
theorem dX2_wayBits_27 : decode cX2_wayBits 27 = .ok (.istore_n 1, 1) := by decide +kernel
theorem dX2_wayBits_28 : decode cX2_wayBits 28 = .ok (.iinc 2 1, 3) := by decide +kernel
theorem dX2_wayBits_31 : decode cX2_wayBits 31 = .ok (.goto (-27), 3) := by decide +kernel
theorem dX2_wayBits_34 : decode cX2_wayBits 34 = .ok (.iload_n 1, 1) := by decide +kernel
theorem dX2_wayBits_35 : decode cX2_wayBits 35 = .ok (.ireturn, 1) := by decide +kernel
abbrev rm_X2_wayBits : Room := { frames := 1, cells := 0, slots := 0, locals := 21 }
set_option maxRecDepth 100000 in
set_option maxHeartbeats 4000000 in
theorem c_X2_wayBits {l : Launch} {E : (Nat → Prop) → State → Prop} (hO : bw_Ok E) {G : va_G} {cI cB cJ cN cW : ClassId} (b : Nat) (q : Nat → Nat) : bw_Ci (S := bw_U) l yX2_wayBits (bw_ws (Cond.code yX2_wayBits cX2_wayBits 3 (some .int))) rm_X2_wayBits E G (bw_kt cI cB cJ cN cW) [.ref b] [(b, .inr (2, [.int 0, .ref (q 40), .ref (q 41), .ref (q 42), .ref (q 43), .ref (q 44), .ref (q 45), .ref (q 46), .ref (q 47)])), ((q 47), .inl (cI, 20, .inl (fun _ => 0)))] (fun r _ => r = 0) (fun _ => []) := by
  refine bw_Ci.of (cc := cX2_wayBits) (maxL := 3) (ty := .int) (by decide) rfl (Nat.le_of_ble_eq_true rfl) ?_
  intro p e s m below meth c A Q hx hb hml hts hown hin hK hA hS hP hD hE ret ls hl
  have F : CallFix p m c cX2_wayBits 3 s ([.ref b] : List Value).toArray bw_T RX2 := ⟨hx, hb, hml, hown, fun w h => hts w (List.mem_cons_of_mem _ h)⟩
  have hl : lv_has ls 3 [(0, .ref b)] := hl
  refine lv_iconst (v := 0) hx hb dX2_wayBits_0 (by decide) ?_
  refine lv_istore_n (lv' := [(1, .int 0), (0, .ref b)]) hx hb dX2_wayBits_1 rfl hl (by decide) rfl (fun ls hl => ?_)
  refine lv_iconst (v := 0) hx hb dX2_wayBits_2 (by decide) ?_
  refine lv_istore_n (lv' := [(2, .int 0), (1, .int 0), (0, .ref b)]) hx hb dX2_wayBits_3 rfl hl (by decide) rfl (fun ls hl => ?_)
  refine lv_iload_n hx hb dX2_wayBits_4 rfl (lv_at hl 0 rfl) ?_
  refine lv_bipush (v := 20) hx hb dX2_wayBits_5 (by decide) ?_
  refine lv_icmp_ge (tgt := 34) hx hb dX2_wayBits_7 (by decide) (fun h9 => absurd h9 (by decide)) (fun _ => ?_)
  refine lv_iload_n hx hb dX2_wayBits_10 rfl (lv_at hl 1 rfl) ?_
  refine lv_aload_n hx hb dX2_wayBits_11 rfl (lv_at hl 2 rfl) ?_
  refine lv_iload_n hx hb dX2_wayBits_12 rfl (lv_at hl 0 rfl) ?_
  refine r_callVi (As := [.int 0]) (rest := [.int 0]) (wr := []) F hK hP hD hS hA hO hE (c_X2_hasWayK hO b q 0) k_801 kv_X2_hasWay 1 rfl (by decide +kernel) ⟨Nat.le_of_ble_eq_true rfl, Nat.le_of_ble_eq_true rfl⟩ [0, 1] [] rfl rfl (by decide) (by decide) (by decide) 0 2 rfl rfl rfl hl.1 rfl (Nat.le_of_ble_eq_true rfl) dX2_wayBits_13 ⟨Nat.le_of_ble_eq_true rfl, Nat.le_of_ble_eq_true rfl⟩ (w1 := fun u1 => [(b, .inr (2, [.int 0, .ref (q 40), .ref (q 41), .ref (q 42), .ref (q 43), .ref (q 44), .ref (q 45), .ref (q 46), .ref (q 47)])), ((q 47), .inl (cI, 20, .inl (fun _ => 0)))]) (fun _ => rfl) (fun r2 u1 H locs hp hP hD hS => ?_)
  subst hp
  refine lv_if_eq (tgt := 25) hx hb dX2_wayBits_16 (by decide) (fun _ => ?_) (fun h9 => absurd (by decide) h9)
  refine lv_iconst (v := 0) hx hb dX2_wayBits_25 (by decide) ?_
  refine r_ior (v := 0) F dX2_wayBits_26 (by decide) ?_
  refine lv_istore_n (lv' := [(1, .int 0), (2, .int 0), (0, .ref b)]) hx hb dX2_wayBits_27 rfl hl (by decide) rfl (fun ls hl => ?_)
  refine lv_iinc (v := 1) (lv' := [(2, .int 1), (1, .int 0), (0, .ref b)]) hx hb dX2_wayBits_28 hl (k := 1) rfl (by decide) (by decide) rfl (fun ls hl => ?_)
  refine lv_goto (tgt := 4) hx hb dX2_wayBits_31 (by decide) ?_
  refine lv_iload_n hx hb dX2_wayBits_4 rfl (lv_at hl 0 rfl) ?_
  refine lv_bipush (v := 20) hx hb dX2_wayBits_5 (by decide) ?_
  refine lv_icmp_ge (tgt := 34) hx hb dX2_wayBits_7 (by decide) (fun h9 => absurd h9 (by decide)) (fun _ => ?_)
  refine lv_iload_n hx hb dX2_wayBits_10 rfl (lv_at hl 1 rfl) ?_
  refine lv_aload_n hx hb dX2_wayBits_11 rfl (lv_at hl 2 rfl) ?_
  refine lv_iload_n hx hb dX2_wayBits_12 rfl (lv_at hl 0 rfl) ?_
  refine r_callVi (As := [.int 1]) (rest := [.int 0]) (wr := []) F hK hP hD hS hA hO hE (c_X2_hasWayK hO b q 1) k_801 kv_X2_hasWay 1 rfl (by decide +kernel) ⟨Nat.le_of_ble_eq_true rfl, Nat.le_of_ble_eq_true rfl⟩ [0, 1] [] rfl rfl (by decide) (by decide) (by decide) 0 2 rfl rfl rfl hl.1 rfl (Nat.le_of_ble_eq_true rfl) dX2_wayBits_13 ⟨Nat.le_of_ble_eq_true rfl, Nat.le_of_ble_eq_true rfl⟩ (w1 := fun u3 => [(b, .inr (2, [.int 0, .ref (q 40), .ref (q 41), .ref (q 42), .ref (q 43), .ref (q 44), .ref (q 45), .ref (q 46), .ref (q 47)])), ((q 47), .inl (cI, 20, .inl (fun _ => 0)))]) (fun _ => rfl) (fun r4 u3 H locs hp hP hD hS => ?_)
  subst hp
  refine lv_if_eq (tgt := 25) hx hb dX2_wayBits_16 (by decide) (fun _ => ?_) (fun h9 => absurd (by decide) h9)
  refine lv_iconst (v := 0) hx hb dX2_wayBits_25 (by decide) ?_
  refine r_ior (v := 0) F dX2_wayBits_26 (by decide) ?_
  refine lv_istore_n (lv' := [(1, .int 0), (2, .int 1), (0, .ref b)]) hx hb dX2_wayBits_27 rfl hl (by decide) rfl (fun ls hl => ?_)
  refine lv_iinc (v := 2) (lv' := [(2, .int 2), (1, .int 0), (0, .ref b)]) hx hb dX2_wayBits_28 hl (k := 1) rfl (by decide) (by decide) rfl (fun ls hl => ?_)
  refine lv_goto (tgt := 4) hx hb dX2_wayBits_31 (by decide) ?_
  refine lv_iload_n hx hb dX2_wayBits_4 rfl (lv_at hl 0 rfl) ?_
  refine lv_bipush (v := 20) hx hb dX2_wayBits_5 (by decide) ?_
  refine lv_icmp_ge (tgt := 34) hx hb dX2_wayBits_7 (by decide) (fun h9 => absurd h9 (by decide)) (fun _ => ?_)
  refine lv_iload_n hx hb dX2_wayBits_10 rfl (lv_at hl 1 rfl) ?_
  refine lv_aload_n hx hb dX2_wayBits_11 rfl (lv_at hl 2 rfl) ?_
  refine lv_iload_n hx hb dX2_wayBits_12 rfl (lv_at hl 0 rfl) ?_
  refine r_callVi (As := [.int 2]) (rest := [.int 0]) (wr := []) F hK hP hD hS hA hO hE (c_X2_hasWayK hO b q 2) k_801 kv_X2_hasWay 1 rfl (by decide +kernel) ⟨Nat.le_of_ble_eq_true rfl, Nat.le_of_ble_eq_true rfl⟩ [0, 1] [] rfl rfl (by decide) (by decide) (by decide) 0 2 rfl rfl rfl hl.1 rfl (Nat.le_of_ble_eq_true rfl) dX2_wayBits_13 ⟨Nat.le_of_ble_eq_true rfl, Nat.le_of_ble_eq_true rfl⟩ (w1 := fun u5 => [(b, .inr (2, [.int 0, .ref (q 40), .ref (q 41), .ref (q 42), .ref (q 43), .ref (q 44), .ref (q 45), .ref (q 46), .ref (q 47)])), ((q 47), .inl (cI, 20, .inl (fun _ => 0)))]) (fun _ => rfl) (fun r6 u5 H locs hp hP hD hS => ?_)
  subst hp
  refine lv_if_eq (tgt := 25) hx hb dX2_wayBits_16 (by decide) (fun _ => ?_) (fun h9 => absurd (by decide) h9)
  refine lv_iconst (v := 0) hx hb dX2_wayBits_25 (by decide) ?_
  refine r_ior (v := 0) F dX2_wayBits_26 (by decide) ?_
  refine lv_istore_n (lv' := [(1, .int 0), (2, .int 2), (0, .ref b)]) hx hb dX2_wayBits_27 rfl hl (by decide) rfl (fun ls hl => ?_)
  refine lv_iinc (v := 3) (lv' := [(2, .int 3), (1, .int 0), (0, .ref b)]) hx hb dX2_wayBits_28 hl (k := 1) rfl (by decide) (by decide) rfl (fun ls hl => ?_)
  refine lv_goto (tgt := 4) hx hb dX2_wayBits_31 (by decide) ?_
  refine lv_iload_n hx hb dX2_wayBits_4 rfl (lv_at hl 0 rfl) ?_
  refine lv_bipush (v := 20) hx hb dX2_wayBits_5 (by decide) ?_
  refine lv_icmp_ge (tgt := 34) hx hb dX2_wayBits_7 (by decide) (fun h9 => absurd h9 (by decide)) (fun _ => ?_)
  refine lv_iload_n hx hb dX2_wayBits_10 rfl (lv_at hl 1 rfl) ?_
  refine lv_aload_n hx hb dX2_wayBits_11 rfl (lv_at hl 2 rfl) ?_
  refine lv_iload_n hx hb dX2_wayBits_12 rfl (lv_at hl 0 rfl) ?_
  refine r_callVi (As := [.int 3]) (rest := [.int 0]) (wr := []) F hK hP hD hS hA hO hE (c_X2_hasWayK hO b q 3) k_801 kv_X2_hasWay 1 rfl (by decide +kernel) ⟨Nat.le_of_ble_eq_true rfl, Nat.le_of_ble_eq_true rfl⟩ [0, 1] [] rfl rfl (by decide) (by decide) (by decide) 0 2 rfl rfl rfl hl.1 rfl (Nat.le_of_ble_eq_true rfl) dX2_wayBits_13 ⟨Nat.le_of_ble_eq_true rfl, Nat.le_of_ble_eq_true rfl⟩ (w1 := fun u7 => [(b, .inr (2, [.int 0, .ref (q 40), .ref (q 41), .ref (q 42), .ref (q 43), .ref (q 44), .ref (q 45), .ref (q 46), .ref (q 47)])), ((q 47), .inl (cI, 20, .inl (fun _ => 0)))]) (fun _ => rfl) (fun r8 u7 H locs hp hP hD hS => ?_)
  subst hp
  refine lv_if_eq (tgt := 25) hx hb dX2_wayBits_16 (by decide) (fun _ => ?_) (fun h9 => absurd (by decide) h9)
  refine lv_iconst (v := 0) hx hb dX2_wayBits_25 (by decide) ?_
  refine r_ior (v := 0) F dX2_wayBits_26 (by decide) ?_
  refine lv_istore_n (lv' := [(1, .int 0), (2, .int 3), (0, .ref b)]) hx hb dX2_wayBits_27 rfl hl (by decide) rfl (fun ls hl => ?_)
  refine lv_iinc (v := 4) (lv' := [(2, .int 4), (1, .int 0), (0, .ref b)]) hx hb dX2_wayBits_28 hl (k := 1) rfl (by decide) (by decide) rfl (fun ls hl => ?_)
  refine lv_goto (tgt := 4) hx hb dX2_wayBits_31 (by decide) ?_
  refine lv_iload_n hx hb dX2_wayBits_4 rfl (lv_at hl 0 rfl) ?_
  refine lv_bipush (v := 20) hx hb dX2_wayBits_5 (by decide) ?_
  refine lv_icmp_ge (tgt := 34) hx hb dX2_wayBits_7 (by decide) (fun h9 => absurd h9 (by decide)) (fun _ => ?_)
  refine lv_iload_n hx hb dX2_wayBits_10 rfl (lv_at hl 1 rfl) ?_
  refine lv_aload_n hx hb dX2_wayBits_11 rfl (lv_at hl 2 rfl) ?_
  refine lv_iload_n hx hb dX2_wayBits_12 rfl (lv_at hl 0 rfl) ?_
  refine r_callVi (As := [.int 4]) (rest := [.int 0]) (wr := []) F hK hP hD hS hA hO hE (c_X2_hasWayK hO b q 4) k_801 kv_X2_hasWay 1 rfl (by decide +kernel) ⟨Nat.le_of_ble_eq_true rfl, Nat.le_of_ble_eq_true rfl⟩ [0, 1] [] rfl rfl (by decide) (by decide) (by decide) 0 2 rfl rfl rfl hl.1 rfl (Nat.le_of_ble_eq_true rfl) dX2_wayBits_13 ⟨Nat.le_of_ble_eq_true rfl, Nat.le_of_ble_eq_true rfl⟩ (w1 := fun u9 => [(b, .inr (2, [.int 0, .ref (q 40), .ref (q 41), .ref (q 42), .ref (q 43), .ref (q 44), .ref (q 45), .ref (q 46), .ref (q 47)])), ((q 47), .inl (cI, 20, .inl (fun _ => 0)))]) (fun _ => rfl) (fun r10 u9 H locs hp hP hD hS => ?_)
  subst hp
  refine lv_if_eq (tgt := 25) hx hb dX2_wayBits_16 (by decide) (fun _ => ?_) (fun h9 => absurd (by decide) h9)
  refine lv_iconst (v := 0) hx hb dX2_wayBits_25 (by decide) ?_
  refine r_ior (v := 0) F dX2_wayBits_26 (by decide) ?_
  refine lv_istore_n (lv' := [(1, .int 0), (2, .int 4), (0, .ref b)]) hx hb dX2_wayBits_27 rfl hl (by decide) rfl (fun ls hl => ?_)
  refine lv_iinc (v := 5) (lv' := [(2, .int 5), (1, .int 0), (0, .ref b)]) hx hb dX2_wayBits_28 hl (k := 1) rfl (by decide) (by decide) rfl (fun ls hl => ?_)
  refine lv_goto (tgt := 4) hx hb dX2_wayBits_31 (by decide) ?_
  refine lv_iload_n hx hb dX2_wayBits_4 rfl (lv_at hl 0 rfl) ?_
  refine lv_bipush (v := 20) hx hb dX2_wayBits_5 (by decide) ?_
  refine lv_icmp_ge (tgt := 34) hx hb dX2_wayBits_7 (by decide) (fun h9 => absurd h9 (by decide)) (fun _ => ?_)
  refine lv_iload_n hx hb dX2_wayBits_10 rfl (lv_at hl 1 rfl) ?_
  refine lv_aload_n hx hb dX2_wayBits_11 rfl (lv_at hl 2 rfl) ?_
  refine lv_iload_n hx hb dX2_wayBits_12 rfl (lv_at hl 0 rfl) ?_
  refine r_callVi (As := [.int 5]) (rest := [.int 0]) (wr := []) F hK hP hD hS hA hO hE (c_X2_hasWayK hO b q 5) k_801 kv_X2_hasWay 1 rfl (by decide +kernel) ⟨Nat.le_of_ble_eq_true rfl, Nat.le_of_ble_eq_true rfl⟩ [0, 1] [] rfl rfl (by decide) (by decide) (by decide) 0 2 rfl rfl rfl hl.1 rfl (Nat.le_of_ble_eq_true rfl) dX2_wayBits_13 ⟨Nat.le_of_ble_eq_true rfl, Nat.le_of_ble_eq_true rfl⟩ (w1 := fun u11 => [(b, .inr (2, [.int 0, .ref (q 40), .ref (q 41), .ref (q 42), .ref (q 43), .ref (q 44), .ref (q 45), .ref (q 46), .ref (q 47)])), ((q 47), .inl (cI, 20, .inl (fun _ => 0)))]) (fun _ => rfl) (fun r12 u11 H locs hp hP hD hS => ?_)
  subst hp
  refine lv_if_eq (tgt := 25) hx hb dX2_wayBits_16 (by decide) (fun _ => ?_) (fun h9 => absurd (by decide) h9)
  refine lv_iconst (v := 0) hx hb dX2_wayBits_25 (by decide) ?_
  refine r_ior (v := 0) F dX2_wayBits_26 (by decide) ?_
  refine lv_istore_n (lv' := [(1, .int 0), (2, .int 5), (0, .ref b)]) hx hb dX2_wayBits_27 rfl hl (by decide) rfl (fun ls hl => ?_)
  refine lv_iinc (v := 6) (lv' := [(2, .int 6), (1, .int 0), (0, .ref b)]) hx hb dX2_wayBits_28 hl (k := 1) rfl (by decide) (by decide) rfl (fun ls hl => ?_)
  refine lv_goto (tgt := 4) hx hb dX2_wayBits_31 (by decide) ?_
  refine lv_iload_n hx hb dX2_wayBits_4 rfl (lv_at hl 0 rfl) ?_
  refine lv_bipush (v := 20) hx hb dX2_wayBits_5 (by decide) ?_
  refine lv_icmp_ge (tgt := 34) hx hb dX2_wayBits_7 (by decide) (fun h9 => absurd h9 (by decide)) (fun _ => ?_)
  refine lv_iload_n hx hb dX2_wayBits_10 rfl (lv_at hl 1 rfl) ?_
  refine lv_aload_n hx hb dX2_wayBits_11 rfl (lv_at hl 2 rfl) ?_
  refine lv_iload_n hx hb dX2_wayBits_12 rfl (lv_at hl 0 rfl) ?_
  refine r_callVi (As := [.int 6]) (rest := [.int 0]) (wr := []) F hK hP hD hS hA hO hE (c_X2_hasWayK hO b q 6) k_801 kv_X2_hasWay 1 rfl (by decide +kernel) ⟨Nat.le_of_ble_eq_true rfl, Nat.le_of_ble_eq_true rfl⟩ [0, 1] [] rfl rfl (by decide) (by decide) (by decide) 0 2 rfl rfl rfl hl.1 rfl (Nat.le_of_ble_eq_true rfl) dX2_wayBits_13 ⟨Nat.le_of_ble_eq_true rfl, Nat.le_of_ble_eq_true rfl⟩ (w1 := fun u13 => [(b, .inr (2, [.int 0, .ref (q 40), .ref (q 41), .ref (q 42), .ref (q 43), .ref (q 44), .ref (q 45), .ref (q 46), .ref (q 47)])), ((q 47), .inl (cI, 20, .inl (fun _ => 0)))]) (fun _ => rfl) (fun r14 u13 H locs hp hP hD hS => ?_)
  subst hp
  refine lv_if_eq (tgt := 25) hx hb dX2_wayBits_16 (by decide) (fun _ => ?_) (fun h9 => absurd (by decide) h9)
  refine lv_iconst (v := 0) hx hb dX2_wayBits_25 (by decide) ?_
  refine r_ior (v := 0) F dX2_wayBits_26 (by decide) ?_
  refine lv_istore_n (lv' := [(1, .int 0), (2, .int 6), (0, .ref b)]) hx hb dX2_wayBits_27 rfl hl (by decide) rfl (fun ls hl => ?_)
  refine lv_iinc (v := 7) (lv' := [(2, .int 7), (1, .int 0), (0, .ref b)]) hx hb dX2_wayBits_28 hl (k := 1) rfl (by decide) (by decide) rfl (fun ls hl => ?_)
  refine lv_goto (tgt := 4) hx hb dX2_wayBits_31 (by decide) ?_
  refine lv_iload_n hx hb dX2_wayBits_4 rfl (lv_at hl 0 rfl) ?_
  refine lv_bipush (v := 20) hx hb dX2_wayBits_5 (by decide) ?_
  refine lv_icmp_ge (tgt := 34) hx hb dX2_wayBits_7 (by decide) (fun h9 => absurd h9 (by decide)) (fun _ => ?_)
  refine lv_iload_n hx hb dX2_wayBits_10 rfl (lv_at hl 1 rfl) ?_
  refine lv_aload_n hx hb dX2_wayBits_11 rfl (lv_at hl 2 rfl) ?_
  refine lv_iload_n hx hb dX2_wayBits_12 rfl (lv_at hl 0 rfl) ?_
  refine r_callVi (As := [.int 7]) (rest := [.int 0]) (wr := []) F hK hP hD hS hA hO hE (c_X2_hasWayK hO b q 7) k_801 kv_X2_hasWay 1 rfl (by decide +kernel) ⟨Nat.le_of_ble_eq_true rfl, Nat.le_of_ble_eq_true rfl⟩ [0, 1] [] rfl rfl (by decide) (by decide) (by decide) 0 2 rfl rfl rfl hl.1 rfl (Nat.le_of_ble_eq_true rfl) dX2_wayBits_13 ⟨Nat.le_of_ble_eq_true rfl, Nat.le_of_ble_eq_true rfl⟩ (w1 := fun u15 => [(b, .inr (2, [.int 0, .ref (q 40), .ref (q 41), .ref (q 42), .ref (q 43), .ref (q 44), .ref (q 45), .ref (q 46), .ref (q 47)])), ((q 47), .inl (cI, 20, .inl (fun _ => 0)))]) (fun _ => rfl) (fun r16 u15 H locs hp hP hD hS => ?_)
  subst hp
  refine lv_if_eq (tgt := 25) hx hb dX2_wayBits_16 (by decide) (fun _ => ?_) (fun h9 => absurd (by decide) h9)
  refine lv_iconst (v := 0) hx hb dX2_wayBits_25 (by decide) ?_
  refine r_ior (v := 0) F dX2_wayBits_26 (by decide) ?_
  refine lv_istore_n (lv' := [(1, .int 0), (2, .int 7), (0, .ref b)]) hx hb dX2_wayBits_27 rfl hl (by decide) rfl (fun ls hl => ?_)
  refine lv_iinc (v := 8) (lv' := [(2, .int 8), (1, .int 0), (0, .ref b)]) hx hb dX2_wayBits_28 hl (k := 1) rfl (by decide) (by decide) rfl (fun ls hl => ?_)
  refine lv_goto (tgt := 4) hx hb dX2_wayBits_31 (by decide) ?_
  refine lv_iload_n hx hb dX2_wayBits_4 rfl (lv_at hl 0 rfl) ?_
  refine lv_bipush (v := 20) hx hb dX2_wayBits_5 (by decide) ?_
  refine lv_icmp_ge (tgt := 34) hx hb dX2_wayBits_7 (by decide) (fun h9 => absurd h9 (by decide)) (fun _ => ?_)
  refine lv_iload_n hx hb dX2_wayBits_10 rfl (lv_at hl 1 rfl) ?_
  refine lv_aload_n hx hb dX2_wayBits_11 rfl (lv_at hl 2 rfl) ?_
  refine lv_iload_n hx hb dX2_wayBits_12 rfl (lv_at hl 0 rfl) ?_
  refine r_callVi (As := [.int 8]) (rest := [.int 0]) (wr := []) F hK hP hD hS hA hO hE (c_X2_hasWayK hO b q 8) k_801 kv_X2_hasWay 1 rfl (by decide +kernel) ⟨Nat.le_of_ble_eq_true rfl, Nat.le_of_ble_eq_true rfl⟩ [0, 1] [] rfl rfl (by decide) (by decide) (by decide) 0 2 rfl rfl rfl hl.1 rfl (Nat.le_of_ble_eq_true rfl) dX2_wayBits_13 ⟨Nat.le_of_ble_eq_true rfl, Nat.le_of_ble_eq_true rfl⟩ (w1 := fun u17 => [(b, .inr (2, [.int 0, .ref (q 40), .ref (q 41), .ref (q 42), .ref (q 43), .ref (q 44), .ref (q 45), .ref (q 46), .ref (q 47)])), ((q 47), .inl (cI, 20, .inl (fun _ => 0)))]) (fun _ => rfl) (fun r18 u17 H locs hp hP hD hS => ?_)
  subst hp
  refine lv_if_eq (tgt := 25) hx hb dX2_wayBits_16 (by decide) (fun _ => ?_) (fun h9 => absurd (by decide) h9)
  refine lv_iconst (v := 0) hx hb dX2_wayBits_25 (by decide) ?_
  refine r_ior (v := 0) F dX2_wayBits_26 (by decide) ?_
  refine lv_istore_n (lv' := [(1, .int 0), (2, .int 8), (0, .ref b)]) hx hb dX2_wayBits_27 rfl hl (by decide) rfl (fun ls hl => ?_)
  refine lv_iinc (v := 9) (lv' := [(2, .int 9), (1, .int 0), (0, .ref b)]) hx hb dX2_wayBits_28 hl (k := 1) rfl (by decide) (by decide) rfl (fun ls hl => ?_)
  refine lv_goto (tgt := 4) hx hb dX2_wayBits_31 (by decide) ?_
  refine lv_iload_n hx hb dX2_wayBits_4 rfl (lv_at hl 0 rfl) ?_
  refine lv_bipush (v := 20) hx hb dX2_wayBits_5 (by decide) ?_
  refine lv_icmp_ge (tgt := 34) hx hb dX2_wayBits_7 (by decide) (fun h9 => absurd h9 (by decide)) (fun _ => ?_)
  refine lv_iload_n hx hb dX2_wayBits_10 rfl (lv_at hl 1 rfl) ?_
  refine lv_aload_n hx hb dX2_wayBits_11 rfl (lv_at hl 2 rfl) ?_
  refine lv_iload_n hx hb dX2_wayBits_12 rfl (lv_at hl 0 rfl) ?_
  refine r_callVi (As := [.int 9]) (rest := [.int 0]) (wr := []) F hK hP hD hS hA hO hE (c_X2_hasWayK hO b q 9) k_801 kv_X2_hasWay 1 rfl (by decide +kernel) ⟨Nat.le_of_ble_eq_true rfl, Nat.le_of_ble_eq_true rfl⟩ [0, 1] [] rfl rfl (by decide) (by decide) (by decide) 0 2 rfl rfl rfl hl.1 rfl (Nat.le_of_ble_eq_true rfl) dX2_wayBits_13 ⟨Nat.le_of_ble_eq_true rfl, Nat.le_of_ble_eq_true rfl⟩ (w1 := fun u19 => [(b, .inr (2, [.int 0, .ref (q 40), .ref (q 41), .ref (q 42), .ref (q 43), .ref (q 44), .ref (q 45), .ref (q 46), .ref (q 47)])), ((q 47), .inl (cI, 20, .inl (fun _ => 0)))]) (fun _ => rfl) (fun r20 u19 H locs hp hP hD hS => ?_)
  subst hp
  refine lv_if_eq (tgt := 25) hx hb dX2_wayBits_16 (by decide) (fun _ => ?_) (fun h9 => absurd (by decide) h9)
  refine lv_iconst (v := 0) hx hb dX2_wayBits_25 (by decide) ?_
  refine r_ior (v := 0) F dX2_wayBits_26 (by decide) ?_
  refine lv_istore_n (lv' := [(1, .int 0), (2, .int 9), (0, .ref b)]) hx hb dX2_wayBits_27 rfl hl (by decide) rfl (fun ls hl => ?_)
  refine lv_iinc (v := 10) (lv' := [(2, .int 10), (1, .int 0), (0, .ref b)]) hx hb dX2_wayBits_28 hl (k := 1) rfl (by decide) (by decide) rfl (fun ls hl => ?_)
  refine lv_goto (tgt := 4) hx hb dX2_wayBits_31 (by decide) ?_
  refine lv_iload_n hx hb dX2_wayBits_4 rfl (lv_at hl 0 rfl) ?_
  refine lv_bipush (v := 20) hx hb dX2_wayBits_5 (by decide) ?_
  refine lv_icmp_ge (tgt := 34) hx hb dX2_wayBits_7 (by decide) (fun h9 => absurd h9 (by decide)) (fun _ => ?_)
  refine lv_iload_n hx hb dX2_wayBits_10 rfl (lv_at hl 1 rfl) ?_
  refine lv_aload_n hx hb dX2_wayBits_11 rfl (lv_at hl 2 rfl) ?_
  refine lv_iload_n hx hb dX2_wayBits_12 rfl (lv_at hl 0 rfl) ?_
  refine r_callVi (As := [.int 10]) (rest := [.int 0]) (wr := []) F hK hP hD hS hA hO hE (c_X2_hasWayK hO b q 10) k_801 kv_X2_hasWay 1 rfl (by decide +kernel) ⟨Nat.le_of_ble_eq_true rfl, Nat.le_of_ble_eq_true rfl⟩ [0, 1] [] rfl rfl (by decide) (by decide) (by decide) 0 2 rfl rfl rfl hl.1 rfl (Nat.le_of_ble_eq_true rfl) dX2_wayBits_13 ⟨Nat.le_of_ble_eq_true rfl, Nat.le_of_ble_eq_true rfl⟩ (w1 := fun u21 => [(b, .inr (2, [.int 0, .ref (q 40), .ref (q 41), .ref (q 42), .ref (q 43), .ref (q 44), .ref (q 45), .ref (q 46), .ref (q 47)])), ((q 47), .inl (cI, 20, .inl (fun _ => 0)))]) (fun _ => rfl) (fun r22 u21 H locs hp hP hD hS => ?_)
  subst hp
  refine lv_if_eq (tgt := 25) hx hb dX2_wayBits_16 (by decide) (fun _ => ?_) (fun h9 => absurd (by decide) h9)
  refine lv_iconst (v := 0) hx hb dX2_wayBits_25 (by decide) ?_
  refine r_ior (v := 0) F dX2_wayBits_26 (by decide) ?_
  refine lv_istore_n (lv' := [(1, .int 0), (2, .int 10), (0, .ref b)]) hx hb dX2_wayBits_27 rfl hl (by decide) rfl (fun ls hl => ?_)
  refine lv_iinc (v := 11) (lv' := [(2, .int 11), (1, .int 0), (0, .ref b)]) hx hb dX2_wayBits_28 hl (k := 1) rfl (by decide) (by decide) rfl (fun ls hl => ?_)
  refine lv_goto (tgt := 4) hx hb dX2_wayBits_31 (by decide) ?_
  refine lv_iload_n hx hb dX2_wayBits_4 rfl (lv_at hl 0 rfl) ?_
  refine lv_bipush (v := 20) hx hb dX2_wayBits_5 (by decide) ?_
  refine lv_icmp_ge (tgt := 34) hx hb dX2_wayBits_7 (by decide) (fun h9 => absurd h9 (by decide)) (fun _ => ?_)
  refine lv_iload_n hx hb dX2_wayBits_10 rfl (lv_at hl 1 rfl) ?_
  refine lv_aload_n hx hb dX2_wayBits_11 rfl (lv_at hl 2 rfl) ?_
  refine lv_iload_n hx hb dX2_wayBits_12 rfl (lv_at hl 0 rfl) ?_
  refine r_callVi (As := [.int 11]) (rest := [.int 0]) (wr := []) F hK hP hD hS hA hO hE (c_X2_hasWayK hO b q 11) k_801 kv_X2_hasWay 1 rfl (by decide +kernel) ⟨Nat.le_of_ble_eq_true rfl, Nat.le_of_ble_eq_true rfl⟩ [0, 1] [] rfl rfl (by decide) (by decide) (by decide) 0 2 rfl rfl rfl hl.1 rfl (Nat.le_of_ble_eq_true rfl) dX2_wayBits_13 ⟨Nat.le_of_ble_eq_true rfl, Nat.le_of_ble_eq_true rfl⟩ (w1 := fun u23 => [(b, .inr (2, [.int 0, .ref (q 40), .ref (q 41), .ref (q 42), .ref (q 43), .ref (q 44), .ref (q 45), .ref (q 46), .ref (q 47)])), ((q 47), .inl (cI, 20, .inl (fun _ => 0)))]) (fun _ => rfl) (fun r24 u23 H locs hp hP hD hS => ?_)
  subst hp
  refine lv_if_eq (tgt := 25) hx hb dX2_wayBits_16 (by decide) (fun _ => ?_) (fun h9 => absurd (by decide) h9)
  refine lv_iconst (v := 0) hx hb dX2_wayBits_25 (by decide) ?_
  refine r_ior (v := 0) F dX2_wayBits_26 (by decide) ?_
  refine lv_istore_n (lv' := [(1, .int 0), (2, .int 11), (0, .ref b)]) hx hb dX2_wayBits_27 rfl hl (by decide) rfl (fun ls hl => ?_)
  refine lv_iinc (v := 12) (lv' := [(2, .int 12), (1, .int 0), (0, .ref b)]) hx hb dX2_wayBits_28 hl (k := 1) rfl (by decide) (by decide) rfl (fun ls hl => ?_)
  refine lv_goto (tgt := 4) hx hb dX2_wayBits_31 (by decide) ?_
  refine lv_iload_n hx hb dX2_wayBits_4 rfl (lv_at hl 0 rfl) ?_
  refine lv_bipush (v := 20) hx hb dX2_wayBits_5 (by decide) ?_
  refine lv_icmp_ge (tgt := 34) hx hb dX2_wayBits_7 (by decide) (fun h9 => absurd h9 (by decide)) (fun _ => ?_)
  refine lv_iload_n hx hb dX2_wayBits_10 rfl (lv_at hl 1 rfl) ?_
  refine lv_aload_n hx hb dX2_wayBits_11 rfl (lv_at hl 2 rfl) ?_
  refine lv_iload_n hx hb dX2_wayBits_12 rfl (lv_at hl 0 rfl) ?_
  refine r_callVi (As := [.int 12]) (rest := [.int 0]) (wr := []) F hK hP hD hS hA hO hE (c_X2_hasWayK hO b q 12) k_801 kv_X2_hasWay 1 rfl (by decide +kernel) ⟨Nat.le_of_ble_eq_true rfl, Nat.le_of_ble_eq_true rfl⟩ [0, 1] [] rfl rfl (by decide) (by decide) (by decide) 0 2 rfl rfl rfl hl.1 rfl (Nat.le_of_ble_eq_true rfl) dX2_wayBits_13 ⟨Nat.le_of_ble_eq_true rfl, Nat.le_of_ble_eq_true rfl⟩ (w1 := fun u25 => [(b, .inr (2, [.int 0, .ref (q 40), .ref (q 41), .ref (q 42), .ref (q 43), .ref (q 44), .ref (q 45), .ref (q 46), .ref (q 47)])), ((q 47), .inl (cI, 20, .inl (fun _ => 0)))]) (fun _ => rfl) (fun r26 u25 H locs hp hP hD hS => ?_)
  subst hp
  refine lv_if_eq (tgt := 25) hx hb dX2_wayBits_16 (by decide) (fun _ => ?_) (fun h9 => absurd (by decide) h9)
  refine lv_iconst (v := 0) hx hb dX2_wayBits_25 (by decide) ?_
  refine r_ior (v := 0) F dX2_wayBits_26 (by decide) ?_
  refine lv_istore_n (lv' := [(1, .int 0), (2, .int 12), (0, .ref b)]) hx hb dX2_wayBits_27 rfl hl (by decide) rfl (fun ls hl => ?_)
  refine lv_iinc (v := 13) (lv' := [(2, .int 13), (1, .int 0), (0, .ref b)]) hx hb dX2_wayBits_28 hl (k := 1) rfl (by decide) (by decide) rfl (fun ls hl => ?_)
  refine lv_goto (tgt := 4) hx hb dX2_wayBits_31 (by decide) ?_
  refine lv_iload_n hx hb dX2_wayBits_4 rfl (lv_at hl 0 rfl) ?_
  refine lv_bipush (v := 20) hx hb dX2_wayBits_5 (by decide) ?_
  refine lv_icmp_ge (tgt := 34) hx hb dX2_wayBits_7 (by decide) (fun h9 => absurd h9 (by decide)) (fun _ => ?_)
  refine lv_iload_n hx hb dX2_wayBits_10 rfl (lv_at hl 1 rfl) ?_
  refine lv_aload_n hx hb dX2_wayBits_11 rfl (lv_at hl 2 rfl) ?_
  refine lv_iload_n hx hb dX2_wayBits_12 rfl (lv_at hl 0 rfl) ?_
  refine r_callVi (As := [.int 13]) (rest := [.int 0]) (wr := []) F hK hP hD hS hA hO hE (c_X2_hasWayK hO b q 13) k_801 kv_X2_hasWay 1 rfl (by decide +kernel) ⟨Nat.le_of_ble_eq_true rfl, Nat.le_of_ble_eq_true rfl⟩ [0, 1] [] rfl rfl (by decide) (by decide) (by decide) 0 2 rfl rfl rfl hl.1 rfl (Nat.le_of_ble_eq_true rfl) dX2_wayBits_13 ⟨Nat.le_of_ble_eq_true rfl, Nat.le_of_ble_eq_true rfl⟩ (w1 := fun u27 => [(b, .inr (2, [.int 0, .ref (q 40), .ref (q 41), .ref (q 42), .ref (q 43), .ref (q 44), .ref (q 45), .ref (q 46), .ref (q 47)])), ((q 47), .inl (cI, 20, .inl (fun _ => 0)))]) (fun _ => rfl) (fun r28 u27 H locs hp hP hD hS => ?_)
  subst hp
  refine lv_if_eq (tgt := 25) hx hb dX2_wayBits_16 (by decide) (fun _ => ?_) (fun h9 => absurd (by decide) h9)
  refine lv_iconst (v := 0) hx hb dX2_wayBits_25 (by decide) ?_
  refine r_ior (v := 0) F dX2_wayBits_26 (by decide) ?_
  refine lv_istore_n (lv' := [(1, .int 0), (2, .int 13), (0, .ref b)]) hx hb dX2_wayBits_27 rfl hl (by decide) rfl (fun ls hl => ?_)
  refine lv_iinc (v := 14) (lv' := [(2, .int 14), (1, .int 0), (0, .ref b)]) hx hb dX2_wayBits_28 hl (k := 1) rfl (by decide) (by decide) rfl (fun ls hl => ?_)
  refine lv_goto (tgt := 4) hx hb dX2_wayBits_31 (by decide) ?_
  refine lv_iload_n hx hb dX2_wayBits_4 rfl (lv_at hl 0 rfl) ?_
  refine lv_bipush (v := 20) hx hb dX2_wayBits_5 (by decide) ?_
  refine lv_icmp_ge (tgt := 34) hx hb dX2_wayBits_7 (by decide) (fun h9 => absurd h9 (by decide)) (fun _ => ?_)
  refine lv_iload_n hx hb dX2_wayBits_10 rfl (lv_at hl 1 rfl) ?_
  refine lv_aload_n hx hb dX2_wayBits_11 rfl (lv_at hl 2 rfl) ?_
  refine lv_iload_n hx hb dX2_wayBits_12 rfl (lv_at hl 0 rfl) ?_
  refine r_callVi (As := [.int 14]) (rest := [.int 0]) (wr := []) F hK hP hD hS hA hO hE (c_X2_hasWayK hO b q 14) k_801 kv_X2_hasWay 1 rfl (by decide +kernel) ⟨Nat.le_of_ble_eq_true rfl, Nat.le_of_ble_eq_true rfl⟩ [0, 1] [] rfl rfl (by decide) (by decide) (by decide) 0 2 rfl rfl rfl hl.1 rfl (Nat.le_of_ble_eq_true rfl) dX2_wayBits_13 ⟨Nat.le_of_ble_eq_true rfl, Nat.le_of_ble_eq_true rfl⟩ (w1 := fun u29 => [(b, .inr (2, [.int 0, .ref (q 40), .ref (q 41), .ref (q 42), .ref (q 43), .ref (q 44), .ref (q 45), .ref (q 46), .ref (q 47)])), ((q 47), .inl (cI, 20, .inl (fun _ => 0)))]) (fun _ => rfl) (fun r30 u29 H locs hp hP hD hS => ?_)
  subst hp
  refine lv_if_eq (tgt := 25) hx hb dX2_wayBits_16 (by decide) (fun _ => ?_) (fun h9 => absurd (by decide) h9)
  refine lv_iconst (v := 0) hx hb dX2_wayBits_25 (by decide) ?_
  refine r_ior (v := 0) F dX2_wayBits_26 (by decide) ?_
  refine lv_istore_n (lv' := [(1, .int 0), (2, .int 14), (0, .ref b)]) hx hb dX2_wayBits_27 rfl hl (by decide) rfl (fun ls hl => ?_)
  refine lv_iinc (v := 15) (lv' := [(2, .int 15), (1, .int 0), (0, .ref b)]) hx hb dX2_wayBits_28 hl (k := 1) rfl (by decide) (by decide) rfl (fun ls hl => ?_)
  refine lv_goto (tgt := 4) hx hb dX2_wayBits_31 (by decide) ?_
  refine lv_iload_n hx hb dX2_wayBits_4 rfl (lv_at hl 0 rfl) ?_
  refine lv_bipush (v := 20) hx hb dX2_wayBits_5 (by decide) ?_
  refine lv_icmp_ge (tgt := 34) hx hb dX2_wayBits_7 (by decide) (fun h9 => absurd h9 (by decide)) (fun _ => ?_)
  refine lv_iload_n hx hb dX2_wayBits_10 rfl (lv_at hl 1 rfl) ?_
  refine lv_aload_n hx hb dX2_wayBits_11 rfl (lv_at hl 2 rfl) ?_
  refine lv_iload_n hx hb dX2_wayBits_12 rfl (lv_at hl 0 rfl) ?_
  refine r_callVi (As := [.int 15]) (rest := [.int 0]) (wr := []) F hK hP hD hS hA hO hE (c_X2_hasWayK hO b q 15) k_801 kv_X2_hasWay 1 rfl (by decide +kernel) ⟨Nat.le_of_ble_eq_true rfl, Nat.le_of_ble_eq_true rfl⟩ [0, 1] [] rfl rfl (by decide) (by decide) (by decide) 0 2 rfl rfl rfl hl.1 rfl (Nat.le_of_ble_eq_true rfl) dX2_wayBits_13 ⟨Nat.le_of_ble_eq_true rfl, Nat.le_of_ble_eq_true rfl⟩ (w1 := fun u31 => [(b, .inr (2, [.int 0, .ref (q 40), .ref (q 41), .ref (q 42), .ref (q 43), .ref (q 44), .ref (q 45), .ref (q 46), .ref (q 47)])), ((q 47), .inl (cI, 20, .inl (fun _ => 0)))]) (fun _ => rfl) (fun r32 u31 H locs hp hP hD hS => ?_)
  subst hp
  refine lv_if_eq (tgt := 25) hx hb dX2_wayBits_16 (by decide) (fun _ => ?_) (fun h9 => absurd (by decide) h9)
  refine lv_iconst (v := 0) hx hb dX2_wayBits_25 (by decide) ?_
  refine r_ior (v := 0) F dX2_wayBits_26 (by decide) ?_
  refine lv_istore_n (lv' := [(1, .int 0), (2, .int 15), (0, .ref b)]) hx hb dX2_wayBits_27 rfl hl (by decide) rfl (fun ls hl => ?_)
  refine lv_iinc (v := 16) (lv' := [(2, .int 16), (1, .int 0), (0, .ref b)]) hx hb dX2_wayBits_28 hl (k := 1) rfl (by decide) (by decide) rfl (fun ls hl => ?_)
  refine lv_goto (tgt := 4) hx hb dX2_wayBits_31 (by decide) ?_
  refine lv_iload_n hx hb dX2_wayBits_4 rfl (lv_at hl 0 rfl) ?_
  refine lv_bipush (v := 20) hx hb dX2_wayBits_5 (by decide) ?_
  refine lv_icmp_ge (tgt := 34) hx hb dX2_wayBits_7 (by decide) (fun h9 => absurd h9 (by decide)) (fun _ => ?_)
  refine lv_iload_n hx hb dX2_wayBits_10 rfl (lv_at hl 1 rfl) ?_
  refine lv_aload_n hx hb dX2_wayBits_11 rfl (lv_at hl 2 rfl) ?_
  refine lv_iload_n hx hb dX2_wayBits_12 rfl (lv_at hl 0 rfl) ?_
  refine r_callVi (As := [.int 16]) (rest := [.int 0]) (wr := []) F hK hP hD hS hA hO hE (c_X2_hasWayK hO b q 16) k_801 kv_X2_hasWay 1 rfl (by decide +kernel) ⟨Nat.le_of_ble_eq_true rfl, Nat.le_of_ble_eq_true rfl⟩ [0, 1] [] rfl rfl (by decide) (by decide) (by decide) 0 2 rfl rfl rfl hl.1 rfl (Nat.le_of_ble_eq_true rfl) dX2_wayBits_13 ⟨Nat.le_of_ble_eq_true rfl, Nat.le_of_ble_eq_true rfl⟩ (w1 := fun u33 => [(b, .inr (2, [.int 0, .ref (q 40), .ref (q 41), .ref (q 42), .ref (q 43), .ref (q 44), .ref (q 45), .ref (q 46), .ref (q 47)])), ((q 47), .inl (cI, 20, .inl (fun _ => 0)))]) (fun _ => rfl) (fun r34 u33 H locs hp hP hD hS => ?_)
  subst hp
  refine lv_if_eq (tgt := 25) hx hb dX2_wayBits_16 (by decide) (fun _ => ?_) (fun h9 => absurd (by decide) h9)
  refine lv_iconst (v := 0) hx hb dX2_wayBits_25 (by decide) ?_
  refine r_ior (v := 0) F dX2_wayBits_26 (by decide) ?_
  refine lv_istore_n (lv' := [(1, .int 0), (2, .int 16), (0, .ref b)]) hx hb dX2_wayBits_27 rfl hl (by decide) rfl (fun ls hl => ?_)
  refine lv_iinc (v := 17) (lv' := [(2, .int 17), (1, .int 0), (0, .ref b)]) hx hb dX2_wayBits_28 hl (k := 1) rfl (by decide) (by decide) rfl (fun ls hl => ?_)
  refine lv_goto (tgt := 4) hx hb dX2_wayBits_31 (by decide) ?_
  refine lv_iload_n hx hb dX2_wayBits_4 rfl (lv_at hl 0 rfl) ?_
  refine lv_bipush (v := 20) hx hb dX2_wayBits_5 (by decide) ?_
  refine lv_icmp_ge (tgt := 34) hx hb dX2_wayBits_7 (by decide) (fun h9 => absurd h9 (by decide)) (fun _ => ?_)
  refine lv_iload_n hx hb dX2_wayBits_10 rfl (lv_at hl 1 rfl) ?_
  refine lv_aload_n hx hb dX2_wayBits_11 rfl (lv_at hl 2 rfl) ?_
  refine lv_iload_n hx hb dX2_wayBits_12 rfl (lv_at hl 0 rfl) ?_
  refine r_callVi (As := [.int 17]) (rest := [.int 0]) (wr := []) F hK hP hD hS hA hO hE (c_X2_hasWayK hO b q 17) k_801 kv_X2_hasWay 1 rfl (by decide +kernel) ⟨Nat.le_of_ble_eq_true rfl, Nat.le_of_ble_eq_true rfl⟩ [0, 1] [] rfl rfl (by decide) (by decide) (by decide) 0 2 rfl rfl rfl hl.1 rfl (Nat.le_of_ble_eq_true rfl) dX2_wayBits_13 ⟨Nat.le_of_ble_eq_true rfl, Nat.le_of_ble_eq_true rfl⟩ (w1 := fun u35 => [(b, .inr (2, [.int 0, .ref (q 40), .ref (q 41), .ref (q 42), .ref (q 43), .ref (q 44), .ref (q 45), .ref (q 46), .ref (q 47)])), ((q 47), .inl (cI, 20, .inl (fun _ => 0)))]) (fun _ => rfl) (fun r36 u35 H locs hp hP hD hS => ?_)
  subst hp
  refine lv_if_eq (tgt := 25) hx hb dX2_wayBits_16 (by decide) (fun _ => ?_) (fun h9 => absurd (by decide) h9)
  refine lv_iconst (v := 0) hx hb dX2_wayBits_25 (by decide) ?_
  refine r_ior (v := 0) F dX2_wayBits_26 (by decide) ?_
  refine lv_istore_n (lv' := [(1, .int 0), (2, .int 17), (0, .ref b)]) hx hb dX2_wayBits_27 rfl hl (by decide) rfl (fun ls hl => ?_)
  refine lv_iinc (v := 18) (lv' := [(2, .int 18), (1, .int 0), (0, .ref b)]) hx hb dX2_wayBits_28 hl (k := 1) rfl (by decide) (by decide) rfl (fun ls hl => ?_)
  refine lv_goto (tgt := 4) hx hb dX2_wayBits_31 (by decide) ?_
  refine lv_iload_n hx hb dX2_wayBits_4 rfl (lv_at hl 0 rfl) ?_
  refine lv_bipush (v := 20) hx hb dX2_wayBits_5 (by decide) ?_
  refine lv_icmp_ge (tgt := 34) hx hb dX2_wayBits_7 (by decide) (fun h9 => absurd h9 (by decide)) (fun _ => ?_)
  refine lv_iload_n hx hb dX2_wayBits_10 rfl (lv_at hl 1 rfl) ?_
  refine lv_aload_n hx hb dX2_wayBits_11 rfl (lv_at hl 2 rfl) ?_
  refine lv_iload_n hx hb dX2_wayBits_12 rfl (lv_at hl 0 rfl) ?_
  refine r_callVi (As := [.int 18]) (rest := [.int 0]) (wr := []) F hK hP hD hS hA hO hE (c_X2_hasWayK hO b q 18) k_801 kv_X2_hasWay 1 rfl (by decide +kernel) ⟨Nat.le_of_ble_eq_true rfl, Nat.le_of_ble_eq_true rfl⟩ [0, 1] [] rfl rfl (by decide) (by decide) (by decide) 0 2 rfl rfl rfl hl.1 rfl (Nat.le_of_ble_eq_true rfl) dX2_wayBits_13 ⟨Nat.le_of_ble_eq_true rfl, Nat.le_of_ble_eq_true rfl⟩ (w1 := fun u37 => [(b, .inr (2, [.int 0, .ref (q 40), .ref (q 41), .ref (q 42), .ref (q 43), .ref (q 44), .ref (q 45), .ref (q 46), .ref (q 47)])), ((q 47), .inl (cI, 20, .inl (fun _ => 0)))]) (fun _ => rfl) (fun r38 u37 H locs hp hP hD hS => ?_)
  subst hp
  refine lv_if_eq (tgt := 25) hx hb dX2_wayBits_16 (by decide) (fun _ => ?_) (fun h9 => absurd (by decide) h9)
  refine lv_iconst (v := 0) hx hb dX2_wayBits_25 (by decide) ?_
  refine r_ior (v := 0) F dX2_wayBits_26 (by decide) ?_
  refine lv_istore_n (lv' := [(1, .int 0), (2, .int 18), (0, .ref b)]) hx hb dX2_wayBits_27 rfl hl (by decide) rfl (fun ls hl => ?_)
  refine lv_iinc (v := 19) (lv' := [(2, .int 19), (1, .int 0), (0, .ref b)]) hx hb dX2_wayBits_28 hl (k := 1) rfl (by decide) (by decide) rfl (fun ls hl => ?_)
  refine lv_goto (tgt := 4) hx hb dX2_wayBits_31 (by decide) ?_
  refine lv_iload_n hx hb dX2_wayBits_4 rfl (lv_at hl 0 rfl) ?_
  refine lv_bipush (v := 20) hx hb dX2_wayBits_5 (by decide) ?_
  refine lv_icmp_ge (tgt := 34) hx hb dX2_wayBits_7 (by decide) (fun h9 => absurd h9 (by decide)) (fun _ => ?_)
  refine lv_iload_n hx hb dX2_wayBits_10 rfl (lv_at hl 1 rfl) ?_
  refine lv_aload_n hx hb dX2_wayBits_11 rfl (lv_at hl 2 rfl) ?_
  refine lv_iload_n hx hb dX2_wayBits_12 rfl (lv_at hl 0 rfl) ?_
  refine r_callVi (As := [.int 19]) (rest := [.int 0]) (wr := []) F hK hP hD hS hA hO hE (c_X2_hasWayK hO b q 19) k_801 kv_X2_hasWay 1 rfl (by decide +kernel) ⟨Nat.le_of_ble_eq_true rfl, Nat.le_of_ble_eq_true rfl⟩ [0, 1] [] rfl rfl (by decide) (by decide) (by decide) 0 2 rfl rfl rfl hl.1 rfl (Nat.le_of_ble_eq_true rfl) dX2_wayBits_13 ⟨Nat.le_of_ble_eq_true rfl, Nat.le_of_ble_eq_true rfl⟩ (w1 := fun u39 => [(b, .inr (2, [.int 0, .ref (q 40), .ref (q 41), .ref (q 42), .ref (q 43), .ref (q 44), .ref (q 45), .ref (q 46), .ref (q 47)])), ((q 47), .inl (cI, 20, .inl (fun _ => 0)))]) (fun _ => rfl) (fun r40 u39 H locs hp hP hD hS => ?_)
  subst hp
  refine lv_if_eq (tgt := 25) hx hb dX2_wayBits_16 (by decide) (fun _ => ?_) (fun h9 => absurd (by decide) h9)
  refine lv_iconst (v := 0) hx hb dX2_wayBits_25 (by decide) ?_
  refine r_ior (v := 0) F dX2_wayBits_26 (by decide) ?_
  refine lv_istore_n (lv' := [(1, .int 0), (2, .int 19), (0, .ref b)]) hx hb dX2_wayBits_27 rfl hl (by decide) rfl (fun ls hl => ?_)
  refine lv_iinc (v := 20) (lv' := [(2, .int 20), (1, .int 0), (0, .ref b)]) hx hb dX2_wayBits_28 hl (k := 1) rfl (by decide) (by decide) rfl (fun ls hl => ?_)
  refine lv_goto (tgt := 4) hx hb dX2_wayBits_31 (by decide) ?_
  refine lv_iload_n hx hb dX2_wayBits_4 rfl (lv_at hl 0 rfl) ?_
  refine lv_bipush (v := 20) hx hb dX2_wayBits_5 (by decide) ?_
  refine lv_icmp_ge (tgt := 34) hx hb dX2_wayBits_7 (by decide) (fun _ => ?_) (fun h9 => absurd (by decide) h9)
  refine lv_iload_n hx hb dX2_wayBits_34 rfl (lv_at hl 1 rfl) ?_
  exact ret 0 (fun _ => 0, fun _ _ => 0) _ _ _ _ _ _ rfl rfl (bw_subP (isC := []) hP rfl) (hD.sub [] (by decide) rfl) hS (Nat.le_of_ble_eq_true rfl) (Nat.le_of_ble_eq_true rfl) dX2_wayBits_35
theorem dX2_laidInAll_0 : decode cX2_laidInAll 0 = .ok (.iconst 0, 1) := by decide +kernel
theorem dX2_laidInAll_1 : decode cX2_laidInAll 1 = .ok (.istore_n 1, 1) := by decide +kernel
theorem dX2_laidInAll_2 : decode cX2_laidInAll 2 = .ok (.iconst 0, 1) := by decide +kernel
theorem dX2_laidInAll_3 : decode cX2_laidInAll 3 = .ok (.istore_n 2, 1) := by decide +kernel
theorem dX2_laidInAll_4 : decode cX2_laidInAll 4 = .ok (.iload_n 2, 1) := by decide +kernel
theorem dX2_laidInAll_5 : decode cX2_laidInAll 5 = .ok (.bipush 20, 2) := by decide +kernel
theorem dX2_laidInAll_7 : decode cX2_laidInAll 7 = .ok (.if_icmp .ge 18, 3) := by decide +kernel
theorem dX2_laidInAll_10 : decode cX2_laidInAll 10 = .ok (.iload_n 1, 1) := by decide +kernel
theorem dX2_laidInAll_11 : decode cX2_laidInAll 11 = .ok (.aload_n 0, 1) := by decide +kernel
theorem dX2_laidInAll_12 : decode cX2_laidInAll 12 = .ok (.getfield 37, 3) := by decide +kernel
theorem dX2_laidInAll_15 : decode cX2_laidInAll 15 = .ok (.iload_n 2, 1) := by decide +kernel
theorem dX2_laidInAll_16 : decode cX2_laidInAll 16 = .ok (.iaload, 1) := by decide +kernel
theorem dX2_laidInAll_17 : decode cX2_laidInAll 17 = .ok (.iadd, 1) := by decide +kernel
theorem dX2_laidInAll_18 : decode cX2_laidInAll 18 = .ok (.istore_n 1, 1) := by decide +kernel
theorem dX2_laidInAll_19 : decode cX2_laidInAll 19 = .ok (.iinc 2 1, 3) := by decide +kernel
theorem dX2_laidInAll_22 : decode cX2_laidInAll 22 = .ok (.goto (-18), 3) := by decide +kernel
theorem dX2_laidInAll_25 : decode cX2_laidInAll 25 = .ok (.iload_n 1, 1) := by decide +kernel
theorem dX2_laidInAll_26 : decode cX2_laidInAll 26 = .ok (.ireturn, 1) := by decide +kernel
abbrev rm_X2_laidInAll : Room := { frames := 0, cells := 0, slots := 0, locals := 0 }
set_option maxRecDepth 100000 in
set_option maxHeartbeats 4000000 in
theorem c_X2_laidInAll {l : Launch} {E : (Nat → Prop) → State → Prop} (hO : bw_Ok E) {G : va_G} {cI cB cJ cN cW : ClassId} (b : Nat) (q : Nat → Nat) : bw_Ci (S := bw_U) l yX2_laidInAll (bw_ws (Cond.code yX2_laidInAll cX2_laidInAll 3 (some .int))) rm_X2_laidInAll E G (bw_kt cI cB cJ cN cW) [.ref b] [(b, .inr (2, [.int 0, .ref (q 40), .ref (q 41), .ref (q 42), .ref (q 43), .ref (q 44), .ref (q 45), .ref (q 46), .ref (q 47)])), ((q 47), .inl (cI, 20, .inl (fun _ => 0)))] (fun r _ => r = 0) (fun _ => []) := by
  refine bw_Ci.of (cc := cX2_laidInAll) (maxL := 3) (ty := .int) (by decide) rfl (Nat.le_of_ble_eq_true rfl) ?_
  intro p e s m below meth c A Q hx hb hml hts hown hin hK hA hS hP hD hE ret ls hl
  have F : CallFix p m c cX2_laidInAll 3 s ([.ref b] : List Value).toArray bw_T RX2 := ⟨hx, hb, hml, hown, fun w h => hts w (List.mem_cons_of_mem _ h)⟩
  have hl : lv_has ls 3 [(0, .ref b)] := hl
  refine lv_iconst (v := 0) hx hb dX2_laidInAll_0 (by decide) ?_
  refine lv_istore_n (lv' := [(1, .int 0), (0, .ref b)]) hx hb dX2_laidInAll_1 rfl hl (by decide) rfl (fun ls hl => ?_)
  refine lv_iconst (v := 0) hx hb dX2_laidInAll_2 (by decide) ?_
  refine lv_istore_n (lv' := [(2, .int 0), (1, .int 0), (0, .ref b)]) hx hb dX2_laidInAll_3 rfl hl (by decide) rfl (fun ls hl => ?_)
  refine lv_iload_n hx hb dX2_laidInAll_4 rfl (lv_at hl 0 rfl) ?_
  refine lv_bipush (v := 20) hx hb dX2_laidInAll_5 (by decide) ?_
  refine lv_icmp_ge (tgt := 25) hx hb dX2_laidInAll_7 (by decide) (fun h9 => absurd h9 (by decide)) (fun _ => ?_)
  refine lv_iload_n hx hb dX2_laidInAll_10 rfl (lv_at hl 1 rfl) ?_
  refine lv_aload_n hx hb dX2_laidInAll_11 rfl (lv_at hl 2 rfl) ?_
  refine r_get F hK hP 0 8 rfl rfl in_X2 (by decide) k_169 rfl dX2_laidInAll_12 ?_
  refine lv_iload_n hx hb dX2_laidInAll_15 rfl (lv_at hl 0 rfl) ?_
  refine r_iald (v := 0) F hK hP 1 0 rfl rfl (bw_vin (by decide)) dX2_laidInAll_16 rfl ?_
  refine r_iadd (v := 0) F dX2_laidInAll_17 (by decide) ?_
  refine lv_istore_n (lv' := [(1, .int 0), (2, .int 0), (0, .ref b)]) hx hb dX2_laidInAll_18 rfl hl (by decide) rfl (fun ls hl => ?_)
  refine lv_iinc (v := 1) (lv' := [(2, .int 1), (1, .int 0), (0, .ref b)]) hx hb dX2_laidInAll_19 hl (k := 1) rfl (by decide) (by decide) rfl (fun ls hl => ?_)
  refine lv_goto (tgt := 4) hx hb dX2_laidInAll_22 (by decide) ?_
  refine lv_iload_n hx hb dX2_laidInAll_4 rfl (lv_at hl 0 rfl) ?_
  refine lv_bipush (v := 20) hx hb dX2_laidInAll_5 (by decide) ?_
  refine lv_icmp_ge (tgt := 25) hx hb dX2_laidInAll_7 (by decide) (fun h9 => absurd h9 (by decide)) (fun _ => ?_)
  refine lv_iload_n hx hb dX2_laidInAll_10 rfl (lv_at hl 1 rfl) ?_
  refine lv_aload_n hx hb dX2_laidInAll_11 rfl (lv_at hl 2 rfl) ?_
  refine r_get F hK hP 0 8 rfl rfl in_X2 (by decide) k_169 rfl dX2_laidInAll_12 ?_
  refine lv_iload_n hx hb dX2_laidInAll_15 rfl (lv_at hl 0 rfl) ?_
  refine r_iald (v := 0) F hK hP 1 0 rfl rfl (bw_vin (by decide)) dX2_laidInAll_16 rfl ?_
  refine r_iadd (v := 0) F dX2_laidInAll_17 (by decide) ?_
  refine lv_istore_n (lv' := [(1, .int 0), (2, .int 1), (0, .ref b)]) hx hb dX2_laidInAll_18 rfl hl (by decide) rfl (fun ls hl => ?_)
  refine lv_iinc (v := 2) (lv' := [(2, .int 2), (1, .int 0), (0, .ref b)]) hx hb dX2_laidInAll_19 hl (k := 1) rfl (by decide) (by decide) rfl (fun ls hl => ?_)
  refine lv_goto (tgt := 4) hx hb dX2_laidInAll_22 (by decide) ?_
  refine lv_iload_n hx hb dX2_laidInAll_4 rfl (lv_at hl 0 rfl) ?_
  refine lv_bipush (v := 20) hx hb dX2_laidInAll_5 (by decide) ?_
  refine lv_icmp_ge (tgt := 25) hx hb dX2_laidInAll_7 (by decide) (fun h9 => absurd h9 (by decide)) (fun _ => ?_)
  refine lv_iload_n hx hb dX2_laidInAll_10 rfl (lv_at hl 1 rfl) ?_
  refine lv_aload_n hx hb dX2_laidInAll_11 rfl (lv_at hl 2 rfl) ?_
  refine r_get F hK hP 0 8 rfl rfl in_X2 (by decide) k_169 rfl dX2_laidInAll_12 ?_
  refine lv_iload_n hx hb dX2_laidInAll_15 rfl (lv_at hl 0 rfl) ?_
  refine r_iald (v := 0) F hK hP 1 0 rfl rfl (bw_vin (by decide)) dX2_laidInAll_16 rfl ?_
  refine r_iadd (v := 0) F dX2_laidInAll_17 (by decide) ?_
  refine lv_istore_n (lv' := [(1, .int 0), (2, .int 2), (0, .ref b)]) hx hb dX2_laidInAll_18 rfl hl (by decide) rfl (fun ls hl => ?_)
  refine lv_iinc (v := 3) (lv' := [(2, .int 3), (1, .int 0), (0, .ref b)]) hx hb dX2_laidInAll_19 hl (k := 1) rfl (by decide) (by decide) rfl (fun ls hl => ?_)
  refine lv_goto (tgt := 4) hx hb dX2_laidInAll_22 (by decide) ?_
  refine lv_iload_n hx hb dX2_laidInAll_4 rfl (lv_at hl 0 rfl) ?_
  refine lv_bipush (v := 20) hx hb dX2_laidInAll_5 (by decide) ?_
  refine lv_icmp_ge (tgt := 25) hx hb dX2_laidInAll_7 (by decide) (fun h9 => absurd h9 (by decide)) (fun _ => ?_)
  refine lv_iload_n hx hb dX2_laidInAll_10 rfl (lv_at hl 1 rfl) ?_
  refine lv_aload_n hx hb dX2_laidInAll_11 rfl (lv_at hl 2 rfl) ?_
  refine r_get F hK hP 0 8 rfl rfl in_X2 (by decide) k_169 rfl dX2_laidInAll_12 ?_
  refine lv_iload_n hx hb dX2_laidInAll_15 rfl (lv_at hl 0 rfl) ?_
  refine r_iald (v := 0) F hK hP 1 0 rfl rfl (bw_vin (by decide)) dX2_laidInAll_16 rfl ?_
  refine r_iadd (v := 0) F dX2_laidInAll_17 (by decide) ?_
  refine lv_istore_n (lv' := [(1, .int 0), (2, .int 3), (0, .ref b)]) hx hb dX2_laidInAll_18 rfl hl (by decide) rfl (fun ls hl => ?_)
  refine lv_iinc (v := 4) (lv' := [(2, .int 4), (1, .int 0), (0, .ref b)]) hx hb dX2_laidInAll_19 hl (k := 1) rfl (by decide) (by decide) rfl (fun ls hl => ?_)
  refine lv_goto (tgt := 4) hx hb dX2_laidInAll_22 (by decide) ?_
  refine lv_iload_n hx hb dX2_laidInAll_4 rfl (lv_at hl 0 rfl) ?_
  refine lv_bipush (v := 20) hx hb dX2_laidInAll_5 (by decide) ?_
  refine lv_icmp_ge (tgt := 25) hx hb dX2_laidInAll_7 (by decide) (fun h9 => absurd h9 (by decide)) (fun _ => ?_)
  refine lv_iload_n hx hb dX2_laidInAll_10 rfl (lv_at hl 1 rfl) ?_
  refine lv_aload_n hx hb dX2_laidInAll_11 rfl (lv_at hl 2 rfl) ?_
  refine r_get F hK hP 0 8 rfl rfl in_X2 (by decide) k_169 rfl dX2_laidInAll_12 ?_
  refine lv_iload_n hx hb dX2_laidInAll_15 rfl (lv_at hl 0 rfl) ?_
  refine r_iald (v := 0) F hK hP 1 0 rfl rfl (bw_vin (by decide)) dX2_laidInAll_16 rfl ?_
  refine r_iadd (v := 0) F dX2_laidInAll_17 (by decide) ?_
  refine lv_istore_n (lv' := [(1, .int 0), (2, .int 4), (0, .ref b)]) hx hb dX2_laidInAll_18 rfl hl (by decide) rfl (fun ls hl => ?_)
  refine lv_iinc (v := 5) (lv' := [(2, .int 5), (1, .int 0), (0, .ref b)]) hx hb dX2_laidInAll_19 hl (k := 1) rfl (by decide) (by decide) rfl (fun ls hl => ?_)
  refine lv_goto (tgt := 4) hx hb dX2_laidInAll_22 (by decide) ?_
  refine lv_iload_n hx hb dX2_laidInAll_4 rfl (lv_at hl 0 rfl) ?_
  refine lv_bipush (v := 20) hx hb dX2_laidInAll_5 (by decide) ?_
  refine lv_icmp_ge (tgt := 25) hx hb dX2_laidInAll_7 (by decide) (fun h9 => absurd h9 (by decide)) (fun _ => ?_)
  refine lv_iload_n hx hb dX2_laidInAll_10 rfl (lv_at hl 1 rfl) ?_
  refine lv_aload_n hx hb dX2_laidInAll_11 rfl (lv_at hl 2 rfl) ?_
  refine r_get F hK hP 0 8 rfl rfl in_X2 (by decide) k_169 rfl dX2_laidInAll_12 ?_
  refine lv_iload_n hx hb dX2_laidInAll_15 rfl (lv_at hl 0 rfl) ?_
  refine r_iald (v := 0) F hK hP 1 0 rfl rfl (bw_vin (by decide)) dX2_laidInAll_16 rfl ?_
  refine r_iadd (v := 0) F dX2_laidInAll_17 (by decide) ?_
  refine lv_istore_n (lv' := [(1, .int 0), (2, .int 5), (0, .ref b)]) hx hb dX2_laidInAll_18 rfl hl (by decide) rfl (fun ls hl => ?_)
  refine lv_iinc (v := 6) (lv' := [(2, .int 6), (1, .int 0), (0, .ref b)]) hx hb dX2_laidInAll_19 hl (k := 1) rfl (by decide) (by decide) rfl (fun ls hl => ?_)
  refine lv_goto (tgt := 4) hx hb dX2_laidInAll_22 (by decide) ?_
  refine lv_iload_n hx hb dX2_laidInAll_4 rfl (lv_at hl 0 rfl) ?_
  refine lv_bipush (v := 20) hx hb dX2_laidInAll_5 (by decide) ?_
  refine lv_icmp_ge (tgt := 25) hx hb dX2_laidInAll_7 (by decide) (fun h9 => absurd h9 (by decide)) (fun _ => ?_)
  refine lv_iload_n hx hb dX2_laidInAll_10 rfl (lv_at hl 1 rfl) ?_
  refine lv_aload_n hx hb dX2_laidInAll_11 rfl (lv_at hl 2 rfl) ?_
  refine r_get F hK hP 0 8 rfl rfl in_X2 (by decide) k_169 rfl dX2_laidInAll_12 ?_
  refine lv_iload_n hx hb dX2_laidInAll_15 rfl (lv_at hl 0 rfl) ?_
  refine r_iald (v := 0) F hK hP 1 0 rfl rfl (bw_vin (by decide)) dX2_laidInAll_16 rfl ?_
  refine r_iadd (v := 0) F dX2_laidInAll_17 (by decide) ?_
  refine lv_istore_n (lv' := [(1, .int 0), (2, .int 6), (0, .ref b)]) hx hb dX2_laidInAll_18 rfl hl (by decide) rfl (fun ls hl => ?_)
  refine lv_iinc (v := 7) (lv' := [(2, .int 7), (1, .int 0), (0, .ref b)]) hx hb dX2_laidInAll_19 hl (k := 1) rfl (by decide) (by decide) rfl (fun ls hl => ?_)
  refine lv_goto (tgt := 4) hx hb dX2_laidInAll_22 (by decide) ?_
  refine lv_iload_n hx hb dX2_laidInAll_4 rfl (lv_at hl 0 rfl) ?_
  refine lv_bipush (v := 20) hx hb dX2_laidInAll_5 (by decide) ?_
  refine lv_icmp_ge (tgt := 25) hx hb dX2_laidInAll_7 (by decide) (fun h9 => absurd h9 (by decide)) (fun _ => ?_)
  refine lv_iload_n hx hb dX2_laidInAll_10 rfl (lv_at hl 1 rfl) ?_
  refine lv_aload_n hx hb dX2_laidInAll_11 rfl (lv_at hl 2 rfl) ?_
  refine r_get F hK hP 0 8 rfl rfl in_X2 (by decide) k_169 rfl dX2_laidInAll_12 ?_
  refine lv_iload_n hx hb dX2_laidInAll_15 rfl (lv_at hl 0 rfl) ?_
  refine r_iald (v := 0) F hK hP 1 0 rfl rfl (bw_vin (by decide)) dX2_laidInAll_16 rfl ?_
  refine r_iadd (v := 0) F dX2_laidInAll_17 (by decide) ?_
  refine lv_istore_n (lv' := [(1, .int 0), (2, .int 7), (0, .ref b)]) hx hb dX2_laidInAll_18 rfl hl (by decide) rfl (fun ls hl => ?_)
  refine lv_iinc (v := 8) (lv' := [(2, .int 8), (1, .int 0), (0, .ref b)]) hx hb dX2_laidInAll_19 hl (k := 1) rfl (by decide) (by decide) rfl (fun ls hl => ?_)
  refine lv_goto (tgt := 4) hx hb dX2_laidInAll_22 (by decide) ?_
  refine lv_iload_n hx hb dX2_laidInAll_4 rfl (lv_at hl 0 rfl) ?_
  refine lv_bipush (v := 20) hx hb dX2_laidInAll_5 (by decide) ?_
  refine lv_icmp_ge (tgt := 25) hx hb dX2_laidInAll_7 (by decide) (fun h9 => absurd h9 (by decide)) (fun _ => ?_)
  refine lv_iload_n hx hb dX2_laidInAll_10 rfl (lv_at hl 1 rfl) ?_
  refine lv_aload_n hx hb dX2_laidInAll_11 rfl (lv_at hl 2 rfl) ?_
  refine r_get F hK hP 0 8 rfl rfl in_X2 (by decide) k_169 rfl dX2_laidInAll_12 ?_
  refine lv_iload_n hx hb dX2_laidInAll_15 rfl (lv_at hl 0 rfl) ?_
  refine r_iald (v := 0) F hK hP 1 0 rfl rfl (bw_vin (by decide)) dX2_laidInAll_16 rfl ?_
  refine r_iadd (v := 0) F dX2_laidInAll_17 (by decide) ?_
  refine lv_istore_n (lv' := [(1, .int 0), (2, .int 8), (0, .ref b)]) hx hb dX2_laidInAll_18 rfl hl (by decide) rfl (fun ls hl => ?_)
  refine lv_iinc (v := 9) (lv' := [(2, .int 9), (1, .int 0), (0, .ref b)]) hx hb dX2_laidInAll_19 hl (k := 1) rfl (by decide) (by decide) rfl (fun ls hl => ?_)
  refine lv_goto (tgt := 4) hx hb dX2_laidInAll_22 (by decide) ?_
  refine lv_iload_n hx hb dX2_laidInAll_4 rfl (lv_at hl 0 rfl) ?_
  refine lv_bipush (v := 20) hx hb dX2_laidInAll_5 (by decide) ?_
  refine lv_icmp_ge (tgt := 25) hx hb dX2_laidInAll_7 (by decide) (fun h9 => absurd h9 (by decide)) (fun _ => ?_)
  refine lv_iload_n hx hb dX2_laidInAll_10 rfl (lv_at hl 1 rfl) ?_
  refine lv_aload_n hx hb dX2_laidInAll_11 rfl (lv_at hl 2 rfl) ?_
  refine r_get F hK hP 0 8 rfl rfl in_X2 (by decide) k_169 rfl dX2_laidInAll_12 ?_
  refine lv_iload_n hx hb dX2_laidInAll_15 rfl (lv_at hl 0 rfl) ?_
  refine r_iald (v := 0) F hK hP 1 0 rfl rfl (bw_vin (by decide)) dX2_laidInAll_16 rfl ?_
  refine r_iadd (v := 0) F dX2_laidInAll_17 (by decide) ?_
  refine lv_istore_n (lv' := [(1, .int 0), (2, .int 9), (0, .ref b)]) hx hb dX2_laidInAll_18 rfl hl (by decide) rfl (fun ls hl => ?_)
  refine lv_iinc (v := 10) (lv' := [(2, .int 10), (1, .int 0), (0, .ref b)]) hx hb dX2_laidInAll_19 hl (k := 1) rfl (by decide) (by decide) rfl (fun ls hl => ?_)
  refine lv_goto (tgt := 4) hx hb dX2_laidInAll_22 (by decide) ?_
  refine lv_iload_n hx hb dX2_laidInAll_4 rfl (lv_at hl 0 rfl) ?_
  refine lv_bipush (v := 20) hx hb dX2_laidInAll_5 (by decide) ?_
  refine lv_icmp_ge (tgt := 25) hx hb dX2_laidInAll_7 (by decide) (fun h9 => absurd h9 (by decide)) (fun _ => ?_)
  refine lv_iload_n hx hb dX2_laidInAll_10 rfl (lv_at hl 1 rfl) ?_
  refine lv_aload_n hx hb dX2_laidInAll_11 rfl (lv_at hl 2 rfl) ?_
  refine r_get F hK hP 0 8 rfl rfl in_X2 (by decide) k_169 rfl dX2_laidInAll_12 ?_
  refine lv_iload_n hx hb dX2_laidInAll_15 rfl (lv_at hl 0 rfl) ?_
  refine r_iald (v := 0) F hK hP 1 0 rfl rfl (bw_vin (by decide)) dX2_laidInAll_16 rfl ?_
  refine r_iadd (v := 0) F dX2_laidInAll_17 (by decide) ?_
  refine lv_istore_n (lv' := [(1, .int 0), (2, .int 10), (0, .ref b)]) hx hb dX2_laidInAll_18 rfl hl (by decide) rfl (fun ls hl => ?_)
  refine lv_iinc (v := 11) (lv' := [(2, .int 11), (1, .int 0), (0, .ref b)]) hx hb dX2_laidInAll_19 hl (k := 1) rfl (by decide) (by decide) rfl (fun ls hl => ?_)
  refine lv_goto (tgt := 4) hx hb dX2_laidInAll_22 (by decide) ?_
  refine lv_iload_n hx hb dX2_laidInAll_4 rfl (lv_at hl 0 rfl) ?_
  refine lv_bipush (v := 20) hx hb dX2_laidInAll_5 (by decide) ?_
  refine lv_icmp_ge (tgt := 25) hx hb dX2_laidInAll_7 (by decide) (fun h9 => absurd h9 (by decide)) (fun _ => ?_)
  refine lv_iload_n hx hb dX2_laidInAll_10 rfl (lv_at hl 1 rfl) ?_
  refine lv_aload_n hx hb dX2_laidInAll_11 rfl (lv_at hl 2 rfl) ?_
  refine r_get F hK hP 0 8 rfl rfl in_X2 (by decide) k_169 rfl dX2_laidInAll_12 ?_
  refine lv_iload_n hx hb dX2_laidInAll_15 rfl (lv_at hl 0 rfl) ?_
  refine r_iald (v := 0) F hK hP 1 0 rfl rfl (bw_vin (by decide)) dX2_laidInAll_16 rfl ?_
  refine r_iadd (v := 0) F dX2_laidInAll_17 (by decide) ?_
  refine lv_istore_n (lv' := [(1, .int 0), (2, .int 11), (0, .ref b)]) hx hb dX2_laidInAll_18 rfl hl (by decide) rfl (fun ls hl => ?_)
  refine lv_iinc (v := 12) (lv' := [(2, .int 12), (1, .int 0), (0, .ref b)]) hx hb dX2_laidInAll_19 hl (k := 1) rfl (by decide) (by decide) rfl (fun ls hl => ?_)
  refine lv_goto (tgt := 4) hx hb dX2_laidInAll_22 (by decide) ?_
  refine lv_iload_n hx hb dX2_laidInAll_4 rfl (lv_at hl 0 rfl) ?_
  refine lv_bipush (v := 20) hx hb dX2_laidInAll_5 (by decide) ?_
  refine lv_icmp_ge (tgt := 25) hx hb dX2_laidInAll_7 (by decide) (fun h9 => absurd h9 (by decide)) (fun _ => ?_)
  refine lv_iload_n hx hb dX2_laidInAll_10 rfl (lv_at hl 1 rfl) ?_
  refine lv_aload_n hx hb dX2_laidInAll_11 rfl (lv_at hl 2 rfl) ?_
  refine r_get F hK hP 0 8 rfl rfl in_X2 (by decide) k_169 rfl dX2_laidInAll_12 ?_
  refine lv_iload_n hx hb dX2_laidInAll_15 rfl (lv_at hl 0 rfl) ?_
  refine r_iald (v := 0) F hK hP 1 0 rfl rfl (bw_vin (by decide)) dX2_laidInAll_16 rfl ?_
  refine r_iadd (v := 0) F dX2_laidInAll_17 (by decide) ?_
  refine lv_istore_n (lv' := [(1, .int 0), (2, .int 12), (0, .ref b)]) hx hb dX2_laidInAll_18 rfl hl (by decide) rfl (fun ls hl => ?_)
  refine lv_iinc (v := 13) (lv' := [(2, .int 13), (1, .int 0), (0, .ref b)]) hx hb dX2_laidInAll_19 hl (k := 1) rfl (by decide) (by decide) rfl (fun ls hl => ?_)
  refine lv_goto (tgt := 4) hx hb dX2_laidInAll_22 (by decide) ?_
  refine lv_iload_n hx hb dX2_laidInAll_4 rfl (lv_at hl 0 rfl) ?_
  refine lv_bipush (v := 20) hx hb dX2_laidInAll_5 (by decide) ?_
  refine lv_icmp_ge (tgt := 25) hx hb dX2_laidInAll_7 (by decide) (fun h9 => absurd h9 (by decide)) (fun _ => ?_)
  refine lv_iload_n hx hb dX2_laidInAll_10 rfl (lv_at hl 1 rfl) ?_
  refine lv_aload_n hx hb dX2_laidInAll_11 rfl (lv_at hl 2 rfl) ?_
  refine r_get F hK hP 0 8 rfl rfl in_X2 (by decide) k_169 rfl dX2_laidInAll_12 ?_
  refine lv_iload_n hx hb dX2_laidInAll_15 rfl (lv_at hl 0 rfl) ?_
  refine r_iald (v := 0) F hK hP 1 0 rfl rfl (bw_vin (by decide)) dX2_laidInAll_16 rfl ?_
  refine r_iadd (v := 0) F dX2_laidInAll_17 (by decide) ?_
  refine lv_istore_n (lv' := [(1, .int 0), (2, .int 13), (0, .ref b)]) hx hb dX2_laidInAll_18 rfl hl (by decide) rfl (fun ls hl => ?_)
  refine lv_iinc (v := 14) (lv' := [(2, .int 14), (1, .int 0), (0, .ref b)]) hx hb dX2_laidInAll_19 hl (k := 1) rfl (by decide) (by decide) rfl (fun ls hl => ?_)
  refine lv_goto (tgt := 4) hx hb dX2_laidInAll_22 (by decide) ?_
  refine lv_iload_n hx hb dX2_laidInAll_4 rfl (lv_at hl 0 rfl) ?_
  refine lv_bipush (v := 20) hx hb dX2_laidInAll_5 (by decide) ?_
  refine lv_icmp_ge (tgt := 25) hx hb dX2_laidInAll_7 (by decide) (fun h9 => absurd h9 (by decide)) (fun _ => ?_)
  refine lv_iload_n hx hb dX2_laidInAll_10 rfl (lv_at hl 1 rfl) ?_
  refine lv_aload_n hx hb dX2_laidInAll_11 rfl (lv_at hl 2 rfl) ?_
  refine r_get F hK hP 0 8 rfl rfl in_X2 (by decide) k_169 rfl dX2_laidInAll_12 ?_
  refine lv_iload_n hx hb dX2_laidInAll_15 rfl (lv_at hl 0 rfl) ?_
  refine r_iald (v := 0) F hK hP 1 0 rfl rfl (bw_vin (by decide)) dX2_laidInAll_16 rfl ?_
  refine r_iadd (v := 0) F dX2_laidInAll_17 (by decide) ?_
  refine lv_istore_n (lv' := [(1, .int 0), (2, .int 14), (0, .ref b)]) hx hb dX2_laidInAll_18 rfl hl (by decide) rfl (fun ls hl => ?_)
  refine lv_iinc (v := 15) (lv' := [(2, .int 15), (1, .int 0), (0, .ref b)]) hx hb dX2_laidInAll_19 hl (k := 1) rfl (by decide) (by decide) rfl (fun ls hl => ?_)
  refine lv_goto (tgt := 4) hx hb dX2_laidInAll_22 (by decide) ?_
  refine lv_iload_n hx hb dX2_laidInAll_4 rfl (lv_at hl 0 rfl) ?_
  refine lv_bipush (v := 20) hx hb dX2_laidInAll_5 (by decide) ?_
  refine lv_icmp_ge (tgt := 25) hx hb dX2_laidInAll_7 (by decide) (fun h9 => absurd h9 (by decide)) (fun _ => ?_)
  refine lv_iload_n hx hb dX2_laidInAll_10 rfl (lv_at hl 1 rfl) ?_
  refine lv_aload_n hx hb dX2_laidInAll_11 rfl (lv_at hl 2 rfl) ?_
  refine r_get F hK hP 0 8 rfl rfl in_X2 (by decide) k_169 rfl dX2_laidInAll_12 ?_
  refine lv_iload_n hx hb dX2_laidInAll_15 rfl (lv_at hl 0 rfl) ?_
  refine r_iald (v := 0) F hK hP 1 0 rfl rfl (bw_vin (by decide)) dX2_laidInAll_16 rfl ?_
  refine r_iadd (v := 0) F dX2_laidInAll_17 (by decide) ?_
  refine lv_istore_n (lv' := [(1, .int 0), (2, .int 15), (0, .ref b)]) hx hb dX2_laidInAll_18 rfl hl (by decide) rfl (fun ls hl => ?_)
  refine lv_iinc (v := 16) (lv' := [(2, .int 16), (1, .int 0), (0, .ref b)]) hx hb dX2_laidInAll_19 hl (k := 1) rfl (by decide) (by decide) rfl (fun ls hl => ?_)
  refine lv_goto (tgt := 4) hx hb dX2_laidInAll_22 (by decide) ?_
  refine lv_iload_n hx hb dX2_laidInAll_4 rfl (lv_at hl 0 rfl) ?_
  refine lv_bipush (v := 20) hx hb dX2_laidInAll_5 (by decide) ?_
  refine lv_icmp_ge (tgt := 25) hx hb dX2_laidInAll_7 (by decide) (fun h9 => absurd h9 (by decide)) (fun _ => ?_)
  refine lv_iload_n hx hb dX2_laidInAll_10 rfl (lv_at hl 1 rfl) ?_
  refine lv_aload_n hx hb dX2_laidInAll_11 rfl (lv_at hl 2 rfl) ?_
  refine r_get F hK hP 0 8 rfl rfl in_X2 (by decide) k_169 rfl dX2_laidInAll_12 ?_
  refine lv_iload_n hx hb dX2_laidInAll_15 rfl (lv_at hl 0 rfl) ?_
  refine r_iald (v := 0) F hK hP 1 0 rfl rfl (bw_vin (by decide)) dX2_laidInAll_16 rfl ?_
  refine r_iadd (v := 0) F dX2_laidInAll_17 (by decide) ?_
  refine lv_istore_n (lv' := [(1, .int 0), (2, .int 16), (0, .ref b)]) hx hb dX2_laidInAll_18 rfl hl (by decide) rfl (fun ls hl => ?_)
  refine lv_iinc (v := 17) (lv' := [(2, .int 17), (1, .int 0), (0, .ref b)]) hx hb dX2_laidInAll_19 hl (k := 1) rfl (by decide) (by decide) rfl (fun ls hl => ?_)
  refine lv_goto (tgt := 4) hx hb dX2_laidInAll_22 (by decide) ?_
  refine lv_iload_n hx hb dX2_laidInAll_4 rfl (lv_at hl 0 rfl) ?_
  refine lv_bipush (v := 20) hx hb dX2_laidInAll_5 (by decide) ?_
  refine lv_icmp_ge (tgt := 25) hx hb dX2_laidInAll_7 (by decide) (fun h9 => absurd h9 (by decide)) (fun _ => ?_)
  refine lv_iload_n hx hb dX2_laidInAll_10 rfl (lv_at hl 1 rfl) ?_
  refine lv_aload_n hx hb dX2_laidInAll_11 rfl (lv_at hl 2 rfl) ?_
  refine r_get F hK hP 0 8 rfl rfl in_X2 (by decide) k_169 rfl dX2_laidInAll_12 ?_
  refine lv_iload_n hx hb dX2_laidInAll_15 rfl (lv_at hl 0 rfl) ?_
  refine r_iald (v := 0) F hK hP 1 0 rfl rfl (bw_vin (by decide)) dX2_laidInAll_16 rfl ?_
  refine r_iadd (v := 0) F dX2_laidInAll_17 (by decide) ?_
  refine lv_istore_n (lv' := [(1, .int 0), (2, .int 17), (0, .ref b)]) hx hb dX2_laidInAll_18 rfl hl (by decide) rfl (fun ls hl => ?_)
  refine lv_iinc (v := 18) (lv' := [(2, .int 18), (1, .int 0), (0, .ref b)]) hx hb dX2_laidInAll_19 hl (k := 1) rfl (by decide) (by decide) rfl (fun ls hl => ?_)
  refine lv_goto (tgt := 4) hx hb dX2_laidInAll_22 (by decide) ?_
  refine lv_iload_n hx hb dX2_laidInAll_4 rfl (lv_at hl 0 rfl) ?_
  refine lv_bipush (v := 20) hx hb dX2_laidInAll_5 (by decide) ?_
  refine lv_icmp_ge (tgt := 25) hx hb dX2_laidInAll_7 (by decide) (fun h9 => absurd h9 (by decide)) (fun _ => ?_)
  refine lv_iload_n hx hb dX2_laidInAll_10 rfl (lv_at hl 1 rfl) ?_
  refine lv_aload_n hx hb dX2_laidInAll_11 rfl (lv_at hl 2 rfl) ?_
  refine r_get F hK hP 0 8 rfl rfl in_X2 (by decide) k_169 rfl dX2_laidInAll_12 ?_
  refine lv_iload_n hx hb dX2_laidInAll_15 rfl (lv_at hl 0 rfl) ?_
  refine r_iald (v := 0) F hK hP 1 0 rfl rfl (bw_vin (by decide)) dX2_laidInAll_16 rfl ?_
  refine r_iadd (v := 0) F dX2_laidInAll_17 (by decide) ?_
  refine lv_istore_n (lv' := [(1, .int 0), (2, .int 18), (0, .ref b)]) hx hb dX2_laidInAll_18 rfl hl (by decide) rfl (fun ls hl => ?_)
  refine lv_iinc (v := 19) (lv' := [(2, .int 19), (1, .int 0), (0, .ref b)]) hx hb dX2_laidInAll_19 hl (k := 1) rfl (by decide) (by decide) rfl (fun ls hl => ?_)
  refine lv_goto (tgt := 4) hx hb dX2_laidInAll_22 (by decide) ?_
  refine lv_iload_n hx hb dX2_laidInAll_4 rfl (lv_at hl 0 rfl) ?_
  refine lv_bipush (v := 20) hx hb dX2_laidInAll_5 (by decide) ?_
  refine lv_icmp_ge (tgt := 25) hx hb dX2_laidInAll_7 (by decide) (fun h9 => absurd h9 (by decide)) (fun _ => ?_)
  refine lv_iload_n hx hb dX2_laidInAll_10 rfl (lv_at hl 1 rfl) ?_
  refine lv_aload_n hx hb dX2_laidInAll_11 rfl (lv_at hl 2 rfl) ?_
  refine r_get F hK hP 0 8 rfl rfl in_X2 (by decide) k_169 rfl dX2_laidInAll_12 ?_
  refine lv_iload_n hx hb dX2_laidInAll_15 rfl (lv_at hl 0 rfl) ?_
  refine r_iald (v := 0) F hK hP 1 0 rfl rfl (bw_vin (by decide)) dX2_laidInAll_16 rfl ?_
  refine r_iadd (v := 0) F dX2_laidInAll_17 (by decide) ?_
  refine lv_istore_n (lv' := [(1, .int 0), (2, .int 19), (0, .ref b)]) hx hb dX2_laidInAll_18 rfl hl (by decide) rfl (fun ls hl => ?_)
  refine lv_iinc (v := 20) (lv' := [(2, .int 20), (1, .int 0), (0, .ref b)]) hx hb dX2_laidInAll_19 hl (k := 1) rfl (by decide) (by decide) rfl (fun ls hl => ?_)
  refine lv_goto (tgt := 4) hx hb dX2_laidInAll_22 (by decide) ?_
  refine lv_iload_n hx hb dX2_laidInAll_4 rfl (lv_at hl 0 rfl) ?_
  refine lv_bipush (v := 20) hx hb dX2_laidInAll_5 (by decide) ?_
  refine lv_icmp_ge (tgt := 25) hx hb dX2_laidInAll_7 (by decide) (fun _ => ?_) (fun h9 => absurd (by decide) h9)
  refine lv_iload_n hx hb dX2_laidInAll_25 rfl (lv_at hl 1 rfl) ?_
  exact ret 0 (fun _ => 0, fun _ _ => 0) _ _ _ _ _ _ rfl rfl (bw_subP (isC := []) hP rfl) (hD.sub [] (by decide) rfl) hS (Nat.le_of_ble_eq_true rfl) (Nat.le_of_ble_eq_true rfl) dX2_laidInAll_26
theorem dJ6_bitCount_0f7a4_0 : decode cJ6_bitCount_0f7a4 0 = .ok (.iload_n 0, 1) := by decide +kernel
theorem dJ6_bitCount_0f7a4_1 : decode cJ6_bitCount_0f7a4 1 = .ok (.iload_n 0, 1) := by decide +kernel
theorem dJ6_bitCount_0f7a4_2 : decode cJ6_bitCount_0f7a4 2 = .ok (.iconst 1, 1) := by decide +kernel
theorem dJ6_bitCount_0f7a4_3 : decode cJ6_bitCount_0f7a4 3 = .ok (.iushr, 1) := by decide +kernel
theorem dJ6_bitCount_0f7a4_4 : decode cJ6_bitCount_0f7a4 4 = .ok (.ldc_w 265, 3) := by decide +kernel
theorem k_1072 : Cond.constant RJ6 265 1431655765 ∈ bw_T := bw_m 1072 (by decide +kernel) rfl
theorem dJ6_bitCount_0f7a4_7 : decode cJ6_bitCount_0f7a4 7 = .ok (.iand, 1) := by decide +kernel
theorem dJ6_bitCount_0f7a4_8 : decode cJ6_bitCount_0f7a4 8 = .ok (.isub, 1) := by decide +kernel
theorem dJ6_bitCount_0f7a4_9 : decode cJ6_bitCount_0f7a4 9 = .ok (.istore_n 0, 1) := by decide +kernel
theorem dJ6_bitCount_0f7a4_10 : decode cJ6_bitCount_0f7a4 10 = .ok (.iload_n 0, 1) := by decide +kernel
theorem dJ6_bitCount_0f7a4_11 : decode cJ6_bitCount_0f7a4 11 = .ok (.ldc_w 266, 3) := by decide +kernel
theorem k_1073 : Cond.constant RJ6 266 858993459 ∈ bw_T := bw_m 1073 (by decide +kernel) rfl
theorem dJ6_bitCount_0f7a4_14 : decode cJ6_bitCount_0f7a4 14 = .ok (.iand, 1) := by decide +kernel
theorem dJ6_bitCount_0f7a4_15 : decode cJ6_bitCount_0f7a4 15 = .ok (.iload_n 0, 1) := by decide +kernel
theorem dJ6_bitCount_0f7a4_16 : decode cJ6_bitCount_0f7a4 16 = .ok (.iconst 2, 1) := by decide +kernel
theorem dJ6_bitCount_0f7a4_17 : decode cJ6_bitCount_0f7a4 17 = .ok (.iushr, 1) := by decide +kernel
theorem dJ6_bitCount_0f7a4_18 : decode cJ6_bitCount_0f7a4 18 = .ok (.ldc_w 266, 3) := by decide +kernel
theorem dJ6_bitCount_0f7a4_21 : decode cJ6_bitCount_0f7a4 21 = .ok (.iand, 1) := by decide +kernel
theorem dJ6_bitCount_0f7a4_22 : decode cJ6_bitCount_0f7a4 22 = .ok (.iadd, 1) := by decide +kernel
theorem dJ6_bitCount_0f7a4_23 : decode cJ6_bitCount_0f7a4 23 = .ok (.istore_n 0, 1) := by decide +kernel
theorem dJ6_bitCount_0f7a4_24 : decode cJ6_bitCount_0f7a4 24 = .ok (.iload_n 0, 1) := by decide +kernel
theorem dJ6_bitCount_0f7a4_25 : decode cJ6_bitCount_0f7a4 25 = .ok (.iload_n 0, 1) := by decide +kernel
theorem dJ6_bitCount_0f7a4_26 : decode cJ6_bitCount_0f7a4 26 = .ok (.iconst 4, 1) := by decide +kernel
theorem dJ6_bitCount_0f7a4_27 : decode cJ6_bitCount_0f7a4 27 = .ok (.iushr, 1) := by decide +kernel
theorem dJ6_bitCount_0f7a4_28 : decode cJ6_bitCount_0f7a4 28 = .ok (.iadd, 1) := by decide +kernel
theorem dJ6_bitCount_0f7a4_29 : decode cJ6_bitCount_0f7a4 29 = .ok (.ldc_w 267, 3) := by decide +kernel
theorem k_1074 : Cond.constant RJ6 267 252645135 ∈ bw_T := bw_m 1074 (by decide +kernel) rfl
theorem dJ6_bitCount_0f7a4_32 : decode cJ6_bitCount_0f7a4 32 = .ok (.iand, 1) := by decide +kernel
theorem dJ6_bitCount_0f7a4_33 : decode cJ6_bitCount_0f7a4 33 = .ok (.istore_n 0, 1) := by decide +kernel
theorem dJ6_bitCount_0f7a4_34 : decode cJ6_bitCount_0f7a4 34 = .ok (.iload_n 0, 1) := by decide +kernel
theorem dJ6_bitCount_0f7a4_35 : decode cJ6_bitCount_0f7a4 35 = .ok (.iload_n 0, 1) := by decide +kernel
theorem dJ6_bitCount_0f7a4_36 : decode cJ6_bitCount_0f7a4 36 = .ok (.bipush 8, 2) := by decide +kernel
theorem dJ6_bitCount_0f7a4_38 : decode cJ6_bitCount_0f7a4 38 = .ok (.iushr, 1) := by decide +kernel
theorem dJ6_bitCount_0f7a4_39 : decode cJ6_bitCount_0f7a4 39 = .ok (.iadd, 1) := by decide +kernel
theorem dJ6_bitCount_0f7a4_40 : decode cJ6_bitCount_0f7a4 40 = .ok (.istore_n 0, 1) := by decide +kernel
theorem dJ6_bitCount_0f7a4_41 : decode cJ6_bitCount_0f7a4 41 = .ok (.iload_n 0, 1) := by decide +kernel
theorem dJ6_bitCount_0f7a4_42 : decode cJ6_bitCount_0f7a4 42 = .ok (.iload_n 0, 1) := by decide +kernel
theorem dJ6_bitCount_0f7a4_43 : decode cJ6_bitCount_0f7a4 43 = .ok (.bipush 16, 2) := by decide +kernel
theorem dJ6_bitCount_0f7a4_45 : decode cJ6_bitCount_0f7a4 45 = .ok (.iushr, 1) := by decide +kernel
theorem dJ6_bitCount_0f7a4_46 : decode cJ6_bitCount_0f7a4 46 = .ok (.iadd, 1) := by decide +kernel
theorem dJ6_bitCount_0f7a4_47 : decode cJ6_bitCount_0f7a4 47 = .ok (.istore_n 0, 1) := by decide +kernel
theorem dJ6_bitCount_0f7a4_48 : decode cJ6_bitCount_0f7a4 48 = .ok (.iload_n 0, 1) := by decide +kernel
theorem dJ6_bitCount_0f7a4_49 : decode cJ6_bitCount_0f7a4 49 = .ok (.bipush 63, 2) := by decide +kernel
theorem dJ6_bitCount_0f7a4_51 : decode cJ6_bitCount_0f7a4 51 = .ok (.iand, 1) := by decide +kernel
theorem dJ6_bitCount_0f7a4_52 : decode cJ6_bitCount_0f7a4 52 = .ok (.ireturn, 1) := by decide +kernel
abbrev rm_J6_bitCount : Room := { frames := 0, cells := 0, slots := 0, locals := 0 }
set_option maxRecDepth 100000 in
set_option maxHeartbeats 4000000 in
theorem c_J6_bitCount {l : Launch} {E : (Nat → Prop) → State → Prop} (hO : bw_Ok E) {G : va_G} {cI cB cJ cN cW : ClassId}  : bw_Ci (S := bw_U) l yJ6_bitCount_0f7a4 (bw_ws (Cond.code yJ6_bitCount_0f7a4 cJ6_bitCount_0f7a4 1 (some .int))) rm_J6_bitCount E G (bw_kt cI cB cJ cN cW) [.int 0] [] (fun r _ => r = 0) (fun _ => []) := by
  refine bw_Ci.of (cc := cJ6_bitCount_0f7a4) (maxL := 1) (ty := .int) (by decide) rfl (Nat.le_of_ble_eq_true rfl) ?_
  intro p e s m below meth c A Q hx hb hml hts hown hin hK hA hS hP hD hE ret ls hl
  have F : CallFix p m c cJ6_bitCount_0f7a4 1 s ([.int 0] : List Value).toArray bw_T RJ6 := ⟨hx, hb, hml, hown, fun w h => hts w (List.mem_cons_of_mem _ h)⟩
  have hl : lv_has ls 1 [(0, .int 0)] := hl
  refine lv_iload_n hx hb dJ6_bitCount_0f7a4_0 rfl (lv_at hl 0 rfl) ?_
  refine lv_iload_n hx hb dJ6_bitCount_0f7a4_1 rfl (lv_at hl 0 rfl) ?_
  refine lv_iconst (v := 1) hx hb dJ6_bitCount_0f7a4_2 (by decide) ?_
  refine lv_iushr (v := 0) hx hb dJ6_bitCount_0f7a4_3 (by decide) ?_
  refine lv_ldcw hx hb hown (F.2.2.2.2 _ k_1072) dJ6_bitCount_0f7a4_4 ?_
  refine r_iand (v := 0) F dJ6_bitCount_0f7a4_7 (by decide) ?_
  refine r_isub (v := 0) F dJ6_bitCount_0f7a4_8 (by decide) ?_
  refine lv_istore_n (lv' := [(0, .int 0)]) hx hb dJ6_bitCount_0f7a4_9 rfl hl (by decide) rfl (fun ls hl => ?_)
  refine lv_iload_n hx hb dJ6_bitCount_0f7a4_10 rfl (lv_at hl 0 rfl) ?_
  refine lv_ldcw hx hb hown (F.2.2.2.2 _ k_1073) dJ6_bitCount_0f7a4_11 ?_
  refine r_iand (v := 0) F dJ6_bitCount_0f7a4_14 (by decide) ?_
  refine lv_iload_n hx hb dJ6_bitCount_0f7a4_15 rfl (lv_at hl 0 rfl) ?_
  refine lv_iconst (v := 2) hx hb dJ6_bitCount_0f7a4_16 (by decide) ?_
  refine lv_iushr (v := 0) hx hb dJ6_bitCount_0f7a4_17 (by decide) ?_
  refine lv_ldcw hx hb hown (F.2.2.2.2 _ k_1073) dJ6_bitCount_0f7a4_18 ?_
  refine r_iand (v := 0) F dJ6_bitCount_0f7a4_21 (by decide) ?_
  refine r_iadd (v := 0) F dJ6_bitCount_0f7a4_22 (by decide) ?_
  refine lv_istore_n (lv' := [(0, .int 0)]) hx hb dJ6_bitCount_0f7a4_23 rfl hl (by decide) rfl (fun ls hl => ?_)
  refine lv_iload_n hx hb dJ6_bitCount_0f7a4_24 rfl (lv_at hl 0 rfl) ?_
  refine lv_iload_n hx hb dJ6_bitCount_0f7a4_25 rfl (lv_at hl 0 rfl) ?_
  refine lv_iconst (v := 4) hx hb dJ6_bitCount_0f7a4_26 (by decide) ?_
  refine lv_iushr (v := 0) hx hb dJ6_bitCount_0f7a4_27 (by decide) ?_
  refine r_iadd (v := 0) F dJ6_bitCount_0f7a4_28 (by decide) ?_
  refine lv_ldcw hx hb hown (F.2.2.2.2 _ k_1074) dJ6_bitCount_0f7a4_29 ?_
  refine r_iand (v := 0) F dJ6_bitCount_0f7a4_32 (by decide) ?_
  refine lv_istore_n (lv' := [(0, .int 0)]) hx hb dJ6_bitCount_0f7a4_33 rfl hl (by decide) rfl (fun ls hl => ?_)
  refine lv_iload_n hx hb dJ6_bitCount_0f7a4_34 rfl (lv_at hl 0 rfl) ?_
  refine lv_iload_n hx hb dJ6_bitCount_0f7a4_35 rfl (lv_at hl 0 rfl) ?_
  refine lv_bipush (v := 8) hx hb dJ6_bitCount_0f7a4_36 (by decide) ?_
  refine lv_iushr (v := 0) hx hb dJ6_bitCount_0f7a4_38 (by decide) ?_
  refine r_iadd (v := 0) F dJ6_bitCount_0f7a4_39 (by decide) ?_
  refine lv_istore_n (lv' := [(0, .int 0)]) hx hb dJ6_bitCount_0f7a4_40 rfl hl (by decide) rfl (fun ls hl => ?_)
  refine lv_iload_n hx hb dJ6_bitCount_0f7a4_41 rfl (lv_at hl 0 rfl) ?_
  refine lv_iload_n hx hb dJ6_bitCount_0f7a4_42 rfl (lv_at hl 0 rfl) ?_
  refine lv_bipush (v := 16) hx hb dJ6_bitCount_0f7a4_43 (by decide) ?_
  refine lv_iushr (v := 0) hx hb dJ6_bitCount_0f7a4_45 (by decide) ?_
  refine r_iadd (v := 0) F dJ6_bitCount_0f7a4_46 (by decide) ?_
  refine lv_istore_n (lv' := [(0, .int 0)]) hx hb dJ6_bitCount_0f7a4_47 rfl hl (by decide) rfl (fun ls hl => ?_)
  refine lv_iload_n hx hb dJ6_bitCount_0f7a4_48 rfl (lv_at hl 0 rfl) ?_
  refine lv_bipush (v := 63) hx hb dJ6_bitCount_0f7a4_49 (by decide) ?_
  refine r_iand (v := 0) F dJ6_bitCount_0f7a4_51 (by decide) ?_
  exact ret 0 (fun _ => 0, fun _ _ => 0) _ _ _ _ _ _ rfl rfl (bw_subP (isC := []) hP rfl) (hD.sub [] (by decide) rfl) hS (Nat.le_of_ble_eq_true rfl) (Nat.le_of_ble_eq_true rfl) dJ6_bitCount_0f7a4_52
theorem dX2_wayCount_0 : decode cX2_wayCount 0 = .ok (.aload_n 0, 1) := by decide +kernel
theorem dX2_wayCount_1 : decode cX2_wayCount 1 = .ok (.invokevirtual 57, 3) := by decide +kernel
theorem k_1068 : Cond.methodLink RX2 57 yX2_wayBits ∈ bw_T := bw_m 1068 (by decide +kernel) rfl
theorem kv_X2_wayBits : bw_KV RX2 yX2_wayBits (Cond.code yX2_wayBits cX2_wayBits 3 (some .int)) := ⟨bw_m 798 (by decide +kernel) rfl, bw_m 799 (by decide +kernel) rfl, bw_m 96 (by decide +kernel) rfl, bw_m 800 (by decide +kernel) rfl⟩
theorem dX2_wayCount_4 : decode cX2_wayCount 4 = .ok (.invokestatic 61, 3) := by decide +kernel
theorem k_1069 : Cond.methodLink RX2 61 yJ6_bitCount_0f7a4 ∈ bw_T := bw_m 1069 (by decide +kernel) rfl
theorem ks_J6_bitCount_0f7a4 : bw_KS RJ6 yJ6_bitCount_0f7a4 (Cond.code yJ6_bitCount_0f7a4 cJ6_bitCount_0f7a4 1 (some .int)) := ⟨bw_m 1070 (by decide +kernel) rfl, bw_m 115 (by decide +kernel) rfl, bw_m 1071 (by decide +kernel) rfl⟩
theorem dX2_wayCount_7 : decode cX2_wayCount 7 = .ok (.ireturn, 1) := by decide +kernel
abbrev rm_X2_wayCount : Room := { frames := 2, cells := 0, slots := 0, locals := 43 }
set_option maxRecDepth 100000 in
set_option maxHeartbeats 4000000 in
theorem c_X2_wayCount {l : Launch} {E : (Nat → Prop) → State → Prop} (hO : bw_Ok E) {G : va_G} {cI cB cJ cN cW : ClassId} (b : Nat) (q : Nat → Nat) : bw_Ci (S := bw_U) l yX2_wayCount (bw_ws (Cond.code yX2_wayCount cX2_wayCount 1 (some .int))) rm_X2_wayCount E G (bw_kt cI cB cJ cN cW) [.ref b] [(b, .inr (2, [.int 0, .ref (q 40), .ref (q 41), .ref (q 42), .ref (q 43), .ref (q 44), .ref (q 45), .ref (q 46), .ref (q 47)])), ((q 47), .inl (cI, 20, .inl (fun _ => 0)))] (fun r _ => r = 0) (fun _ => []) := by
  refine bw_Ci.of (cc := cX2_wayCount) (maxL := 1) (ty := .int) (by decide) rfl (Nat.le_of_ble_eq_true rfl) ?_
  intro p e s m below meth c A Q hx hb hml hts hown hin hK hA hS hP hD hE ret ls hl
  have F : CallFix p m c cX2_wayCount 1 s ([.ref b] : List Value).toArray bw_T RX2 := ⟨hx, hb, hml, hown, fun w h => hts w (List.mem_cons_of_mem _ h)⟩
  have hl : lv_has ls 1 [(0, .ref b)] := hl
  refine lv_aload_n hx hb dX2_wayCount_0 rfl (lv_at hl 0 rfl) ?_
  refine r_callVi (As := []) (rest := []) (wr := []) F hK hP hD hS hA hO hE (c_X2_wayBits hO b q) k_1068 kv_X2_wayBits 0 rfl (by decide +kernel) ⟨Nat.le_of_ble_eq_true rfl, Nat.le_of_ble_eq_true rfl⟩ [0, 1] [] rfl rfl (by decide) (by decide) (by decide) 0 2 rfl rfl rfl hl.1 rfl (Nat.le_of_ble_eq_true rfl) dX2_wayCount_1 ⟨Nat.le_of_ble_eq_true rfl, Nat.le_of_ble_eq_true rfl⟩ (w1 := fun u1 => []) (fun _ => rfl) (fun r2 u1 H locs hp hP hD hS => ?_)
  subst hp
  refine r_callXi (As := [.int 0]) (rest := []) F hK hP hD hS hA hO hE (c_J6_bitCount hO) k_1069 ks_J6_bitCount_0f7a4 1 rfl (by decide +kernel) ⟨Nat.le_of_ble_eq_true rfl, Nat.le_of_ble_eq_true rfl⟩ [] rfl (by decide) hl.1 rfl (Nat.le_of_ble_eq_true rfl) dX2_wayCount_4 ⟨Nat.le_of_ble_eq_true rfl, Nat.le_of_ble_eq_true rfl⟩ (fun r3 u4 H locs hp hP hD hS => ?_)
  subst hp
  exact ret 0 (fun _ => 0, fun _ _ => 0) _ _ _ _ _ _ rfl rfl (bw_subP (isC := []) hP rfl) (hD.sub [] (by decide) rfl) hS (Nat.le_of_ble_eq_true rfl) (Nat.le_of_ble_eq_true rfl) dX2_wayCount_7
theorem dX8_size_0 : decode cX8_size 0 = .ok (.iload_n 1, 1) := by decide +kernel
theorem dX8_size_1 : decode cX8_size 1 = .ok (.tableswitch 99 0 6 #[43, 51, 59, 67, 75, 83, 91], 43) := by decide +kernel
theorem dX8_size_100 : decode cX8_size 100 = .ok (.iconst (-1), 1) := by decide +kernel
theorem dX8_size_101 : decode cX8_size 101 = .ok (.ireturn, 1) := by decide +kernel
theorem dX8_size_44 : decode cX8_size 44 = .ok (.aload_n 0, 1) := by decide +kernel
theorem dX8_size_45 : decode cX8_size 45 = .ok (.getfield 31, 3) := by decide +kernel
theorem dX8_size_48 : decode cX8_size 48 = .ok (.getfield 122, 3) := by decide +kernel
theorem k_145 : Cond.fieldLink RX8 122 "BurntWays$Net" "lines" "I" ∈ bw_T := bw_m 145 (by decide +kernel) rfl
theorem dX8_size_51 : decode cX8_size 51 = .ok (.ireturn, 1) := by decide +kernel
theorem dX8_size_52 : decode cX8_size 52 = .ok (.aload_n 0, 1) := by decide +kernel
theorem dX8_size_53 : decode cX8_size 53 = .ok (.getfield 31, 3) := by decide +kernel
theorem dX8_size_56 : decode cX8_size 56 = .ok (.invokevirtual 312, 3) := by decide +kernel
theorem k_1060 : Cond.methodLink RX8 312 yX2_toldLines ∈ bw_T := bw_m 1060 (by decide +kernel) rfl
theorem kv_X2_toldLines : bw_KV RX2 yX2_toldLines (Cond.code yX2_toldLines cX2_toldLines 3 (some .int)) := ⟨bw_m 1061 (by decide +kernel) rfl, bw_m 1062 (by decide +kernel) rfl, bw_m 96 (by decide +kernel) rfl, bw_m 1063 (by decide +kernel) rfl⟩
theorem dX8_size_59 : decode cX8_size 59 = .ok (.ireturn, 1) := by decide +kernel
theorem dX8_size_60 : decode cX8_size 60 = .ok (.aload_n 0, 1) := by decide +kernel
theorem dX8_size_61 : decode cX8_size 61 = .ok (.getfield 31, 3) := by decide +kernel
theorem dX8_size_64 : decode cX8_size 64 = .ok (.invokevirtual 315, 3) := by decide +kernel
theorem k_1064 : Cond.methodLink RX8 315 yX2_wayCount ∈ bw_T := bw_m 1064 (by decide +kernel) rfl
theorem kv_X2_wayCount : bw_KV RX2 yX2_wayCount (Cond.code yX2_wayCount cX2_wayCount 1 (some .int)) := ⟨bw_m 1065 (by decide +kernel) rfl, bw_m 1066 (by decide +kernel) rfl, bw_m 96 (by decide +kernel) rfl, bw_m 1067 (by decide +kernel) rfl⟩
theorem dX8_size_67 : decode cX8_size 67 = .ok (.ireturn, 1) := by decide +kernel
theorem dX8_size_68 : decode cX8_size 68 = .ok (.aload_n 0, 1) := by decide +kernel
theorem dX8_size_69 : decode cX8_size 69 = .ok (.getfield 40, 3) := by decide +kernel
theorem dX8_size_72 : decode cX8_size 72 = .ok (.getfield 225, 3) := by decide +kernel
theorem k_204 : Cond.fieldLink RX8 225 "BurntWays$Wants" "count" "I" ∈ bw_T := bw_m 204 (by decide +kernel) rfl
theorem dX8_size_75 : decode cX8_size 75 = .ok (.ireturn, 1) := by decide +kernel
theorem dX8_size_76 : decode cX8_size 76 = .ok (.aload_n 0, 1) := by decide +kernel
theorem dX8_size_77 : decode cX8_size 77 = .ok (.getfield 81, 3) := by decide +kernel
theorem dX8_size_80 : decode cX8_size 80 = .ok (.getfield 109, 3) := by decide +kernel
theorem dX8_size_83 : decode cX8_size 83 = .ok (.ireturn, 1) := by decide +kernel
theorem dX8_size_84 : decode cX8_size 84 = .ok (.aload_n 0, 1) := by decide +kernel
theorem dX8_size_85 : decode cX8_size 85 = .ok (.getfield 20, 3) := by decide +kernel
theorem dX8_size_88 : decode cX8_size 88 = .ok (.getfield 85, 3) := by decide +kernel
theorem dX8_size_91 : decode cX8_size 91 = .ok (.ireturn, 1) := by decide +kernel
theorem dX8_size_92 : decode cX8_size 92 = .ok (.aload_n 0, 1) := by decide +kernel
theorem dX8_size_93 : decode cX8_size 93 = .ok (.getfield 31, 3) := by decide +kernel
theorem dX8_size_96 : decode cX8_size 96 = .ok (.invokevirtual 318, 3) := by decide +kernel
theorem k_1075 : Cond.methodLink RX8 318 yX2_laidInAll ∈ bw_T := bw_m 1075 (by decide +kernel) rfl
theorem kv_X2_laidInAll : bw_KV RX2 yX2_laidInAll (Cond.code yX2_laidInAll cX2_laidInAll 3 (some .int)) := ⟨bw_m 903 (by decide +kernel) rfl, bw_m 904 (by decide +kernel) rfl, bw_m 96 (by decide +kernel) rfl, bw_m 905 (by decide +kernel) rfl⟩
theorem dX8_size_99 : decode cX8_size 99 = .ok (.ireturn, 1) := by decide +kernel
abbrev rm_X8_size : Room := { frames := 3, cells := 0, slots := 0, locals := 63 }
set_option maxRecDepth 100000 in
set_option maxHeartbeats 4000000 in
theorem c_X8_size {l : Launch} {E : (Nat → Prop) → State → Prop} (hO : bw_Ok E) {G : va_G} {cI cB cJ cN cW : ClassId} (b : Nat) (q : Nat → Nat) (w : Int32) : bw_Ci (S := bw_U) l yX8_size (bw_ws (Cond.code yX8_size cX8_size 2 (some .int))) rm_X8_size E G (bw_kt cI cB cJ cN cW) [.ref b, .int w] [(b, .inr (8, [.int 0, .int 0, .ref (q 0), .ref (q 1), .ref (q 2), .ref (q 3), .ref (q 4), .ref (q 5), .ref (q 6), .ref (q 7), .ref (q 8), .ref (q 9), .ref (q 10), .ref (q 11)])), ((q 0), .inr (3, [.ref (q 20), .int 0, .ref (q 21), .ref (q 22), .int 0, .int 0, .ref (q 23), .ref (q 24), .int 0, .int 24, .int 0, .int 0, .long 0, .int 0])), ((q 2), .inr (2, [.int 0, .ref (q 40), .ref (q 41), .ref (q 42), .ref (q 43), .ref (q 44), .ref (q 45), .ref (q 46), .ref (q 47)])), ((q 47), .inl (cI, 20, .inl (fun _ => 0))), ((q 4), .inr (7, [.int 0, .ref (q 50)])), ((q 11), .inr (1, [.int 0, .ref (q 51), .ref (q 52)]))] (fun r _ => r = bw_size w) (fun _ => []) := by
  refine bw_Ci.of (cc := cX8_size) (maxL := 2) (ty := .int) (by decide) rfl (Nat.le_of_ble_eq_true rfl) ?_
  intro p e s m below meth c A Q hx hb hml hts hown hin hK hA hS hP hD hE ret ls hl
  have F : CallFix p m c cX8_size 2 s ([.ref b, .int w] : List Value).toArray bw_T RX8 := ⟨hx, hb, hml, hown, fun w h => hts w (List.mem_cons_of_mem _ h)⟩
  have hl : lv_has ls 2 [(0, .ref b), (1, .int w)] := hl
  rcases bw_sw w with h1 | rfl | rfl | rfl | rfl | rfl | rfl | rfl
  · refine lv_iload_n hx hb dX8_size_0 rfl (lv_at hl 1 rfl) ?_
    refine lv_tableOut (tgt := 100) hx hb dX8_size_1 h1 (by decide) ?_
    refine lv_iconst (v := (-1)) hx hb dX8_size_100 (by decide) ?_
    exact ret (-1) (fun _ => 0, fun _ _ => 0) _ _ _ _ _ _ rfl (bw_size_out h1).symm (bw_subP (isC := []) hP rfl) (hD.sub [] (by decide) rfl) hS (Nat.le_of_ble_eq_true rfl) (Nat.le_of_ble_eq_true rfl) dX8_size_101
  · refine lv_iload_n hx hb dX8_size_0 rfl (lv_at hl 1 rfl) ?_
    refine lv_tableIn (off := 43) (tgt := 44) hx hb dX8_size_1 (by decide) (by decide) (by decide) (by decide) ?_
    refine lv_aload_n hx hb dX8_size_44 rfl (lv_at hl 0 rfl) ?_
    refine r_get F hK hP 0 4 rfl rfl in_X8 (by decide) k_499 rfl dX8_size_45 ?_
    refine r_get F hK hP 2 0 rfl rfl in_X2 (by decide) k_145 rfl dX8_size_48 ?_
    exact ret 0 (fun _ => 0, fun _ _ => 0) _ _ _ _ _ _ rfl (by decide) (bw_subP (isC := []) hP rfl) (hD.sub [] (by decide) rfl) hS (Nat.le_of_ble_eq_true rfl) (Nat.le_of_ble_eq_true rfl) dX8_size_51
  · refine lv_iload_n hx hb dX8_size_0 rfl (lv_at hl 1 rfl) ?_
    refine lv_tableIn (off := 51) (tgt := 52) hx hb dX8_size_1 (by decide) (by decide) (by decide) (by decide) ?_
    refine lv_aload_n hx hb dX8_size_52 rfl (lv_at hl 0 rfl) ?_
    refine r_get F hK hP 0 4 rfl rfl in_X8 (by decide) k_499 rfl dX8_size_53 ?_
    refine r_callVi (As := []) (rest := []) (wr := [(b, .inr (8, [.int 0, .int 0, .ref (q 0), .ref (q 1), .ref (q 2), .ref (q 3), .ref (q 4), .ref (q 5), .ref (q 6), .ref (q 7), .ref (q 8), .ref (q 9), .ref (q 10), .ref (q 11)])), ((q 0), .inr (3, [.ref (q 20), .int 0, .ref (q 21), .ref (q 22), .int 0, .int 0, .ref (q 23), .ref (q 24), .int 0, .int 24, .int 0, .int 0, .long 0, .int 0])), ((q 47), .inl (cI, 20, .inl (fun _ => 0))), ((q 4), .inr (7, [.int 0, .ref (q 50)])), ((q 11), .inr (1, [.int 0, .ref (q 51), .ref (q 52)]))]) F hK hP hD hS hA hO hE (c_X2_toldLines hO (q 2) q) k_1060 kv_X2_toldLines 0 rfl (by decide +kernel) ⟨Nat.le_of_ble_eq_true rfl, Nat.le_of_ble_eq_true rfl⟩ [2] [0, 1, 3, 4, 5] rfl rfl (by decide) (by decide) (by decide) 0 2 rfl rfl rfl hl.1 rfl (Nat.le_of_ble_eq_true rfl) dX8_size_56 ⟨Nat.le_of_ble_eq_true rfl, Nat.le_of_ble_eq_true rfl⟩ (w1 := fun u1 => [(b, .inr (8, [.int 0, .int 0, .ref (q 0), .ref (q 1), .ref (q 2), .ref (q 3), .ref (q 4), .ref (q 5), .ref (q 6), .ref (q 7), .ref (q 8), .ref (q 9), .ref (q 10), .ref (q 11)])), ((q 0), .inr (3, [.ref (q 20), .int 0, .ref (q 21), .ref (q 22), .int 0, .int 0, .ref (q 23), .ref (q 24), .int 0, .int 24, .int 0, .int 0, .long 0, .int 0])), ((q 47), .inl (cI, 20, .inl (fun _ => 0))), ((q 4), .inr (7, [.int 0, .ref (q 50)])), ((q 11), .inr (1, [.int 0, .ref (q 51), .ref (q 52)]))]) (fun _ => rfl) (fun r2 u1 H locs hp hP hD hS => ?_)
    subst hp
    exact ret 0 (fun _ => 0, fun _ _ => 0) _ _ _ _ _ _ rfl (by decide) (bw_subP (isC := []) hP rfl) (hD.sub [] (by decide) rfl) hS (Nat.le_of_ble_eq_true rfl) (Nat.le_of_ble_eq_true rfl) dX8_size_59
  · refine lv_iload_n hx hb dX8_size_0 rfl (lv_at hl 1 rfl) ?_
    refine lv_tableIn (off := 59) (tgt := 60) hx hb dX8_size_1 (by decide) (by decide) (by decide) (by decide) ?_
    refine lv_aload_n hx hb dX8_size_60 rfl (lv_at hl 0 rfl) ?_
    refine r_get F hK hP 0 4 rfl rfl in_X8 (by decide) k_499 rfl dX8_size_61 ?_
    refine r_callVi (As := []) (rest := []) (wr := [(b, .inr (8, [.int 0, .int 0, .ref (q 0), .ref (q 1), .ref (q 2), .ref (q 3), .ref (q 4), .ref (q 5), .ref (q 6), .ref (q 7), .ref (q 8), .ref (q 9), .ref (q 10), .ref (q 11)])), ((q 0), .inr (3, [.ref (q 20), .int 0, .ref (q 21), .ref (q 22), .int 0, .int 0, .ref (q 23), .ref (q 24), .int 0, .int 24, .int 0, .int 0, .long 0, .int 0])), ((q 4), .inr (7, [.int 0, .ref (q 50)])), ((q 11), .inr (1, [.int 0, .ref (q 51), .ref (q 52)]))]) F hK hP hD hS hA hO hE (c_X2_wayCount hO (q 2) q) k_1064 kv_X2_wayCount 0 rfl (by decide +kernel) ⟨Nat.le_of_ble_eq_true rfl, Nat.le_of_ble_eq_true rfl⟩ [2, 3] [0, 1, 4, 5] rfl rfl (by decide) (by decide) (by decide) 0 2 rfl rfl rfl hl.1 rfl (Nat.le_of_ble_eq_true rfl) dX8_size_64 ⟨Nat.le_of_ble_eq_true rfl, Nat.le_of_ble_eq_true rfl⟩ (w1 := fun u1 => [(b, .inr (8, [.int 0, .int 0, .ref (q 0), .ref (q 1), .ref (q 2), .ref (q 3), .ref (q 4), .ref (q 5), .ref (q 6), .ref (q 7), .ref (q 8), .ref (q 9), .ref (q 10), .ref (q 11)])), ((q 0), .inr (3, [.ref (q 20), .int 0, .ref (q 21), .ref (q 22), .int 0, .int 0, .ref (q 23), .ref (q 24), .int 0, .int 24, .int 0, .int 0, .long 0, .int 0])), ((q 4), .inr (7, [.int 0, .ref (q 50)])), ((q 11), .inr (1, [.int 0, .ref (q 51), .ref (q 52)]))]) (fun _ => rfl) (fun r2 u1 H locs hp hP hD hS => ?_)
    subst hp
    exact ret 0 (fun _ => 0, fun _ _ => 0) _ _ _ _ _ _ rfl (by decide) (bw_subP (isC := []) hP rfl) (hD.sub [] (by decide) rfl) hS (Nat.le_of_ble_eq_true rfl) (Nat.le_of_ble_eq_true rfl) dX8_size_67
  · refine lv_iload_n hx hb dX8_size_0 rfl (lv_at hl 1 rfl) ?_
    refine lv_tableIn (off := 67) (tgt := 68) hx hb dX8_size_1 (by decide) (by decide) (by decide) (by decide) ?_
    refine lv_aload_n hx hb dX8_size_68 rfl (lv_at hl 0 rfl) ?_
    refine r_get F hK hP 0 6 rfl rfl in_X8 (by decide) k_501 rfl dX8_size_69 ?_
    refine r_get F hK hP 4 0 rfl rfl in_X7 (by decide) k_204 rfl dX8_size_72 ?_
    exact ret 0 (fun _ => 0, fun _ _ => 0) _ _ _ _ _ _ rfl (by decide) (bw_subP (isC := []) hP rfl) (hD.sub [] (by decide) rfl) hS (Nat.le_of_ble_eq_true rfl) (Nat.le_of_ble_eq_true rfl) dX8_size_75
  · refine lv_iload_n hx hb dX8_size_0 rfl (lv_at hl 1 rfl) ?_
    refine lv_tableIn (off := 75) (tgt := 76) hx hb dX8_size_1 (by decide) (by decide) (by decide) (by decide) ?_
    refine lv_aload_n hx hb dX8_size_76 rfl (lv_at hl 0 rfl) ?_
    refine r_get F hK hP 0 13 rfl rfl in_X8 (by decide) k_508 rfl dX8_size_77 ?_
    refine r_get F hK hP 5 0 rfl rfl in_X1 (by decide) k_483 rfl dX8_size_80 ?_
    exact ret 0 (fun _ => 0, fun _ _ => 0) _ _ _ _ _ _ rfl (by decide) (bw_subP (isC := []) hP rfl) (hD.sub [] (by decide) rfl) hS (Nat.le_of_ble_eq_true rfl) (Nat.le_of_ble_eq_true rfl) dX8_size_83
  · refine lv_iload_n hx hb dX8_size_0 rfl (lv_at hl 1 rfl) ?_
    refine lv_tableIn (off := 83) (tgt := 84) hx hb dX8_size_1 (by decide) (by decide) (by decide) (by decide) ?_
    refine lv_aload_n hx hb dX8_size_84 rfl (lv_at hl 0 rfl) ?_
    refine r_get F hK hP 0 2 rfl rfl in_X8 (by decide) k_497 rfl dX8_size_85 ?_
    refine r_get F hK hP 1 1 rfl rfl in_X3 (by decide) k_263 rfl dX8_size_88 ?_
    exact ret 0 (fun _ => 0, fun _ _ => 0) _ _ _ _ _ _ rfl (by decide) (bw_subP (isC := []) hP rfl) (hD.sub [] (by decide) rfl) hS (Nat.le_of_ble_eq_true rfl) (Nat.le_of_ble_eq_true rfl) dX8_size_91
  · refine lv_iload_n hx hb dX8_size_0 rfl (lv_at hl 1 rfl) ?_
    refine lv_tableIn (off := 91) (tgt := 92) hx hb dX8_size_1 (by decide) (by decide) (by decide) (by decide) ?_
    refine lv_aload_n hx hb dX8_size_92 rfl (lv_at hl 0 rfl) ?_
    refine r_get F hK hP 0 4 rfl rfl in_X8 (by decide) k_499 rfl dX8_size_93 ?_
    refine r_callVi (As := []) (rest := []) (wr := [(b, .inr (8, [.int 0, .int 0, .ref (q 0), .ref (q 1), .ref (q 2), .ref (q 3), .ref (q 4), .ref (q 5), .ref (q 6), .ref (q 7), .ref (q 8), .ref (q 9), .ref (q 10), .ref (q 11)])), ((q 0), .inr (3, [.ref (q 20), .int 0, .ref (q 21), .ref (q 22), .int 0, .int 0, .ref (q 23), .ref (q 24), .int 0, .int 24, .int 0, .int 0, .long 0, .int 0])), ((q 4), .inr (7, [.int 0, .ref (q 50)])), ((q 11), .inr (1, [.int 0, .ref (q 51), .ref (q 52)]))]) F hK hP hD hS hA hO hE (c_X2_laidInAll hO (q 2) q) k_1075 kv_X2_laidInAll 0 rfl (by decide +kernel) ⟨Nat.le_of_ble_eq_true rfl, Nat.le_of_ble_eq_true rfl⟩ [2, 3] [0, 1, 4, 5] rfl rfl (by decide) (by decide) (by decide) 0 2 rfl rfl rfl hl.1 rfl (Nat.le_of_ble_eq_true rfl) dX8_size_96 ⟨Nat.le_of_ble_eq_true rfl, Nat.le_of_ble_eq_true rfl⟩ (w1 := fun u1 => [(b, .inr (8, [.int 0, .int 0, .ref (q 0), .ref (q 1), .ref (q 2), .ref (q 3), .ref (q 4), .ref (q 5), .ref (q 6), .ref (q 7), .ref (q 8), .ref (q 9), .ref (q 10), .ref (q 11)])), ((q 0), .inr (3, [.ref (q 20), .int 0, .ref (q 21), .ref (q 22), .int 0, .int 0, .ref (q 23), .ref (q 24), .int 0, .int 24, .int 0, .int 0, .long 0, .int 0])), ((q 4), .inr (7, [.int 0, .ref (q 50)])), ((q 11), .inr (1, [.int 0, .ref (q 51), .ref (q 52)]))]) (fun _ => rfl) (fun r2 u1 H locs hp hP hD hS => ?_)
    subst hp
    exact ret 0 (fun _ => 0, fun _ _ => 0) _ _ _ _ _ _ rfl (by decide) (bw_subP (isC := []) hP rfl) (hD.sub [] (by decide) rfl) hS (Nat.le_of_ble_eq_true rfl) (Nat.le_of_ble_eq_true rfl) dX8_size_99
