def loopZ (x y : Int) : Int := if x < 1 ∨ 9 < x ∨ y < 1 ∨ 99 < y then -1 else if x = 1 then x * ((y + 10 - 1) / 10) else x * ((y + 9 - 1) / 9)
theorem dX8_loop_0 : decode cX8_loop 0 = .ok (.iload_n 1, 1) := bo_27 (by decide +kernel)
theorem dX8_loop_1 : decode cX8_loop 1 = .ok (.iconst 1, 1) := bo_4 (by decide +kernel)
theorem dX8_loop_2 : decode cX8_loop 2 = .ok (.if_icmp .lt 20, 3) := bo_161 0 20 (by decide +kernel)
theorem dX8_loop_22 : decode cX8_loop 22 = .ok (.aload_n 0, 1) := bo_42 (by decide +kernel)
theorem dX8_loop_23 : decode cX8_loop 23 = .ok (.iconst 2, 1) := bo_5 (by decide +kernel)
theorem dX8_loop_24 : decode cX8_loop 24 = .ok (.invokevirtual 92, 3) := bo_182 0 92 (by decide +kernel)
theorem k_550 : Cond.methodLink RX8 92 yX8_refuse ∈ bw_T := bw_m 550 (by decide +kernel) rfl
theorem kv_X8_refuse : bw_KV RX8 yX8_refuse (Cond.code yX8_refuse cX8_refuse 2 (some .int)) := ⟨bw_m 552 (by decide +kernel) rfl, bw_m 1 (by decide +kernel) rfl, bw_m 94 (by decide +kernel) rfl, bw_m 553 (by decide +kernel) rfl⟩
theorem dX8_loop_27 : decode cX8_loop 27 = .ok (.ireturn, 1) := bo_172 (by decide +kernel)
theorem dX8_loop_5 : decode cX8_loop 5 = .ok (.iload_n 1, 1) := bo_27 (by decide +kernel)
theorem dX8_loop_6 : decode cX8_loop 6 = .ok (.bipush 9, 2) := bo_16 9 (by decide +kernel)
theorem dX8_loop_8 : decode cX8_loop 8 = .ok (.if_icmp .gt 14, 3) := bo_163 0 14 (by decide +kernel)
theorem dX8_loop_11 : decode cX8_loop 11 = .ok (.iload_n 2, 1) := bo_28 (by decide +kernel)
theorem dX8_loop_12 : decode cX8_loop 12 = .ok (.iconst 1, 1) := bo_4 (by decide +kernel)
theorem dX8_loop_13 : decode cX8_loop 13 = .ok (.if_icmp .lt 9, 3) := bo_161 0 9 (by decide +kernel)
theorem dX8_loop_16 : decode cX8_loop 16 = .ok (.iload_n 2, 1) := bo_28 (by decide +kernel)
theorem dX8_loop_17 : decode cX8_loop 17 = .ok (.bipush 99, 2) := bo_16 99 (by decide +kernel)
theorem dX8_loop_19 : decode cX8_loop 19 = .ok (.if_icmp .le 9, 3) := bo_164 0 9 (by decide +kernel)
theorem dX8_loop_28 : decode cX8_loop 28 = .ok (.iload_n 1, 1) := bo_27 (by decide +kernel)
theorem dX8_loop_29 : decode cX8_loop 29 = .ok (.iconst 1, 1) := bo_4 (by decide +kernel)
theorem dX8_loop_30 : decode cX8_loop 30 = .ok (.if_icmp .ne 8, 3) := bo_160 0 8 (by decide +kernel)
theorem dX8_loop_38 : decode cX8_loop 38 = .ok (.bipush 9, 2) := bo_16 9 (by decide +kernel)
theorem dX8_loop_40 : decode cX8_loop 40 = .ok (.istore_n 3, 1) := bo_62 (by decide +kernel)
theorem dX8_loop_41 : decode cX8_loop 41 = .ok (.iload_n 2, 1) := bo_28 (by decide +kernel)
theorem dX8_loop_42 : decode cX8_loop 42 = .ok (.iload_n 3, 1) := bo_29 (by decide +kernel)
theorem dX8_loop_43 : decode cX8_loop 43 = .ok (.iadd, 1) := bo_96 (by decide +kernel)
theorem dX8_loop_44 : decode cX8_loop 44 = .ok (.iconst 1, 1) := bo_4 (by decide +kernel)
theorem dX8_loop_45 : decode cX8_loop 45 = .ok (.isub, 1) := bo_100 (by decide +kernel)
theorem dX8_loop_46 : decode cX8_loop 46 = .ok (.iload_n 3, 1) := bo_29 (by decide +kernel)
theorem dX8_loop_47 : decode cX8_loop 47 = .ok (.idiv, 1) := bo_108 (by decide +kernel)
theorem dX8_loop_48 : decode cX8_loop 48 = .ok (.istore 4, 2) := bo_54 (by decide +kernel)
theorem dX8_loop_50 : decode cX8_loop 50 = .ok (.aload_n 0, 1) := bo_42 (by decide +kernel)
theorem dX8_loop_51 : decode cX8_loop 51 = .ok (.iload_n 1, 1) := bo_27 (by decide +kernel)
theorem dX8_loop_52 : decode cX8_loop 52 = .ok (.iload 4, 2) := bo_21 (by decide +kernel)
theorem dX8_loop_54 : decode cX8_loop 54 = .ok (.imul, 1) := bo_104 (by decide +kernel)
theorem dX8_loop_55 : decode cX8_loop 55 = .ok (.invokevirtual 125, 3) := bo_182 0 125 (by decide +kernel)
theorem k_663 : Cond.methodLink RX8 125 yX8_grant ∈ bw_T := bw_m 663 (by decide +kernel) rfl
theorem kv_X8_grant : bw_KV RX8 yX8_grant (Cond.code yX8_grant cX8_grant 2 (some .int)) := ⟨bw_m 665 (by decide +kernel) rfl, bw_m 20 (by decide +kernel) rfl, bw_m 94 (by decide +kernel) rfl, bw_m 666 (by decide +kernel) rfl⟩
theorem dX8_loop_58 : decode cX8_loop 58 = .ok (.ireturn, 1) := bo_172 (by decide +kernel)
theorem dX8_loop_33 : decode cX8_loop 33 = .ok (.bipush 10, 2) := bo_16 10 (by decide +kernel)
theorem dX8_loop_35 : decode cX8_loop 35 = .ok (.goto 5, 3) := bo_167 0 5 (by decide +kernel)
abbrev rm_X8_loop : Room := { frames := 1, cells := 0, slots := 0, locals := 21 }
set_option maxRecDepth 100000 in
set_option maxHeartbeats 8000000 in
theorem c_X8_loop {l : Launch} {E : (Nat → Prop) → State → Prop} (hO : bw_Ok E) {G : va_G} {cI cB cJ cN cW : ClassId} (b : Nat) (q : Nat → Nat) (t ld : Int) (hL : ld = 0 ∨ ld = 1) (x y : Int) (hx9 : zR x) (hy9 : zR y) : bw_Ci (S := zU) l yX8_loop (bw_ws (Cond.code yX8_loop cX8_loop 5 (some .int))) rm_X8_loop E G (bw_kt cI cB cJ cN cW) [.ref b, .int (zI x), .int (zI y)] [(b, .inr (8, [.int (zI t), .int (zI ld), .ref (q 0), .ref (q 1), .ref (q 2), .ref (q 3), .ref (q 4), .ref (q 5), .ref (q 6), .ref (q 7), .ref (q 8), .ref (q 9), .ref (q 10), .ref (q 11)]))] (fun r u => ∃ z : Int, r = zI z ∧ z = loopZ x y ∧ (0 ≤ u.1 0 ∧ u.1 0 ≤ 6 ∧ u.1 0 ≠ 4)) (fun u => [(b, .inr (8, [.int (zI (u.1 0)), .int (zI ld), .ref (q 0), .ref (q 1), .ref (q 2), .ref (q 3), .ref (q 4), .ref (q 5), .ref (q 6), .ref (q 7), .ref (q 8), .ref (q 9), .ref (q 10), .ref (q 11)]))]) := by
  refine bw_Ci.of (cc := cX8_loop) (maxL := 5) (ty := .int) (by decide) rfl (Nat.le_of_ble_eq_true rfl) ?_
  intro p e s m below meth c A Q hx hb hml hts hown hin hK hA hS hP hD hE ret ls hl
  have F : CallFix p m c cX8_loop 5 s ([.ref b, .int (zI x), .int (zI y)] : List Value).toArray bw_T RX8 := ⟨hx, hb, hml, hown, fun w h => hts w (List.mem_cons_of_mem _ h)⟩
  replace hl : lv_has ls 5 [(0, .ref b), (1, .int (zI x)), (2, .int (zI y))] := hl
  refine lv_iload_n hx hb dX8_loop_0 rfl (lv_at hl 1 rfl) ?_
  refine lv_iconst (v := zI 1) hx hb dX8_loop_1 rfl ?_
  refine rz_icmp_lt (tgt := 22) F (by omega) (by omega) dX8_loop_2 (by decide) (fun h2_0 => ?_) (fun h2_0 => ?_)
  · refine lv_aload_n hx hb dX8_loop_22 rfl (lv_at hl 0 rfl) ?_
    refine lv_iconst (v := zI 2) hx hb dX8_loop_23 rfl ?_
    refine r_callVi (As := [.int (zI 2)]) (rest := []) (wr := []) F hK hP hD hS hA hO hE (c_X8_refuse hO b q t ld hL 2) k_550 kv_X8_refuse 1 rfl (by decide +kernel) ⟨Nat.le_of_ble_eq_true rfl, Nat.le_of_ble_eq_true rfl⟩ [0] [] rfl rfl (by decide) (by decide) (by decide) 0 8 rfl rfl rfl hl.1 rfl (Nat.le_of_ble_eq_true rfl) dX8_loop_24 ⟨Nat.le_of_ble_eq_true rfl, Nat.le_of_ble_eq_true rfl⟩ (w1 := fun u2 => [(b, .inr (8, [.int (zI 2), .int (zI ld), .ref (q 0), .ref (q 1), .ref (q 2), .ref (q 3), .ref (q 4), .ref (q 5), .ref (q 6), .ref (q 7), .ref (q 8), .ref (q 9), .ref (q 10), .ref (q 11)]))]) (fun _ => rfl) (fun r3 u2 H locs hp4 hP hD hS => ?_)
    obtain ⟨z5, rfl, h_z5⟩ := hp4
    exact ret (zI z5) (fun _ => 2, fun _ _ => 0) _ _ _ _ _ _ rfl ⟨z5, rfl, by rw [h_z5]; unfold loopZ; rw [if_pos (by omega)], (show 0 ≤ (2 : Int) ∧ (2 : Int) ≤ 6 ∧ (2 : Int) ≠ 4 from by omega)⟩ (bw_subP (isC := [0]) hP rfl) (hD.sub [0] (by decide) rfl) hS (Nat.le_of_ble_eq_true rfl) (Nat.le_of_ble_eq_true rfl) dX8_loop_27
  · refine lv_iload_n hx hb dX8_loop_5 rfl (lv_at hl 1 rfl) ?_
    refine lv_bipush (v := zI 9) hx hb dX8_loop_6 (by decide) ?_
    refine rz_icmp_gt (tgt := 22) F (by omega) (by omega) dX8_loop_8 (by decide) (fun h8_5 => ?_) (fun h8_5 => ?_)
    · refine lv_aload_n hx hb dX8_loop_22 rfl (lv_at hl 0 rfl) ?_
      refine lv_iconst (v := zI 2) hx hb dX8_loop_23 rfl ?_
      refine r_callVi (As := [.int (zI 2)]) (rest := []) (wr := []) F hK hP hD hS hA hO hE (c_X8_refuse hO b q t ld hL 2) k_550 kv_X8_refuse 1 rfl (by decide +kernel) ⟨Nat.le_of_ble_eq_true rfl, Nat.le_of_ble_eq_true rfl⟩ [0] [] rfl rfl (by decide) (by decide) (by decide) 0 8 rfl rfl rfl hl.1 rfl (Nat.le_of_ble_eq_true rfl) dX8_loop_24 ⟨Nat.le_of_ble_eq_true rfl, Nat.le_of_ble_eq_true rfl⟩ (w1 := fun u7 => [(b, .inr (8, [.int (zI 2), .int (zI ld), .ref (q 0), .ref (q 1), .ref (q 2), .ref (q 3), .ref (q 4), .ref (q 5), .ref (q 6), .ref (q 7), .ref (q 8), .ref (q 9), .ref (q 10), .ref (q 11)]))]) (fun _ => rfl) (fun r8 u7 H locs hp9 hP hD hS => ?_)
      obtain ⟨z10, rfl, h_z10⟩ := hp9
      exact ret (zI z10) (fun _ => 2, fun _ _ => 0) _ _ _ _ _ _ rfl ⟨z10, rfl, by rw [h_z10]; unfold loopZ; rw [if_pos (by omega)], (show 0 ≤ (2 : Int) ∧ (2 : Int) ≤ 6 ∧ (2 : Int) ≠ 4 from by omega)⟩ (bw_subP (isC := [0]) hP rfl) (hD.sub [0] (by decide) rfl) hS (Nat.le_of_ble_eq_true rfl) (Nat.le_of_ble_eq_true rfl) dX8_loop_27
    · refine lv_iload_n hx hb dX8_loop_11 rfl (lv_at hl 2 rfl) ?_
      refine lv_iconst (v := zI 1) hx hb dX8_loop_12 rfl ?_
      refine rz_icmp_lt (tgt := 22) F (by omega) (by omega) dX8_loop_13 (by decide) (fun h13_10 => ?_) (fun h13_10 => ?_)
      · refine lv_aload_n hx hb dX8_loop_22 rfl (lv_at hl 0 rfl) ?_
        refine lv_iconst (v := zI 2) hx hb dX8_loop_23 rfl ?_
        refine r_callVi (As := [.int (zI 2)]) (rest := []) (wr := []) F hK hP hD hS hA hO hE (c_X8_refuse hO b q t ld hL 2) k_550 kv_X8_refuse 1 rfl (by decide +kernel) ⟨Nat.le_of_ble_eq_true rfl, Nat.le_of_ble_eq_true rfl⟩ [0] [] rfl rfl (by decide) (by decide) (by decide) 0 8 rfl rfl rfl hl.1 rfl (Nat.le_of_ble_eq_true rfl) dX8_loop_24 ⟨Nat.le_of_ble_eq_true rfl, Nat.le_of_ble_eq_true rfl⟩ (w1 := fun u12 => [(b, .inr (8, [.int (zI 2), .int (zI ld), .ref (q 0), .ref (q 1), .ref (q 2), .ref (q 3), .ref (q 4), .ref (q 5), .ref (q 6), .ref (q 7), .ref (q 8), .ref (q 9), .ref (q 10), .ref (q 11)]))]) (fun _ => rfl) (fun r13 u12 H locs hp14 hP hD hS => ?_)
        obtain ⟨z15, rfl, h_z15⟩ := hp14
        exact ret (zI z15) (fun _ => 2, fun _ _ => 0) _ _ _ _ _ _ rfl ⟨z15, rfl, by rw [h_z15]; unfold loopZ; rw [if_pos (by omega)], (show 0 ≤ (2 : Int) ∧ (2 : Int) ≤ 6 ∧ (2 : Int) ≠ 4 from by omega)⟩ (bw_subP (isC := [0]) hP rfl) (hD.sub [0] (by decide) rfl) hS (Nat.le_of_ble_eq_true rfl) (Nat.le_of_ble_eq_true rfl) dX8_loop_27
      · refine lv_iload_n hx hb dX8_loop_16 rfl (lv_at hl 2 rfl) ?_
        refine lv_bipush (v := zI 99) hx hb dX8_loop_17 (by decide) ?_
        refine rz_icmp_le (tgt := 28) F (by omega) (by omega) dX8_loop_19 (by decide) (fun h19_15 => ?_) (fun h19_15 => ?_)
        · refine lv_iload_n hx hb dX8_loop_28 rfl (lv_at hl 1 rfl) ?_
          refine lv_iconst (v := zI 1) hx hb dX8_loop_29 rfl ?_
          refine rz_icmp_ne (tgt := 38) F (by omega) (by omega) dX8_loop_30 (by decide) (fun h30_16 => ?_) (fun h30_16 => ?_)
          · refine lv_bipush (v := zI 9) hx hb dX8_loop_38 (by decide) ?_
            refine lv_istore_n (lv' := [(3, .int (zI 9)), (0, .ref b), (1, .int (zI x)), (2, .int (zI y))]) hx hb dX8_loop_40 rfl hl (by decide) rfl (fun ls hl => ?_)
            refine lv_iload_n hx hb dX8_loop_41 rfl (lv_at hl 3 rfl) ?_
            refine lv_iload_n hx hb dX8_loop_42 rfl (lv_at hl 0 rfl) ?_
            refine r_iadd (v := zI (y + 9)) F dX8_loop_43 (zI_add _ _) ?_
            refine lv_iconst (v := zI 1) hx hb dX8_loop_44 rfl ?_
            refine r_isub (v := zI ((y + 9) - 1)) F dX8_loop_45 (zI_sub _ _) ?_
            refine lv_iload_n hx hb dX8_loop_46 rfl (lv_at hl 0 rfl) ?_
            refine rz_idiv F (by omega) (by omega) dX8_loop_47 (fun z18 h_z18 => ?_)
            refine lv_istore (lv' := [(4, .int (zI z18)), (3, .int (zI 9)), (0, .ref b), (1, .int (zI x)), (2, .int (zI y))]) hx hb dX8_loop_48 hl (by decide) rfl (fun ls hl => ?_)
            refine lv_aload_n hx hb dX8_loop_50 rfl (lv_at hl 2 rfl) ?_
            refine lv_iload_n hx hb dX8_loop_51 rfl (lv_at hl 3 rfl) ?_
            refine lv_iload hx hb dX8_loop_52 (lv_at hl 0 rfl) ?_
            refine r_imul (v := zI (x * z18)) F dX8_loop_54 (zI_mul _ _) ?_
            refine r_callVi (As := [.int (zI (x * z18))]) (rest := []) (wr := []) F hK hP hD hS hA hO hE (c_X8_grant hO b q t ld hL (x * z18)) k_663 kv_X8_grant 1 rfl (by decide +kernel) ⟨Nat.le_of_ble_eq_true rfl, Nat.le_of_ble_eq_true rfl⟩ [0] [] rfl rfl (by decide) (by decide) (by decide) 0 8 rfl rfl rfl hl.1 rfl (Nat.le_of_ble_eq_true rfl) dX8_loop_55 ⟨Nat.le_of_ble_eq_true rfl, Nat.le_of_ble_eq_true rfl⟩ (w1 := fun u19 => [(b, .inr (8, [.int (zI 0), .int (zI ld), .ref (q 0), .ref (q 1), .ref (q 2), .ref (q 3), .ref (q 4), .ref (q 5), .ref (q 6), .ref (q 7), .ref (q 8), .ref (q 9), .ref (q 10), .ref (q 11)]))]) (fun _ => rfl) (fun r20 u19 H locs hp21 hP hD hS => ?_)
            obtain ⟨z22, rfl, h_z22⟩ := hp21
            exact ret (zI z22) (fun _ => 0, fun _ _ => 0) _ _ _ _ _ _ rfl ⟨z22, rfl, by rw [h_z22, h_z18.1]; unfold loopZ; rw [if_neg (by omega), if_neg (by omega)], (show 0 ≤ (0 : Int) ∧ (0 : Int) ≤ 6 ∧ (0 : Int) ≠ 4 from by omega)⟩ (bw_subP (isC := [0]) hP rfl) (hD.sub [0] (by decide) rfl) hS (Nat.le_of_ble_eq_true rfl) (Nat.le_of_ble_eq_true rfl) dX8_loop_58
          · refine lv_bipush (v := zI 10) hx hb dX8_loop_33 (by decide) ?_
            refine lv_goto (tgt := 40) hx hb dX8_loop_35 (by decide) ?_
            refine lv_istore_n (lv' := [(3, .int (zI 10)), (0, .ref b), (1, .int (zI x)), (2, .int (zI y))]) hx hb dX8_loop_40 rfl hl (by decide) rfl (fun ls hl => ?_)
            refine lv_iload_n hx hb dX8_loop_41 rfl (lv_at hl 3 rfl) ?_
            refine lv_iload_n hx hb dX8_loop_42 rfl (lv_at hl 0 rfl) ?_
            refine r_iadd (v := zI (y + 10)) F dX8_loop_43 (zI_add _ _) ?_
            refine lv_iconst (v := zI 1) hx hb dX8_loop_44 rfl ?_
            refine r_isub (v := zI ((y + 10) - 1)) F dX8_loop_45 (zI_sub _ _) ?_
            refine lv_iload_n hx hb dX8_loop_46 rfl (lv_at hl 0 rfl) ?_
            refine rz_idiv F (by omega) (by omega) dX8_loop_47 (fun z23 h_z23 => ?_)
            refine lv_istore (lv' := [(4, .int (zI z23)), (3, .int (zI 10)), (0, .ref b), (1, .int (zI x)), (2, .int (zI y))]) hx hb dX8_loop_48 hl (by decide) rfl (fun ls hl => ?_)
            refine lv_aload_n hx hb dX8_loop_50 rfl (lv_at hl 2 rfl) ?_
            refine lv_iload_n hx hb dX8_loop_51 rfl (lv_at hl 3 rfl) ?_
            refine lv_iload hx hb dX8_loop_52 (lv_at hl 0 rfl) ?_
            refine r_imul (v := zI (x * z23)) F dX8_loop_54 (zI_mul _ _) ?_
            refine r_callVi (As := [.int (zI (x * z23))]) (rest := []) (wr := []) F hK hP hD hS hA hO hE (c_X8_grant hO b q t ld hL (x * z23)) k_663 kv_X8_grant 1 rfl (by decide +kernel) ⟨Nat.le_of_ble_eq_true rfl, Nat.le_of_ble_eq_true rfl⟩ [0] [] rfl rfl (by decide) (by decide) (by decide) 0 8 rfl rfl rfl hl.1 rfl (Nat.le_of_ble_eq_true rfl) dX8_loop_55 ⟨Nat.le_of_ble_eq_true rfl, Nat.le_of_ble_eq_true rfl⟩ (w1 := fun u24 => [(b, .inr (8, [.int (zI 0), .int (zI ld), .ref (q 0), .ref (q 1), .ref (q 2), .ref (q 3), .ref (q 4), .ref (q 5), .ref (q 6), .ref (q 7), .ref (q 8), .ref (q 9), .ref (q 10), .ref (q 11)]))]) (fun _ => rfl) (fun r25 u24 H locs hp26 hP hD hS => ?_)
            obtain ⟨z27, rfl, h_z27⟩ := hp26
            exact ret (zI z27) (fun _ => 0, fun _ _ => 0) _ _ _ _ _ _ rfl ⟨z27, rfl, by rw [h_z27, h_z23.1]; unfold loopZ; rw [if_neg (by omega), if_pos (by omega)], (show 0 ≤ (0 : Int) ∧ (0 : Int) ≤ 6 ∧ (0 : Int) ≠ 4 from by omega)⟩ (bw_subP (isC := [0]) hP rfl) (hD.sub [0] (by decide) rfl) hS (Nat.le_of_ble_eq_true rfl) (Nat.le_of_ble_eq_true rfl) dX8_loop_58
        · refine lv_aload_n hx hb dX8_loop_22 rfl (lv_at hl 0 rfl) ?_
          refine lv_iconst (v := zI 2) hx hb dX8_loop_23 rfl ?_
          refine r_callVi (As := [.int (zI 2)]) (rest := []) (wr := []) F hK hP hD hS hA hO hE (c_X8_refuse hO b q t ld hL 2) k_550 kv_X8_refuse 1 rfl (by decide +kernel) ⟨Nat.le_of_ble_eq_true rfl, Nat.le_of_ble_eq_true rfl⟩ [0] [] rfl rfl (by decide) (by decide) (by decide) 0 8 rfl rfl rfl hl.1 rfl (Nat.le_of_ble_eq_true rfl) dX8_loop_24 ⟨Nat.le_of_ble_eq_true rfl, Nat.le_of_ble_eq_true rfl⟩ (w1 := fun u28 => [(b, .inr (8, [.int (zI 2), .int (zI ld), .ref (q 0), .ref (q 1), .ref (q 2), .ref (q 3), .ref (q 4), .ref (q 5), .ref (q 6), .ref (q 7), .ref (q 8), .ref (q 9), .ref (q 10), .ref (q 11)]))]) (fun _ => rfl) (fun r29 u28 H locs hp30 hP hD hS => ?_)
          obtain ⟨z31, rfl, h_z31⟩ := hp30
          exact ret (zI z31) (fun _ => 2, fun _ _ => 0) _ _ _ _ _ _ rfl ⟨z31, rfl, by rw [h_z31]; unfold loopZ; rw [if_pos (by omega)], (show 0 ≤ (2 : Int) ∧ (2 : Int) ≤ 6 ∧ (2 : Int) ≠ 4 from by omega)⟩ (bw_subP (isC := [0]) hP rfl) (hD.sub [0] (by decide) rfl) hS (Nat.le_of_ble_eq_true rfl) (Nat.le_of_ble_eq_true rfl) dX8_loop_27
