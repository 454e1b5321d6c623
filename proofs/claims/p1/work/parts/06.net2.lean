theorem dX2_clear_0 : decode cX2_clear 0 = .ok (.aload_n 0, 1) := by decide +kernel
theorem dX2_clear_1 : decode cX2_clear 1 = .ok (.iconst 0, 1) := by decide +kernel
theorem dX2_clear_2 : decode cX2_clear 2 = .ok (.putfield 9, 3) := by decide +kernel
theorem k_144 : Cond.fieldLink RX2 9 "BurntWays$Net" "lines" "I" ∈ bw_T := bw_m 144 (by decide +kernel) rfl
theorem dX2_clear_5 : decode cX2_clear 5 = .ok (.iconst 0, 1) := by decide +kernel
theorem dX2_clear_6 : decode cX2_clear 6 = .ok (.istore_n 1, 1) := by decide +kernel
theorem dX2_clear_7 : decode cX2_clear 7 = .ok (.iload_n 1, 1) := by decide +kernel
theorem dX2_clear_8 : decode cX2_clear 8 = .ok (.bipush 10, 2) := by decide +kernel
theorem dX2_clear_10 : decode cX2_clear 10 = .ok (.if_icmp .ge 14, 3) := by decide +kernel
theorem dX2_clear_13 : decode cX2_clear 13 = .ok (.aload_n 0, 1) := by decide +kernel
theorem dX2_clear_14 : decode cX2_clear 14 = .ok (.iload_n 1, 1) := by decide +kernel
theorem dX2_clear_15 : decode cX2_clear 15 = .ok (.invokevirtual 43, 3) := by decide +kernel
theorem k_140 : Cond.methodLink RX2 43 yX2_untell ∈ bw_T := bw_m 140 (by decide +kernel) rfl
theorem kv_X2_untell : bw_KV RX2 yX2_untell (Cond.code yX2_untell cX2_untell 3 none) := ⟨bw_m 142 (by decide +kernel) rfl, bw_m 0 (by decide +kernel) rfl, bw_m 96 (by decide +kernel) rfl, bw_m 143 (by decide +kernel) rfl⟩
theorem dX2_clear_18 : decode cX2_clear 18 = .ok (.iinc 1 1, 3) := by decide +kernel
theorem dX2_clear_21 : decode cX2_clear 21 = .ok (.goto (-14), 3) := by decide +kernel
theorem dX2_clear_24 : decode cX2_clear 24 = .ok (.return_, 1) := by decide +kernel
abbrev rm_X2_clear : Room := { frames := 1, cells := 0, slots := 0, locals := 22 }
set_option maxRecDepth 100000 in
set_option maxHeartbeats 4000000 in
theorem c_X2_clear {l : Launch} {E : (Nat → Prop) → State → Prop} (hO : bw_Ok E) {G : va_G} {cI cB cJ cN cW : ClassId} (b : Nat) (q : Nat → Nat) (Lx : Int32) (f : Nat → Nat → Int32) : bw_Cv (S := bw_U) l yX2_clear (bw_ws (Cond.code yX2_clear cX2_clear 2 none)) rm_X2_clear E G (bw_kt cI cB cJ cN cW) [.ref b] [(b, .inr (2, [.int Lx, .ref (q 0), .ref (q 1), .ref (q 2), .ref (q 3), .ref (q 4), .ref (q 5), .ref (q 6), .ref (q 7)])), ((q 0), .inl (cI, 10, .inl (f 0))), ((q 1), .inl (cI, 10, .inl (f 1))), ((q 2), .inl (cI, 10, .inl (f 2))), ((q 6), .inl (cI, 20, .inl (f 3))), ((q 7), .inl (cI, 20, .inl (fun _ => 0)))] (fun _ => True) (fun u => [(b, .inr (2, [.int 0, .ref (q 0), .ref (q 1), .ref (q 2), .ref (q 3), .ref (q 4), .ref (q 5), .ref (q 6), .ref (q 7)])), ((q 0), .inl (cI, 10, .inl (u.2 0))), ((q 1), .inl (cI, 10, .inl (u.2 1))), ((q 2), .inl (cI, 10, .inl (u.2 2))), ((q 6), .inl (cI, 20, .inl (u.2 3))), ((q 7), .inl (cI, 20, .inl (fun _ => 0)))]) := by
  refine bw_Cv.of (cc := cX2_clear) (maxL := 2) (by decide) rfl (Nat.le_of_ble_eq_true rfl) ?_
  intro p e s m below meth c A Q hx hb hml hts hown hin hK hA hS hP hD hE ret ls hl
  have F : CallFix p m c cX2_clear 2 s ([.ref b] : List Value).toArray bw_T RX2 := ⟨hx, hb, hml, hown, fun w h => hts w (List.mem_cons_of_mem _ h)⟩
  have hl : lv_has ls 2 [(0, .ref b)] := hl
  refine lv_aload_n hx hb dX2_clear_0 rfl (lv_at hl 0 rfl) ?_
  refine lv_iconst (v := 0) hx hb dX2_clear_1 (by decide) ?_
  refine r_put F hK hP hD hS 0 0 rfl rfl in_X2 tyX2 tyX2_ok nmX2 (by decide) k_144 rfl rfl rfl (Nat.le_of_ble_eq_true rfl) dX2_clear_2 (w1 := [(b, .inr (2, [.int 0, .ref (q 0), .ref (q 1), .ref (q 2), .ref (q 3), .ref (q 4), .ref (q 5), .ref (q 6), .ref (q 7)])), ((q 0), .inl (cI, 10, .inl (f 0))), ((q 1), .inl (cI, 10, .inl (f 1))), ((q 2), .inl (cI, 10, .inl (f 2))), ((q 6), .inl (cI, 20, .inl (f 3))), ((q 7), .inl (cI, 20, .inl (fun _ => 0)))]) rfl (fun H locs hP hD hS => ?_)
  refine lv_iconst (v := 0) hx hb dX2_clear_5 (by decide) ?_
  refine lv_istore_n (lv' := [(1, .int 0), (0, .ref b)]) hx hb dX2_clear_6 rfl hl (by decide) rfl (fun ls hl => ?_)
  refine lv_iload_n hx hb dX2_clear_7 rfl (lv_at hl 0 rfl) ?_
  refine lv_bipush (v := 10) hx hb dX2_clear_8 (by decide) ?_
  refine lv_icmp_ge (tgt := 24) hx hb dX2_clear_10 (by decide) (fun h9 => absurd h9 (by decide)) (fun _ => ?_)
  refine lv_aload_n hx hb dX2_clear_13 rfl (lv_at hl 1 rfl) ?_
  refine lv_iload_n hx hb dX2_clear_14 rfl (lv_at hl 0 rfl) ?_
  refine r_callVv (As := [.int 0]) (rest := []) (wr := []) F hK hP hD hS hA hO hE (c_X2_untell_0 hO b q 0 f) k_140 kv_X2_untell 1 rfl (by decide +kernel) ⟨Nat.le_of_ble_eq_true rfl, Nat.le_of_ble_eq_true rfl⟩ [0, 1, 2, 3, 4, 5] [] rfl rfl (by decide) (by decide) (by decide) 0 2 rfl rfl rfl hl.1 rfl (Nat.le_of_ble_eq_true rfl) dX2_clear_15 ⟨Nat.le_of_ble_eq_true rfl, Nat.le_of_ble_eq_true rfl⟩ (w1 := fun u1 => [(b, .inr (2, [.int 0, .ref (q 0), .ref (q 1), .ref (q 2), .ref (q 3), .ref (q 4), .ref (q 5), .ref (q 6), .ref (q 7)])), ((q 0), .inl (cI, 10, .inl (u1.2 0))), ((q 1), .inl (cI, 10, .inl (u1.2 1))), ((q 2), .inl (cI, 10, .inl (u1.2 2))), ((q 6), .inl (cI, 20, .inl (u1.2 3))), ((q 7), .inl (cI, 20, .inl (fun _ => 0)))]) (fun _ => rfl) (fun  u1 H locs hp hP hD hS => ?_)
  refine lv_iinc (v := 1) (lv' := [(1, .int 1), (0, .ref b)]) hx hb dX2_clear_18 hl (k := 0) rfl (by decide) (by decide) rfl (fun ls hl => ?_)
  refine lv_goto (tgt := 7) hx hb dX2_clear_21 (by decide) ?_
  refine lv_iload_n hx hb dX2_clear_7 rfl (lv_at hl 0 rfl) ?_
  refine lv_bipush (v := 10) hx hb dX2_clear_8 (by decide) ?_
  refine lv_icmp_ge (tgt := 24) hx hb dX2_clear_10 (by decide) (fun h9 => absurd h9 (by decide)) (fun _ => ?_)
  refine lv_aload_n hx hb dX2_clear_13 rfl (lv_at hl 1 rfl) ?_
  refine lv_iload_n hx hb dX2_clear_14 rfl (lv_at hl 0 rfl) ?_
  refine r_callVv (As := [.int 1]) (rest := []) (wr := []) F hK hP hD hS hA hO hE (c_X2_untell_1 hO b q 0 u1.2) k_140 kv_X2_untell 1 rfl (by decide +kernel) ⟨Nat.le_of_ble_eq_true rfl, Nat.le_of_ble_eq_true rfl⟩ [0, 1, 2, 3, 4, 5] [] rfl rfl (by decide) (by decide) (by decide) 0 2 rfl rfl rfl hl.1 rfl (Nat.le_of_ble_eq_true rfl) dX2_clear_15 ⟨Nat.le_of_ble_eq_true rfl, Nat.le_of_ble_eq_true rfl⟩ (w1 := fun u2 => [(b, .inr (2, [.int 0, .ref (q 0), .ref (q 1), .ref (q 2), .ref (q 3), .ref (q 4), .ref (q 5), .ref (q 6), .ref (q 7)])), ((q 0), .inl (cI, 10, .inl (u2.2 0))), ((q 1), .inl (cI, 10, .inl (u2.2 1))), ((q 2), .inl (cI, 10, .inl (u2.2 2))), ((q 6), .inl (cI, 20, .inl (u2.2 3))), ((q 7), .inl (cI, 20, .inl (fun _ => 0)))]) (fun _ => rfl) (fun  u2 H locs hp hP hD hS => ?_)
  refine lv_iinc (v := 2) (lv' := [(1, .int 2), (0, .ref b)]) hx hb dX2_clear_18 hl (k := 0) rfl (by decide) (by decide) rfl (fun ls hl => ?_)
  refine lv_goto (tgt := 7) hx hb dX2_clear_21 (by decide) ?_
  refine lv_iload_n hx hb dX2_clear_7 rfl (lv_at hl 0 rfl) ?_
  refine lv_bipush (v := 10) hx hb dX2_clear_8 (by decide) ?_
  refine lv_icmp_ge (tgt := 24) hx hb dX2_clear_10 (by decide) (fun h9 => absurd h9 (by decide)) (fun _ => ?_)
  refine lv_aload_n hx hb dX2_clear_13 rfl (lv_at hl 1 rfl) ?_
  refine lv_iload_n hx hb dX2_clear_14 rfl (lv_at hl 0 rfl) ?_
  refine r_callVv (As := [.int 2]) (rest := []) (wr := []) F hK hP hD hS hA hO hE (c_X2_untell_2 hO b q 0 u2.2) k_140 kv_X2_untell 1 rfl (by decide +kernel) ⟨Nat.le_of_ble_eq_true rfl, Nat.le_of_ble_eq_true rfl⟩ [0, 1, 2, 3, 4, 5] [] rfl rfl (by decide) (by decide) (by decide) 0 2 rfl rfl rfl hl.1 rfl (Nat.le_of_ble_eq_true rfl) dX2_clear_15 ⟨Nat.le_of_ble_eq_true rfl, Nat.le_of_ble_eq_true rfl⟩ (w1 := fun u3 => [(b, .inr (2, [.int 0, .ref (q 0), .ref (q 1), .ref (q 2), .ref (q 3), .ref (q 4), .ref (q 5), .ref (q 6), .ref (q 7)])), ((q 0), .inl (cI, 10, .inl (u3.2 0))), ((q 1), .inl (cI, 10, .inl (u3.2 1))), ((q 2), .inl (cI, 10, .inl (u3.2 2))), ((q 6), .inl (cI, 20, .inl (u3.2 3))), ((q 7), .inl (cI, 20, .inl (fun _ => 0)))]) (fun _ => rfl) (fun  u3 H locs hp hP hD hS => ?_)
  refine lv_iinc (v := 3) (lv' := [(1, .int 3), (0, .ref b)]) hx hb dX2_clear_18 hl (k := 0) rfl (by decide) (by decide) rfl (fun ls hl => ?_)
  refine lv_goto (tgt := 7) hx hb dX2_clear_21 (by decide) ?_
  refine lv_iload_n hx hb dX2_clear_7 rfl (lv_at hl 0 rfl) ?_
  refine lv_bipush (v := 10) hx hb dX2_clear_8 (by decide) ?_
  refine lv_icmp_ge (tgt := 24) hx hb dX2_clear_10 (by decide) (fun h9 => absurd h9 (by decide)) (fun _ => ?_)
  refine lv_aload_n hx hb dX2_clear_13 rfl (lv_at hl 1 rfl) ?_
  refine lv_iload_n hx hb dX2_clear_14 rfl (lv_at hl 0 rfl) ?_
  refine r_callVv (As := [.int 3]) (rest := []) (wr := []) F hK hP hD hS hA hO hE (c_X2_untell_3 hO b q 0 u3.2) k_140 kv_X2_untell 1 rfl (by decide +kernel) ⟨Nat.le_of_ble_eq_true rfl, Nat.le_of_ble_eq_true rfl⟩ [0, 1, 2, 3, 4, 5] [] rfl rfl (by decide) (by decide) (by decide) 0 2 rfl rfl rfl hl.1 rfl (Nat.le_of_ble_eq_true rfl) dX2_clear_15 ⟨Nat.le_of_ble_eq_true rfl, Nat.le_of_ble_eq_true rfl⟩ (w1 := fun u4 => [(b, .inr (2, [.int 0, .ref (q 0), .ref (q 1), .ref (q 2), .ref (q 3), .ref (q 4), .ref (q 5), .ref (q 6), .ref (q 7)])), ((q 0), .inl (cI, 10, .inl (u4.2 0))), ((q 1), .inl (cI, 10, .inl (u4.2 1))), ((q 2), .inl (cI, 10, .inl (u4.2 2))), ((q 6), .inl (cI, 20, .inl (u4.2 3))), ((q 7), .inl (cI, 20, .inl (fun _ => 0)))]) (fun _ => rfl) (fun  u4 H locs hp hP hD hS => ?_)
  refine lv_iinc (v := 4) (lv' := [(1, .int 4), (0, .ref b)]) hx hb dX2_clear_18 hl (k := 0) rfl (by decide) (by decide) rfl (fun ls hl => ?_)
  refine lv_goto (tgt := 7) hx hb dX2_clear_21 (by decide) ?_
  refine lv_iload_n hx hb dX2_clear_7 rfl (lv_at hl 0 rfl) ?_
  refine lv_bipush (v := 10) hx hb dX2_clear_8 (by decide) ?_
  refine lv_icmp_ge (tgt := 24) hx hb dX2_clear_10 (by decide) (fun h9 => absurd h9 (by decide)) (fun _ => ?_)
  refine lv_aload_n hx hb dX2_clear_13 rfl (lv_at hl 1 rfl) ?_
  refine lv_iload_n hx hb dX2_clear_14 rfl (lv_at hl 0 rfl) ?_
  refine r_callVv (As := [.int 4]) (rest := []) (wr := []) F hK hP hD hS hA hO hE (c_X2_untell_4 hO b q 0 u4.2) k_140 kv_X2_untell 1 rfl (by decide +kernel) ⟨Nat.le_of_ble_eq_true rfl, Nat.le_of_ble_eq_true rfl⟩ [0, 1, 2, 3, 4, 5] [] rfl rfl (by decide) (by decide) (by decide) 0 2 rfl rfl rfl hl.1 rfl (Nat.le_of_ble_eq_true rfl) dX2_clear_15 ⟨Nat.le_of_ble_eq_true rfl, Nat.le_of_ble_eq_true rfl⟩ (w1 := fun u5 => [(b, .inr (2, [.int 0, .ref (q 0), .ref (q 1), .ref (q 2), .ref (q 3), .ref (q 4), .ref (q 5), .ref (q 6), .ref (q 7)])), ((q 0), .inl (cI, 10, .inl (u5.2 0))), ((q 1), .inl (cI, 10, .inl (u5.2 1))), ((q 2), .inl (cI, 10, .inl (u5.2 2))), ((q 6), .inl (cI, 20, .inl (u5.2 3))), ((q 7), .inl (cI, 20, .inl (fun _ => 0)))]) (fun _ => rfl) (fun  u5 H locs hp hP hD hS => ?_)
  refine lv_iinc (v := 5) (lv' := [(1, .int 5), (0, .ref b)]) hx hb dX2_clear_18 hl (k := 0) rfl (by decide) (by decide) rfl (fun ls hl => ?_)
  refine lv_goto (tgt := 7) hx hb dX2_clear_21 (by decide) ?_
  refine lv_iload_n hx hb dX2_clear_7 rfl (lv_at hl 0 rfl) ?_
  refine lv_bipush (v := 10) hx hb dX2_clear_8 (by decide) ?_
  refine lv_icmp_ge (tgt := 24) hx hb dX2_clear_10 (by decide) (fun h9 => absurd h9 (by decide)) (fun _ => ?_)
  refine lv_aload_n hx hb dX2_clear_13 rfl (lv_at hl 1 rfl) ?_
  refine lv_iload_n hx hb dX2_clear_14 rfl (lv_at hl 0 rfl) ?_
  refine r_callVv (As := [.int 5]) (rest := []) (wr := []) F hK hP hD hS hA hO hE (c_X2_untell_5 hO b q 0 u5.2) k_140 kv_X2_untell 1 rfl (by decide +kernel) ⟨Nat.le_of_ble_eq_true rfl, Nat.le_of_ble_eq_true rfl⟩ [0, 1, 2, 3, 4, 5] [] rfl rfl (by decide) (by decide) (by decide) 0 2 rfl rfl rfl hl.1 rfl (Nat.le_of_ble_eq_true rfl) dX2_clear_15 ⟨Nat.le_of_ble_eq_true rfl, Nat.le_of_ble_eq_true rfl⟩ (w1 := fun u6 => [(b, .inr (2, [.int 0, .ref (q 0), .ref (q 1), .ref (q 2), .ref (q 3), .ref (q 4), .ref (q 5), .ref (q 6), .ref (q 7)])), ((q 0), .inl (cI, 10, .inl (u6.2 0))), ((q 1), .inl (cI, 10, .inl (u6.2 1))), ((q 2), .inl (cI, 10, .inl (u6.2 2))), ((q 6), .inl (cI, 20, .inl (u6.2 3))), ((q 7), .inl (cI, 20, .inl (fun _ => 0)))]) (fun _ => rfl) (fun  u6 H locs hp hP hD hS => ?_)
  refine lv_iinc (v := 6) (lv' := [(1, .int 6), (0, .ref b)]) hx hb dX2_clear_18 hl (k := 0) rfl (by decide) (by decide) rfl (fun ls hl => ?_)
  refine lv_goto (tgt := 7) hx hb dX2_clear_21 (by decide) ?_
  refine lv_iload_n hx hb dX2_clear_7 rfl (lv_at hl 0 rfl) ?_
  refine lv_bipush (v := 10) hx hb dX2_clear_8 (by decide) ?_
  refine lv_icmp_ge (tgt := 24) hx hb dX2_clear_10 (by decide) (fun h9 => absurd h9 (by decide)) (fun _ => ?_)
  refine lv_aload_n hx hb dX2_clear_13 rfl (lv_at hl 1 rfl) ?_
  refine lv_iload_n hx hb dX2_clear_14 rfl (lv_at hl 0 rfl) ?_
  refine r_callVv (As := [.int 6]) (rest := []) (wr := []) F hK hP hD hS hA hO hE (c_X2_untell_6 hO b q 0 u6.2) k_140 kv_X2_untell 1 rfl (by decide +kernel) ⟨Nat.le_of_ble_eq_true rfl, Nat.le_of_ble_eq_true rfl⟩ [0, 1, 2, 3, 4, 5] [] rfl rfl (by decide) (by decide) (by decide) 0 2 rfl rfl rfl hl.1 rfl (Nat.le_of_ble_eq_true rfl) dX2_clear_15 ⟨Nat.le_of_ble_eq_true rfl, Nat.le_of_ble_eq_true rfl⟩ (w1 := fun u7 => [(b, .inr (2, [.int 0, .ref (q 0), .ref (q 1), .ref (q 2), .ref (q 3), .ref (q 4), .ref (q 5), .ref (q 6), .ref (q 7)])), ((q 0), .inl (cI, 10, .inl (u7.2 0))), ((q 1), .inl (cI, 10, .inl (u7.2 1))), ((q 2), .inl (cI, 10, .inl (u7.2 2))), ((q 6), .inl (cI, 20, .inl (u7.2 3))), ((q 7), .inl (cI, 20, .inl (fun _ => 0)))]) (fun _ => rfl) (fun  u7 H locs hp hP hD hS => ?_)
  refine lv_iinc (v := 7) (lv' := [(1, .int 7), (0, .ref b)]) hx hb dX2_clear_18 hl (k := 0) rfl (by decide) (by decide) rfl (fun ls hl => ?_)
  refine lv_goto (tgt := 7) hx hb dX2_clear_21 (by decide) ?_
  refine lv_iload_n hx hb dX2_clear_7 rfl (lv_at hl 0 rfl) ?_
  refine lv_bipush (v := 10) hx hb dX2_clear_8 (by decide) ?_
  refine lv_icmp_ge (tgt := 24) hx hb dX2_clear_10 (by decide) (fun h9 => absurd h9 (by decide)) (fun _ => ?_)
  refine lv_aload_n hx hb dX2_clear_13 rfl (lv_at hl 1 rfl) ?_
  refine lv_iload_n hx hb dX2_clear_14 rfl (lv_at hl 0 rfl) ?_
  refine r_callVv (As := [.int 7]) (rest := []) (wr := []) F hK hP hD hS hA hO hE (c_X2_untell_7 hO b q 0 u7.2) k_140 kv_X2_untell 1 rfl (by decide +kernel) ⟨Nat.le_of_ble_eq_true rfl, Nat.le_of_ble_eq_true rfl⟩ [0, 1, 2, 3, 4, 5] [] rfl rfl (by decide) (by decide) (by decide) 0 2 rfl rfl rfl hl.1 rfl (Nat.le_of_ble_eq_true rfl) dX2_clear_15 ⟨Nat.le_of_ble_eq_true rfl, Nat.le_of_ble_eq_true rfl⟩ (w1 := fun u8 => [(b, .inr (2, [.int 0, .ref (q 0), .ref (q 1), .ref (q 2), .ref (q 3), .ref (q 4), .ref (q 5), .ref (q 6), .ref (q 7)])), ((q 0), .inl (cI, 10, .inl (u8.2 0))), ((q 1), .inl (cI, 10, .inl (u8.2 1))), ((q 2), .inl (cI, 10, .inl (u8.2 2))), ((q 6), .inl (cI, 20, .inl (u8.2 3))), ((q 7), .inl (cI, 20, .inl (fun _ => 0)))]) (fun _ => rfl) (fun  u8 H locs hp hP hD hS => ?_)
  refine lv_iinc (v := 8) (lv' := [(1, .int 8), (0, .ref b)]) hx hb dX2_clear_18 hl (k := 0) rfl (by decide) (by decide) rfl (fun ls hl => ?_)
  refine lv_goto (tgt := 7) hx hb dX2_clear_21 (by decide) ?_
  refine lv_iload_n hx hb dX2_clear_7 rfl (lv_at hl 0 rfl) ?_
  refine lv_bipush (v := 10) hx hb dX2_clear_8 (by decide) ?_
  refine lv_icmp_ge (tgt := 24) hx hb dX2_clear_10 (by decide) (fun h9 => absurd h9 (by decide)) (fun _ => ?_)
  refine lv_aload_n hx hb dX2_clear_13 rfl (lv_at hl 1 rfl) ?_
  refine lv_iload_n hx hb dX2_clear_14 rfl (lv_at hl 0 rfl) ?_
  refine r_callVv (As := [.int 8]) (rest := []) (wr := []) F hK hP hD hS hA hO hE (c_X2_untell_8 hO b q 0 u8.2) k_140 kv_X2_untell 1 rfl (by decide +kernel) ⟨Nat.le_of_ble_eq_true rfl, Nat.le_of_ble_eq_true rfl⟩ [0, 1, 2, 3, 4, 5] [] rfl rfl (by decide) (by decide) (by decide) 0 2 rfl rfl rfl hl.1 rfl (Nat.le_of_ble_eq_true rfl) dX2_clear_15 ⟨Nat.le_of_ble_eq_true rfl, Nat.le_of_ble_eq_true rfl⟩ (w1 := fun u9 => [(b, .inr (2, [.int 0, .ref (q 0), .ref (q 1), .ref (q 2), .ref (q 3), .ref (q 4), .ref (q 5), .ref (q 6), .ref (q 7)])), ((q 0), .inl (cI, 10, .inl (u9.2 0))), ((q 1), .inl (cI, 10, .inl (u9.2 1))), ((q 2), .inl (cI, 10, .inl (u9.2 2))), ((q 6), .inl (cI, 20, .inl (u9.2 3))), ((q 7), .inl (cI, 20, .inl (fun _ => 0)))]) (fun _ => rfl) (fun  u9 H locs hp hP hD hS => ?_)
  refine lv_iinc (v := 9) (lv' := [(1, .int 9), (0, .ref b)]) hx hb dX2_clear_18 hl (k := 0) rfl (by decide) (by decide) rfl (fun ls hl => ?_)
  refine lv_goto (tgt := 7) hx hb dX2_clear_21 (by decide) ?_
  refine lv_iload_n hx hb dX2_clear_7 rfl (lv_at hl 0 rfl) ?_
  refine lv_bipush (v := 10) hx hb dX2_clear_8 (by decide) ?_
  refine lv_icmp_ge (tgt := 24) hx hb dX2_clear_10 (by decide) (fun h9 => absurd h9 (by decide)) (fun _ => ?_)
  refine lv_aload_n hx hb dX2_clear_13 rfl (lv_at hl 1 rfl) ?_
  refine lv_iload_n hx hb dX2_clear_14 rfl (lv_at hl 0 rfl) ?_
  refine r_callVv (As := [.int 9]) (rest := []) (wr := []) F hK hP hD hS hA hO hE (c_X2_untell_9 hO b q 0 u9.2) k_140 kv_X2_untell 1 rfl (by decide +kernel) ⟨Nat.le_of_ble_eq_true rfl, Nat.le_of_ble_eq_true rfl⟩ [0, 1, 2, 3, 4, 5] [] rfl rfl (by decide) (by decide) (by decide) 0 2 rfl rfl rfl hl.1 rfl (Nat.le_of_ble_eq_true rfl) dX2_clear_15 ⟨Nat.le_of_ble_eq_true rfl, Nat.le_of_ble_eq_true rfl⟩ (w1 := fun u10 => [(b, .inr (2, [.int 0, .ref (q 0), .ref (q 1), .ref (q 2), .ref (q 3), .ref (q 4), .ref (q 5), .ref (q 6), .ref (q 7)])), ((q 0), .inl (cI, 10, .inl (u10.2 0))), ((q 1), .inl (cI, 10, .inl (u10.2 1))), ((q 2), .inl (cI, 10, .inl (u10.2 2))), ((q 6), .inl (cI, 20, .inl (u10.2 3))), ((q 7), .inl (cI, 20, .inl (fun _ => 0)))]) (fun _ => rfl) (fun  u10 H locs hp hP hD hS => ?_)
  refine lv_iinc (v := 10) (lv' := [(1, .int 10), (0, .ref b)]) hx hb dX2_clear_18 hl (k := 0) rfl (by decide) (by decide) rfl (fun ls hl => ?_)
  refine lv_goto (tgt := 7) hx hb dX2_clear_21 (by decide) ?_
  refine lv_iload_n hx hb dX2_clear_7 rfl (lv_at hl 0 rfl) ?_
  refine lv_bipush (v := 10) hx hb dX2_clear_8 (by decide) ?_
  refine lv_icmp_ge (tgt := 24) hx hb dX2_clear_10 (by decide) (fun _ => ?_) (fun h9 => absurd (by decide) h9)
  exact ret (fun _ => 0, u10.2) _ _ _ _ _ _ trivial (bw_subP (isC := [0, 1, 2, 3, 4, 5]) hP rfl) (hD.sub [0, 1, 2, 3, 4, 5] (by decide) rfl) hS (Nat.le_of_ble_eq_true rfl) (Nat.le_of_ble_eq_true rfl) dX2_clear_24
