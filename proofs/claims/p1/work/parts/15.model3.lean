theorem dX9_feed_0 : decode cX9_feed 0 = .ok (.aload_n 0, 1) := by decide +kernel
theorem dX9_feed_1 : decode cX9_feed 1 = .ok (.iconst 0, 1) := by decide +kernel
theorem dX9_feed_2 : decode cX9_feed 2 = .ok (.putfield 77, 3) := by decide +kernel
theorem dX9_feed_5 : decode cX9_feed 5 = .ok (.aload_n 0, 1) := by decide +kernel
theorem dX9_feed_6 : decode cX9_feed 6 = .ok (.getfield 83, 3) := by decide +kernel
theorem dX9_feed_9 : decode cX9_feed 9 = .ok (.bipush 20, 2) := by decide +kernel
theorem dX9_feed_11 : decode cX9_feed 11 = .ok (.iadd, 1) := by decide +kernel
theorem dX9_feed_12 : decode cX9_feed 12 = .ok (.sipush 900, 3) := by decide +kernel
theorem dX9_feed_15 : decode cX9_feed 15 = .ok (.if_icmp .le 5, 3) := by decide +kernel
theorem dX9_feed_20 : decode cX9_feed 20 = .ok (.iconst 0, 1) := by decide +kernel
theorem dX9_feed_21 : decode cX9_feed 21 = .ok (.istore 6, 2) := by decide +kernel
theorem dX9_feed_23 : decode cX9_feed 23 = .ok (.iload 6, 2) := by decide +kernel
theorem dX9_feed_25 : decode cX9_feed 25 = .ok (.bipush 20, 2) := by decide +kernel
theorem dX9_feed_27 : decode cX9_feed 27 = .ok (.if_icmp .ge 93, 3) := by decide +kernel
theorem dX9_feed_30 : decode cX9_feed 30 = .ok (.iload 6, 2) := by decide +kernel
theorem dX9_feed_32 : decode cX9_feed 32 = .ok (.iconst 4, 1) := by decide +kernel
theorem dX9_feed_33 : decode cX9_feed 33 = .ok (.if_icmp .ge 7, 3) := by decide +kernel
theorem dX9_feed_36 : decode cX9_feed 36 = .ok (.iload_n 1, 1) := by decide +kernel
theorem dX9_feed_37 : decode cX9_feed 37 = .ok (.goto 39, 3) := by decide +kernel
theorem dX9_feed_76 : decode cX9_feed 76 = .ok (.istore 7, 2) := by decide +kernel
theorem dX9_feed_78 : decode cX9_feed 78 = .ok (.aload_n 0, 1) := by decide +kernel
theorem dX9_feed_79 : decode cX9_feed 79 = .ok (.getfield 7, 3) := by decide +kernel
theorem dX9_feed_82 : decode cX9_feed 82 = .ok (.aload_n 0, 1) := by decide +kernel
theorem dX9_feed_83 : decode cX9_feed 83 = .ok (.getfield 83, 3) := by decide +kernel
theorem dX9_feed_86 : decode cX9_feed 86 = .ok (.iload 7, 2) := by decide +kernel
theorem dX9_feed_88 : decode cX9_feed 88 = .ok (.bipush 24, 2) := by decide +kernel
theorem dX9_feed_90 : decode cX9_feed 90 = .ok (.bipush 8, 2) := by decide +kernel
theorem dX9_feed_92 : decode cX9_feed 92 = .ok (.iload 6, 2) := by decide +kernel
theorem dX9_feed_94 : decode cX9_feed 94 = .ok (.iconst 4, 1) := by decide +kernel
theorem dX9_feed_95 : decode cX9_feed 95 = .ok (.irem, 1) := by decide +kernel
theorem dX9_feed_96 : decode cX9_feed 96 = .ok (.imul, 1) := by decide +kernel
theorem dX9_feed_97 : decode cX9_feed 97 = .ok (.isub, 1) := by decide +kernel
theorem dX9_feed_98 : decode cX9_feed 98 = .ok (.ishr, 1) := by decide +kernel
theorem dX9_feed_99 : decode cX9_feed 99 = .ok (.sipush 255, 3) := by decide +kernel
theorem dX9_feed_102 : decode cX9_feed 102 = .ok (.iand, 1) := by decide +kernel
theorem dX9_feed_103 : decode cX9_feed 103 = .ok (.iastore, 1) := by decide +kernel
theorem dX9_feed_104 : decode cX9_feed 104 = .ok (.aload_n 0, 1) := by decide +kernel
theorem dX9_feed_105 : decode cX9_feed 105 = .ok (.dup, 1) := by decide +kernel
theorem dX9_feed_106 : decode cX9_feed 106 = .ok (.getfield 83, 3) := by decide +kernel
theorem dX9_feed_109 : decode cX9_feed 109 = .ok (.iconst 1, 1) := by decide +kernel
theorem dX9_feed_110 : decode cX9_feed 110 = .ok (.iadd, 1) := by decide +kernel
theorem dX9_feed_111 : decode cX9_feed 111 = .ok (.putfield 83, 3) := by decide +kernel
theorem dX9_feed_114 : decode cX9_feed 114 = .ok (.iinc 6 1, 3) := by decide +kernel
theorem dX9_feed_117 : decode cX9_feed 117 = .ok (.goto (-94), 3) := by decide +kernel
theorem dX9_feed_40 : decode cX9_feed 40 = .ok (.iload 6, 2) := by decide +kernel
theorem dX9_feed_42 : decode cX9_feed 42 = .ok (.bipush 8, 2) := by decide +kernel
theorem dX9_feed_44 : decode cX9_feed 44 = .ok (.if_icmp .ge 7, 3) := by decide +kernel
theorem dX9_feed_47 : decode cX9_feed 47 = .ok (.iload_n 2, 1) := by decide +kernel
theorem dX9_feed_48 : decode cX9_feed 48 = .ok (.goto 28, 3) := by decide +kernel
theorem dX9_feed_51 : decode cX9_feed 51 = .ok (.iload 6, 2) := by decide +kernel
theorem dX9_feed_53 : decode cX9_feed 53 = .ok (.bipush 12, 2) := by decide +kernel
theorem dX9_feed_55 : decode cX9_feed 55 = .ok (.if_icmp .ge 7, 3) := by decide +kernel
theorem dX9_feed_58 : decode cX9_feed 58 = .ok (.iload_n 3, 1) := by decide +kernel
theorem dX9_feed_59 : decode cX9_feed 59 = .ok (.goto 17, 3) := by decide +kernel
theorem dX9_feed_62 : decode cX9_feed 62 = .ok (.iload 6, 2) := by decide +kernel
theorem dX9_feed_64 : decode cX9_feed 64 = .ok (.bipush 16, 2) := by decide +kernel
theorem dX9_feed_66 : decode cX9_feed 66 = .ok (.if_icmp .ge 8, 3) := by decide +kernel
theorem dX9_feed_69 : decode cX9_feed 69 = .ok (.iload 4, 2) := by decide +kernel
theorem dX9_feed_71 : decode cX9_feed 71 = .ok (.goto 5, 3) := by decide +kernel
theorem dX9_feed_74 : decode cX9_feed 74 = .ok (.iload 5, 2) := by decide +kernel
theorem dX9_feed_120 : decode cX9_feed 120 = .ok (.aload_n 0, 1) := by decide +kernel
theorem dX9_feed_121 : decode cX9_feed 121 = .ok (.getfield 83, 3) := by decide +kernel
theorem dX9_feed_124 : decode cX9_feed 124 = .ok (.ireturn, 1) := by decide +kernel
abbrev rm_X9_feed : Room := { frames := 0, cells := 0, slots := 0, locals := 0 }
set_option maxRecDepth 100000 in
set_option maxHeartbeats 4000000 in
theorem c_X9_feed {l : Launch} {E : (Nat → Prop) → State → Prop} (hO : bw_Ok E) {G : va_G} {cI cB cJ cN cW : ClassId} (b : Nat) (q : Nat → Nat) (a1 : Int32) (a2 : Int32) (a3 : Int32) (a4 : Int32) (a5 : Int32) : bw_Ci (S := bw_U) l yX9_feed (bw_ws (Cond.code yX9_feed cX9_feed 8 (some .int))) rm_X9_feed E G (bw_kt cI cB cJ cN cW) [.ref b, .int a1, .int a2, .int a3, .int a4, .int a5] [(b, .inr (9, [.int 0, .ref (q 0), .int 0, .int 0, .int 0, .int 0, .int 0, .int 0, .int 0, .int 0, .int (-1), .int 0, .ref (q 1), .int 0, .int 0, .ref (q 2), .ref (q 3), .ref (q 4), .ref (q 5), .ref (q 6), .ref (q 7), .ref (q 8), .ref (q 9), .ref (q 10), .ref (q 11), .ref (q 12), .ref (q 13), .ref (q 14), .ref (q 15), .ref (q 16), .int 0, .int 0, .int 0, .int 0, .int 0, .int 0, .ref (q 17), .ref (q 18), .ref (q 19), .ref (q 20)])), ((q 0), .inl (cI, 900, .inl (fun _ => 0)))] (fun r _ => r = 20) (fun _ => []) := by
  refine bw_Ci.of (cc := cX9_feed) (maxL := 8) (ty := .int) (by decide) rfl (Nat.le_of_ble_eq_true rfl) ?_
  intro p e s m below meth c A Q hx hb hml hts hown hin hK hA hS hP hD hE ret ls hl
  have F : CallFix p m c cX9_feed 8 s ([.ref b, .int a1, .int a2, .int a3, .int a4, .int a5] : List Value).toArray bw_T RX9 := ⟨hx, hb, hml, hown, fun w h => hts w (List.mem_cons_of_mem _ h)⟩
  have hl : lv_has ls 8 [(0, .ref b), (1, .int a1), (2, .int a2), (3, .int a3), (4, .int a4), (5, .int a5)] := hl
  refine lv_aload_n hx hb dX9_feed_0 rfl (lv_at hl 0 rfl) ?_
  refine lv_iconst (v := 0) hx hb dX9_feed_1 (by decide) ?_
  refine r_put F hK hP hD hS 0 0 rfl rfl in_X9 tyX9 tyX9_ok nmX9 (by decide) k_1163 rfl rfl rfl (Nat.le_of_ble_eq_true rfl) dX9_feed_2 (w1 := [(b, .inr (9, [.int 0, .ref (q 0), .int 0, .int 0, .int 0, .int 0, .int 0, .int 0, .int 0, .int 0, .int (-1), .int 0, .ref (q 1), .int 0, .int 0, .ref (q 2), .ref (q 3), .ref (q 4), .ref (q 5), .ref (q 6), .ref (q 7), .ref (q 8), .ref (q 9), .ref (q 10), .ref (q 11), .ref (q 12), .ref (q 13), .ref (q 14), .ref (q 15), .ref (q 16), .int 0, .int 0, .int 0, .int 0, .int 0, .int 0, .ref (q 17), .ref (q 18), .ref (q 19), .ref (q 20)])), ((q 0), .inl (cI, 900, .inl (fun _ => 0)))]) rfl (fun H locs hP hD hS => ?_)
  refine lv_aload_n hx hb dX9_feed_5 rfl (lv_at hl 0 rfl) ?_
  refine r_get F hK hP 0 2 rfl rfl in_X9 (by decide) k_1165 rfl dX9_feed_6 ?_
  refine lv_bipush (v := 20) hx hb dX9_feed_9 (by decide) ?_
  refine r_iadd (v := 20) F dX9_feed_11 (by decide) ?_
  refine lv_sipush (v := 900) hx hb dX9_feed_12 (by decide) ?_
  refine lv_icmp_le (tgt := 20) hx hb dX9_feed_15 (by decide) (fun _ => ?_) (fun h9 => absurd (by decide) h9)
  refine lv_iconst (v := 0) hx hb dX9_feed_20 (by decide) ?_
  refine lv_istore (lv' := [(6, .int 0), (0, .ref b), (1, .int a1), (2, .int a2), (3, .int a3), (4, .int a4), (5, .int a5)]) hx hb dX9_feed_21 hl (by decide) rfl (fun ls hl => ?_)
  refine lv_iload hx hb dX9_feed_23 (lv_at hl 0 rfl) ?_
  refine lv_bipush (v := 20) hx hb dX9_feed_25 (by decide) ?_
  refine lv_icmp_ge (tgt := 120) hx hb dX9_feed_27 (by decide) (fun h9 => absurd h9 (by decide)) (fun _ => ?_)
  refine lv_iload hx hb dX9_feed_30 (lv_at hl 0 rfl) ?_
  refine lv_iconst (v := 4) hx hb dX9_feed_32 (by decide) ?_
  refine lv_icmp_ge (tgt := 40) hx hb dX9_feed_33 (by decide) (fun h9 => absurd h9 (by decide)) (fun _ => ?_)
  refine lv_iload_n hx hb dX9_feed_36 rfl (lv_at hl 2 rfl) ?_
  refine lv_goto (tgt := 76) hx hb dX9_feed_37 (by decide) ?_
  refine lv_istore (lv' := [(7, .int a1), (6, .int 0), (0, .ref b), (1, .int a1), (2, .int a2), (3, .int a3), (4, .int a4), (5, .int a5)]) hx hb dX9_feed_76 hl (by decide) rfl (fun ls hl => ?_)
  refine lv_aload_n hx hb dX9_feed_78 rfl (lv_at hl 2 rfl) ?_
  refine r_get F hK hP 0 1 rfl rfl in_X9 (by decide) k_1164 rfl dX9_feed_79 ?_
  refine lv_aload_n hx hb dX9_feed_82 rfl (lv_at hl 2 rfl) ?_
  refine r_get F hK hP 0 2 rfl rfl in_X9 (by decide) k_1165 rfl dX9_feed_83 ?_
  refine lv_iload hx hb dX9_feed_86 (lv_at hl 0 rfl) ?_
  refine lv_bipush (v := 24) hx hb dX9_feed_88 (by decide) ?_
  refine lv_bipush (v := 8) hx hb dX9_feed_90 (by decide) ?_
  refine lv_iload hx hb dX9_feed_92 (lv_at hl 1 rfl) ?_
  refine lv_iconst (v := 4) hx hb dX9_feed_94 (by decide) ?_
  refine r_irem (v := 0) F dX9_feed_95 (by decide) (by decide) ?_
  refine r_imul (v := 0) F dX9_feed_96 (by decide) ?_
  refine r_isub (v := 24) F dX9_feed_97 (by decide) ?_
  refine r_ishr (v := (a1 >>> (24 &&& 31))) F dX9_feed_98 rfl ?_
  refine lv_sipush (v := 255) hx hb dX9_feed_99 (by decide) ?_
  refine r_iand (v := ((a1 >>> (24 &&& 31)) &&& 255)) F dX9_feed_102 rfl ?_
  refine r_iastX F hK hP hD hS 1 0 rfl rfl (bw_vin (by decide)) dX9_feed_103 (w1 := fun f1 => [(b, .inr (9, [.int 0, .ref (q 0), .int 0, .int 0, .int 0, .int 0, .int 0, .int 0, .int 0, .int 0, .int (-1), .int 0, .ref (q 1), .int 0, .int 0, .ref (q 2), .ref (q 3), .ref (q 4), .ref (q 5), .ref (q 6), .ref (q 7), .ref (q 8), .ref (q 9), .ref (q 10), .ref (q 11), .ref (q 12), .ref (q 13), .ref (q 14), .ref (q 15), .ref (q 16), .int 0, .int 0, .int 0, .int 0, .int 0, .int 0, .ref (q 17), .ref (q 18), .ref (q 19), .ref (q 20)])), ((q 0), .inl (cI, 900, .inl f1))]) (fun _ => rfl) (fun f1 H locs hP hD hS => ?_)
  refine lv_aload_n hx hb dX9_feed_104 rfl (lv_at hl 2 rfl) ?_
  refine lv_dup hx hb dX9_feed_105 rfl ?_
  refine r_get F hK hP 0 2 rfl rfl in_X9 (by decide) k_1165 rfl dX9_feed_106 ?_
  refine lv_iconst (v := 1) hx hb dX9_feed_109 (by decide) ?_
  refine r_iadd (v := 1) F dX9_feed_110 (by decide) ?_
  refine r_put F hK hP hD hS 0 2 rfl rfl in_X9 tyX9 tyX9_ok nmX9 (by decide) k_1165 rfl rfl rfl (Nat.le_of_ble_eq_true rfl) dX9_feed_111 (w1 := [(b, .inr (9, [.int 0, .ref (q 0), .int 1, .int 0, .int 0, .int 0, .int 0, .int 0, .int 0, .int 0, .int (-1), .int 0, .ref (q 1), .int 0, .int 0, .ref (q 2), .ref (q 3), .ref (q 4), .ref (q 5), .ref (q 6), .ref (q 7), .ref (q 8), .ref (q 9), .ref (q 10), .ref (q 11), .ref (q 12), .ref (q 13), .ref (q 14), .ref (q 15), .ref (q 16), .int 0, .int 0, .int 0, .int 0, .int 0, .int 0, .ref (q 17), .ref (q 18), .ref (q 19), .ref (q 20)])), ((q 0), .inl (cI, 900, .inl f1))]) rfl (fun H locs hP hD hS => ?_)
  refine lv_iinc (v := 1) (lv' := [(6, .int 1), (7, .int a1), (0, .ref b), (1, .int a1), (2, .int a2), (3, .int a3), (4, .int a4), (5, .int a5)]) hx hb dX9_feed_114 hl (k := 1) rfl (by decide) (by decide) rfl (fun ls hl => ?_)
  refine lv_goto (tgt := 23) hx hb dX9_feed_117 (by decide) ?_
  refine lv_iload hx hb dX9_feed_23 (lv_at hl 0 rfl) ?_
  refine lv_bipush (v := 20) hx hb dX9_feed_25 (by decide) ?_
  refine lv_icmp_ge (tgt := 120) hx hb dX9_feed_27 (by decide) (fun h9 => absurd h9 (by decide)) (fun _ => ?_)
  refine lv_iload hx hb dX9_feed_30 (lv_at hl 0 rfl) ?_
  refine lv_iconst (v := 4) hx hb dX9_feed_32 (by decide) ?_
  refine lv_icmp_ge (tgt := 40) hx hb dX9_feed_33 (by decide) (fun h9 => absurd h9 (by decide)) (fun _ => ?_)
  refine lv_iload_n hx hb dX9_feed_36 rfl (lv_at hl 3 rfl) ?_
  refine lv_goto (tgt := 76) hx hb dX9_feed_37 (by decide) ?_
  refine lv_istore (lv' := [(7, .int a1), (6, .int 1), (0, .ref b), (1, .int a1), (2, .int a2), (3, .int a3), (4, .int a4), (5, .int a5)]) hx hb dX9_feed_76 hl (by decide) rfl (fun ls hl => ?_)
  refine lv_aload_n hx hb dX9_feed_78 rfl (lv_at hl 2 rfl) ?_
  refine r_get F hK hP 0 1 rfl rfl in_X9 (by decide) k_1164 rfl dX9_feed_79 ?_
  refine lv_aload_n hx hb dX9_feed_82 rfl (lv_at hl 2 rfl) ?_
  refine r_get F hK hP 0 2 rfl rfl in_X9 (by decide) k_1165 rfl dX9_feed_83 ?_
  refine lv_iload hx hb dX9_feed_86 (lv_at hl 0 rfl) ?_
  refine lv_bipush (v := 24) hx hb dX9_feed_88 (by decide) ?_
  refine lv_bipush (v := 8) hx hb dX9_feed_90 (by decide) ?_
  refine lv_iload hx hb dX9_feed_92 (lv_at hl 1 rfl) ?_
  refine lv_iconst (v := 4) hx hb dX9_feed_94 (by decide) ?_
  refine r_irem (v := 1) F dX9_feed_95 (by decide) (by decide) ?_
  refine r_imul (v := 8) F dX9_feed_96 (by decide) ?_
  refine r_isub (v := 16) F dX9_feed_97 (by decide) ?_
  refine r_ishr (v := (a1 >>> (16 &&& 31))) F dX9_feed_98 rfl ?_
  refine lv_sipush (v := 255) hx hb dX9_feed_99 (by decide) ?_
  refine r_iand (v := ((a1 >>> (16 &&& 31)) &&& 255)) F dX9_feed_102 rfl ?_
  refine r_iastX F hK hP hD hS 1 0 rfl rfl (bw_vin (by decide)) dX9_feed_103 (w1 := fun f2 => [(b, .inr (9, [.int 0, .ref (q 0), .int 1, .int 0, .int 0, .int 0, .int 0, .int 0, .int 0, .int 0, .int (-1), .int 0, .ref (q 1), .int 0, .int 0, .ref (q 2), .ref (q 3), .ref (q 4), .ref (q 5), .ref (q 6), .ref (q 7), .ref (q 8), .ref (q 9), .ref (q 10), .ref (q 11), .ref (q 12), .ref (q 13), .ref (q 14), .ref (q 15), .ref (q 16), .int 0, .int 0, .int 0, .int 0, .int 0, .int 0, .ref (q 17), .ref (q 18), .ref (q 19), .ref (q 20)])), ((q 0), .inl (cI, 900, .inl f2))]) (fun _ => rfl) (fun f2 H locs hP hD hS => ?_)
  refine lv_aload_n hx hb dX9_feed_104 rfl (lv_at hl 2 rfl) ?_
  refine lv_dup hx hb dX9_feed_105 rfl ?_
  refine r_get F hK hP 0 2 rfl rfl in_X9 (by decide) k_1165 rfl dX9_feed_106 ?_
  refine lv_iconst (v := 1) hx hb dX9_feed_109 (by decide) ?_
  refine r_iadd (v := 2) F dX9_feed_110 (by decide) ?_
  refine r_put F hK hP hD hS 0 2 rfl rfl in_X9 tyX9 tyX9_ok nmX9 (by decide) k_1165 rfl rfl rfl (Nat.le_of_ble_eq_true rfl) dX9_feed_111 (w1 := [(b, .inr (9, [.int 0, .ref (q 0), .int 2, .int 0, .int 0, .int 0, .int 0, .int 0, .int 0, .int 0, .int (-1), .int 0, .ref (q 1), .int 0, .int 0, .ref (q 2), .ref (q 3), .ref (q 4), .ref (q 5), .ref (q 6), .ref (q 7), .ref (q 8), .ref (q 9), .ref (q 10), .ref (q 11), .ref (q 12), .ref (q 13), .ref (q 14), .ref (q 15), .ref (q 16), .int 0, .int 0, .int 0, .int 0, .int 0, .int 0, .ref (q 17), .ref (q 18), .ref (q 19), .ref (q 20)])), ((q 0), .inl (cI, 900, .inl f2))]) rfl (fun H locs hP hD hS => ?_)
  refine lv_iinc (v := 2) (lv' := [(6, .int 2), (7, .int a1), (0, .ref b), (1, .int a1), (2, .int a2), (3, .int a3), (4, .int a4), (5, .int a5)]) hx hb dX9_feed_114 hl (k := 1) rfl (by decide) (by decide) rfl (fun ls hl => ?_)
  refine lv_goto (tgt := 23) hx hb dX9_feed_117 (by decide) ?_
  refine lv_iload hx hb dX9_feed_23 (lv_at hl 0 rfl) ?_
  refine lv_bipush (v := 20) hx hb dX9_feed_25 (by decide) ?_
  refine lv_icmp_ge (tgt := 120) hx hb dX9_feed_27 (by decide) (fun h9 => absurd h9 (by decide)) (fun _ => ?_)
  refine lv_iload hx hb dX9_feed_30 (lv_at hl 0 rfl) ?_
  refine lv_iconst (v := 4) hx hb dX9_feed_32 (by decide) ?_
  refine lv_icmp_ge (tgt := 40) hx hb dX9_feed_33 (by decide) (fun h9 => absurd h9 (by decide)) (fun _ => ?_)
  refine lv_iload_n hx hb dX9_feed_36 rfl (lv_at hl 3 rfl) ?_
  refine lv_goto (tgt := 76) hx hb dX9_feed_37 (by decide) ?_
  refine lv_istore (lv' := [(7, .int a1), (6, .int 2), (0, .ref b), (1, .int a1), (2, .int a2), (3, .int a3), (4, .int a4), (5, .int a5)]) hx hb dX9_feed_76 hl (by decide) rfl (fun ls hl => ?_)
  refine lv_aload_n hx hb dX9_feed_78 rfl (lv_at hl 2 rfl) ?_
  refine r_get F hK hP 0 1 rfl rfl in_X9 (by decide) k_1164 rfl dX9_feed_79 ?_
  refine lv_aload_n hx hb dX9_feed_82 rfl (lv_at hl 2 rfl) ?_
  refine r_get F hK hP 0 2 rfl rfl in_X9 (by decide) k_1165 rfl dX9_feed_83 ?_
  refine lv_iload hx hb dX9_feed_86 (lv_at hl 0 rfl) ?_
  refine lv_bipush (v := 24) hx hb dX9_feed_88 (by decide) ?_
  refine lv_bipush (v := 8) hx hb dX9_feed_90 (by decide) ?_
  refine lv_iload hx hb dX9_feed_92 (lv_at hl 1 rfl) ?_
  refine lv_iconst (v := 4) hx hb dX9_feed_94 (by decide) ?_
  refine r_irem (v := 2) F dX9_feed_95 (by decide) (by decide) ?_
  refine r_imul (v := 16) F dX9_feed_96 (by decide) ?_
  refine r_isub (v := 8) F dX9_feed_97 (by decide) ?_
  refine r_ishr (v := (a1 >>> (8 &&& 31))) F dX9_feed_98 rfl ?_
  refine lv_sipush (v := 255) hx hb dX9_feed_99 (by decide) ?_
  refine r_iand (v := ((a1 >>> (8 &&& 31)) &&& 255)) F dX9_feed_102 rfl ?_
  refine r_iastX F hK hP hD hS 1 0 rfl rfl (bw_vin (by decide)) dX9_feed_103 (w1 := fun f3 => [(b, .inr (9, [.int 0, .ref (q 0), .int 2, .int 0, .int 0, .int 0, .int 0, .int 0, .int 0, .int 0, .int (-1), .int 0, .ref (q 1), .int 0, .int 0, .ref (q 2), .ref (q 3), .ref (q 4), .ref (q 5), .ref (q 6), .ref (q 7), .ref (q 8), .ref (q 9), .ref (q 10), .ref (q 11), .ref (q 12), .ref (q 13), .ref (q 14), .ref (q 15), .ref (q 16), .int 0, .int 0, .int 0, .int 0, .int 0, .int 0, .ref (q 17), .ref (q 18), .ref (q 19), .ref (q 20)])), ((q 0), .inl (cI, 900, .inl f3))]) (fun _ => rfl) (fun f3 H locs hP hD hS => ?_)
  refine lv_aload_n hx hb dX9_feed_104 rfl (lv_at hl 2 rfl) ?_
  refine lv_dup hx hb dX9_feed_105 rfl ?_
  refine r_get F hK hP 0 2 rfl rfl in_X9 (by decide) k_1165 rfl dX9_feed_106 ?_
  refine lv_iconst (v := 1) hx hb dX9_feed_109 (by decide) ?_
  refine r_iadd (v := 3) F dX9_feed_110 (by decide) ?_
  refine r_put F hK hP hD hS 0 2 rfl rfl in_X9 tyX9 tyX9_ok nmX9 (by decide) k_1165 rfl rfl rfl (Nat.le_of_ble_eq_true rfl) dX9_feed_111 (w1 := [(b, .inr (9, [.int 0, .ref (q 0), .int 3, .int 0, .int 0, .int 0, .int 0, .int 0, .int 0, .int 0, .int (-1), .int 0, .ref (q 1), .int 0, .int 0, .ref (q 2), .ref (q 3), .ref (q 4), .ref (q 5), .ref (q 6), .ref (q 7), .ref (q 8), .ref (q 9), .ref (q 10), .ref (q 11), .ref (q 12), .ref (q 13), .ref (q 14), .ref (q 15), .ref (q 16), .int 0, .int 0, .int 0, .int 0, .int 0, .int 0, .ref (q 17), .ref (q 18), .ref (q 19), .ref (q 20)])), ((q 0), .inl (cI, 900, .inl f3))]) rfl (fun H locs hP hD hS => ?_)
  refine lv_iinc (v := 3) (lv' := [(6, .int 3), (7, .int a1), (0, .ref b), (1, .int a1), (2, .int a2), (3, .int a3), (4, .int a4), (5, .int a5)]) hx hb dX9_feed_114 hl (k := 1) rfl (by decide) (by decide) rfl (fun ls hl => ?_)
  refine lv_goto (tgt := 23) hx hb dX9_feed_117 (by decide) ?_
  refine lv_iload hx hb dX9_feed_23 (lv_at hl 0 rfl) ?_
  refine lv_bipush (v := 20) hx hb dX9_feed_25 (by decide) ?_
  refine lv_icmp_ge (tgt := 120) hx hb dX9_feed_27 (by decide) (fun h9 => absurd h9 (by decide)) (fun _ => ?_)
  refine lv_iload hx hb dX9_feed_30 (lv_at hl 0 rfl) ?_
  refine lv_iconst (v := 4) hx hb dX9_feed_32 (by decide) ?_
  refine lv_icmp_ge (tgt := 40) hx hb dX9_feed_33 (by decide) (fun h9 => absurd h9 (by decide)) (fun _ => ?_)
  refine lv_iload_n hx hb dX9_feed_36 rfl (lv_at hl 3 rfl) ?_
  refine lv_goto (tgt := 76) hx hb dX9_feed_37 (by decide) ?_
  refine lv_istore (lv' := [(7, .int a1), (6, .int 3), (0, .ref b), (1, .int a1), (2, .int a2), (3, .int a3), (4, .int a4), (5, .int a5)]) hx hb dX9_feed_76 hl (by decide) rfl (fun ls hl => ?_)
  refine lv_aload_n hx hb dX9_feed_78 rfl (lv_at hl 2 rfl) ?_
  refine r_get F hK hP 0 1 rfl rfl in_X9 (by decide) k_1164 rfl dX9_feed_79 ?_
  refine lv_aload_n hx hb dX9_feed_82 rfl (lv_at hl 2 rfl) ?_
  refine r_get F hK hP 0 2 rfl rfl in_X9 (by decide) k_1165 rfl dX9_feed_83 ?_
  refine lv_iload hx hb dX9_feed_86 (lv_at hl 0 rfl) ?_
  refine lv_bipush (v := 24) hx hb dX9_feed_88 (by decide) ?_
  refine lv_bipush (v := 8) hx hb dX9_feed_90 (by decide) ?_
  refine lv_iload hx hb dX9_feed_92 (lv_at hl 1 rfl) ?_
  refine lv_iconst (v := 4) hx hb dX9_feed_94 (by decide) ?_
  refine r_irem (v := 3) F dX9_feed_95 (by decide) (by decide) ?_
  refine r_imul (v := 24) F dX9_feed_96 (by decide) ?_
  refine r_isub (v := 0) F dX9_feed_97 (by decide) ?_
  refine r_ishr (v := (a1 >>> (0 &&& 31))) F dX9_feed_98 rfl ?_
  refine lv_sipush (v := 255) hx hb dX9_feed_99 (by decide) ?_
  refine r_iand (v := ((a1 >>> (0 &&& 31)) &&& 255)) F dX9_feed_102 rfl ?_
  refine r_iastX F hK hP hD hS 1 0 rfl rfl (bw_vin (by decide)) dX9_feed_103 (w1 := fun f4 => [(b, .inr (9, [.int 0, .ref (q 0), .int 3, .int 0, .int 0, .int 0, .int 0, .int 0, .int 0, .int 0, .int (-1), .int 0, .ref (q 1), .int 0, .int 0, .ref (q 2), .ref (q 3), .ref (q 4), .ref (q 5), .ref (q 6), .ref (q 7), .ref (q 8), .ref (q 9), .ref (q 10), .ref (q 11), .ref (q 12), .ref (q 13), .ref (q 14), .ref (q 15), .ref (q 16), .int 0, .int 0, .int 0, .int 0, .int 0, .int 0, .ref (q 17), .ref (q 18), .ref (q 19), .ref (q 20)])), ((q 0), .inl (cI, 900, .inl f4))]) (fun _ => rfl) (fun f4 H locs hP hD hS => ?_)
  refine lv_aload_n hx hb dX9_feed_104 rfl (lv_at hl 2 rfl) ?_
  refine lv_dup hx hb dX9_feed_105 rfl ?_
  refine r_get F hK hP 0 2 rfl rfl in_X9 (by decide) k_1165 rfl dX9_feed_106 ?_
  refine lv_iconst (v := 1) hx hb dX9_feed_109 (by decide) ?_
  refine r_iadd (v := 4) F dX9_feed_110 (by decide) ?_
  refine r_put F hK hP hD hS 0 2 rfl rfl in_X9 tyX9 tyX9_ok nmX9 (by decide) k_1165 rfl rfl rfl (Nat.le_of_ble_eq_true rfl) dX9_feed_111 (w1 := [(b, .inr (9, [.int 0, .ref (q 0), .int 4, .int 0, .int 0, .int 0, .int 0, .int 0, .int 0, .int 0, .int (-1), .int 0, .ref (q 1), .int 0, .int 0, .ref (q 2), .ref (q 3), .ref (q 4), .ref (q 5), .ref (q 6), .ref (q 7), .ref (q 8), .ref (q 9), .ref (q 10), .ref (q 11), .ref (q 12), .ref (q 13), .ref (q 14), .ref (q 15), .ref (q 16), .int 0, .int 0, .int 0, .int 0, .int 0, .int 0, .ref (q 17), .ref (q 18), .ref (q 19), .ref (q 20)])), ((q 0), .inl (cI, 900, .inl f4))]) rfl (fun H locs hP hD hS => ?_)
  refine lv_iinc (v := 4) (lv' := [(6, .int 4), (7, .int a1), (0, .ref b), (1, .int a1), (2, .int a2), (3, .int a3), (4, .int a4), (5, .int a5)]) hx hb dX9_feed_114 hl (k := 1) rfl (by decide) (by decide) rfl (fun ls hl => ?_)
  refine lv_goto (tgt := 23) hx hb dX9_feed_117 (by decide) ?_
  refine lv_iload hx hb dX9_feed_23 (lv_at hl 0 rfl) ?_
  refine lv_bipush (v := 20) hx hb dX9_feed_25 (by decide) ?_
  refine lv_icmp_ge (tgt := 120) hx hb dX9_feed_27 (by decide) (fun h9 => absurd h9 (by decide)) (fun _ => ?_)
  refine lv_iload hx hb dX9_feed_30 (lv_at hl 0 rfl) ?_
  refine lv_iconst (v := 4) hx hb dX9_feed_32 (by decide) ?_
  refine lv_icmp_ge (tgt := 40) hx hb dX9_feed_33 (by decide) (fun _ => ?_) (fun h9 => absurd (by decide) h9)
  refine lv_iload hx hb dX9_feed_40 (lv_at hl 0 rfl) ?_
  refine lv_bipush (v := 8) hx hb dX9_feed_42 (by decide) ?_
  refine lv_icmp_ge (tgt := 51) hx hb dX9_feed_44 (by decide) (fun h9 => absurd h9 (by decide)) (fun _ => ?_)
  refine lv_iload_n hx hb dX9_feed_47 rfl (lv_at hl 4 rfl) ?_
  refine lv_goto (tgt := 76) hx hb dX9_feed_48 (by decide) ?_
  refine lv_istore (lv' := [(7, .int a2), (6, .int 4), (0, .ref b), (1, .int a1), (2, .int a2), (3, .int a3), (4, .int a4), (5, .int a5)]) hx hb dX9_feed_76 hl (by decide) rfl (fun ls hl => ?_)
  refine lv_aload_n hx hb dX9_feed_78 rfl (lv_at hl 2 rfl) ?_
  refine r_get F hK hP 0 1 rfl rfl in_X9 (by decide) k_1164 rfl dX9_feed_79 ?_
  refine lv_aload_n hx hb dX9_feed_82 rfl (lv_at hl 2 rfl) ?_
  refine r_get F hK hP 0 2 rfl rfl in_X9 (by decide) k_1165 rfl dX9_feed_83 ?_
  refine lv_iload hx hb dX9_feed_86 (lv_at hl 0 rfl) ?_
  refine lv_bipush (v := 24) hx hb dX9_feed_88 (by decide) ?_
  refine lv_bipush (v := 8) hx hb dX9_feed_90 (by decide) ?_
  refine lv_iload hx hb dX9_feed_92 (lv_at hl 1 rfl) ?_
  refine lv_iconst (v := 4) hx hb dX9_feed_94 (by decide) ?_
  refine r_irem (v := 0) F dX9_feed_95 (by decide) (by decide) ?_
  refine r_imul (v := 0) F dX9_feed_96 (by decide) ?_
  refine r_isub (v := 24) F dX9_feed_97 (by decide) ?_
  refine r_ishr (v := (a2 >>> (24 &&& 31))) F dX9_feed_98 rfl ?_
  refine lv_sipush (v := 255) hx hb dX9_feed_99 (by decide) ?_
  refine r_iand (v := ((a2 >>> (24 &&& 31)) &&& 255)) F dX9_feed_102 rfl ?_
  refine r_iastX F hK hP hD hS 1 0 rfl rfl (bw_vin (by decide)) dX9_feed_103 (w1 := fun f5 => [(b, .inr (9, [.int 0, .ref (q 0), .int 4, .int 0, .int 0, .int 0, .int 0, .int 0, .int 0, .int 0, .int (-1), .int 0, .ref (q 1), .int 0, .int 0, .ref (q 2), .ref (q 3), .ref (q 4), .ref (q 5), .ref (q 6), .ref (q 7), .ref (q 8), .ref (q 9), .ref (q 10), .ref (q 11), .ref (q 12), .ref (q 13), .ref (q 14), .ref (q 15), .ref (q 16), .int 0, .int 0, .int 0, .int 0, .int 0, .int 0, .ref (q 17), .ref (q 18), .ref (q 19), .ref (q 20)])), ((q 0), .inl (cI, 900, .inl f5))]) (fun _ => rfl) (fun f5 H locs hP hD hS => ?_)
  refine lv_aload_n hx hb dX9_feed_104 rfl (lv_at hl 2 rfl) ?_
  refine lv_dup hx hb dX9_feed_105 rfl ?_
  refine r_get F hK hP 0 2 rfl rfl in_X9 (by decide) k_1165 rfl dX9_feed_106 ?_
  refine lv_iconst (v := 1) hx hb dX9_feed_109 (by decide) ?_
  refine r_iadd (v := 5) F dX9_feed_110 (by decide) ?_
  refine r_put F hK hP hD hS 0 2 rfl rfl in_X9 tyX9 tyX9_ok nmX9 (by decide) k_1165 rfl rfl rfl (Nat.le_of_ble_eq_true rfl) dX9_feed_111 (w1 := [(b, .inr (9, [.int 0, .ref (q 0), .int 5, .int 0, .int 0, .int 0, .int 0, .int 0, .int 0, .int 0, .int (-1), .int 0, .ref (q 1), .int 0, .int 0, .ref (q 2), .ref (q 3), .ref (q 4), .ref (q 5), .ref (q 6), .ref (q 7), .ref (q 8), .ref (q 9), .ref (q 10), .ref (q 11), .ref (q 12), .ref (q 13), .ref (q 14), .ref (q 15), .ref (q 16), .int 0, .int 0, .int 0, .int 0, .int 0, .int 0, .ref (q 17), .ref (q 18), .ref (q 19), .ref (q 20)])), ((q 0), .inl (cI, 900, .inl f5))]) rfl (fun H locs hP hD hS => ?_)
  refine lv_iinc (v := 5) (lv' := [(6, .int 5), (7, .int a2), (0, .ref b), (1, .int a1), (2, .int a2), (3, .int a3), (4, .int a4), (5, .int a5)]) hx hb dX9_feed_114 hl (k := 1) rfl (by decide) (by decide) rfl (fun ls hl => ?_)
  refine lv_goto (tgt := 23) hx hb dX9_feed_117 (by decide) ?_
  refine lv_iload hx hb dX9_feed_23 (lv_at hl 0 rfl) ?_
  refine lv_bipush (v := 20) hx hb dX9_feed_25 (by decide) ?_
  refine lv_icmp_ge (tgt := 120) hx hb dX9_feed_27 (by decide) (fun h9 => absurd h9 (by decide)) (fun _ => ?_)
  refine lv_iload hx hb dX9_feed_30 (lv_at hl 0 rfl) ?_
  refine lv_iconst (v := 4) hx hb dX9_feed_32 (by decide) ?_
  refine lv_icmp_ge (tgt := 40) hx hb dX9_feed_33 (by decide) (fun _ => ?_) (fun h9 => absurd (by decide) h9)
  refine lv_iload hx hb dX9_feed_40 (lv_at hl 0 rfl) ?_
  refine lv_bipush (v := 8) hx hb dX9_feed_42 (by decide) ?_
  refine lv_icmp_ge (tgt := 51) hx hb dX9_feed_44 (by decide) (fun h9 => absurd h9 (by decide)) (fun _ => ?_)
  refine lv_iload_n hx hb dX9_feed_47 rfl (lv_at hl 4 rfl) ?_
  refine lv_goto (tgt := 76) hx hb dX9_feed_48 (by decide) ?_
  refine lv_istore (lv' := [(7, .int a2), (6, .int 5), (0, .ref b), (1, .int a1), (2, .int a2), (3, .int a3), (4, .int a4), (5, .int a5)]) hx hb dX9_feed_76 hl (by decide) rfl (fun ls hl => ?_)
  refine lv_aload_n hx hb dX9_feed_78 rfl (lv_at hl 2 rfl) ?_
  refine r_get F hK hP 0 1 rfl rfl in_X9 (by decide) k_1164 rfl dX9_feed_79 ?_
  refine lv_aload_n hx hb dX9_feed_82 rfl (lv_at hl 2 rfl) ?_
  refine r_get F hK hP 0 2 rfl rfl in_X9 (by decide) k_1165 rfl dX9_feed_83 ?_
  refine lv_iload hx hb dX9_feed_86 (lv_at hl 0 rfl) ?_
  refine lv_bipush (v := 24) hx hb dX9_feed_88 (by decide) ?_
  refine lv_bipush (v := 8) hx hb dX9_feed_90 (by decide) ?_
  refine lv_iload hx hb dX9_feed_92 (lv_at hl 1 rfl) ?_
  refine lv_iconst (v := 4) hx hb dX9_feed_94 (by decide) ?_
  refine r_irem (v := 1) F dX9_feed_95 (by decide) (by decide) ?_
  refine r_imul (v := 8) F dX9_feed_96 (by decide) ?_
  refine r_isub (v := 16) F dX9_feed_97 (by decide) ?_
  refine r_ishr (v := (a2 >>> (16 &&& 31))) F dX9_feed_98 rfl ?_
  refine lv_sipush (v := 255) hx hb dX9_feed_99 (by decide) ?_
  refine r_iand (v := ((a2 >>> (16 &&& 31)) &&& 255)) F dX9_feed_102 rfl ?_
  refine r_iastX F hK hP hD hS 1 0 rfl rfl (bw_vin (by decide)) dX9_feed_103 (w1 := fun f6 => [(b, .inr (9, [.int 0, .ref (q 0), .int 5, .int 0, .int 0, .int 0, .int 0, .int 0, .int 0, .int 0, .int (-1), .int 0, .ref (q 1), .int 0, .int 0, .ref (q 2), .ref (q 3), .ref (q 4), .ref (q 5), .ref (q 6), .ref (q 7), .ref (q 8), .ref (q 9), .ref (q 10), .ref (q 11), .ref (q 12), .ref (q 13), .ref (q 14), .ref (q 15), .ref (q 16), .int 0, .int 0, .int 0, .int 0, .int 0, .int 0, .ref (q 17), .ref (q 18), .ref (q 19), .ref (q 20)])), ((q 0), .inl (cI, 900, .inl f6))]) (fun _ => rfl) (fun f6 H locs hP hD hS => ?_)
  refine lv_aload_n hx hb dX9_feed_104 rfl (lv_at hl 2 rfl) ?_
  refine lv_dup hx hb dX9_feed_105 rfl ?_
  refine r_get F hK hP 0 2 rfl rfl in_X9 (by decide) k_1165 rfl dX9_feed_106 ?_
  refine lv_iconst (v := 1) hx hb dX9_feed_109 (by decide) ?_
  refine r_iadd (v := 6) F dX9_feed_110 (by decide) ?_
  refine r_put F hK hP hD hS 0 2 rfl rfl in_X9 tyX9 tyX9_ok nmX9 (by decide) k_1165 rfl rfl rfl (Nat.le_of_ble_eq_true rfl) dX9_feed_111 (w1 := [(b, .inr (9, [.int 0, .ref (q 0), .int 6, .int 0, .int 0, .int 0, .int 0, .int 0, .int 0, .int 0, .int (-1), .int 0, .ref (q 1), .int 0, .int 0, .ref (q 2), .ref (q 3), .ref (q 4), .ref (q 5), .ref (q 6), .ref (q 7), .ref (q 8), .ref (q 9), .ref (q 10), .ref (q 11), .ref (q 12), .ref (q 13), .ref (q 14), .ref (q 15), .ref (q 16), .int 0, .int 0, .int 0, .int 0, .int 0, .int 0, .ref (q 17), .ref (q 18), .ref (q 19), .ref (q 20)])), ((q 0), .inl (cI, 900, .inl f6))]) rfl (fun H locs hP hD hS => ?_)
  refine lv_iinc (v := 6) (lv' := [(6, .int 6), (7, .int a2), (0, .ref b), (1, .int a1), (2, .int a2), (3, .int a3), (4, .int a4), (5, .int a5)]) hx hb dX9_feed_114 hl (k := 1) rfl (by decide) (by decide) rfl (fun ls hl => ?_)
  refine lv_goto (tgt := 23) hx hb dX9_feed_117 (by decide) ?_
  refine lv_iload hx hb dX9_feed_23 (lv_at hl 0 rfl) ?_
  refine lv_bipush (v := 20) hx hb dX9_feed_25 (by decide) ?_
  refine lv_icmp_ge (tgt := 120) hx hb dX9_feed_27 (by decide) (fun h9 => absurd h9 (by decide)) (fun _ => ?_)
  refine lv_iload hx hb dX9_feed_30 (lv_at hl 0 rfl) ?_
  refine lv_iconst (v := 4) hx hb dX9_feed_32 (by decide) ?_
  refine lv_icmp_ge (tgt := 40) hx hb dX9_feed_33 (by decide) (fun _ => ?_) (fun h9 => absurd (by decide) h9)
  refine lv_iload hx hb dX9_feed_40 (lv_at hl 0 rfl) ?_
  refine lv_bipush (v := 8) hx hb dX9_feed_42 (by decide) ?_
  refine lv_icmp_ge (tgt := 51) hx hb dX9_feed_44 (by decide) (fun h9 => absurd h9 (by decide)) (fun _ => ?_)
  refine lv_iload_n hx hb dX9_feed_47 rfl (lv_at hl 4 rfl) ?_
  refine lv_goto (tgt := 76) hx hb dX9_feed_48 (by decide) ?_
  refine lv_istore (lv' := [(7, .int a2), (6, .int 6), (0, .ref b), (1, .int a1), (2, .int a2), (3, .int a3), (4, .int a4), (5, .int a5)]) hx hb dX9_feed_76 hl (by decide) rfl (fun ls hl => ?_)
  refine lv_aload_n hx hb dX9_feed_78 rfl (lv_at hl 2 rfl) ?_
  refine r_get F hK hP 0 1 rfl rfl in_X9 (by decide) k_1164 rfl dX9_feed_79 ?_
  refine lv_aload_n hx hb dX9_feed_82 rfl (lv_at hl 2 rfl) ?_
  refine r_get F hK hP 0 2 rfl rfl in_X9 (by decide) k_1165 rfl dX9_feed_83 ?_
  refine lv_iload hx hb dX9_feed_86 (lv_at hl 0 rfl) ?_
  refine lv_bipush (v := 24) hx hb dX9_feed_88 (by decide) ?_
  refine lv_bipush (v := 8) hx hb dX9_feed_90 (by decide) ?_
  refine lv_iload hx hb dX9_feed_92 (lv_at hl 1 rfl) ?_
  refine lv_iconst (v := 4) hx hb dX9_feed_94 (by decide) ?_
  refine r_irem (v := 2) F dX9_feed_95 (by decide) (by decide) ?_
  refine r_imul (v := 16) F dX9_feed_96 (by decide) ?_
  refine r_isub (v := 8) F dX9_feed_97 (by decide) ?_
  refine r_ishr (v := (a2 >>> (8 &&& 31))) F dX9_feed_98 rfl ?_
  refine lv_sipush (v := 255) hx hb dX9_feed_99 (by decide) ?_
  refine r_iand (v := ((a2 >>> (8 &&& 31)) &&& 255)) F dX9_feed_102 rfl ?_
  refine r_iastX F hK hP hD hS 1 0 rfl rfl (bw_vin (by decide)) dX9_feed_103 (w1 := fun f7 => [(b, .inr (9, [.int 0, .ref (q 0), .int 6, .int 0, .int 0, .int 0, .int 0, .int 0, .int 0, .int 0, .int (-1), .int 0, .ref (q 1), .int 0, .int 0, .ref (q 2), .ref (q 3), .ref (q 4), .ref (q 5), .ref (q 6), .ref (q 7), .ref (q 8), .ref (q 9), .ref (q 10), .ref (q 11), .ref (q 12), .ref (q 13), .ref (q 14), .ref (q 15), .ref (q 16), .int 0, .int 0, .int 0, .int 0, .int 0, .int 0, .ref (q 17), .ref (q 18), .ref (q 19), .ref (q 20)])), ((q 0), .inl (cI, 900, .inl f7))]) (fun _ => rfl) (fun f7 H locs hP hD hS => ?_)
  refine lv_aload_n hx hb dX9_feed_104 rfl (lv_at hl 2 rfl) ?_
  refine lv_dup hx hb dX9_feed_105 rfl ?_
  refine r_get F hK hP 0 2 rfl rfl in_X9 (by decide) k_1165 rfl dX9_feed_106 ?_
  refine lv_iconst (v := 1) hx hb dX9_feed_109 (by decide) ?_
  refine r_iadd (v := 7) F dX9_feed_110 (by decide) ?_
  refine r_put F hK hP hD hS 0 2 rfl rfl in_X9 tyX9 tyX9_ok nmX9 (by decide) k_1165 rfl rfl rfl (Nat.le_of_ble_eq_true rfl) dX9_feed_111 (w1 := [(b, .inr (9, [.int 0, .ref (q 0), .int 7, .int 0, .int 0, .int 0, .int 0, .int 0, .int 0, .int 0, .int (-1), .int 0, .ref (q 1), .int 0, .int 0, .ref (q 2), .ref (q 3), .ref (q 4), .ref (q 5), .ref (q 6), .ref (q 7), .ref (q 8), .ref (q 9), .ref (q 10), .ref (q 11), .ref (q 12), .ref (q 13), .ref (q 14), .ref (q 15), .ref (q 16), .int 0, .int 0, .int 0, .int 0, .int 0, .int 0, .ref (q 17), .ref (q 18), .ref (q 19), .ref (q 20)])), ((q 0), .inl (cI, 900, .inl f7))]) rfl (fun H locs hP hD hS => ?_)
  refine lv_iinc (v := 7) (lv' := [(6, .int 7), (7, .int a2), (0, .ref b), (1, .int a1), (2, .int a2), (3, .int a3), (4, .int a4), (5, .int a5)]) hx hb dX9_feed_114 hl (k := 1) rfl (by decide) (by decide) rfl (fun ls hl => ?_)
  refine lv_goto (tgt := 23) hx hb dX9_feed_117 (by decide) ?_
  refine lv_iload hx hb dX9_feed_23 (lv_at hl 0 rfl) ?_
  refine lv_bipush (v := 20) hx hb dX9_feed_25 (by decide) ?_
  refine lv_icmp_ge (tgt := 120) hx hb dX9_feed_27 (by decide) (fun h9 => absurd h9 (by decide)) (fun _ => ?_)
  refine lv_iload hx hb dX9_feed_30 (lv_at hl 0 rfl) ?_
  refine lv_iconst (v := 4) hx hb dX9_feed_32 (by decide) ?_
  refine lv_icmp_ge (tgt := 40) hx hb dX9_feed_33 (by decide) (fun _ => ?_) (fun h9 => absurd (by decide) h9)
  refine lv_iload hx hb dX9_feed_40 (lv_at hl 0 rfl) ?_
  refine lv_bipush (v := 8) hx hb dX9_feed_42 (by decide) ?_
  refine lv_icmp_ge (tgt := 51) hx hb dX9_feed_44 (by decide) (fun h9 => absurd h9 (by decide)) (fun _ => ?_)
  refine lv_iload_n hx hb dX9_feed_47 rfl (lv_at hl 4 rfl) ?_
  refine lv_goto (tgt := 76) hx hb dX9_feed_48 (by decide) ?_
  refine lv_istore (lv' := [(7, .int a2), (6, .int 7), (0, .ref b), (1, .int a1), (2, .int a2), (3, .int a3), (4, .int a4), (5, .int a5)]) hx hb dX9_feed_76 hl (by decide) rfl (fun ls hl => ?_)
  refine lv_aload_n hx hb dX9_feed_78 rfl (lv_at hl 2 rfl) ?_
  refine r_get F hK hP 0 1 rfl rfl in_X9 (by decide) k_1164 rfl dX9_feed_79 ?_
  refine lv_aload_n hx hb dX9_feed_82 rfl (lv_at hl 2 rfl) ?_
  refine r_get F hK hP 0 2 rfl rfl in_X9 (by decide) k_1165 rfl dX9_feed_83 ?_
  refine lv_iload hx hb dX9_feed_86 (lv_at hl 0 rfl) ?_
  refine lv_bipush (v := 24) hx hb dX9_feed_88 (by decide) ?_
  refine lv_bipush (v := 8) hx hb dX9_feed_90 (by decide) ?_
  refine lv_iload hx hb dX9_feed_92 (lv_at hl 1 rfl) ?_
  refine lv_iconst (v := 4) hx hb dX9_feed_94 (by decide) ?_
  refine r_irem (v := 3) F dX9_feed_95 (by decide) (by decide) ?_
  refine r_imul (v := 24) F dX9_feed_96 (by decide) ?_
  refine r_isub (v := 0) F dX9_feed_97 (by decide) ?_
  refine r_ishr (v := (a2 >>> (0 &&& 31))) F dX9_feed_98 rfl ?_
  refine lv_sipush (v := 255) hx hb dX9_feed_99 (by decide) ?_
  refine r_iand (v := ((a2 >>> (0 &&& 31)) &&& 255)) F dX9_feed_102 rfl ?_
  refine r_iastX F hK hP hD hS 1 0 rfl rfl (bw_vin (by decide)) dX9_feed_103 (w1 := fun f8 => [(b, .inr (9, [.int 0, .ref (q 0), .int 7, .int 0, .int 0, .int 0, .int 0, .int 0, .int 0, .int 0, .int (-1), .int 0, .ref (q 1), .int 0, .int 0, .ref (q 2), .ref (q 3), .ref (q 4), .ref (q 5), .ref (q 6), .ref (q 7), .ref (q 8), .ref (q 9), .ref (q 10), .ref (q 11), .ref (q 12), .ref (q 13), .ref (q 14), .ref (q 15), .ref (q 16), .int 0, .int 0, .int 0, .int 0, .int 0, .int 0, .ref (q 17), .ref (q 18), .ref (q 19), .ref (q 20)])), ((q 0), .inl (cI, 900, .inl f8))]) (fun _ => rfl) (fun f8 H locs hP hD hS => ?_)
  refine lv_aload_n hx hb dX9_feed_104 rfl (lv_at hl 2 rfl) ?_
  refine lv_dup hx hb dX9_feed_105 rfl ?_
  refine r_get F hK hP 0 2 rfl rfl in_X9 (by decide) k_1165 rfl dX9_feed_106 ?_
  refine lv_iconst (v := 1) hx hb dX9_feed_109 (by decide) ?_
  refine r_iadd (v := 8) F dX9_feed_110 (by decide) ?_
  refine r_put F hK hP hD hS 0 2 rfl rfl in_X9 tyX9 tyX9_ok nmX9 (by decide) k_1165 rfl rfl rfl (Nat.le_of_ble_eq_true rfl) dX9_feed_111 (w1 := [(b, .inr (9, [.int 0, .ref (q 0), .int 8, .int 0, .int 0, .int 0, .int 0, .int 0, .int 0, .int 0, .int (-1), .int 0, .ref (q 1), .int 0, .int 0, .ref (q 2), .ref (q 3), .ref (q 4), .ref (q 5), .ref (q 6), .ref (q 7), .ref (q 8), .ref (q 9), .ref (q 10), .ref (q 11), .ref (q 12), .ref (q 13), .ref (q 14), .ref (q 15), .ref (q 16), .int 0, .int 0, .int 0, .int 0, .int 0, .int 0, .ref (q 17), .ref (q 18), .ref (q 19), .ref (q 20)])), ((q 0), .inl (cI, 900, .inl f8))]) rfl (fun H locs hP hD hS => ?_)
  refine lv_iinc (v := 8) (lv' := [(6, .int 8), (7, .int a2), (0, .ref b), (1, .int a1), (2, .int a2), (3, .int a3), (4, .int a4), (5, .int a5)]) hx hb dX9_feed_114 hl (k := 1) rfl (by decide) (by decide) rfl (fun ls hl => ?_)
  refine lv_goto (tgt := 23) hx hb dX9_feed_117 (by decide) ?_
  refine lv_iload hx hb dX9_feed_23 (lv_at hl 0 rfl) ?_
  refine lv_bipush (v := 20) hx hb dX9_feed_25 (by decide) ?_
  refine lv_icmp_ge (tgt := 120) hx hb dX9_feed_27 (by decide) (fun h9 => absurd h9 (by decide)) (fun _ => ?_)
  refine lv_iload hx hb dX9_feed_30 (lv_at hl 0 rfl) ?_
  refine lv_iconst (v := 4) hx hb dX9_feed_32 (by decide) ?_
  refine lv_icmp_ge (tgt := 40) hx hb dX9_feed_33 (by decide) (fun _ => ?_) (fun h9 => absurd (by decide) h9)
  refine lv_iload hx hb dX9_feed_40 (lv_at hl 0 rfl) ?_
  refine lv_bipush (v := 8) hx hb dX9_feed_42 (by decide) ?_
  refine lv_icmp_ge (tgt := 51) hx hb dX9_feed_44 (by decide) (fun _ => ?_) (fun h9 => absurd (by decide) h9)
  refine lv_iload hx hb dX9_feed_51 (lv_at hl 0 rfl) ?_
  refine lv_bipush (v := 12) hx hb dX9_feed_53 (by decide) ?_
  refine lv_icmp_ge (tgt := 62) hx hb dX9_feed_55 (by decide) (fun h9 => absurd h9 (by decide)) (fun _ => ?_)
  refine lv_iload_n hx hb dX9_feed_58 rfl (lv_at hl 5 rfl) ?_
  refine lv_goto (tgt := 76) hx hb dX9_feed_59 (by decide) ?_
  refine lv_istore (lv' := [(7, .int a3), (6, .int 8), (0, .ref b), (1, .int a1), (2, .int a2), (3, .int a3), (4, .int a4), (5, .int a5)]) hx hb dX9_feed_76 hl (by decide) rfl (fun ls hl => ?_)
  refine lv_aload_n hx hb dX9_feed_78 rfl (lv_at hl 2 rfl) ?_
  refine r_get F hK hP 0 1 rfl rfl in_X9 (by decide) k_1164 rfl dX9_feed_79 ?_
  refine lv_aload_n hx hb dX9_feed_82 rfl (lv_at hl 2 rfl) ?_
  refine r_get F hK hP 0 2 rfl rfl in_X9 (by decide) k_1165 rfl dX9_feed_83 ?_
  refine lv_iload hx hb dX9_feed_86 (lv_at hl 0 rfl) ?_
  refine lv_bipush (v := 24) hx hb dX9_feed_88 (by decide) ?_
  refine lv_bipush (v := 8) hx hb dX9_feed_90 (by decide) ?_
  refine lv_iload hx hb dX9_feed_92 (lv_at hl 1 rfl) ?_
  refine lv_iconst (v := 4) hx hb dX9_feed_94 (by decide) ?_
  refine r_irem (v := 0) F dX9_feed_95 (by decide) (by decide) ?_
  refine r_imul (v := 0) F dX9_feed_96 (by decide) ?_
  refine r_isub (v := 24) F dX9_feed_97 (by decide) ?_
  refine r_ishr (v := (a3 >>> (24 &&& 31))) F dX9_feed_98 rfl ?_
  refine lv_sipush (v := 255) hx hb dX9_feed_99 (by decide) ?_
  refine r_iand (v := ((a3 >>> (24 &&& 31)) &&& 255)) F dX9_feed_102 rfl ?_
  refine r_iastX F hK hP hD hS 1 0 rfl rfl (bw_vin (by decide)) dX9_feed_103 (w1 := fun f9 => [(b, .inr (9, [.int 0, .ref (q 0), .int 8, .int 0, .int 0, .int 0, .int 0, .int 0, .int 0, .int 0, .int (-1), .int 0, .ref (q 1), .int 0, .int 0, .ref (q 2), .ref (q 3), .ref (q 4), .ref (q 5), .ref (q 6), .ref (q 7), .ref (q 8), .ref (q 9), .ref (q 10), .ref (q 11), .ref (q 12), .ref (q 13), .ref (q 14), .ref (q 15), .ref (q 16), .int 0, .int 0, .int 0, .int 0, .int 0, .int 0, .ref (q 17), .ref (q 18), .ref (q 19), .ref (q 20)])), ((q 0), .inl (cI, 900, .inl f9))]) (fun _ => rfl) (fun f9 H locs hP hD hS => ?_)
  refine lv_aload_n hx hb dX9_feed_104 rfl (lv_at hl 2 rfl) ?_
  refine lv_dup hx hb dX9_feed_105 rfl ?_
  refine r_get F hK hP 0 2 rfl rfl in_X9 (by decide) k_1165 rfl dX9_feed_106 ?_
  refine lv_iconst (v := 1) hx hb dX9_feed_109 (by decide) ?_
  refine r_iadd (v := 9) F dX9_feed_110 (by decide) ?_
  refine r_put F hK hP hD hS 0 2 rfl rfl in_X9 tyX9 tyX9_ok nmX9 (by decide) k_1165 rfl rfl rfl (Nat.le_of_ble_eq_true rfl) dX9_feed_111 (w1 := [(b, .inr (9, [.int 0, .ref (q 0), .int 9, .int 0, .int 0, .int 0, .int 0, .int 0, .int 0, .int 0, .int (-1), .int 0, .ref (q 1), .int 0, .int 0, .ref (q 2), .ref (q 3), .ref (q 4), .ref (q 5), .ref (q 6), .ref (q 7), .ref (q 8), .ref (q 9), .ref (q 10), .ref (q 11), .ref (q 12), .ref (q 13), .ref (q 14), .ref (q 15), .ref (q 16), .int 0, .int 0, .int 0, .int 0, .int 0, .int 0, .ref (q 17), .ref (q 18), .ref (q 19), .ref (q 20)])), ((q 0), .inl (cI, 900, .inl f9))]) rfl (fun H locs hP hD hS => ?_)
  refine lv_iinc (v := 9) (lv' := [(6, .int 9), (7, .int a3), (0, .ref b), (1, .int a1), (2, .int a2), (3, .int a3), (4, .int a4), (5, .int a5)]) hx hb dX9_feed_114 hl (k := 1) rfl (by decide) (by decide) rfl (fun ls hl => ?_)
  refine lv_goto (tgt := 23) hx hb dX9_feed_117 (by decide) ?_
  refine lv_iload hx hb dX9_feed_23 (lv_at hl 0 rfl) ?_
  refine lv_bipush (v := 20) hx hb dX9_feed_25 (by decide) ?_
  refine lv_icmp_ge (tgt := 120) hx hb dX9_feed_27 (by decide) (fun h9 => absurd h9 (by decide)) (fun _ => ?_)
  refine lv_iload hx hb dX9_feed_30 (lv_at hl 0 rfl) ?_
  refine lv_iconst (v := 4) hx hb dX9_feed_32 (by decide) ?_
  refine lv_icmp_ge (tgt := 40) hx hb dX9_feed_33 (by decide) (fun _ => ?_) (fun h9 => absurd (by decide) h9)
  refine lv_iload hx hb dX9_feed_40 (lv_at hl 0 rfl) ?_
  refine lv_bipush (v := 8) hx hb dX9_feed_42 (by decide) ?_
  refine lv_icmp_ge (tgt := 51) hx hb dX9_feed_44 (by decide) (fun _ => ?_) (fun h9 => absurd (by decide) h9)
  refine lv_iload hx hb dX9_feed_51 (lv_at hl 0 rfl) ?_
  refine lv_bipush (v := 12) hx hb dX9_feed_53 (by decide) ?_
  refine lv_icmp_ge (tgt := 62) hx hb dX9_feed_55 (by decide) (fun h9 => absurd h9 (by decide)) (fun _ => ?_)
  refine lv_iload_n hx hb dX9_feed_58 rfl (lv_at hl 5 rfl) ?_
  refine lv_goto (tgt := 76) hx hb dX9_feed_59 (by decide) ?_
  refine lv_istore (lv' := [(7, .int a3), (6, .int 9), (0, .ref b), (1, .int a1), (2, .int a2), (3, .int a3), (4, .int a4), (5, .int a5)]) hx hb dX9_feed_76 hl (by decide) rfl (fun ls hl => ?_)
  refine lv_aload_n hx hb dX9_feed_78 rfl (lv_at hl 2 rfl) ?_
  refine r_get F hK hP 0 1 rfl rfl in_X9 (by decide) k_1164 rfl dX9_feed_79 ?_
  refine lv_aload_n hx hb dX9_feed_82 rfl (lv_at hl 2 rfl) ?_
  refine r_get F hK hP 0 2 rfl rfl in_X9 (by decide) k_1165 rfl dX9_feed_83 ?_
  refine lv_iload hx hb dX9_feed_86 (lv_at hl 0 rfl) ?_
  refine lv_bipush (v := 24) hx hb dX9_feed_88 (by decide) ?_
  refine lv_bipush (v := 8) hx hb dX9_feed_90 (by decide) ?_
  refine lv_iload hx hb dX9_feed_92 (lv_at hl 1 rfl) ?_
  refine lv_iconst (v := 4) hx hb dX9_feed_94 (by decide) ?_
  refine r_irem (v := 1) F dX9_feed_95 (by decide) (by decide) ?_
  refine r_imul (v := 8) F dX9_feed_96 (by decide) ?_
  refine r_isub (v := 16) F dX9_feed_97 (by decide) ?_
  refine r_ishr (v := (a3 >>> (16 &&& 31))) F dX9_feed_98 rfl ?_
  refine lv_sipush (v := 255) hx hb dX9_feed_99 (by decide) ?_
  refine r_iand (v := ((a3 >>> (16 &&& 31)) &&& 255)) F dX9_feed_102 rfl ?_
  refine r_iastX F hK hP hD hS 1 0 rfl rfl (bw_vin (by decide)) dX9_feed_103 (w1 := fun f10 => [(b, .inr (9, [.int 0, .ref (q 0), .int 9, .int 0, .int 0, .int 0, .int 0, .int 0, .int 0, .int 0, .int (-1), .int 0, .ref (q 1), .int 0, .int 0, .ref (q 2), .ref (q 3), .ref (q 4), .ref (q 5), .ref (q 6), .ref (q 7), .ref (q 8), .ref (q 9), .ref (q 10), .ref (q 11), .ref (q 12), .ref (q 13), .ref (q 14), .ref (q 15), .ref (q 16), .int 0, .int 0, .int 0, .int 0, .int 0, .int 0, .ref (q 17), .ref (q 18), .ref (q 19), .ref (q 20)])), ((q 0), .inl (cI, 900, .inl f10))]) (fun _ => rfl) (fun f10 H locs hP hD hS => ?_)
  refine lv_aload_n hx hb dX9_feed_104 rfl (lv_at hl 2 rfl) ?_
  refine lv_dup hx hb dX9_feed_105 rfl ?_
  refine r_get F hK hP 0 2 rfl rfl in_X9 (by decide) k_1165 rfl dX9_feed_106 ?_
  refine lv_iconst (v := 1) hx hb dX9_feed_109 (by decide) ?_
  refine r_iadd (v := 10) F dX9_feed_110 (by decide) ?_
  refine r_put F hK hP hD hS 0 2 rfl rfl in_X9 tyX9 tyX9_ok nmX9 (by decide) k_1165 rfl rfl rfl (Nat.le_of_ble_eq_true rfl) dX9_feed_111 (w1 := [(b, .inr (9, [.int 0, .ref (q 0), .int 10, .int 0, .int 0, .int 0, .int 0, .int 0, .int 0, .int 0, .int (-1), .int 0, .ref (q 1), .int 0, .int 0, .ref (q 2), .ref (q 3), .ref (q 4), .ref (q 5), .ref (q 6), .ref (q 7), .ref (q 8), .ref (q 9), .ref (q 10), .ref (q 11), .ref (q 12), .ref (q 13), .ref (q 14), .ref (q 15), .ref (q 16), .int 0, .int 0, .int 0, .int 0, .int 0, .int 0, .ref (q 17), .ref (q 18), .ref (q 19), .ref (q 20)])), ((q 0), .inl (cI, 900, .inl f10))]) rfl (fun H locs hP hD hS => ?_)
  refine lv_iinc (v := 10) (lv' := [(6, .int 10), (7, .int a3), (0, .ref b), (1, .int a1), (2, .int a2), (3, .int a3), (4, .int a4), (5, .int a5)]) hx hb dX9_feed_114 hl (k := 1) rfl (by decide) (by decide) rfl (fun ls hl => ?_)
  refine lv_goto (tgt := 23) hx hb dX9_feed_117 (by decide) ?_
  refine lv_iload hx hb dX9_feed_23 (lv_at hl 0 rfl) ?_
  refine lv_bipush (v := 20) hx hb dX9_feed_25 (by decide) ?_
  refine lv_icmp_ge (tgt := 120) hx hb dX9_feed_27 (by decide) (fun h9 => absurd h9 (by decide)) (fun _ => ?_)
  refine lv_iload hx hb dX9_feed_30 (lv_at hl 0 rfl) ?_
  refine lv_iconst (v := 4) hx hb dX9_feed_32 (by decide) ?_
  refine lv_icmp_ge (tgt := 40) hx hb dX9_feed_33 (by decide) (fun _ => ?_) (fun h9 => absurd (by decide) h9)
  refine lv_iload hx hb dX9_feed_40 (lv_at hl 0 rfl) ?_
  refine lv_bipush (v := 8) hx hb dX9_feed_42 (by decide) ?_
  refine lv_icmp_ge (tgt := 51) hx hb dX9_feed_44 (by decide) (fun _ => ?_) (fun h9 => absurd (by decide) h9)
  refine lv_iload hx hb dX9_feed_51 (lv_at hl 0 rfl) ?_
  refine lv_bipush (v := 12) hx hb dX9_feed_53 (by decide) ?_
  refine lv_icmp_ge (tgt := 62) hx hb dX9_feed_55 (by decide) (fun h9 => absurd h9 (by decide)) (fun _ => ?_)
  refine lv_iload_n hx hb dX9_feed_58 rfl (lv_at hl 5 rfl) ?_
  refine lv_goto (tgt := 76) hx hb dX9_feed_59 (by decide) ?_
  refine lv_istore (lv' := [(7, .int a3), (6, .int 10), (0, .ref b), (1, .int a1), (2, .int a2), (3, .int a3), (4, .int a4), (5, .int a5)]) hx hb dX9_feed_76 hl (by decide) rfl (fun ls hl => ?_)
  refine lv_aload_n hx hb dX9_feed_78 rfl (lv_at hl 2 rfl) ?_
  refine r_get F hK hP 0 1 rfl rfl in_X9 (by decide) k_1164 rfl dX9_feed_79 ?_
  refine lv_aload_n hx hb dX9_feed_82 rfl (lv_at hl 2 rfl) ?_
  refine r_get F hK hP 0 2 rfl rfl in_X9 (by decide) k_1165 rfl dX9_feed_83 ?_
  refine lv_iload hx hb dX9_feed_86 (lv_at hl 0 rfl) ?_
  refine lv_bipush (v := 24) hx hb dX9_feed_88 (by decide) ?_
  refine lv_bipush (v := 8) hx hb dX9_feed_90 (by decide) ?_
  refine lv_iload hx hb dX9_feed_92 (lv_at hl 1 rfl) ?_
  refine lv_iconst (v := 4) hx hb dX9_feed_94 (by decide) ?_
  refine r_irem (v := 2) F dX9_feed_95 (by decide) (by decide) ?_
  refine r_imul (v := 16) F dX9_feed_96 (by decide) ?_
  refine r_isub (v := 8) F dX9_feed_97 (by decide) ?_
  refine r_ishr (v := (a3 >>> (8 &&& 31))) F dX9_feed_98 rfl ?_
  refine lv_sipush (v := 255) hx hb dX9_feed_99 (by decide) ?_
  refine r_iand (v := ((a3 >>> (8 &&& 31)) &&& 255)) F dX9_feed_102 rfl ?_
  refine r_iastX F hK hP hD hS 1 0 rfl rfl (bw_vin (by decide)) dX9_feed_103 (w1 := fun f11 => [(b, .inr (9, [.int 0, .ref (q 0), .int 10, .int 0, .int 0, .int 0, .int 0, .int 0, .int 0, .int 0, .int (-1), .int 0, .ref (q 1), .int 0, .int 0, .ref (q 2), .ref (q 3), .ref (q 4), .ref (q 5), .ref (q 6), .ref (q 7), .ref (q 8), .ref (q 9), .ref (q 10), .ref (q 11), .ref (q 12), .ref (q 13), .ref (q 14), .ref (q 15), .ref (q 16), .int 0, .int 0, .int 0, .int 0, .int 0, .int 0, .ref (q 17), .ref (q 18), .ref (q 19), .ref (q 20)])), ((q 0), .inl (cI, 900, .inl f11))]) (fun _ => rfl) (fun f11 H locs hP hD hS => ?_)
  refine lv_aload_n hx hb dX9_feed_104 rfl (lv_at hl 2 rfl) ?_
  refine lv_dup hx hb dX9_feed_105 rfl ?_
  refine r_get F hK hP 0 2 rfl rfl in_X9 (by decide) k_1165 rfl dX9_feed_106 ?_
  refine lv_iconst (v := 1) hx hb dX9_feed_109 (by decide) ?_
  refine r_iadd (v := 11) F dX9_feed_110 (by decide) ?_
  refine r_put F hK hP hD hS 0 2 rfl rfl in_X9 tyX9 tyX9_ok nmX9 (by decide) k_1165 rfl rfl rfl (Nat.le_of_ble_eq_true rfl) dX9_feed_111 (w1 := [(b, .inr (9, [.int 0, .ref (q 0), .int 11, .int 0, .int 0, .int 0, .int 0, .int 0, .int 0, .int 0, .int (-1), .int 0, .ref (q 1), .int 0, .int 0, .ref (q 2), .ref (q 3), .ref (q 4), .ref (q 5), .ref (q 6), .ref (q 7), .ref (q 8), .ref (q 9), .ref (q 10), .ref (q 11), .ref (q 12), .ref (q 13), .ref (q 14), .ref (q 15), .ref (q 16), .int 0, .int 0, .int 0, .int 0, .int 0, .int 0, .ref (q 17), .ref (q 18), .ref (q 19), .ref (q 20)])), ((q 0), .inl (cI, 900, .inl f11))]) rfl (fun H locs hP hD hS => ?_)
  refine lv_iinc (v := 11) (lv' := [(6, .int 11), (7, .int a3), (0, .ref b), (1, .int a1), (2, .int a2), (3, .int a3), (4, .int a4), (5, .int a5)]) hx hb dX9_feed_114 hl (k := 1) rfl (by decide) (by decide) rfl (fun ls hl => ?_)
  refine lv_goto (tgt := 23) hx hb dX9_feed_117 (by decide) ?_
  refine lv_iload hx hb dX9_feed_23 (lv_at hl 0 rfl) ?_
  refine lv_bipush (v := 20) hx hb dX9_feed_25 (by decide) ?_
  refine lv_icmp_ge (tgt := 120) hx hb dX9_feed_27 (by decide) (fun h9 => absurd h9 (by decide)) (fun _ => ?_)
  refine lv_iload hx hb dX9_feed_30 (lv_at hl 0 rfl) ?_
  refine lv_iconst (v := 4) hx hb dX9_feed_32 (by decide) ?_
  refine lv_icmp_ge (tgt := 40) hx hb dX9_feed_33 (by decide) (fun _ => ?_) (fun h9 => absurd (by decide) h9)
  refine lv_iload hx hb dX9_feed_40 (lv_at hl 0 rfl) ?_
  refine lv_bipush (v := 8) hx hb dX9_feed_42 (by decide) ?_
  refine lv_icmp_ge (tgt := 51) hx hb dX9_feed_44 (by decide) (fun _ => ?_) (fun h9 => absurd (by decide) h9)
  refine lv_iload hx hb dX9_feed_51 (lv_at hl 0 rfl) ?_
  refine lv_bipush (v := 12) hx hb dX9_feed_53 (by decide) ?_
  refine lv_icmp_ge (tgt := 62) hx hb dX9_feed_55 (by decide) (fun h9 => absurd h9 (by decide)) (fun _ => ?_)
  refine lv_iload_n hx hb dX9_feed_58 rfl (lv_at hl 5 rfl) ?_
  refine lv_goto (tgt := 76) hx hb dX9_feed_59 (by decide) ?_
  refine lv_istore (lv' := [(7, .int a3), (6, .int 11), (0, .ref b), (1, .int a1), (2, .int a2), (3, .int a3), (4, .int a4), (5, .int a5)]) hx hb dX9_feed_76 hl (by decide) rfl (fun ls hl => ?_)
  refine lv_aload_n hx hb dX9_feed_78 rfl (lv_at hl 2 rfl) ?_
  refine r_get F hK hP 0 1 rfl rfl in_X9 (by decide) k_1164 rfl dX9_feed_79 ?_
  refine lv_aload_n hx hb dX9_feed_82 rfl (lv_at hl 2 rfl) ?_
  refine r_get F hK hP 0 2 rfl rfl in_X9 (by decide) k_1165 rfl dX9_feed_83 ?_
  refine lv_iload hx hb dX9_feed_86 (lv_at hl 0 rfl) ?_
  refine lv_bipush (v := 24) hx hb dX9_feed_88 (by decide) ?_
  refine lv_bipush (v := 8) hx hb dX9_feed_90 (by decide) ?_
  refine lv_iload hx hb dX9_feed_92 (lv_at hl 1 rfl) ?_
  refine lv_iconst (v := 4) hx hb dX9_feed_94 (by decide) ?_
  refine r_irem (v := 3) F dX9_feed_95 (by decide) (by decide) ?_
  refine r_imul (v := 24) F dX9_feed_96 (by decide) ?_
  refine r_isub (v := 0) F dX9_feed_97 (by decide) ?_
  refine r_ishr (v := (a3 >>> (0 &&& 31))) F dX9_feed_98 rfl ?_
  refine lv_sipush (v := 255) hx hb dX9_feed_99 (by decide) ?_
  refine r_iand (v := ((a3 >>> (0 &&& 31)) &&& 255)) F dX9_feed_102 rfl ?_
  refine r_iastX F hK hP hD hS 1 0 rfl rfl (bw_vin (by decide)) dX9_feed_103 (w1 := fun f12 => [(b, .inr (9, [.int 0, .ref (q 0), .int 11, .int 0, .int 0, .int 0, .int 0, .int 0, .int 0, .int 0, .int (-1), .int 0, .ref (q 1), .int 0, .int 0, .ref (q 2), .ref (q 3), .ref (q 4), .ref (q 5), .ref (q 6), .ref (q 7), .ref (q 8), .ref (q 9), .ref (q 10), .ref (q 11), .ref (q 12), .ref (q 13), .ref (q 14), .ref (q 15), .ref (q 16), .int 0, .int 0, .int 0, .int 0, .int 0, .int 0, .ref (q 17), .ref (q 18), .ref (q 19), .ref (q 20)])), ((q 0), .inl (cI, 900, .inl f12))]) (fun _ => rfl) (fun f12 H locs hP hD hS => ?_)
  refine lv_aload_n hx hb dX9_feed_104 rfl (lv_at hl 2 rfl) ?_
  refine lv_dup hx hb dX9_feed_105 rfl ?_
  refine r_get F hK hP 0 2 rfl rfl in_X9 (by decide) k_1165 rfl dX9_feed_106 ?_
  refine lv_iconst (v := 1) hx hb dX9_feed_109 (by decide) ?_
  refine r_iadd (v := 12) F dX9_feed_110 (by decide) ?_
  refine r_put F hK hP hD hS 0 2 rfl rfl in_X9 tyX9 tyX9_ok nmX9 (by decide) k_1165 rfl rfl rfl (Nat.le_of_ble_eq_true rfl) dX9_feed_111 (w1 := [(b, .inr (9, [.int 0, .ref (q 0), .int 12, .int 0, .int 0, .int 0, .int 0, .int 0, .int 0, .int 0, .int (-1), .int 0, .ref (q 1), .int 0, .int 0, .ref (q 2), .ref (q 3), .ref (q 4), .ref (q 5), .ref (q 6), .ref (q 7), .ref (q 8), .ref (q 9), .ref (q 10), .ref (q 11), .ref (q 12), .ref (q 13), .ref (q 14), .ref (q 15), .ref (q 16), .int 0, .int 0, .int 0, .int 0, .int 0, .int 0, .ref (q 17), .ref (q 18), .ref (q 19), .ref (q 20)])), ((q 0), .inl (cI, 900, .inl f12))]) rfl (fun H locs hP hD hS => ?_)
  refine lv_iinc (v := 12) (lv' := [(6, .int 12), (7, .int a3), (0, .ref b), (1, .int a1), (2, .int a2), (3, .int a3), (4, .int a4), (5, .int a5)]) hx hb dX9_feed_114 hl (k := 1) rfl (by decide) (by decide) rfl (fun ls hl => ?_)
  refine lv_goto (tgt := 23) hx hb dX9_feed_117 (by decide) ?_
  refine lv_iload hx hb dX9_feed_23 (lv_at hl 0 rfl) ?_
  refine lv_bipush (v := 20) hx hb dX9_feed_25 (by decide) ?_
  refine lv_icmp_ge (tgt := 120) hx hb dX9_feed_27 (by decide) (fun h9 => absurd h9 (by decide)) (fun _ => ?_)
  refine lv_iload hx hb dX9_feed_30 (lv_at hl 0 rfl) ?_
  refine lv_iconst (v := 4) hx hb dX9_feed_32 (by decide) ?_
  refine lv_icmp_ge (tgt := 40) hx hb dX9_feed_33 (by decide) (fun _ => ?_) (fun h9 => absurd (by decide) h9)
  refine lv_iload hx hb dX9_feed_40 (lv_at hl 0 rfl) ?_
  refine lv_bipush (v := 8) hx hb dX9_feed_42 (by decide) ?_
  refine lv_icmp_ge (tgt := 51) hx hb dX9_feed_44 (by decide) (fun _ => ?_) (fun h9 => absurd (by decide) h9)
  refine lv_iload hx hb dX9_feed_51 (lv_at hl 0 rfl) ?_
  refine lv_bipush (v := 12) hx hb dX9_feed_53 (by decide) ?_
  refine lv_icmp_ge (tgt := 62) hx hb dX9_feed_55 (by decide) (fun _ => ?_) (fun h9 => absurd (by decide) h9)
  refine lv_iload hx hb dX9_feed_62 (lv_at hl 0 rfl) ?_
  refine lv_bipush (v := 16) hx hb dX9_feed_64 (by decide) ?_
  refine lv_icmp_ge (tgt := 74) hx hb dX9_feed_66 (by decide) (fun h9 => absurd h9 (by decide)) (fun _ => ?_)
  refine lv_iload hx hb dX9_feed_69 (lv_at hl 6 rfl) ?_
  refine lv_goto (tgt := 76) hx hb dX9_feed_71 (by decide) ?_
  refine lv_istore (lv' := [(7, .int a4), (6, .int 12), (0, .ref b), (1, .int a1), (2, .int a2), (3, .int a3), (4, .int a4), (5, .int a5)]) hx hb dX9_feed_76 hl (by decide) rfl (fun ls hl => ?_)
  refine lv_aload_n hx hb dX9_feed_78 rfl (lv_at hl 2 rfl) ?_
  refine r_get F hK hP 0 1 rfl rfl in_X9 (by decide) k_1164 rfl dX9_feed_79 ?_
  refine lv_aload_n hx hb dX9_feed_82 rfl (lv_at hl 2 rfl) ?_
  refine r_get F hK hP 0 2 rfl rfl in_X9 (by decide) k_1165 rfl dX9_feed_83 ?_
  refine lv_iload hx hb dX9_feed_86 (lv_at hl 0 rfl) ?_
  refine lv_bipush (v := 24) hx hb dX9_feed_88 (by decide) ?_
  refine lv_bipush (v := 8) hx hb dX9_feed_90 (by decide) ?_
  refine lv_iload hx hb dX9_feed_92 (lv_at hl 1 rfl) ?_
  refine lv_iconst (v := 4) hx hb dX9_feed_94 (by decide) ?_
  refine r_irem (v := 0) F dX9_feed_95 (by decide) (by decide) ?_
  refine r_imul (v := 0) F dX9_feed_96 (by decide) ?_
  refine r_isub (v := 24) F dX9_feed_97 (by decide) ?_
  refine r_ishr (v := (a4 >>> (24 &&& 31))) F dX9_feed_98 rfl ?_
  refine lv_sipush (v := 255) hx hb dX9_feed_99 (by decide) ?_
  refine r_iand (v := ((a4 >>> (24 &&& 31)) &&& 255)) F dX9_feed_102 rfl ?_
  refine r_iastX F hK hP hD hS 1 0 rfl rfl (bw_vin (by decide)) dX9_feed_103 (w1 := fun f13 => [(b, .inr (9, [.int 0, .ref (q 0), .int 12, .int 0, .int 0, .int 0, .int 0, .int 0, .int 0, .int 0, .int (-1), .int 0, .ref (q 1), .int 0, .int 0, .ref (q 2), .ref (q 3), .ref (q 4), .ref (q 5), .ref (q 6), .ref (q 7), .ref (q 8), .ref (q 9), .ref (q 10), .ref (q 11), .ref (q 12), .ref (q 13), .ref (q 14), .ref (q 15), .ref (q 16), .int 0, .int 0, .int 0, .int 0, .int 0, .int 0, .ref (q 17), .ref (q 18), .ref (q 19), .ref (q 20)])), ((q 0), .inl (cI, 900, .inl f13))]) (fun _ => rfl) (fun f13 H locs hP hD hS => ?_)
  refine lv_aload_n hx hb dX9_feed_104 rfl (lv_at hl 2 rfl) ?_
  refine lv_dup hx hb dX9_feed_105 rfl ?_
  refine r_get F hK hP 0 2 rfl rfl in_X9 (by decide) k_1165 rfl dX9_feed_106 ?_
  refine lv_iconst (v := 1) hx hb dX9_feed_109 (by decide) ?_
  refine r_iadd (v := 13) F dX9_feed_110 (by decide) ?_
  refine r_put F hK hP hD hS 0 2 rfl rfl in_X9 tyX9 tyX9_ok nmX9 (by decide) k_1165 rfl rfl rfl (Nat.le_of_ble_eq_true rfl) dX9_feed_111 (w1 := [(b, .inr (9, [.int 0, .ref (q 0), .int 13, .int 0, .int 0, .int 0, .int 0, .int 0, .int 0, .int 0, .int (-1), .int 0, .ref (q 1), .int 0, .int 0, .ref (q 2), .ref (q 3), .ref (q 4), .ref (q 5), .ref (q 6), .ref (q 7), .ref (q 8), .ref (q 9), .ref (q 10), .ref (q 11), .ref (q 12), .ref (q 13), .ref (q 14), .ref (q 15), .ref (q 16), .int 0, .int 0, .int 0, .int 0, .int 0, .int 0, .ref (q 17), .ref (q 18), .ref (q 19), .ref (q 20)])), ((q 0), .inl (cI, 900, .inl f13))]) rfl (fun H locs hP hD hS => ?_)
  refine lv_iinc (v := 13) (lv' := [(6, .int 13), (7, .int a4), (0, .ref b), (1, .int a1), (2, .int a2), (3, .int a3), (4, .int a4), (5, .int a5)]) hx hb dX9_feed_114 hl (k := 1) rfl (by decide) (by decide) rfl (fun ls hl => ?_)
  refine lv_goto (tgt := 23) hx hb dX9_feed_117 (by decide) ?_
  refine lv_iload hx hb dX9_feed_23 (lv_at hl 0 rfl) ?_
  refine lv_bipush (v := 20) hx hb dX9_feed_25 (by decide) ?_
  refine lv_icmp_ge (tgt := 120) hx hb dX9_feed_27 (by decide) (fun h9 => absurd h9 (by decide)) (fun _ => ?_)
  refine lv_iload hx hb dX9_feed_30 (lv_at hl 0 rfl) ?_
  refine lv_iconst (v := 4) hx hb dX9_feed_32 (by decide) ?_
  refine lv_icmp_ge (tgt := 40) hx hb dX9_feed_33 (by decide) (fun _ => ?_) (fun h9 => absurd (by decide) h9)
  refine lv_iload hx hb dX9_feed_40 (lv_at hl 0 rfl) ?_
  refine lv_bipush (v := 8) hx hb dX9_feed_42 (by decide) ?_
  refine lv_icmp_ge (tgt := 51) hx hb dX9_feed_44 (by decide) (fun _ => ?_) (fun h9 => absurd (by decide) h9)
  refine lv_iload hx hb dX9_feed_51 (lv_at hl 0 rfl) ?_
  refine lv_bipush (v := 12) hx hb dX9_feed_53 (by decide) ?_
  refine lv_icmp_ge (tgt := 62) hx hb dX9_feed_55 (by decide) (fun _ => ?_) (fun h9 => absurd (by decide) h9)
  refine lv_iload hx hb dX9_feed_62 (lv_at hl 0 rfl) ?_
  refine lv_bipush (v := 16) hx hb dX9_feed_64 (by decide) ?_
  refine lv_icmp_ge (tgt := 74) hx hb dX9_feed_66 (by decide) (fun h9 => absurd h9 (by decide)) (fun _ => ?_)
  refine lv_iload hx hb dX9_feed_69 (lv_at hl 6 rfl) ?_
  refine lv_goto (tgt := 76) hx hb dX9_feed_71 (by decide) ?_
  refine lv_istore (lv' := [(7, .int a4), (6, .int 13), (0, .ref b), (1, .int a1), (2, .int a2), (3, .int a3), (4, .int a4), (5, .int a5)]) hx hb dX9_feed_76 hl (by decide) rfl (fun ls hl => ?_)
  refine lv_aload_n hx hb dX9_feed_78 rfl (lv_at hl 2 rfl) ?_
  refine r_get F hK hP 0 1 rfl rfl in_X9 (by decide) k_1164 rfl dX9_feed_79 ?_
  refine lv_aload_n hx hb dX9_feed_82 rfl (lv_at hl 2 rfl) ?_
  refine r_get F hK hP 0 2 rfl rfl in_X9 (by decide) k_1165 rfl dX9_feed_83 ?_
  refine lv_iload hx hb dX9_feed_86 (lv_at hl 0 rfl) ?_
  refine lv_bipush (v := 24) hx hb dX9_feed_88 (by decide) ?_
  refine lv_bipush (v := 8) hx hb dX9_feed_90 (by decide) ?_
  refine lv_iload hx hb dX9_feed_92 (lv_at hl 1 rfl) ?_
  refine lv_iconst (v := 4) hx hb dX9_feed_94 (by decide) ?_
  refine r_irem (v := 1) F dX9_feed_95 (by decide) (by decide) ?_
  refine r_imul (v := 8) F dX9_feed_96 (by decide) ?_
  refine r_isub (v := 16) F dX9_feed_97 (by decide) ?_
  refine r_ishr (v := (a4 >>> (16 &&& 31))) F dX9_feed_98 rfl ?_
  refine lv_sipush (v := 255) hx hb dX9_feed_99 (by decide) ?_
  refine r_iand (v := ((a4 >>> (16 &&& 31)) &&& 255)) F dX9_feed_102 rfl ?_
  refine r_iastX F hK hP hD hS 1 0 rfl rfl (bw_vin (by decide)) dX9_feed_103 (w1 := fun f14 => [(b, .inr (9, [.int 0, .ref (q 0), .int 13, .int 0, .int 0, .int 0, .int 0, .int 0, .int 0, .int 0, .int (-1), .int 0, .ref (q 1), .int 0, .int 0, .ref (q 2), .ref (q 3), .ref (q 4), .ref (q 5), .ref (q 6), .ref (q 7), .ref (q 8), .ref (q 9), .ref (q 10), .ref (q 11), .ref (q 12), .ref (q 13), .ref (q 14), .ref (q 15), .ref (q 16), .int 0, .int 0, .int 0, .int 0, .int 0, .int 0, .ref (q 17), .ref (q 18), .ref (q 19), .ref (q 20)])), ((q 0), .inl (cI, 900, .inl f14))]) (fun _ => rfl) (fun f14 H locs hP hD hS => ?_)
  refine lv_aload_n hx hb dX9_feed_104 rfl (lv_at hl 2 rfl) ?_
  refine lv_dup hx hb dX9_feed_105 rfl ?_
  refine r_get F hK hP 0 2 rfl rfl in_X9 (by decide) k_1165 rfl dX9_feed_106 ?_
  refine lv_iconst (v := 1) hx hb dX9_feed_109 (by decide) ?_
  refine r_iadd (v := 14) F dX9_feed_110 (by decide) ?_
  refine r_put F hK hP hD hS 0 2 rfl rfl in_X9 tyX9 tyX9_ok nmX9 (by decide) k_1165 rfl rfl rfl (Nat.le_of_ble_eq_true rfl) dX9_feed_111 (w1 := [(b, .inr (9, [.int 0, .ref (q 0), .int 14, .int 0, .int 0, .int 0, .int 0, .int 0, .int 0, .int 0, .int (-1), .int 0, .ref (q 1), .int 0, .int 0, .ref (q 2), .ref (q 3), .ref (q 4), .ref (q 5), .ref (q 6), .ref (q 7), .ref (q 8), .ref (q 9), .ref (q 10), .ref (q 11), .ref (q 12), .ref (q 13), .ref (q 14), .ref (q 15), .ref (q 16), .int 0, .int 0, .int 0, .int 0, .int 0, .int 0, .ref (q 17), .ref (q 18), .ref (q 19), .ref (q 20)])), ((q 0), .inl (cI, 900, .inl f14))]) rfl (fun H locs hP hD hS => ?_)
  refine lv_iinc (v := 14) (lv' := [(6, .int 14), (7, .int a4), (0, .ref b), (1, .int a1), (2, .int a2), (3, .int a3), (4, .int a4), (5, .int a5)]) hx hb dX9_feed_114 hl (k := 1) rfl (by decide) (by decide) rfl (fun ls hl => ?_)
  refine lv_goto (tgt := 23) hx hb dX9_feed_117 (by decide) ?_
  refine lv_iload hx hb dX9_feed_23 (lv_at hl 0 rfl) ?_
  refine lv_bipush (v := 20) hx hb dX9_feed_25 (by decide) ?_
  refine lv_icmp_ge (tgt := 120) hx hb dX9_feed_27 (by decide) (fun h9 => absurd h9 (by decide)) (fun _ => ?_)
  refine lv_iload hx hb dX9_feed_30 (lv_at hl 0 rfl) ?_
  refine lv_iconst (v := 4) hx hb dX9_feed_32 (by decide) ?_
  refine lv_icmp_ge (tgt := 40) hx hb dX9_feed_33 (by decide) (fun _ => ?_) (fun h9 => absurd (by decide) h9)
  refine lv_iload hx hb dX9_feed_40 (lv_at hl 0 rfl) ?_
  refine lv_bipush (v := 8) hx hb dX9_feed_42 (by decide) ?_
  refine lv_icmp_ge (tgt := 51) hx hb dX9_feed_44 (by decide) (fun _ => ?_) (fun h9 => absurd (by decide) h9)
  refine lv_iload hx hb dX9_feed_51 (lv_at hl 0 rfl) ?_
  refine lv_bipush (v := 12) hx hb dX9_feed_53 (by decide) ?_
  refine lv_icmp_ge (tgt := 62) hx hb dX9_feed_55 (by decide) (fun _ => ?_) (fun h9 => absurd (by decide) h9)
  refine lv_iload hx hb dX9_feed_62 (lv_at hl 0 rfl) ?_
  refine lv_bipush (v := 16) hx hb dX9_feed_64 (by decide) ?_
  refine lv_icmp_ge (tgt := 74) hx hb dX9_feed_66 (by decide) (fun h9 => absurd h9 (by decide)) (fun _ => ?_)
  refine lv_iload hx hb dX9_feed_69 (lv_at hl 6 rfl) ?_
  refine lv_goto (tgt := 76) hx hb dX9_feed_71 (by decide) ?_
  refine lv_istore (lv' := [(7, .int a4), (6, .int 14), (0, .ref b), (1, .int a1), (2, .int a2), (3, .int a3), (4, .int a4), (5, .int a5)]) hx hb dX9_feed_76 hl (by decide) rfl (fun ls hl => ?_)
  refine lv_aload_n hx hb dX9_feed_78 rfl (lv_at hl 2 rfl) ?_
  refine r_get F hK hP 0 1 rfl rfl in_X9 (by decide) k_1164 rfl dX9_feed_79 ?_
  refine lv_aload_n hx hb dX9_feed_82 rfl (lv_at hl 2 rfl) ?_
  refine r_get F hK hP 0 2 rfl rfl in_X9 (by decide) k_1165 rfl dX9_feed_83 ?_
  refine lv_iload hx hb dX9_feed_86 (lv_at hl 0 rfl) ?_
  refine lv_bipush (v := 24) hx hb dX9_feed_88 (by decide) ?_
  refine lv_bipush (v := 8) hx hb dX9_feed_90 (by decide) ?_
  refine lv_iload hx hb dX9_feed_92 (lv_at hl 1 rfl) ?_
  refine lv_iconst (v := 4) hx hb dX9_feed_94 (by decide) ?_
  refine r_irem (v := 2) F dX9_feed_95 (by decide) (by decide) ?_
  refine r_imul (v := 16) F dX9_feed_96 (by decide) ?_
  refine r_isub (v := 8) F dX9_feed_97 (by decide) ?_
  refine r_ishr (v := (a4 >>> (8 &&& 31))) F dX9_feed_98 rfl ?_
  refine lv_sipush (v := 255) hx hb dX9_feed_99 (by decide) ?_
  refine r_iand (v := ((a4 >>> (8 &&& 31)) &&& 255)) F dX9_feed_102 rfl ?_
  refine r_iastX F hK hP hD hS 1 0 rfl rfl (bw_vin (by decide)) dX9_feed_103 (w1 := fun f15 => [(b, .inr (9, [.int 0, .ref (q 0), .int 14, .int 0, .int 0, .int 0, .int 0, .int 0, .int 0, .int 0, .int (-1), .int 0, .ref (q 1), .int 0, .int 0, .ref (q 2), .ref (q 3), .ref (q 4), .ref (q 5), .ref (q 6), .ref (q 7), .ref (q 8), .ref (q 9), .ref (q 10), .ref (q 11), .ref (q 12), .ref (q 13), .ref (q 14), .ref (q 15), .ref (q 16), .int 0, .int 0, .int 0, .int 0, .int 0, .int 0, .ref (q 17), .ref (q 18), .ref (q 19), .ref (q 20)])), ((q 0), .inl (cI, 900, .inl f15))]) (fun _ => rfl) (fun f15 H locs hP hD hS => ?_)
  refine lv_aload_n hx hb dX9_feed_104 rfl (lv_at hl 2 rfl) ?_
  refine lv_dup hx hb dX9_feed_105 rfl ?_
  refine r_get F hK hP 0 2 rfl rfl in_X9 (by decide) k_1165 rfl dX9_feed_106 ?_
  refine lv_iconst (v := 1) hx hb dX9_feed_109 (by decide) ?_
  refine r_iadd (v := 15) F dX9_feed_110 (by decide) ?_
  refine r_put F hK hP hD hS 0 2 rfl rfl in_X9 tyX9 tyX9_ok nmX9 (by decide) k_1165 rfl rfl rfl (Nat.le_of_ble_eq_true rfl) dX9_feed_111 (w1 := [(b, .inr (9, [.int 0, .ref (q 0), .int 15, .int 0, .int 0, .int 0, .int 0, .int 0, .int 0, .int 0, .int (-1), .int 0, .ref (q 1), .int 0, .int 0, .ref (q 2), .ref (q 3), .ref (q 4), .ref (q 5), .ref (q 6), .ref (q 7), .ref (q 8), .ref (q 9), .ref (q 10), .ref (q 11), .ref (q 12), .ref (q 13), .ref (q 14), .ref (q 15), .ref (q 16), .int 0, .int 0, .int 0, .int 0, .int 0, .int 0, .ref (q 17), .ref (q 18), .ref (q 19), .ref (q 20)])), ((q 0), .inl (cI, 900, .inl f15))]) rfl (fun H locs hP hD hS => ?_)
  refine lv_iinc (v := 15) (lv' := [(6, .int 15), (7, .int a4), (0, .ref b), (1, .int a1), (2, .int a2), (3, .int a3), (4, .int a4), (5, .int a5)]) hx hb dX9_feed_114 hl (k := 1) rfl (by decide) (by decide) rfl (fun ls hl => ?_)
  refine lv_goto (tgt := 23) hx hb dX9_feed_117 (by decide) ?_
  refine lv_iload hx hb dX9_feed_23 (lv_at hl 0 rfl) ?_
  refine lv_bipush (v := 20) hx hb dX9_feed_25 (by decide) ?_
  refine lv_icmp_ge (tgt := 120) hx hb dX9_feed_27 (by decide) (fun h9 => absurd h9 (by decide)) (fun _ => ?_)
  refine lv_iload hx hb dX9_feed_30 (lv_at hl 0 rfl) ?_
  refine lv_iconst (v := 4) hx hb dX9_feed_32 (by decide) ?_
  refine lv_icmp_ge (tgt := 40) hx hb dX9_feed_33 (by decide) (fun _ => ?_) (fun h9 => absurd (by decide) h9)
  refine lv_iload hx hb dX9_feed_40 (lv_at hl 0 rfl) ?_
  refine lv_bipush (v := 8) hx hb dX9_feed_42 (by decide) ?_
  refine lv_icmp_ge (tgt := 51) hx hb dX9_feed_44 (by decide) (fun _ => ?_) (fun h9 => absurd (by decide) h9)
  refine lv_iload hx hb dX9_feed_51 (lv_at hl 0 rfl) ?_
  refine lv_bipush (v := 12) hx hb dX9_feed_53 (by decide) ?_
  refine lv_icmp_ge (tgt := 62) hx hb dX9_feed_55 (by decide) (fun _ => ?_) (fun h9 => absurd (by decide) h9)
  refine lv_iload hx hb dX9_feed_62 (lv_at hl 0 rfl) ?_
  refine lv_bipush (v := 16) hx hb dX9_feed_64 (by decide) ?_
  refine lv_icmp_ge (tgt := 74) hx hb dX9_feed_66 (by decide) (fun h9 => absurd h9 (by decide)) (fun _ => ?_)
  refine lv_iload hx hb dX9_feed_69 (lv_at hl 6 rfl) ?_
  refine lv_goto (tgt := 76) hx hb dX9_feed_71 (by decide) ?_
  refine lv_istore (lv' := [(7, .int a4), (6, .int 15), (0, .ref b), (1, .int a1), (2, .int a2), (3, .int a3), (4, .int a4), (5, .int a5)]) hx hb dX9_feed_76 hl (by decide) rfl (fun ls hl => ?_)
  refine lv_aload_n hx hb dX9_feed_78 rfl (lv_at hl 2 rfl) ?_
  refine r_get F hK hP 0 1 rfl rfl in_X9 (by decide) k_1164 rfl dX9_feed_79 ?_
  refine lv_aload_n hx hb dX9_feed_82 rfl (lv_at hl 2 rfl) ?_
  refine r_get F hK hP 0 2 rfl rfl in_X9 (by decide) k_1165 rfl dX9_feed_83 ?_
  refine lv_iload hx hb dX9_feed_86 (lv_at hl 0 rfl) ?_
  refine lv_bipush (v := 24) hx hb dX9_feed_88 (by decide) ?_
  refine lv_bipush (v := 8) hx hb dX9_feed_90 (by decide) ?_
  refine lv_iload hx hb dX9_feed_92 (lv_at hl 1 rfl) ?_
  refine lv_iconst (v := 4) hx hb dX9_feed_94 (by decide) ?_
  refine r_irem (v := 3) F dX9_feed_95 (by decide) (by decide) ?_
  refine r_imul (v := 24) F dX9_feed_96 (by decide) ?_
  refine r_isub (v := 0) F dX9_feed_97 (by decide) ?_
  refine r_ishr (v := (a4 >>> (0 &&& 31))) F dX9_feed_98 rfl ?_
  refine lv_sipush (v := 255) hx hb dX9_feed_99 (by decide) ?_
  refine r_iand (v := ((a4 >>> (0 &&& 31)) &&& 255)) F dX9_feed_102 rfl ?_
  refine r_iastX F hK hP hD hS 1 0 rfl rfl (bw_vin (by decide)) dX9_feed_103 (w1 := fun f16 => [(b, .inr (9, [.int 0, .ref (q 0), .int 15, .int 0, .int 0, .int 0, .int 0, .int 0, .int 0, .int 0, .int (-1), .int 0, .ref (q 1), .int 0, .int 0, .ref (q 2), .ref (q 3), .ref (q 4), .ref (q 5), .ref (q 6), .ref (q 7), .ref (q 8), .ref (q 9), .ref (q 10), .ref (q 11), .ref (q 12), .ref (q 13), .ref (q 14), .ref (q 15), .ref (q 16), .int 0, .int 0, .int 0, .int 0, .int 0, .int 0, .ref (q 17), .ref (q 18), .ref (q 19), .ref (q 20)])), ((q 0), .inl (cI, 900, .inl f16))]) (fun _ => rfl) (fun f16 H locs hP hD hS => ?_)
  refine lv_aload_n hx hb dX9_feed_104 rfl (lv_at hl 2 rfl) ?_
  refine lv_dup hx hb dX9_feed_105 rfl ?_
  refine r_get F hK hP 0 2 rfl rfl in_X9 (by decide) k_1165 rfl dX9_feed_106 ?_
  refine lv_iconst (v := 1) hx hb dX9_feed_109 (by decide) ?_
  refine r_iadd (v := 16) F dX9_feed_110 (by decide) ?_
  refine r_put F hK hP hD hS 0 2 rfl rfl in_X9 tyX9 tyX9_ok nmX9 (by decide) k_1165 rfl rfl rfl (Nat.le_of_ble_eq_true rfl) dX9_feed_111 (w1 := [(b, .inr (9, [.int 0, .ref (q 0), .int 16, .int 0, .int 0, .int 0, .int 0, .int 0, .int 0, .int 0, .int (-1), .int 0, .ref (q 1), .int 0, .int 0, .ref (q 2), .ref (q 3), .ref (q 4), .ref (q 5), .ref (q 6), .ref (q 7), .ref (q 8), .ref (q 9), .ref (q 10), .ref (q 11), .ref (q 12), .ref (q 13), .ref (q 14), .ref (q 15), .ref (q 16), .int 0, .int 0, .int 0, .int 0, .int 0, .int 0, .ref (q 17), .ref (q 18), .ref (q 19), .ref (q 20)])), ((q 0), .inl (cI, 900, .inl f16))]) rfl (fun H locs hP hD hS => ?_)
  refine lv_iinc (v := 16) (lv' := [(6, .int 16), (7, .int a4), (0, .ref b), (1, .int a1), (2, .int a2), (3, .int a3), (4, .int a4), (5, .int a5)]) hx hb dX9_feed_114 hl (k := 1) rfl (by decide) (by decide) rfl (fun ls hl => ?_)
  refine lv_goto (tgt := 23) hx hb dX9_feed_117 (by decide) ?_
  refine lv_iload hx hb dX9_feed_23 (lv_at hl 0 rfl) ?_
  refine lv_bipush (v := 20) hx hb dX9_feed_25 (by decide) ?_
  refine lv_icmp_ge (tgt := 120) hx hb dX9_feed_27 (by decide) (fun h9 => absurd h9 (by decide)) (fun _ => ?_)
  refine lv_iload hx hb dX9_feed_30 (lv_at hl 0 rfl) ?_
  refine lv_iconst (v := 4) hx hb dX9_feed_32 (by decide) ?_
  refine lv_icmp_ge (tgt := 40) hx hb dX9_feed_33 (by decide) (fun _ => ?_) (fun h9 => absurd (by decide) h9)
  refine lv_iload hx hb dX9_feed_40 (lv_at hl 0 rfl) ?_
  refine lv_bipush (v := 8) hx hb dX9_feed_42 (by decide) ?_
  refine lv_icmp_ge (tgt := 51) hx hb dX9_feed_44 (by decide) (fun _ => ?_) (fun h9 => absurd (by decide) h9)
  refine lv_iload hx hb dX9_feed_51 (lv_at hl 0 rfl) ?_
  refine lv_bipush (v := 12) hx hb dX9_feed_53 (by decide) ?_
  refine lv_icmp_ge (tgt := 62) hx hb dX9_feed_55 (by decide) (fun _ => ?_) (fun h9 => absurd (by decide) h9)
  refine lv_iload hx hb dX9_feed_62 (lv_at hl 0 rfl) ?_
  refine lv_bipush (v := 16) hx hb dX9_feed_64 (by decide) ?_
  refine lv_icmp_ge (tgt := 74) hx hb dX9_feed_66 (by decide) (fun _ => ?_) (fun h9 => absurd (by decide) h9)
  refine lv_iload hx hb dX9_feed_74 (lv_at hl 7 rfl) ?_
  refine lv_istore (lv' := [(7, .int a5), (6, .int 16), (0, .ref b), (1, .int a1), (2, .int a2), (3, .int a3), (4, .int a4), (5, .int a5)]) hx hb dX9_feed_76 hl (by decide) rfl (fun ls hl => ?_)
  refine lv_aload_n hx hb dX9_feed_78 rfl (lv_at hl 2 rfl) ?_
  refine r_get F hK hP 0 1 rfl rfl in_X9 (by decide) k_1164 rfl dX9_feed_79 ?_
  refine lv_aload_n hx hb dX9_feed_82 rfl (lv_at hl 2 rfl) ?_
  refine r_get F hK hP 0 2 rfl rfl in_X9 (by decide) k_1165 rfl dX9_feed_83 ?_
  refine lv_iload hx hb dX9_feed_86 (lv_at hl 0 rfl) ?_
  refine lv_bipush (v := 24) hx hb dX9_feed_88 (by decide) ?_
  refine lv_bipush (v := 8) hx hb dX9_feed_90 (by decide) ?_
  refine lv_iload hx hb dX9_feed_92 (lv_at hl 1 rfl) ?_
  refine lv_iconst (v := 4) hx hb dX9_feed_94 (by decide) ?_
  refine r_irem (v := 0) F dX9_feed_95 (by decide) (by decide) ?_
  refine r_imul (v := 0) F dX9_feed_96 (by decide) ?_
  refine r_isub (v := 24) F dX9_feed_97 (by decide) ?_
  refine r_ishr (v := (a5 >>> (24 &&& 31))) F dX9_feed_98 rfl ?_
  refine lv_sipush (v := 255) hx hb dX9_feed_99 (by decide) ?_
  refine r_iand (v := ((a5 >>> (24 &&& 31)) &&& 255)) F dX9_feed_102 rfl ?_
  refine r_iastX F hK hP hD hS 1 0 rfl rfl (bw_vin (by decide)) dX9_feed_103 (w1 := fun f17 => [(b, .inr (9, [.int 0, .ref (q 0), .int 16, .int 0, .int 0, .int 0, .int 0, .int 0, .int 0, .int 0, .int (-1), .int 0, .ref (q 1), .int 0, .int 0, .ref (q 2), .ref (q 3), .ref (q 4), .ref (q 5), .ref (q 6), .ref (q 7), .ref (q 8), .ref (q 9), .ref (q 10), .ref (q 11), .ref (q 12), .ref (q 13), .ref (q 14), .ref (q 15), .ref (q 16), .int 0, .int 0, .int 0, .int 0, .int 0, .int 0, .ref (q 17), .ref (q 18), .ref (q 19), .ref (q 20)])), ((q 0), .inl (cI, 900, .inl f17))]) (fun _ => rfl) (fun f17 H locs hP hD hS => ?_)
  refine lv_aload_n hx hb dX9_feed_104 rfl (lv_at hl 2 rfl) ?_
  refine lv_dup hx hb dX9_feed_105 rfl ?_
  refine r_get F hK hP 0 2 rfl rfl in_X9 (by decide) k_1165 rfl dX9_feed_106 ?_
  refine lv_iconst (v := 1) hx hb dX9_feed_109 (by decide) ?_
  refine r_iadd (v := 17) F dX9_feed_110 (by decide) ?_
  refine r_put F hK hP hD hS 0 2 rfl rfl in_X9 tyX9 tyX9_ok nmX9 (by decide) k_1165 rfl rfl rfl (Nat.le_of_ble_eq_true rfl) dX9_feed_111 (w1 := [(b, .inr (9, [.int 0, .ref (q 0), .int 17, .int 0, .int 0, .int 0, .int 0, .int 0, .int 0, .int 0, .int (-1), .int 0, .ref (q 1), .int 0, .int 0, .ref (q 2), .ref (q 3), .ref (q 4), .ref (q 5), .ref (q 6), .ref (q 7), .ref (q 8), .ref (q 9), .ref (q 10), .ref (q 11), .ref (q 12), .ref (q 13), .ref (q 14), .ref (q 15), .ref (q 16), .int 0, .int 0, .int 0, .int 0, .int 0, .int 0, .ref (q 17), .ref (q 18), .ref (q 19), .ref (q 20)])), ((q 0), .inl (cI, 900, .inl f17))]) rfl (fun H locs hP hD hS => ?_)
  refine lv_iinc (v := 17) (lv' := [(6, .int 17), (7, .int a5), (0, .ref b), (1, .int a1), (2, .int a2), (3, .int a3), (4, .int a4), (5, .int a5)]) hx hb dX9_feed_114 hl (k := 1) rfl (by decide) (by decide) rfl (fun ls hl => ?_)
  refine lv_goto (tgt := 23) hx hb dX9_feed_117 (by decide) ?_
  refine lv_iload hx hb dX9_feed_23 (lv_at hl 0 rfl) ?_
  refine lv_bipush (v := 20) hx hb dX9_feed_25 (by decide) ?_
  refine lv_icmp_ge (tgt := 120) hx hb dX9_feed_27 (by decide) (fun h9 => absurd h9 (by decide)) (fun _ => ?_)
  refine lv_iload hx hb dX9_feed_30 (lv_at hl 0 rfl) ?_
  refine lv_iconst (v := 4) hx hb dX9_feed_32 (by decide) ?_
  refine lv_icmp_ge (tgt := 40) hx hb dX9_feed_33 (by decide) (fun _ => ?_) (fun h9 => absurd (by decide) h9)
  refine lv_iload hx hb dX9_feed_40 (lv_at hl 0 rfl) ?_
  refine lv_bipush (v := 8) hx hb dX9_feed_42 (by decide) ?_
  refine lv_icmp_ge (tgt := 51) hx hb dX9_feed_44 (by decide) (fun _ => ?_) (fun h9 => absurd (by decide) h9)
  refine lv_iload hx hb dX9_feed_51 (lv_at hl 0 rfl) ?_
  refine lv_bipush (v := 12) hx hb dX9_feed_53 (by decide) ?_
  refine lv_icmp_ge (tgt := 62) hx hb dX9_feed_55 (by decide) (fun _ => ?_) (fun h9 => absurd (by decide) h9)
  refine lv_iload hx hb dX9_feed_62 (lv_at hl 0 rfl) ?_
  refine lv_bipush (v := 16) hx hb dX9_feed_64 (by decide) ?_
  refine lv_icmp_ge (tgt := 74) hx hb dX9_feed_66 (by decide) (fun _ => ?_) (fun h9 => absurd (by decide) h9)
  refine lv_iload hx hb dX9_feed_74 (lv_at hl 7 rfl) ?_
  refine lv_istore (lv' := [(7, .int a5), (6, .int 17), (0, .ref b), (1, .int a1), (2, .int a2), (3, .int a3), (4, .int a4), (5, .int a5)]) hx hb dX9_feed_76 hl (by decide) rfl (fun ls hl => ?_)
  refine lv_aload_n hx hb dX9_feed_78 rfl (lv_at hl 2 rfl) ?_
  refine r_get F hK hP 0 1 rfl rfl in_X9 (by decide) k_1164 rfl dX9_feed_79 ?_
  refine lv_aload_n hx hb dX9_feed_82 rfl (lv_at hl 2 rfl) ?_
  refine r_get F hK hP 0 2 rfl rfl in_X9 (by decide) k_1165 rfl dX9_feed_83 ?_
  refine lv_iload hx hb dX9_feed_86 (lv_at hl 0 rfl) ?_
  refine lv_bipush (v := 24) hx hb dX9_feed_88 (by decide) ?_
  refine lv_bipush (v := 8) hx hb dX9_feed_90 (by decide) ?_
  refine lv_iload hx hb dX9_feed_92 (lv_at hl 1 rfl) ?_
  refine lv_iconst (v := 4) hx hb dX9_feed_94 (by decide) ?_
  refine r_irem (v := 1) F dX9_feed_95 (by decide) (by decide) ?_
  refine r_imul (v := 8) F dX9_feed_96 (by decide) ?_
  refine r_isub (v := 16) F dX9_feed_97 (by decide) ?_
  refine r_ishr (v := (a5 >>> (16 &&& 31))) F dX9_feed_98 rfl ?_
  refine lv_sipush (v := 255) hx hb dX9_feed_99 (by decide) ?_
  refine r_iand (v := ((a5 >>> (16 &&& 31)) &&& 255)) F dX9_feed_102 rfl ?_
  refine r_iastX F hK hP hD hS 1 0 rfl rfl (bw_vin (by decide)) dX9_feed_103 (w1 := fun f18 => [(b, .inr (9, [.int 0, .ref (q 0), .int 17, .int 0, .int 0, .int 0, .int 0, .int 0, .int 0, .int 0, .int (-1), .int 0, .ref (q 1), .int 0, .int 0, .ref (q 2), .ref (q 3), .ref (q 4), .ref (q 5), .ref (q 6), .ref (q 7), .ref (q 8), .ref (q 9), .ref (q 10), .ref (q 11), .ref (q 12), .ref (q 13), .ref (q 14), .ref (q 15), .ref (q 16), .int 0, .int 0, .int 0, .int 0, .int 0, .int 0, .ref (q 17), .ref (q 18), .ref (q 19), .ref (q 20)])), ((q 0), .inl (cI, 900, .inl f18))]) (fun _ => rfl) (fun f18 H locs hP hD hS => ?_)
  refine lv_aload_n hx hb dX9_feed_104 rfl (lv_at hl 2 rfl) ?_
  refine lv_dup hx hb dX9_feed_105 rfl ?_
  refine r_get F hK hP 0 2 rfl rfl in_X9 (by decide) k_1165 rfl dX9_feed_106 ?_
  refine lv_iconst (v := 1) hx hb dX9_feed_109 (by decide) ?_
  refine r_iadd (v := 18) F dX9_feed_110 (by decide) ?_
  refine r_put F hK hP hD hS 0 2 rfl rfl in_X9 tyX9 tyX9_ok nmX9 (by decide) k_1165 rfl rfl rfl (Nat.le_of_ble_eq_true rfl) dX9_feed_111 (w1 := [(b, .inr (9, [.int 0, .ref (q 0), .int 18, .int 0, .int 0, .int 0, .int 0, .int 0, .int 0, .int 0, .int (-1), .int 0, .ref (q 1), .int 0, .int 0, .ref (q 2), .ref (q 3), .ref (q 4), .ref (q 5), .ref (q 6), .ref (q 7), .ref (q 8), .ref (q 9), .ref (q 10), .ref (q 11), .ref (q 12), .ref (q 13), .ref (q 14), .ref (q 15), .ref (q 16), .int 0, .int 0, .int 0, .int 0, .int 0, .int 0, .ref (q 17), .ref (q 18), .ref (q 19), .ref (q 20)])), ((q 0), .inl (cI, 900, .inl f18))]) rfl (fun H locs hP hD hS => ?_)
  refine lv_iinc (v := 18) (lv' := [(6, .int 18), (7, .int a5), (0, .ref b), (1, .int a1), (2, .int a2), (3, .int a3), (4, .int a4), (5, .int a5)]) hx hb dX9_feed_114 hl (k := 1) rfl (by decide) (by decide) rfl (fun ls hl => ?_)
  refine lv_goto (tgt := 23) hx hb dX9_feed_117 (by decide) ?_
  refine lv_iload hx hb dX9_feed_23 (lv_at hl 0 rfl) ?_
  refine lv_bipush (v := 20) hx hb dX9_feed_25 (by decide) ?_
  refine lv_icmp_ge (tgt := 120) hx hb dX9_feed_27 (by decide) (fun h9 => absurd h9 (by decide)) (fun _ => ?_)
  refine lv_iload hx hb dX9_feed_30 (lv_at hl 0 rfl) ?_
  refine lv_iconst (v := 4) hx hb dX9_feed_32 (by decide) ?_
  refine lv_icmp_ge (tgt := 40) hx hb dX9_feed_33 (by decide) (fun _ => ?_) (fun h9 => absurd (by decide) h9)
  refine lv_iload hx hb dX9_feed_40 (lv_at hl 0 rfl) ?_
  refine lv_bipush (v := 8) hx hb dX9_feed_42 (by decide) ?_
  refine lv_icmp_ge (tgt := 51) hx hb dX9_feed_44 (by decide) (fun _ => ?_) (fun h9 => absurd (by decide) h9)
  refine lv_iload hx hb dX9_feed_51 (lv_at hl 0 rfl) ?_
  refine lv_bipush (v := 12) hx hb dX9_feed_53 (by decide) ?_
  refine lv_icmp_ge (tgt := 62) hx hb dX9_feed_55 (by decide) (fun _ => ?_) (fun h9 => absurd (by decide) h9)
  refine lv_iload hx hb dX9_feed_62 (lv_at hl 0 rfl) ?_
  refine lv_bipush (v := 16) hx hb dX9_feed_64 (by decide) ?_
  refine lv_icmp_ge (tgt := 74) hx hb dX9_feed_66 (by decide) (fun _ => ?_) (fun h9 => absurd (by decide) h9)
  refine lv_iload hx hb dX9_feed_74 (lv_at hl 7 rfl) ?_
  refine lv_istore (lv' := [(7, .int a5), (6, .int 18), (0, .ref b), (1, .int a1), (2, .int a2), (3, .int a3), (4, .int a4), (5, .int a5)]) hx hb dX9_feed_76 hl (by decide) rfl (fun ls hl => ?_)
  refine lv_aload_n hx hb dX9_feed_78 rfl (lv_at hl 2 rfl) ?_
  refine r_get F hK hP 0 1 rfl rfl in_X9 (by decide) k_1164 rfl dX9_feed_79 ?_
  refine lv_aload_n hx hb dX9_feed_82 rfl (lv_at hl 2 rfl) ?_
  refine r_get F hK hP 0 2 rfl rfl in_X9 (by decide) k_1165 rfl dX9_feed_83 ?_
  refine lv_iload hx hb dX9_feed_86 (lv_at hl 0 rfl) ?_
  refine lv_bipush (v := 24) hx hb dX9_feed_88 (by decide) ?_
  refine lv_bipush (v := 8) hx hb dX9_feed_90 (by decide) ?_
  refine lv_iload hx hb dX9_feed_92 (lv_at hl 1 rfl) ?_
  refine lv_iconst (v := 4) hx hb dX9_feed_94 (by decide) ?_
  refine r_irem (v := 2) F dX9_feed_95 (by decide) (by decide) ?_
  refine r_imul (v := 16) F dX9_feed_96 (by decide) ?_
  refine r_isub (v := 8) F dX9_feed_97 (by decide) ?_
  refine r_ishr (v := (a5 >>> (8 &&& 31))) F dX9_feed_98 rfl ?_
  refine lv_sipush (v := 255) hx hb dX9_feed_99 (by decide) ?_
  refine r_iand (v := ((a5 >>> (8 &&& 31)) &&& 255)) F dX9_feed_102 rfl ?_
  refine r_iastX F hK hP hD hS 1 0 rfl rfl (bw_vin (by decide)) dX9_feed_103 (w1 := fun f19 => [(b, .inr (9, [.int 0, .ref (q 0), .int 18, .int 0, .int 0, .int 0, .int 0, .int 0, .int 0, .int 0, .int (-1), .int 0, .ref (q 1), .int 0, .int 0, .ref (q 2), .ref (q 3), .ref (q 4), .ref (q 5), .ref (q 6), .ref (q 7), .ref (q 8), .ref (q 9), .ref (q 10), .ref (q 11), .ref (q 12), .ref (q 13), .ref (q 14), .ref (q 15), .ref (q 16), .int 0, .int 0, .int 0, .int 0, .int 0, .int 0, .ref (q 17), .ref (q 18), .ref (q 19), .ref (q 20)])), ((q 0), .inl (cI, 900, .inl f19))]) (fun _ => rfl) (fun f19 H locs hP hD hS => ?_)
  refine lv_aload_n hx hb dX9_feed_104 rfl (lv_at hl 2 rfl) ?_
  refine lv_dup hx hb dX9_feed_105 rfl ?_
  refine r_get F hK hP 0 2 rfl rfl in_X9 (by decide) k_1165 rfl dX9_feed_106 ?_
  refine lv_iconst (v := 1) hx hb dX9_feed_109 (by decide) ?_
  refine r_iadd (v := 19) F dX9_feed_110 (by decide) ?_
  refine r_put F hK hP hD hS 0 2 rfl rfl in_X9 tyX9 tyX9_ok nmX9 (by decide) k_1165 rfl rfl rfl (Nat.le_of_ble_eq_true rfl) dX9_feed_111 (w1 := [(b, .inr (9, [.int 0, .ref (q 0), .int 19, .int 0, .int 0, .int 0, .int 0, .int 0, .int 0, .int 0, .int (-1), .int 0, .ref (q 1), .int 0, .int 0, .ref (q 2), .ref (q 3), .ref (q 4), .ref (q 5), .ref (q 6), .ref (q 7), .ref (q 8), .ref (q 9), .ref (q 10), .ref (q 11), .ref (q 12), .ref (q 13), .ref (q 14), .ref (q 15), .ref (q 16), .int 0, .int 0, .int 0, .int 0, .int 0, .int 0, .ref (q 17), .ref (q 18), .ref (q 19), .ref (q 20)])), ((q 0), .inl (cI, 900, .inl f19))]) rfl (fun H locs hP hD hS => ?_)
  refine lv_iinc (v := 19) (lv' := [(6, .int 19), (7, .int a5), (0, .ref b), (1, .int a1), (2, .int a2), (3, .int a3), (4, .int a4), (5, .int a5)]) hx hb dX9_feed_114 hl (k := 1) rfl (by decide) (by decide) rfl (fun ls hl => ?_)
  refine lv_goto (tgt := 23) hx hb dX9_feed_117 (by decide) ?_
  refine lv_iload hx hb dX9_feed_23 (lv_at hl 0 rfl) ?_
  refine lv_bipush (v := 20) hx hb dX9_feed_25 (by decide) ?_
  refine lv_icmp_ge (tgt := 120) hx hb dX9_feed_27 (by decide) (fun h9 => absurd h9 (by decide)) (fun _ => ?_)
  refine lv_iload hx hb dX9_feed_30 (lv_at hl 0 rfl) ?_
  refine lv_iconst (v := 4) hx hb dX9_feed_32 (by decide) ?_
  refine lv_icmp_ge (tgt := 40) hx hb dX9_feed_33 (by decide) (fun _ => ?_) (fun h9 => absurd (by decide) h9)
  refine lv_iload hx hb dX9_feed_40 (lv_at hl 0 rfl) ?_
  refine lv_bipush (v := 8) hx hb dX9_feed_42 (by decide) ?_
  refine lv_icmp_ge (tgt := 51) hx hb dX9_feed_44 (by decide) (fun _ => ?_) (fun h9 => absurd (by decide) h9)
  refine lv_iload hx hb dX9_feed_51 (lv_at hl 0 rfl) ?_
  refine lv_bipush (v := 12) hx hb dX9_feed_53 (by decide) ?_
  refine lv_icmp_ge (tgt := 62) hx hb dX9_feed_55 (by decide) (fun _ => ?_) (fun h9 => absurd (by decide) h9)
  refine lv_iload hx hb dX9_feed_62 (lv_at hl 0 rfl) ?_
  refine lv_bipush (v := 16) hx hb dX9_feed_64 (by decide) ?_
  refine lv_icmp_ge (tgt := 74) hx hb dX9_feed_66 (by decide) (fun _ => ?_) (fun h9 => absurd (by decide) h9)
  refine lv_iload hx hb dX9_feed_74 (lv_at hl 7 rfl) ?_
  refine lv_istore (lv' := [(7, .int a5), (6, .int 19), (0, .ref b), (1, .int a1), (2, .int a2), (3, .int a3), (4, .int a4), (5, .int a5)]) hx hb dX9_feed_76 hl (by decide) rfl (fun ls hl => ?_)
  refine lv_aload_n hx hb dX9_feed_78 rfl (lv_at hl 2 rfl) ?_
  refine r_get F hK hP 0 1 rfl rfl in_X9 (by decide) k_1164 rfl dX9_feed_79 ?_
  refine lv_aload_n hx hb dX9_feed_82 rfl (lv_at hl 2 rfl) ?_
  refine r_get F hK hP 0 2 rfl rfl in_X9 (by decide) k_1165 rfl dX9_feed_83 ?_
  refine lv_iload hx hb dX9_feed_86 (lv_at hl 0 rfl) ?_
  refine lv_bipush (v := 24) hx hb dX9_feed_88 (by decide) ?_
  refine lv_bipush (v := 8) hx hb dX9_feed_90 (by decide) ?_
  refine lv_iload hx hb dX9_feed_92 (lv_at hl 1 rfl) ?_
  refine lv_iconst (v := 4) hx hb dX9_feed_94 (by decide) ?_
  refine r_irem (v := 3) F dX9_feed_95 (by decide) (by decide) ?_
  refine r_imul (v := 24) F dX9_feed_96 (by decide) ?_
  refine r_isub (v := 0) F dX9_feed_97 (by decide) ?_
  refine r_ishr (v := (a5 >>> (0 &&& 31))) F dX9_feed_98 rfl ?_
  refine lv_sipush (v := 255) hx hb dX9_feed_99 (by decide) ?_
  refine r_iand (v := ((a5 >>> (0 &&& 31)) &&& 255)) F dX9_feed_102 rfl ?_
  refine r_iastX F hK hP hD hS 1 0 rfl rfl (bw_vin (by decide)) dX9_feed_103 (w1 := fun f20 => [(b, .inr (9, [.int 0, .ref (q 0), .int 19, .int 0, .int 0, .int 0, .int 0, .int 0, .int 0, .int 0, .int (-1), .int 0, .ref (q 1), .int 0, .int 0, .ref (q 2), .ref (q 3), .ref (q 4), .ref (q 5), .ref (q 6), .ref (q 7), .ref (q 8), .ref (q 9), .ref (q 10), .ref (q 11), .ref (q 12), .ref (q 13), .ref (q 14), .ref (q 15), .ref (q 16), .int 0, .int 0, .int 0, .int 0, .int 0, .int 0, .ref (q 17), .ref (q 18), .ref (q 19), .ref (q 20)])), ((q 0), .inl (cI, 900, .inl f20))]) (fun _ => rfl) (fun f20 H locs hP hD hS => ?_)
  refine lv_aload_n hx hb dX9_feed_104 rfl (lv_at hl 2 rfl) ?_
  refine lv_dup hx hb dX9_feed_105 rfl ?_
  refine r_get F hK hP 0 2 rfl rfl in_X9 (by decide) k_1165 rfl dX9_feed_106 ?_
  refine lv_iconst (v := 1) hx hb dX9_feed_109 (by decide) ?_
  refine r_iadd (v := 20) F dX9_feed_110 (by decide) ?_
  refine r_put F hK hP hD hS 0 2 rfl rfl in_X9 tyX9 tyX9_ok nmX9 (by decide) k_1165 rfl rfl rfl (Nat.le_of_ble_eq_true rfl) dX9_feed_111 (w1 := [(b, .inr (9, [.int 0, .ref (q 0), .int 20, .int 0, .int 0, .int 0, .int 0, .int 0, .int 0, .int 0, .int (-1), .int 0, .ref (q 1), .int 0, .int 0, .ref (q 2), .ref (q 3), .ref (q 4), .ref (q 5), .ref (q 6), .ref (q 7), .ref (q 8), .ref (q 9), .ref (q 10), .ref (q 11), .ref (q 12), .ref (q 13), .ref (q 14), .ref (q 15), .ref (q 16), .int 0, .int 0, .int 0, .int 0, .int 0, .int 0, .ref (q 17), .ref (q 18), .ref (q 19), .ref (q 20)])), ((q 0), .inl (cI, 900, .inl f20))]) rfl (fun H locs hP hD hS => ?_)
  refine lv_iinc (v := 20) (lv' := [(6, .int 20), (7, .int a5), (0, .ref b), (1, .int a1), (2, .int a2), (3, .int a3), (4, .int a4), (5, .int a5)]) hx hb dX9_feed_114 hl (k := 1) rfl (by decide) (by decide) rfl (fun ls hl => ?_)
  refine lv_goto (tgt := 23) hx hb dX9_feed_117 (by decide) ?_
  refine lv_iload hx hb dX9_feed_23 (lv_at hl 0 rfl) ?_
  refine lv_bipush (v := 20) hx hb dX9_feed_25 (by decide) ?_
  refine lv_icmp_ge (tgt := 120) hx hb dX9_feed_27 (by decide) (fun _ => ?_) (fun h9 => absurd (by decide) h9)
  refine lv_aload_n hx hb dX9_feed_120 rfl (lv_at hl 2 rfl) ?_
  refine r_get F hK hP 0 2 rfl rfl in_X9 (by decide) k_1165 rfl dX9_feed_121 ?_
  exact ret 20 (fun _ => 0, fun _ _ => 0) _ _ _ _ _ _ rfl rfl (bw_subP (isC := []) hP rfl) (hD.sub [] (by decide) rfl) hS (Nat.le_of_ble_eq_true rfl) (Nat.le_of_ble_eq_true rfl) dX9_feed_124
