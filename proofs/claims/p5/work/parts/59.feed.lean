theorem dX9_feed_0 : decode cX9_feed 0 = .ok (.aload_n 0, 1) := by decide +kernel
theorem dX9_feed_1 : decode cX9_feed 1 = .ok (.iconst 0, 1) := by decide +kernel
theorem dX9_feed_2 : decode cX9_feed 2 = .ok (.putfield 77, 3) := by decide +kernel
theorem dX9_feed_5 : decode cX9_feed 5 = .ok (.aload_n 0, 1) := by decide +kernel
theorem dX9_feed_6 : decode cX9_feed 6 = .ok (.getfield 83, 3) := by decide +kernel
theorem dX9_feed_9 : decode cX9_feed 9 = .ok (.bipush 20, 2) := by decide +kernel
theorem dX9_feed_11 : decode cX9_feed 11 = .ok (.iadd, 1) := by decide +kernel
theorem dX9_feed_12 : decode cX9_feed 12 = .ok (.sipush 900, 3) := by decide +kernel
theorem dX9_feed_15 : decode cX9_feed 15 = .ok (.if_icmp .le 5, 3) := by decide +kernel
theorem dX9_feed_20 : decode cX9_feed 20 = .ok (.iconst 0, 1) := by decide +kernel
theorem dX9_feed_21 : decode cX9_feed 21 = .ok (.istore 6, 2) := by decide +kernel
theorem dX9_feed_23 : decode cX9_feed 23 = .ok (.iload 6, 2) := by decide +kernel
theorem dX9_feed_25 : decode cX9_feed 25 = .ok (.bipush 20, 2) := by decide +kernel
theorem dX9_feed_27 : decode cX9_feed 27 = .ok (.if_icmp .ge 93, 3) := by decide +kernel
theorem dX9_feed_120 : decode cX9_feed 120 = .ok (.aload_n 0, 1) := by decide +kernel
theorem dX9_feed_121 : decode cX9_feed 121 = .ok (.getfield 83, 3) := by decide +kernel
theorem dX9_feed_124 : decode cX9_feed 124 = .ok (.ireturn, 1) := by decide +kernel
theorem dX9_feed_30 : decode cX9_feed 30 = .ok (.iload 6, 2) := by decide +kernel
theorem dX9_feed_32 : decode cX9_feed 32 = .ok (.iconst 4, 1) := by decide +kernel
theorem dX9_feed_33 : decode cX9_feed 33 = .ok (.if_icmp .ge 7, 3) := by decide +kernel
theorem dX9_feed_40 : decode cX9_feed 40 = .ok (.iload 6, 2) := by decide +kernel
theorem dX9_feed_42 : decode cX9_feed 42 = .ok (.bipush 8, 2) := by decide +kernel
theorem dX9_feed_44 : decode cX9_feed 44 = .ok (.if_icmp .ge 7, 3) := by decide +kernel
theorem dX9_feed_51 : decode cX9_feed 51 = .ok (.iload 6, 2) := by decide +kernel
theorem dX9_feed_53 : decode cX9_feed 53 = .ok (.bipush 12, 2) := by decide +kernel
theorem dX9_feed_55 : decode cX9_feed 55 = .ok (.if_icmp .ge 7, 3) := by decide +kernel
theorem dX9_feed_62 : decode cX9_feed 62 = .ok (.iload 6, 2) := by decide +kernel
theorem dX9_feed_64 : decode cX9_feed 64 = .ok (.bipush 16, 2) := by decide +kernel
theorem dX9_feed_66 : decode cX9_feed 66 = .ok (.if_icmp .ge 8, 3) := by decide +kernel
theorem dX9_feed_74 : decode cX9_feed 74 = .ok (.iload 5, 2) := by decide +kernel
theorem dX9_feed_76 : decode cX9_feed 76 = .ok (.istore 7, 2) := by decide +kernel
theorem dX9_feed_78 : decode cX9_feed 78 = .ok (.aload_n 0, 1) := by decide +kernel
theorem dX9_feed_79 : decode cX9_feed 79 = .ok (.getfield 7, 3) := by decide +kernel
theorem dX9_feed_82 : decode cX9_feed 82 = .ok (.aload_n 0, 1) := by decide +kernel
theorem dX9_feed_83 : decode cX9_feed 83 = .ok (.getfield 83, 3) := by decide +kernel
theorem dX9_feed_86 : decode cX9_feed 86 = .ok (.iload 7, 2) := by decide +kernel
theorem dX9_feed_88 : decode cX9_feed 88 = .ok (.bipush 24, 2) := by decide +kernel
theorem dX9_feed_90 : decode cX9_feed 90 = .ok (.bipush 8, 2) := by decide +kernel
theorem dX9_feed_92 : decode cX9_feed 92 = .ok (.iload 6, 2) := by decide +kernel
theorem dX9_feed_94 : decode cX9_feed 94 = .ok (.iconst 4, 1) := by decide +kernel
theorem dX9_feed_95 : decode cX9_feed 95 = .ok (.irem, 1) := by decide +kernel
theorem dX9_feed_96 : decode cX9_feed 96 = .ok (.imul, 1) := by decide +kernel
theorem dX9_feed_97 : decode cX9_feed 97 = .ok (.isub, 1) := by decide +kernel
theorem dX9_feed_98 : decode cX9_feed 98 = .ok (.ishr, 1) := by decide +kernel
theorem dX9_feed_99 : decode cX9_feed 99 = .ok (.sipush 255, 3) := by decide +kernel
theorem dX9_feed_102 : decode cX9_feed 102 = .ok (.iand, 1) := by decide +kernel
theorem dX9_feed_103 : decode cX9_feed 103 = .ok (.iastore, 1) := by decide +kernel
theorem dX9_feed_104 : decode cX9_feed 104 = .ok (.aload_n 0, 1) := by decide +kernel
theorem dX9_feed_105 : decode cX9_feed 105 = .ok (.dup, 1) := by decide +kernel
theorem dX9_feed_106 : decode cX9_feed 106 = .ok (.getfield 83, 3) := by decide +kernel
theorem dX9_feed_109 : decode cX9_feed 109 = .ok (.iconst 1, 1) := by decide +kernel
theorem dX9_feed_110 : decode cX9_feed 110 = .ok (.iadd, 1) := by decide +kernel
theorem dX9_feed_111 : decode cX9_feed 111 = .ok (.putfield 83, 3) := by decide +kernel
theorem dX9_feed_114 : decode cX9_feed 114 = .ok (.iinc 6 1, 3) := by decide +kernel
theorem dX9_feed_117 : decode cX9_feed 117 = .ok (.goto (-94), 3) := by decide +kernel
theorem dX9_feed_69 : decode cX9_feed 69 = .ok (.iload 4, 2) := by decide +kernel
theorem dX9_feed_71 : decode cX9_feed 71 = .ok (.goto 5, 3) := by decide +kernel
theorem dX9_feed_58 : decode cX9_feed 58 = .ok (.iload_n 3, 1) := by decide +kernel
theorem dX9_feed_59 : decode cX9_feed 59 = .ok (.goto 17, 3) := by decide +kernel
theorem dX9_feed_47 : decode cX9_feed 47 = .ok (.iload_n 2, 1) := by decide +kernel
theorem dX9_feed_48 : decode cX9_feed 48 = .ok (.goto 28, 3) := by decide +kernel
theorem dX9_feed_36 : decode cX9_feed 36 = .ok (.iload_n 1, 1) := by decide +kernel
theorem dX9_feed_37 : decode cX9_feed 37 = .ok (.goto 39, 3) := by decide +kernel
theorem dX9_feed_18 : decode cX9_feed 18 = .ok (.iconst (-1), 1) := by decide +kernel
theorem dX9_feed_19 : decode cX9_feed 19 = .ok (.ireturn, 1) := by decide +kernel
abbrev rm_X9_feed : Room := { frames := 0, cells := 0, slots := 0, locals := 0 }
set_option maxRecDepth 100000 in
set_option maxHeartbeats 8000000 in
theorem c_X9_feed {l : Launch} {E : (Nat → Prop) → State → Prop} (hO : bw_Ok E) {G : va_G} {cI cB cJ cN cW : ClassId} (y : Nat) (q : Nat → Nat) (i : Nat → Int) (hM : ModOk i) (g_tape : Nat → Int) (hr_tape : ∀ k, k < 900 → (-2147483648) ≤ g_tape k ∧ g_tape k ≤ 2147483647) (x0 : Int) (x1 : Int) (x2 : Int) (x3 : Int) (x4 : Int) (hx09 : zR x0) (hx19 : zR x1) (hx29 : zR x2) (hx39 : zR x3) (hx49 : zR x4)  : bw_Ci (S := zV) l yX9_feed (bw_ws (Cond.code yX9_feed cX9_feed 8 (some .int))) rm_X9_feed E G (bw_kt cI cB cJ cN cW) [.ref y, .int (zI x0), .int (zI x1), .int (zI x2), .int (zI x3), .int (zI x4)] [(y, .inr (9, [.int (zI (i 0)), .ref (q 0), .int (zI (i 1)), .int (zI (i 2)), .int (zI (i 3)), .int (zI (i 4)), .int (zI (i 5)), .int (zI (i 6)), .int (zI (i 7)), .int (zI (i 8)), .int (zI (i 9)), .int (zI (i 10)), .ref (q 1), .int (zI (i 11)), .int (zI (i 12)), .ref (q 2), .ref (q 3), .ref (q 4), .ref (q 5), .ref (q 6), .ref (q 7), .ref (q 8), .ref (q 9), .ref (q 10), .ref (q 11), .ref (q 12), .ref (q 13), .ref (q 14), .ref (q 15), .ref (q 16), .int (zI (i 13)), .int (zI (i 14)), .int (zI (i 15)), .int (zI (i 16)), .int (zI (i 17)), .int (zI (i 18)), .ref (q 17), .ref (q 18), .ref (q 19), .ref (q 20)])), ((q 0), .inl (cI, 900, .inl (fun k => zI (g_tape k))))] (fun r u => ∃ z : Int, r = zI z ∧ (ModOk (u 0).1) ∧ (∀ k, k < 900 → (-2147483648) ≤ ((u 1).2 0) k ∧ ((u 1).2 0) k ≤ 2147483647) ∧ ((i 1 ≤ 880 ∧ z = i 1 + 20 ∧ (u 0).1 1 = i 1 + 20) ∨ (880 < i 1 ∧ z = -1 ∧ (u 0).1 1 = i 1))) (fun u => [(y, .inr (9, [.int (zI ((u 0).1 0)), .ref (q 0), .int (zI ((u 0).1 1)), .int (zI ((u 0).1 2)), .int (zI ((u 0).1 3)), .int (zI ((u 0).1 4)), .int (zI ((u 0).1 5)), .int (zI ((u 0).1 6)), .int (zI ((u 0).1 7)), .int (zI ((u 0).1 8)), .int (zI ((u 0).1 9)), .int (zI ((u 0).1 10)), .ref (q 1), .int (zI ((u 0).1 11)), .int (zI ((u 0).1 12)), .ref (q 2), .ref (q 3), .ref (q 4), .ref (q 5), .ref (q 6), .ref (q 7), .ref (q 8), .ref (q 9), .ref (q 10), .ref (q 11), .ref (q 12), .ref (q 13), .ref (q 14), .ref (q 15), .ref (q 16), .int (zI ((u 0).1 13)), .int (zI ((u 0).1 14)), .int (zI ((u 0).1 15)), .int (zI ((u 0).1 16)), .int (zI ((u 0).1 17)), .int (zI ((u 0).1 18)), .ref (q 17), .ref (q 18), .ref (q 19), .ref (q 20)])), ((q 0), .inl (cI, 900, .inl (fun k => zI (((u 1).2 0) k))))]) := by
  refine bw_Ci.of (cc := cX9_feed) (maxL := 8) (ty := .int) (by decide) rfl (Nat.le_of_ble_eq_true rfl) ?_
  intro p e s m below meth c A Q hx hb hml hts hown hin hK hA hS hP hD hE ret ls hl
  have F : CallFix p m c cX9_feed 8 s ([.ref y, .int (zI x0), .int (zI x1), .int (zI x2), .int (zI x3), .int (zI x4)] : List Value).toArray bw_T RX9 := ⟨hx, hb, hml, hown, fun w h => hts w (List.mem_cons_of_mem _ h)⟩
  replace hl : lv_has ls 8 [(0, .ref y), (1, .int (zI x0)), (2, .int (zI x1)), (3, .int (zI x2)), (4, .int (zI x3)), (5, .int (zI x4))] := hl
  have hf1 := hM.1
  refine lv_aload_n hx hb dX9_feed_0 rfl (lv_at hl 0 rfl) ?_
  refine lv_iconst (v := zI 0) hx hb dX9_feed_1 rfl ?_
  refine r_put F hK hP hD hS 0 0 rfl rfl in_X9 tyX9 tyX9_ok nmX9 (by decide) k_1163 rfl rfl rfl (Nat.le_of_ble_eq_true rfl) dX9_feed_2 (w1 := [(y, .inr (9, [.int (zI 0), .ref (q 0), .int (zI (i 1)), .int (zI (i 2)), .int (zI (i 3)), .int (zI (i 4)), .int (zI (i 5)), .int (zI (i 6)), .int (zI (i 7)), .int (zI (i 8)), .int (zI (i 9)), .int (zI (i 10)), .ref (q 1), .int (zI (i 11)), .int (zI (i 12)), .ref (q 2), .ref (q 3), .ref (q 4), .ref (q 5), .ref (q 6), .ref (q 7), .ref (q 8), .ref (q 9), .ref (q 10), .ref (q 11), .ref (q 12), .ref (q 13), .ref (q 14), .ref (q 15), .ref (q 16), .int (zI (i 13)), .int (zI (i 14)), .int (zI (i 15)), .int (zI (i 16)), .int (zI (i 17)), .int (zI (i 18)), .ref (q 17), .ref (q 18), .ref (q 19), .ref (q 20)])), ((q 0), .inl (cI, 900, .inl (fun k => zI (g_tape k))))]) rfl (fun H locs hP hD hS => ?_)
  refine lv_aload_n hx hb dX9_feed_5 rfl (lv_at hl 0 rfl) ?_
  refine r_get F hK hP 0 2 rfl rfl in_X9 (by decide) k_1165 rfl dX9_feed_6 ?_
  refine lv_bipush (v := zI 20) hx hb dX9_feed_9 (by decide) ?_
  refine r_iadd (v := zI ((i 1) + 20)) F dX9_feed_11 (zI_add _ _) ?_
  refine lv_sipush (v := zI 900) hx hb dX9_feed_12 (by decide) ?_
  refine rz_icmp_le (tgt := 20) F (by omega) (by omega) dX9_feed_15 (by decide) (fun h15_1 => ?_) (fun h15_1 => ?_)
  · refine lv_iconst (v := zI 0) hx hb dX9_feed_20 rfl ?_
    refine lv_istore (lv' := [(6, .int (zI 0)), (0, .ref y), (1, .int (zI x0)), (2, .int (zI x1)), (3, .int (zI x2)), (4, .int (zI x3)), (5, .int (zI x4))]) hx hb dX9_feed_21 hl (by decide) rfl (fun ls hl => ?_)
    obtain ⟨i3, e_i3⟩ : ∃ i3 : Nat → Int, i3 = fun k => [0, (i 1), (i 2), (i 3), (i 4), (i 5), (i 6), (i 7), (i 8), (i 9), (i 10), (i 11), (i 12), (i 13), (i 14), (i 15), (i 16), (i 17), (i 18)].getD k 0 := ⟨_, rfl⟩
    have e_i3_0 : i3 0 = 0 := by rw [e_i3]; rfl
    have e_i3_1 : i3 1 = (i 1) := by rw [e_i3]; rfl
    have e_i3_2 : i3 2 = (i 2) := by rw [e_i3]; rfl
    have e_i3_3 : i3 3 = (i 3) := by rw [e_i3]; rfl
    have e_i3_4 : i3 4 = (i 4) := by rw [e_i3]; rfl
    have e_i3_5 : i3 5 = (i 5) := by rw [e_i3]; rfl
    have e_i3_6 : i3 6 = (i 6) := by rw [e_i3]; rfl
    have e_i3_7 : i3 7 = (i 7) := by rw [e_i3]; rfl
    have e_i3_8 : i3 8 = (i 8) := by rw [e_i3]; rfl
    have e_i3_9 : i3 9 = (i 9) := by rw [e_i3]; rfl
    have e_i3_10 : i3 10 = (i 10) := by rw [e_i3]; rfl
    have e_i3_11 : i3 11 = (i 11) := by rw [e_i3]; rfl
    have e_i3_12 : i3 12 = (i 12) := by rw [e_i3]; rfl
    have e_i3_13 : i3 13 = (i 13) := by rw [e_i3]; rfl
    have e_i3_14 : i3 14 = (i 14) := by rw [e_i3]; rfl
    have e_i3_15 : i3 15 = (i 15) := by rw [e_i3]; rfl
    have e_i3_16 : i3 16 = (i 16) := by rw [e_i3]; rfl
    have e_i3_17 : i3 17 = (i 17) := by rw [e_i3]; rfl
    have e_i3_18 : i3 18 = (i 18) := by rw [e_i3]; rfl
    have hO4 : ModOk i3 := by have hold9 := hM.1; have hold8 : _ → _ := hM.2; refine ⟨⟨⟨?_, ?_, ?_, ?_, ?_⟩, ⟨?_, ?_, ?_, ?_, ?_, ?_⟩, ⟨?_, ?_, ?_, ?_⟩⟩, fun q5 => ?_⟩ <;> omega
    have hf5 := hO4.1
    have hP : va_P G vwCl [(y, .inr (9, [.int (zI (i3 0)), .ref (q 0), .int (zI (i3 1)), .int (zI (i3 2)), .int (zI (i3 3)), .int (zI (i3 4)), .int (zI (i3 5)), .int (zI (i3 6)), .int (zI (i3 7)), .int (zI (i3 8)), .int (zI (i3 9)), .int (zI (i3 10)), .ref (q 1), .int (zI (i3 11)), .int (zI (i3 12)), .ref (q 2), .ref (q 3), .ref (q 4), .ref (q 5), .ref (q 6), .ref (q 7), .ref (q 8), .ref (q 9), .ref (q 10), .ref (q 11), .ref (q 12), .ref (q 13), .ref (q 14), .ref (q 15), .ref (q 16), .int (zI (i3 13)), .int (zI (i3 14)), .int (zI (i3 15)), .int (zI (i3 16)), .int (zI (i3 17)), .int (zI (i3 18)), .ref (q 17), .ref (q 18), .ref (q 19), .ref (q 20)])), ((q 0), .inl (cI, 900, .inl (fun k => zI (g_tape k))))] H := by subst e_i3; exact hP
    have hD : va_D A [(y, .inr (9, [.int (zI (i3 0)), .ref (q 0), .int (zI (i3 1)), .int (zI (i3 2)), .int (zI (i3 3)), .int (zI (i3 4)), .int (zI (i3 5)), .int (zI (i3 6)), .int (zI (i3 7)), .int (zI (i3 8)), .int (zI (i3 9)), .int (zI (i3 10)), .ref (q 1), .int (zI (i3 11)), .int (zI (i3 12)), .ref (q 2), .ref (q 3), .ref (q 4), .ref (q 5), .ref (q 6), .ref (q 7), .ref (q 8), .ref (q 9), .ref (q 10), .ref (q 11), .ref (q 12), .ref (q 13), .ref (q 14), .ref (q 15), .ref (q 16), .int (zI (i3 13)), .int (zI (i3 14)), .int (zI (i3 15)), .int (zI (i3 16)), .int (zI (i3 17)), .int (zI (i3 18)), .ref (q 17), .ref (q 18), .ref (q 19), .ref (q 20)])), ((q 0), .inl (cI, 900, .inl (fun k => zI (g_tape k))))] := by subst e_i3; exact hD
    refine W.widen (k := 0) (n := 0) (Nat.le_of_ble_eq_true rfl) (Nat.le_of_ble_eq_true rfl) ?_
    refine (?_ : ∀ (n9_1 : Nat) (v6 : Int) (gt9 : Nat → Int) (ii : Nat → Int) (H : Heap) (locs : List Loc), (0 ≤ v6 ∧ v6 ≤ 20 ∧ ii 1 = i 1 + v6) → (20 - v6 : Int).toNat < n9_1 → (ModOk ii) → (∀ k, k < 900 → (-2147483648) ≤ gt9 k ∧ gt9 k ≤ 2147483647) → va_P G vwCl [(y, .inr (9, [.int (zI (ii 0)), .ref (q 0), .int (zI (ii 1)), .int (zI (ii 2)), .int (zI (ii 3)), .int (zI (ii 4)), .int (zI (ii 5)), .int (zI (ii 6)), .int (zI (ii 7)), .int (zI (ii 8)), .int (zI (ii 9)), .int (zI (ii 10)), .ref (q 1), .int (zI (ii 11)), .int (zI (ii 12)), .ref (q 2), .ref (q 3), .ref (q 4), .ref (q 5), .ref (q 6), .ref (q 7), .ref (q 8), .ref (q 9), .ref (q 10), .ref (q 11), .ref (q 12), .ref (q 13), .ref (q 14), .ref (q 15), .ref (q 16), .int (zI (ii 13)), .int (zI (ii 14)), .int (zI (ii 15)), .int (zI (ii 16)), .int (zI (ii 17)), .int (zI (ii 18)), .ref (q 17), .ref (q 18), .ref (q 19), .ref (q 20)])), ((q 0), .inl (cI, 900, .inl (fun k => zI (gt9 k))))] H → va_D A [(y, .inr (9, [.int (zI (ii 0)), .ref (q 0), .int (zI (ii 1)), .int (zI (ii 2)), .int (zI (ii 3)), .int (zI (ii 4)), .int (zI (ii 5)), .int (zI (ii 6)), .int (zI (ii 7)), .int (zI (ii 8)), .int (zI (ii 9)), .int (zI (ii 10)), .ref (q 1), .int (zI (ii 11)), .int (zI (ii 12)), .ref (q 2), .ref (q 3), .ref (q 4), .ref (q 5), .ref (q 6), .ref (q 7), .ref (q 8), .ref (q 9), .ref (q 10), .ref (q 11), .ref (q 12), .ref (q 13), .ref (q 14), .ref (q 15), .ref (q 16), .int (zI (ii 13)), .int (zI (ii 14)), .int (zI (ii 15)), .int (zI (ii 16)), .int (zI (ii 17)), .int (zI (ii 18)), .ref (q 17), .ref (q 18), .ref (q 19), .ref (q 20)])), ((q 0), .inl (cI, 900, .inl (fun k => zI (gt9 k))))] → va_S A s.heap H locs → ∀ ls : Array Slot, lv_has ls 8 [(6, .int (zI v6)), (0, .ref y), (1, .int (zI x0)), (2, .int (zI x1)), (3, .int (zI x2)), (4, .int (zI x3)), (5, .int (zI x4))] → W p l e rm_X9_feed s m ([.ref y, .int (zI x0), .int (zI x1), .int (zI x2), .int (zI x3), .int (zI x4)] : List Value).toArray below meth c H locs 0 0 Q (F0 m 23 ls [])) ((20 - 0 : Int).toNat + 1) 0 g_tape i3 _ _ (by omega) (by omega) hO4 hr_tape hP hD hS ls hl
    clear hP hD hS hl ls
    intro n9_1
    induction n9_1 with
    | zero =>
      intro v6 gt9 ii H locs hI hM
      exact absurd hM (by omega)
    | succ n9_1 ih1 =>
      intro v6 gt9 ii H locs hI1 hM1 hG h_gt9 hP hD hS ls hl
      have hf6 := hG.1
      refine lv_iload hx hb dX9_feed_23 (lv_at hl 0 rfl) ?_
      refine lv_bipush (v := zI 20) hx hb dX9_feed_25 (by decide) ?_
      refine rz_icmp_ge (tgt := 120) F (by omega) (by omega) dX9_feed_27 (by decide) (fun h27_6 => ?_) (fun h27_6 => ?_)
      · refine lv_aload_n hx hb dX9_feed_120 rfl (lv_at hl 1 rfl) ?_
        refine r_get F hK hP 0 2 rfl rfl in_X9 (by decide) k_1165 rfl dX9_feed_121 ?_
        exact ret (zI (ii 1)) (fun k => [(ii, fun _ _ => 0), (fun _ => 0, fun _ => gt9)].getD k (fun _ => 0, fun _ _ => 0)) _ _ _ _ _ _ rfl ⟨(ii 1), rfl, hG, h_gt9, (show (i 1 ≤ 880 ∧ ((ii 1) : Int) = i 1 + 20 ∧ ii 1 = i 1 + 20) ∨ (880 < i 1 ∧ ((ii 1) : Int) = -1 ∧ ii 1 = i 1) from by omega)⟩ (bw_subP (isC := [0, 1]) hP rfl) (hD.sub [0, 1] (by decide) rfl) hS (Nat.le_of_ble_eq_true rfl) (Nat.le_of_ble_eq_true rfl) dX9_feed_124
      · refine lv_iload hx hb dX9_feed_30 (lv_at hl 0 rfl) ?_
        refine lv_iconst (v := zI 4) hx hb dX9_feed_32 rfl ?_
        refine rz_icmp_ge (tgt := 40) F (by omega) (by omega) dX9_feed_33 (by decide) (fun h33_7 => ?_) (fun h33_7 => ?_)
        · refine lv_iload hx hb dX9_feed_40 (lv_at hl 0 rfl) ?_
          refine lv_bipush (v := zI 8) hx hb dX9_feed_42 (by decide) ?_
          refine rz_icmp_ge (tgt := 51) F (by omega) (by omega) dX9_feed_44 (by decide) (fun h44_8 => ?_) (fun h44_8 => ?_)
          · refine lv_iload hx hb dX9_feed_51 (lv_at hl 0 rfl) ?_
            refine lv_bipush (v := zI 12) hx hb dX9_feed_53 (by decide) ?_
            refine rz_icmp_ge (tgt := 62) F (by omega) (by omega) dX9_feed_55 (by decide) (fun h55_9 => ?_) (fun h55_9 => ?_)
            · refine lv_iload hx hb dX9_feed_62 (lv_at hl 0 rfl) ?_
              refine lv_bipush (v := zI 16) hx hb dX9_feed_64 (by decide) ?_
              refine rz_icmp_ge (tgt := 74) F (by omega) (by omega) dX9_feed_66 (by decide) (fun h66_10 => ?_) (fun h66_10 => ?_)
              · refine lv_iload hx hb dX9_feed_74 (lv_at hl 6 rfl) ?_
                refine lv_istore (lv' := [(7, .int (zI x4)), (6, .int (zI v6)), (0, .ref y), (1, .int (zI x0)), (2, .int (zI x1)), (3, .int (zI x2)), (4, .int (zI x3)), (5, .int (zI x4))]) hx hb dX9_feed_76 hl (by decide) rfl (fun ls hl => ?_)
                refine lv_aload_n hx hb dX9_feed_78 rfl (lv_at hl 2 rfl) ?_
                refine r_get F hK hP 0 1 rfl rfl in_X9 (by decide) k_1164 rfl dX9_feed_79 ?_
                refine lv_aload_n hx hb dX9_feed_82 rfl (lv_at hl 2 rfl) ?_
                refine r_get F hK hP 0 2 rfl rfl in_X9 (by decide) k_1165 rfl dX9_feed_83 ?_
                refine lv_iload hx hb dX9_feed_86 (lv_at hl 0 rfl) ?_
                refine lv_bipush (v := zI 24) hx hb dX9_feed_88 (by decide) ?_
                refine lv_bipush (v := zI 8) hx hb dX9_feed_90 (by decide) ?_
                refine lv_iload hx hb dX9_feed_92 (lv_at hl 1 rfl) ?_
                refine lv_iconst (v := zI 4) hx hb dX9_feed_94 rfl ?_
                refine rz_irem F (by omega) (by omega) dX9_feed_95 (fun z12 h_z12 => ?_)
                refine r_imul (v := zI (8 * z12)) F dX9_feed_96 (zI_mul _ _) ?_
                refine r_isub (v := zI (24 - (8 * z12))) F dX9_feed_97 (zI_sub _ _) ?_
                refine lv_ishr hx hb dX9_feed_98 ?_
                refine rz_top (fun z13 h_z13 => ?_)
                refine lv_sipush (v := zI 255) hx hb dX9_feed_99 (by decide) ?_
                refine lv_iand hx hb dX9_feed_102 ?_
                refine rz_top (fun z14 h_z14 => ?_)
                refine rz_iastG F hK hP hD hS 1 0 rfl rfl (by omega) (by omega) dX9_feed_103 (w1 := fun g15 => [(y, .inr (9, [.int (zI (ii 0)), .ref (q 0), .int (zI (ii 1)), .int (zI (ii 2)), .int (zI (ii 3)), .int (zI (ii 4)), .int (zI (ii 5)), .int (zI (ii 6)), .int (zI (ii 7)), .int (zI (ii 8)), .int (zI (ii 9)), .int (zI (ii 10)), .ref (q 1), .int (zI (ii 11)), .int (zI (ii 12)), .ref (q 2), .ref (q 3), .ref (q 4), .ref (q 5), .ref (q 6), .ref (q 7), .ref (q 8), .ref (q 9), .ref (q 10), .ref (q 11), .ref (q 12), .ref (q 13), .ref (q 14), .ref (q 15), .ref (q 16), .int (zI (ii 13)), .int (zI (ii 14)), .int (zI (ii 15)), .int (zI (ii 16)), .int (zI (ii 17)), .int (zI (ii 18)), .ref (q 17), .ref (q 18), .ref (q 19), .ref (q 20)])), ((q 0), .inl (cI, 900, .inl (fun k => zI (g15 k))))]) (fun _ => rfl) (fun g15 e_g15 H locs hP hD hS => ?_)
                have h_g15 : ∀ k, k < 900 → (-2147483648) ≤ g15 k ∧ g15 k ≤ 2147483647 := by rw [e_g15]; exact uZ_all (P := fun _ y9 => (-2147483648) ≤ y9 ∧ y9 ≤ 2147483647) h_gt9 (fun _ => by omega)
                refine lv_aload_n hx hb dX9_feed_104 rfl (lv_at hl 2 rfl) ?_
                refine lv_dup hx hb dX9_feed_105 rfl ?_
                refine r_get F hK hP 0 2 rfl rfl in_X9 (by decide) k_1165 rfl dX9_feed_106 ?_
                refine lv_iconst (v := zI 1) hx hb dX9_feed_109 rfl ?_
                refine r_iadd (v := zI ((ii 1) + 1)) F dX9_feed_110 (zI_add _ _) ?_
                refine r_put F hK hP hD hS 0 2 rfl rfl in_X9 tyX9 tyX9_ok nmX9 (by decide) k_1165 rfl rfl rfl (Nat.le_of_ble_eq_true rfl) dX9_feed_111 (w1 := [(y, .inr (9, [.int (zI (ii 0)), .ref (q 0), .int (zI ((ii 1) + 1)), .int (zI (ii 2)), .int (zI (ii 3)), .int (zI (ii 4)), .int (zI (ii 5)), .int (zI (ii 6)), .int (zI (ii 7)), .int (zI (ii 8)), .int (zI (ii 9)), .int (zI (ii 10)), .ref (q 1), .int (zI (ii 11)), .int (zI (ii 12)), .ref (q 2), .ref (q 3), .ref (q 4), .ref (q 5), .ref (q 6), .ref (q 7), .ref (q 8), .ref (q 9), .ref (q 10), .ref (q 11), .ref (q 12), .ref (q 13), .ref (q 14), .ref (q 15), .ref (q 16), .int (zI (ii 13)), .int (zI (ii 14)), .int (zI (ii 15)), .int (zI (ii 16)), .int (zI (ii 17)), .int (zI (ii 18)), .ref (q 17), .ref (q 18), .ref (q 19), .ref (q 20)])), ((q 0), .inl (cI, 900, .inl (fun k => zI (g15 k))))]) rfl (fun H locs hP hD hS => ?_)
                refine lv_iinc (v := zI (v6 + 1)) (lv' := [(6, .int (zI (v6 + 1))), (7, .int (zI x4)), (0, .ref y), (1, .int (zI x0)), (2, .int (zI x1)), (3, .int (zI x2)), (4, .int (zI x3)), (5, .int (zI x4))]) hx hb dX9_feed_114 hl (k := 1) rfl (zI_add _ _) (by decide) rfl (fun ls hl => ?_)
                refine lv_goto (tgt := 23) hx hb dX9_feed_117 (by decide) ?_
                obtain ⟨i16, e_i16⟩ : ∃ i16 : Nat → Int, i16 = fun k => [(ii 0), ((ii 1) + 1), (ii 2), (ii 3), (ii 4), (ii 5), (ii 6), (ii 7), (ii 8), (ii 9), (ii 10), (ii 11), (ii 12), (ii 13), (ii 14), (ii 15), (ii 16), (ii 17), (ii 18)].getD k 0 := ⟨_, rfl⟩
                have e_i16_0 : i16 0 = (ii 0) := by rw [e_i16]; rfl
                have e_i16_1 : i16 1 = ((ii 1) + 1) := by rw [e_i16]; rfl
                have e_i16_2 : i16 2 = (ii 2) := by rw [e_i16]; rfl
                have e_i16_3 : i16 3 = (ii 3) := by rw [e_i16]; rfl
                have e_i16_4 : i16 4 = (ii 4) := by rw [e_i16]; rfl
                have e_i16_5 : i16 5 = (ii 5) := by rw [e_i16]; rfl
                have e_i16_6 : i16 6 = (ii 6) := by rw [e_i16]; rfl
                have e_i16_7 : i16 7 = (ii 7) := by rw [e_i16]; rfl
                have e_i16_8 : i16 8 = (ii 8) := by rw [e_i16]; rfl
                have e_i16_9 : i16 9 = (ii 9) := by rw [e_i16]; rfl
                have e_i16_10 : i16 10 = (ii 10) := by rw [e_i16]; rfl
                have e_i16_11 : i16 11 = (ii 11) := by rw [e_i16]; rfl
                have e_i16_12 : i16 12 = (ii 12) := by rw [e_i16]; rfl
                have e_i16_13 : i16 13 = (ii 13) := by rw [e_i16]; rfl
                have e_i16_14 : i16 14 = (ii 14) := by rw [e_i16]; rfl
                have e_i16_15 : i16 15 = (ii 15) := by rw [e_i16]; rfl
                have e_i16_16 : i16 16 = (ii 16) := by rw [e_i16]; rfl
                have e_i16_17 : i16 17 = (ii 17) := by rw [e_i16]; rfl
                have e_i16_18 : i16 18 = (ii 18) := by rw [e_i16]; rfl
                have hO17 : ModOk i16 := by have hold9 := hG.1; have hold8 : _ → _ := hG.2; refine ⟨⟨⟨?_, ?_, ?_, ?_, ?_⟩, ⟨?_, ?_, ?_, ?_, ?_, ?_⟩, ⟨?_, ?_, ?_, ?_⟩⟩, fun q5 => ?_⟩ <;> omega
                have hf18 := hO17.1
                have hP : va_P G vwCl [(y, .inr (9, [.int (zI (i16 0)), .ref (q 0), .int (zI (i16 1)), .int (zI (i16 2)), .int (zI (i16 3)), .int (zI (i16 4)), .int (zI (i16 5)), .int (zI (i16 6)), .int (zI (i16 7)), .int (zI (i16 8)), .int (zI (i16 9)), .int (zI (i16 10)), .ref (q 1), .int (zI (i16 11)), .int (zI (i16 12)), .ref (q 2), .ref (q 3), .ref (q 4), .ref (q 5), .ref (q 6), .ref (q 7), .ref (q 8), .ref (q 9), .ref (q 10), .ref (q 11), .ref (q 12), .ref (q 13), .ref (q 14), .ref (q 15), .ref (q 16), .int (zI (i16 13)), .int (zI (i16 14)), .int (zI (i16 15)), .int (zI (i16 16)), .int (zI (i16 17)), .int (zI (i16 18)), .ref (q 17), .ref (q 18), .ref (q 19), .ref (q 20)])), ((q 0), .inl (cI, 900, .inl (fun k => zI (g15 k))))] H := by subst e_i16; exact hP
                have hD : va_D A [(y, .inr (9, [.int (zI (i16 0)), .ref (q 0), .int (zI (i16 1)), .int (zI (i16 2)), .int (zI (i16 3)), .int (zI (i16 4)), .int (zI (i16 5)), .int (zI (i16 6)), .int (zI (i16 7)), .int (zI (i16 8)), .int (zI (i16 9)), .int (zI (i16 10)), .ref (q 1), .int (zI (i16 11)), .int (zI (i16 12)), .ref (q 2), .ref (q 3), .ref (q 4), .ref (q 5), .ref (q 6), .ref (q 7), .ref (q 8), .ref (q 9), .ref (q 10), .ref (q 11), .ref (q 12), .ref (q 13), .ref (q 14), .ref (q 15), .ref (q 16), .int (zI (i16 13)), .int (zI (i16 14)), .int (zI (i16 15)), .int (zI (i16 16)), .int (zI (i16 17)), .int (zI (i16 18)), .ref (q 17), .ref (q 18), .ref (q 19), .ref (q 20)])), ((q 0), .inl (cI, 900, .inl (fun k => zI (g15 k))))] := by subst e_i16; exact hD
                exact ih1 (v6 + 1) g15 i16 _ _ (by omega) (by omega) hO17 h_g15 hP hD hS ls (lv_sub hl [0, 2, 3, 4, 5, 6, 7] rfl)
              · refine lv_iload hx hb dX9_feed_69 (lv_at hl 5 rfl) ?_
                refine lv_goto (tgt := 76) hx hb dX9_feed_71 (by decide) ?_
                refine lv_istore (lv' := [(7, .int (zI x3)), (6, .int (zI v6)), (0, .ref y), (1, .int (zI x0)), (2, .int (zI x1)), (3, .int (zI x2)), (4, .int (zI x3)), (5, .int (zI x4))]) hx hb dX9_feed_76 hl (by decide) rfl (fun ls hl => ?_)
                refine lv_aload_n hx hb dX9_feed_78 rfl (lv_at hl 2 rfl) ?_
                refine r_get F hK hP 0 1 rfl rfl in_X9 (by decide) k_1164 rfl dX9_feed_79 ?_
                refine lv_aload_n hx hb dX9_feed_82 rfl (lv_at hl 2 rfl) ?_
                refine r_get F hK hP 0 2 rfl rfl in_X9 (by decide) k_1165 rfl dX9_feed_83 ?_
                refine lv_iload hx hb dX9_feed_86 (lv_at hl 0 rfl) ?_
                refine lv_bipush (v := zI 24) hx hb dX9_feed_88 (by decide) ?_
                refine lv_bipush (v := zI 8) hx hb dX9_feed_90 (by decide) ?_
                refine lv_iload hx hb dX9_feed_92 (lv_at hl 1 rfl) ?_
                refine lv_iconst (v := zI 4) hx hb dX9_feed_94 rfl ?_
                refine rz_irem F (by omega) (by omega) dX9_feed_95 (fun z19 h_z19 => ?_)
                refine r_imul (v := zI (8 * z19)) F dX9_feed_96 (zI_mul _ _) ?_
                refine r_isub (v := zI (24 - (8 * z19))) F dX9_feed_97 (zI_sub _ _) ?_
                refine lv_ishr hx hb dX9_feed_98 ?_
                refine rz_top (fun z20 h_z20 => ?_)
                refine lv_sipush (v := zI 255) hx hb dX9_feed_99 (by decide) ?_
                refine lv_iand hx hb dX9_feed_102 ?_
                refine rz_top (fun z21 h_z21 => ?_)
                refine rz_iastG F hK hP hD hS 1 0 rfl rfl (by omega) (by omega) dX9_feed_103 (w1 := fun g22 => [(y, .inr (9, [.int (zI (ii 0)), .ref (q 0), .int (zI (ii 1)), .int (zI (ii 2)), .int (zI (ii 3)), .int (zI (ii 4)), .int (zI (ii 5)), .int (zI (ii 6)), .int (zI (ii 7)), .int (zI (ii 8)), .int (zI (ii 9)), .int (zI (ii 10)), .ref (q 1), .int (zI (ii 11)), .int (zI (ii 12)), .ref (q 2), .ref (q 3), .ref (q 4), .ref (q 5), .ref (q 6), .ref (q 7), .ref (q 8), .ref (q 9), .ref (q 10), .ref (q 11), .ref (q 12), .ref (q 13), .ref (q 14), .ref (q 15), .ref (q 16), .int (zI (ii 13)), .int (zI (ii 14)), .int (zI (ii 15)), .int (zI (ii 16)), .int (zI (ii 17)), .int (zI (ii 18)), .ref (q 17), .ref (q 18), .ref (q 19), .ref (q 20)])), ((q 0), .inl (cI, 900, .inl (fun k => zI (g22 k))))]) (fun _ => rfl) (fun g22 e_g22 H locs hP hD hS => ?_)
                have h_g22 : ∀ k, k < 900 → (-2147483648) ≤ g22 k ∧ g22 k ≤ 2147483647 := by rw [e_g22]; exact uZ_all (P := fun _ y9 => (-2147483648) ≤ y9 ∧ y9 ≤ 2147483647) h_gt9 (fun _ => by omega)
                refine lv_aload_n hx hb dX9_feed_104 rfl (lv_at hl 2 rfl) ?_
                refine lv_dup hx hb dX9_feed_105 rfl ?_
                refine r_get F hK hP 0 2 rfl rfl in_X9 (by decide) k_1165 rfl dX9_feed_106 ?_
                refine lv_iconst (v := zI 1) hx hb dX9_feed_109 rfl ?_
                refine r_iadd (v := zI ((ii 1) + 1)) F dX9_feed_110 (zI_add _ _) ?_
                refine r_put F hK hP hD hS 0 2 rfl rfl in_X9 tyX9 tyX9_ok nmX9 (by decide) k_1165 rfl rfl rfl (Nat.le_of_ble_eq_true rfl) dX9_feed_111 (w1 := [(y, .inr (9, [.int (zI (ii 0)), .ref (q 0), .int (zI ((ii 1) + 1)), .int (zI (ii 2)), .int (zI (ii 3)), .int (zI (ii 4)), .int (zI (ii 5)), .int (zI (ii 6)), .int (zI (ii 7)), .int (zI (ii 8)), .int (zI (ii 9)), .int (zI (ii 10)), .ref (q 1), .int (zI (ii 11)), .int (zI (ii 12)), .ref (q 2), .ref (q 3), .ref (q 4), .ref (q 5), .ref (q 6), .ref (q 7), .ref (q 8), .ref (q 9), .ref (q 10), .ref (q 11), .ref (q 12), .ref (q 13), .ref (q 14), .ref (q 15), .ref (q 16), .int (zI (ii 13)), .int (zI (ii 14)), .int (zI (ii 15)), .int (zI (ii 16)), .int (zI (ii 17)), .int (zI (ii 18)), .ref (q 17), .ref (q 18), .ref (q 19), .ref (q 20)])), ((q 0), .inl (cI, 900, .inl (fun k => zI (g22 k))))]) rfl (fun H locs hP hD hS => ?_)
                refine lv_iinc (v := zI (v6 + 1)) (lv' := [(6, .int (zI (v6 + 1))), (7, .int (zI x3)), (0, .ref y), (1, .int (zI x0)), (2, .int (zI x1)), (3, .int (zI x2)), (4, .int (zI x3)), (5, .int (zI x4))]) hx hb dX9_feed_114 hl (k := 1) rfl (zI_add _ _) (by decide) rfl (fun ls hl => ?_)
                refine lv_goto (tgt := 23) hx hb dX9_feed_117 (by decide) ?_
                obtain ⟨i23, e_i23⟩ : ∃ i23 : Nat → Int, i23 = fun k => [(ii 0), ((ii 1) + 1), (ii 2), (ii 3), (ii 4), (ii 5), (ii 6), (ii 7), (ii 8), (ii 9), (ii 10), (ii 11), (ii 12), (ii 13), (ii 14), (ii 15), (ii 16), (ii 17), (ii 18)].getD k 0 := ⟨_, rfl⟩
                have e_i23_0 : i23 0 = (ii 0) := by rw [e_i23]; rfl
                have e_i23_1 : i23 1 = ((ii 1) + 1) := by rw [e_i23]; rfl
                have e_i23_2 : i23 2 = (ii 2) := by rw [e_i23]; rfl
                have e_i23_3 : i23 3 = (ii 3) := by rw [e_i23]; rfl
                have e_i23_4 : i23 4 = (ii 4) := by rw [e_i23]; rfl
                have e_i23_5 : i23 5 = (ii 5) := by rw [e_i23]; rfl
                have e_i23_6 : i23 6 = (ii 6) := by rw [e_i23]; rfl
                have e_i23_7 : i23 7 = (ii 7) := by rw [e_i23]; rfl
                have e_i23_8 : i23 8 = (ii 8) := by rw [e_i23]; rfl
                have e_i23_9 : i23 9 = (ii 9) := by rw [e_i23]; rfl
                have e_i23_10 : i23 10 = (ii 10) := by rw [e_i23]; rfl
                have e_i23_11 : i23 11 = (ii 11) := by rw [e_i23]; rfl
                have e_i23_12 : i23 12 = (ii 12) := by rw [e_i23]; rfl
                have e_i23_13 : i23 13 = (ii 13) := by rw [e_i23]; rfl
                have e_i23_14 : i23 14 = (ii 14) := by rw [e_i23]; rfl
                have e_i23_15 : i23 15 = (ii 15) := by rw [e_i23]; rfl
                have e_i23_16 : i23 16 = (ii 16) := by rw [e_i23]; rfl
                have e_i23_17 : i23 17 = (ii 17) := by rw [e_i23]; rfl
                have e_i23_18 : i23 18 = (ii 18) := by rw [e_i23]; rfl
                have hO24 : ModOk i23 := by have hold9 := hG.1; have hold8 : _ → _ := hG.2; refine ⟨⟨⟨?_, ?_, ?_, ?_, ?_⟩, ⟨?_, ?_, ?_, ?_, ?_, ?_⟩, ⟨?_, ?_, ?_, ?_⟩⟩, fun q5 => ?_⟩ <;> omega
                have hf25 := hO24.1
                have hP : va_P G vwCl [(y, .inr (9, [.int (zI (i23 0)), .ref (q 0), .int (zI (i23 1)), .int (zI (i23 2)), .int (zI (i23 3)), .int (zI (i23 4)), .int (zI (i23 5)), .int (zI (i23 6)), .int (zI (i23 7)), .int (zI (i23 8)), .int (zI (i23 9)), .int (zI (i23 10)), .ref (q 1), .int (zI (i23 11)), .int (zI (i23 12)), .ref (q 2), .ref (q 3), .ref (q 4), .ref (q 5), .ref (q 6), .ref (q 7), .ref (q 8), .ref (q 9), .ref (q 10), .ref (q 11), .ref (q 12), .ref (q 13), .ref (q 14), .ref (q 15), .ref (q 16), .int (zI (i23 13)), .int (zI (i23 14)), .int (zI (i23 15)), .int (zI (i23 16)), .int (zI (i23 17)), .int (zI (i23 18)), .ref (q 17), .ref (q 18), .ref (q 19), .ref (q 20)])), ((q 0), .inl (cI, 900, .inl (fun k => zI (g22 k))))] H := by subst e_i23; exact hP
                have hD : va_D A [(y, .inr (9, [.int (zI (i23 0)), .ref (q 0), .int (zI (i23 1)), .int (zI (i23 2)), .int (zI (i23 3)), .int (zI (i23 4)), .int (zI (i23 5)), .int (zI (i23 6)), .int (zI (i23 7)), .int (zI (i23 8)), .int (zI (i23 9)), .int (zI (i23 10)), .ref (q 1), .int (zI (i23 11)), .int (zI (i23 12)), .ref (q 2), .ref (q 3), .ref (q 4), .ref (q 5), .ref (q 6), .ref (q 7), .ref (q 8), .ref (q 9), .ref (q 10), .ref (q 11), .ref (q 12), .ref (q 13), .ref (q 14), .ref (q 15), .ref (q 16), .int (zI (i23 13)), .int (zI (i23 14)), .int (zI (i23 15)), .int (zI (i23 16)), .int (zI (i23 17)), .int (zI (i23 18)), .ref (q 17), .ref (q 18), .ref (q 19), .ref (q 20)])), ((q 0), .inl (cI, 900, .inl (fun k => zI (g22 k))))] := by subst e_i23; exact hD
                exact ih1 (v6 + 1) g22 i23 _ _ (by omega) (by omega) hO24 h_g22 hP hD hS ls (lv_sub hl [0, 2, 3, 4, 5, 6, 7] rfl)
            · refine lv_iload_n hx hb dX9_feed_58 rfl (lv_at hl 4 rfl) ?_
              refine lv_goto (tgt := 76) hx hb dX9_feed_59 (by decide) ?_
              refine lv_istore (lv' := [(7, .int (zI x2)), (6, .int (zI v6)), (0, .ref y), (1, .int (zI x0)), (2, .int (zI x1)), (3, .int (zI x2)), (4, .int (zI x3)), (5, .int (zI x4))]) hx hb dX9_feed_76 hl (by decide) rfl (fun ls hl => ?_)
              refine lv_aload_n hx hb dX9_feed_78 rfl (lv_at hl 2 rfl) ?_
              refine r_get F hK hP 0 1 rfl rfl in_X9 (by decide) k_1164 rfl dX9_feed_79 ?_
              refine lv_aload_n hx hb dX9_feed_82 rfl (lv_at hl 2 rfl) ?_
              refine r_get F hK hP 0 2 rfl rfl in_X9 (by decide) k_1165 rfl dX9_feed_83 ?_
              refine lv_iload hx hb dX9_feed_86 (lv_at hl 0 rfl) ?_
              refine lv_bipush (v := zI 24) hx hb dX9_feed_88 (by decide) ?_
              refine lv_bipush (v := zI 8) hx hb dX9_feed_90 (by decide) ?_
              refine lv_iload hx hb dX9_feed_92 (lv_at hl 1 rfl) ?_
              refine lv_iconst (v := zI 4) hx hb dX9_feed_94 rfl ?_
              refine rz_irem F (by omega) (by omega) dX9_feed_95 (fun z26 h_z26 => ?_)
              refine r_imul (v := zI (8 * z26)) F dX9_feed_96 (zI_mul _ _) ?_
              refine r_isub (v := zI (24 - (8 * z26))) F dX9_feed_97 (zI_sub _ _) ?_
              refine lv_ishr hx hb dX9_feed_98 ?_
              refine rz_top (fun z27 h_z27 => ?_)
              refine lv_sipush (v := zI 255) hx hb dX9_feed_99 (by decide) ?_
              refine lv_iand hx hb dX9_feed_102 ?_
              refine rz_top (fun z28 h_z28 => ?_)
              refine rz_iastG F hK hP hD hS 1 0 rfl rfl (by omega) (by omega) dX9_feed_103 (w1 := fun g29 => [(y, .inr (9, [.int (zI (ii 0)), .ref (q 0), .int (zI (ii 1)), .int (zI (ii 2)), .int (zI (ii 3)), .int (zI (ii 4)), .int (zI (ii 5)), .int (zI (ii 6)), .int (zI (ii 7)), .int (zI (ii 8)), .int (zI (ii 9)), .int (zI (ii 10)), .ref (q 1), .int (zI (ii 11)), .int (zI (ii 12)), .ref (q 2), .ref (q 3), .ref (q 4), .ref (q 5), .ref (q 6), .ref (q 7), .ref (q 8), .ref (q 9), .ref (q 10), .ref (q 11), .ref (q 12), .ref (q 13), .ref (q 14), .ref (q 15), .ref (q 16), .int (zI (ii 13)), .int (zI (ii 14)), .int (zI (ii 15)), .int (zI (ii 16)), .int (zI (ii 17)), .int (zI (ii 18)), .ref (q 17), .ref (q 18), .ref (q 19), .ref (q 20)])), ((q 0), .inl (cI, 900, .inl (fun k => zI (g29 k))))]) (fun _ => rfl) (fun g29 e_g29 H locs hP hD hS => ?_)
              have h_g29 : ∀ k, k < 900 → (-2147483648) ≤ g29 k ∧ g29 k ≤ 2147483647 := by rw [e_g29]; exact uZ_all (P := fun _ y9 => (-2147483648) ≤ y9 ∧ y9 ≤ 2147483647) h_gt9 (fun _ => by omega)
              refine lv_aload_n hx hb dX9_feed_104 rfl (lv_at hl 2 rfl) ?_
              refine lv_dup hx hb dX9_feed_105 rfl ?_
              refine r_get F hK hP 0 2 rfl rfl in_X9 (by decide) k_1165 rfl dX9_feed_106 ?_
              refine lv_iconst (v := zI 1) hx hb dX9_feed_109 rfl ?_
              refine r_iadd (v := zI ((ii 1) + 1)) F dX9_feed_110 (zI_add _ _) ?_
              refine r_put F hK hP hD hS 0 2 rfl rfl in_X9 tyX9 tyX9_ok nmX9 (by decide) k_1165 rfl rfl rfl (Nat.le_of_ble_eq_true rfl) dX9_feed_111 (w1 := [(y, .inr (9, [.int (zI (ii 0)), .ref (q 0), .int (zI ((ii 1) + 1)), .int (zI (ii 2)), .int (zI (ii 3)), .int (zI (ii 4)), .int (zI (ii 5)), .int (zI (ii 6)), .int (zI (ii 7)), .int (zI (ii 8)), .int (zI (ii 9)), .int (zI (ii 10)), .ref (q 1), .int (zI (ii 11)), .int (zI (ii 12)), .ref (q 2), .ref (q 3), .ref (q 4), .ref (q 5), .ref (q 6), .ref (q 7), .ref (q 8), .ref (q 9), .ref (q 10), .ref (q 11), .ref (q 12), .ref (q 13), .ref (q 14), .ref (q 15), .ref (q 16), .int (zI (ii 13)), .int (zI (ii 14)), .int (zI (ii 15)), .int (zI (ii 16)), .int (zI (ii 17)), .int (zI (ii 18)), .ref (q 17), .ref (q 18), .ref (q 19), .ref (q 20)])), ((q 0), .inl (cI, 900, .inl (fun k => zI (g29 k))))]) rfl (fun H locs hP hD hS => ?_)
              refine lv_iinc (v := zI (v6 + 1)) (lv' := [(6, .int (zI (v6 + 1))), (7, .int (zI x2)), (0, .ref y), (1, .int (zI x0)), (2, .int (zI x1)), (3, .int (zI x2)), (4, .int (zI x3)), (5, .int (zI x4))]) hx hb dX9_feed_114 hl (k := 1) rfl (zI_add _ _) (by decide) rfl (fun ls hl => ?_)
              refine lv_goto (tgt := 23) hx hb dX9_feed_117 (by decide) ?_
              obtain ⟨i30, e_i30⟩ : ∃ i30 : Nat → Int, i30 = fun k => [(ii 0), ((ii 1) + 1), (ii 2), (ii 3), (ii 4), (ii 5), (ii 6), (ii 7), (ii 8), (ii 9), (ii 10), (ii 11), (ii 12), (ii 13), (ii 14), (ii 15), (ii 16), (ii 17), (ii 18)].getD k 0 := ⟨_, rfl⟩
              have e_i30_0 : i30 0 = (ii 0) := by rw [e_i30]; rfl
              have e_i30_1 : i30 1 = ((ii 1) + 1) := by rw [e_i30]; rfl
              have e_i30_2 : i30 2 = (ii 2) := by rw [e_i30]; rfl
              have e_i30_3 : i30 3 = (ii 3) := by rw [e_i30]; rfl
              have e_i30_4 : i30 4 = (ii 4) := by rw [e_i30]; rfl
              have e_i30_5 : i30 5 = (ii 5) := by rw [e_i30]; rfl
              have e_i30_6 : i30 6 = (ii 6) := by rw [e_i30]; rfl
              have e_i30_7 : i30 7 = (ii 7) := by rw [e_i30]; rfl
              have e_i30_8 : i30 8 = (ii 8) := by rw [e_i30]; rfl
              have e_i30_9 : i30 9 = (ii 9) := by rw [e_i30]; rfl
              have e_i30_10 : i30 10 = (ii 10) := by rw [e_i30]; rfl
              have e_i30_11 : i30 11 = (ii 11) := by rw [e_i30]; rfl
              have e_i30_12 : i30 12 = (ii 12) := by rw [e_i30]; rfl
              have e_i30_13 : i30 13 = (ii 13) := by rw [e_i30]; rfl
              have e_i30_14 : i30 14 = (ii 14) := by rw [e_i30]; rfl
              have e_i30_15 : i30 15 = (ii 15) := by rw [e_i30]; rfl
              have e_i30_16 : i30 16 = (ii 16) := by rw [e_i30]; rfl
              have e_i30_17 : i30 17 = (ii 17) := by rw [e_i30]; rfl
              have e_i30_18 : i30 18 = (ii 18) := by rw [e_i30]; rfl
              have hO31 : ModOk i30 := by have hold9 := hG.1; have hold8 : _ → _ := hG.2; refine ⟨⟨⟨?_, ?_, ?_, ?_, ?_⟩, ⟨?_, ?_, ?_, ?_, ?_, ?_⟩, ⟨?_, ?_, ?_, ?_⟩⟩, fun q5 => ?_⟩ <;> omega
              have hf32 := hO31.1
              have hP : va_P G vwCl [(y, .inr (9, [.int (zI (i30 0)), .ref (q 0), .int (zI (i30 1)), .int (zI (i30 2)), .int (zI (i30 3)), .int (zI (i30 4)), .int (zI (i30 5)), .int (zI (i30 6)), .int (zI (i30 7)), .int (zI (i30 8)), .int (zI (i30 9)), .int (zI (i30 10)), .ref (q 1), .int (zI (i30 11)), .int (zI (i30 12)), .ref (q 2), .ref (q 3), .ref (q 4), .ref (q 5), .ref (q 6), .ref (q 7), .ref (q 8), .ref (q 9), .ref (q 10), .ref (q 11), .ref (q 12), .ref (q 13), .ref (q 14), .ref (q 15), .ref (q 16), .int (zI (i30 13)), .int (zI (i30 14)), .int (zI (i30 15)), .int (zI (i30 16)), .int (zI (i30 17)), .int (zI (i30 18)), .ref (q 17), .ref (q 18), .ref (q 19), .ref (q 20)])), ((q 0), .inl (cI, 900, .inl (fun k => zI (g29 k))))] H := by subst e_i30; exact hP
              have hD : va_D A [(y, .inr (9, [.int (zI (i30 0)), .ref (q 0), .int (zI (i30 1)), .int (zI (i30 2)), .int (zI (i30 3)), .int (zI (i30 4)), .int (zI (i30 5)), .int (zI (i30 6)), .int (zI (i30 7)), .int (zI (i30 8)), .int (zI (i30 9)), .int (zI (i30 10)), .ref (q 1), .int (zI (i30 11)), .int (zI (i30 12)), .ref (q 2), .ref (q 3), .ref (q 4), .ref (q 5), .ref (q 6), .ref (q 7), .ref (q 8), .ref (q 9), .ref (q 10), .ref (q 11), .ref (q 12), .ref (q 13), .ref (q 14), .ref (q 15), .ref (q 16), .int (zI (i30 13)), .int (zI (i30 14)), .int (zI (i30 15)), .int (zI (i30 16)), .int (zI (i30 17)), .int (zI (i30 18)), .ref (q 17), .ref (q 18), .ref (q 19), .ref (q 20)])), ((q 0), .inl (cI, 900, .inl (fun k => zI (g29 k))))] := by subst e_i30; exact hD
              exact ih1 (v6 + 1) g29 i30 _ _ (by omega) (by omega) hO31 h_g29 hP hD hS ls (lv_sub hl [0, 2, 3, 4, 5, 6, 7] rfl)
          · refine lv_iload_n hx hb dX9_feed_47 rfl (lv_at hl 3 rfl) ?_
            refine lv_goto (tgt := 76) hx hb dX9_feed_48 (by decide) ?_
            refine lv_istore (lv' := [(7, .int (zI x1)), (6, .int (zI v6)), (0, .ref y), (1, .int (zI x0)), (2, .int (zI x1)), (3, .int (zI x2)), (4, .int (zI x3)), (5, .int (zI x4))]) hx hb dX9_feed_76 hl (by decide) rfl (fun ls hl => ?_)
            refine lv_aload_n hx hb dX9_feed_78 rfl (lv_at hl 2 rfl) ?_
            refine r_get F hK hP 0 1 rfl rfl in_X9 (by decide) k_1164 rfl dX9_feed_79 ?_
            refine lv_aload_n hx hb dX9_feed_82 rfl (lv_at hl 2 rfl) ?_
            refine r_get F hK hP 0 2 rfl rfl in_X9 (by decide) k_1165 rfl dX9_feed_83 ?_
            refine lv_iload hx hb dX9_feed_86 (lv_at hl 0 rfl) ?_
            refine lv_bipush (v := zI 24) hx hb dX9_feed_88 (by decide) ?_
            refine lv_bipush (v := zI 8) hx hb dX9_feed_90 (by decide) ?_
            refine lv_iload hx hb dX9_feed_92 (lv_at hl 1 rfl) ?_
            refine lv_iconst (v := zI 4) hx hb dX9_feed_94 rfl ?_
            refine rz_irem F (by omega) (by omega) dX9_feed_95 (fun z33 h_z33 => ?_)
            refine r_imul (v := zI (8 * z33)) F dX9_feed_96 (zI_mul _ _) ?_
            refine r_isub (v := zI (24 - (8 * z33))) F dX9_feed_97 (zI_sub _ _) ?_
            refine lv_ishr hx hb dX9_feed_98 ?_
            refine rz_top (fun z34 h_z34 => ?_)
            refine lv_sipush (v := zI 255) hx hb dX9_feed_99 (by decide) ?_
            refine lv_iand hx hb dX9_feed_102 ?_
            refine rz_top (fun z35 h_z35 => ?_)
            refine rz_iastG F hK hP hD hS 1 0 rfl rfl (by omega) (by omega) dX9_feed_103 (w1 := fun g36 => [(y, .inr (9, [.int (zI (ii 0)), .ref (q 0), .int (zI (ii 1)), .int (zI (ii 2)), .int (zI (ii 3)), .int (zI (ii 4)), .int (zI (ii 5)), .int (zI (ii 6)), .int (zI (ii 7)), .int (zI (ii 8)), .int (zI (ii 9)), .int (zI (ii 10)), .ref (q 1), .int (zI (ii 11)), .int (zI (ii 12)), .ref (q 2), .ref (q 3), .ref (q 4), .ref (q 5), .ref (q 6), .ref (q 7), .ref (q 8), .ref (q 9), .ref (q 10), .ref (q 11), .ref (q 12), .ref (q 13), .ref (q 14), .ref (q 15), .ref (q 16), .int (zI (ii 13)), .int (zI (ii 14)), .int (zI (ii 15)), .int (zI (ii 16)), .int (zI (ii 17)), .int (zI (ii 18)), .ref (q 17), .ref (q 18), .ref (q 19), .ref (q 20)])), ((q 0), .inl (cI, 900, .inl (fun k => zI (g36 k))))]) (fun _ => rfl) (fun g36 e_g36 H locs hP hD hS => ?_)
            have h_g36 : ∀ k, k < 900 → (-2147483648) ≤ g36 k ∧ g36 k ≤ 2147483647 := by rw [e_g36]; exact uZ_all (P := fun _ y9 => (-2147483648) ≤ y9 ∧ y9 ≤ 2147483647) h_gt9 (fun _ => by omega)
            refine lv_aload_n hx hb dX9_feed_104 rfl (lv_at hl 2 rfl) ?_
            refine lv_dup hx hb dX9_feed_105 rfl ?_
            refine r_get F hK hP 0 2 rfl rfl in_X9 (by decide) k_1165 rfl dX9_feed_106 ?_
            refine lv_iconst (v := zI 1) hx hb dX9_feed_109 rfl ?_
            refine r_iadd (v := zI ((ii 1) + 1)) F dX9_feed_110 (zI_add _ _) ?_
            refine r_put F hK hP hD hS 0 2 rfl rfl in_X9 tyX9 tyX9_ok nmX9 (by decide) k_1165 rfl rfl rfl (Nat.le_of_ble_eq_true rfl) dX9_feed_111 (w1 := [(y, .inr (9, [.int (zI (ii 0)), .ref (q 0), .int (zI ((ii 1) + 1)), .int (zI (ii 2)), .int (zI (ii 3)), .int (zI (ii 4)), .int (zI (ii 5)), .int (zI (ii 6)), .int (zI (ii 7)), .int (zI (ii 8)), .int (zI (ii 9)), .int (zI (ii 10)), .ref (q 1), .int (zI (ii 11)), .int (zI (ii 12)), .ref (q 2), .ref (q 3), .ref (q 4), .ref (q 5), .ref (q 6), .ref (q 7), .ref (q 8), .ref (q 9), .ref (q 10), .ref (q 11), .ref (q 12), .ref (q 13), .ref (q 14), .ref (q 15), .ref (q 16), .int (zI (ii 13)), .int (zI (ii 14)), .int (zI (ii 15)), .int (zI (ii 16)), .int (zI (ii 17)), .int (zI (ii 18)), .ref (q 17), .ref (q 18), .ref (q 19), .ref (q 20)])), ((q 0), .inl (cI, 900, .inl (fun k => zI (g36 k))))]) rfl (fun H locs hP hD hS => ?_)
            refine lv_iinc (v := zI (v6 + 1)) (lv' := [(6, .int (zI (v6 + 1))), (7, .int (zI x1)), (0, .ref y), (1, .int (zI x0)), (2, .int (zI x1)), (3, .int (zI x2)), (4, .int (zI x3)), (5, .int (zI x4))]) hx hb dX9_feed_114 hl (k := 1) rfl (zI_add _ _) (by decide) rfl (fun ls hl => ?_)
            refine lv_goto (tgt := 23) hx hb dX9_feed_117 (by decide) ?_
            obtain ⟨i37, e_i37⟩ : ∃ i37 : Nat → Int, i37 = fun k => [(ii 0), ((ii 1) + 1), (ii 2), (ii 3), (ii 4), (ii 5), (ii 6), (ii 7), (ii 8), (ii 9), (ii 10), (ii 11), (ii 12), (ii 13), (ii 14), (ii 15), (ii 16), (ii 17), (ii 18)].getD k 0 := ⟨_, rfl⟩
            have e_i37_0 : i37 0 = (ii 0) := by rw [e_i37]; rfl
            have e_i37_1 : i37 1 = ((ii 1) + 1) := by rw [e_i37]; rfl
            have e_i37_2 : i37 2 = (ii 2) := by rw [e_i37]; rfl
            have e_i37_3 : i37 3 = (ii 3) := by rw [e_i37]; rfl
            have e_i37_4 : i37 4 = (ii 4) := by rw [e_i37]; rfl
            have e_i37_5 : i37 5 = (ii 5) := by rw [e_i37]; rfl
            have e_i37_6 : i37 6 = (ii 6) := by rw [e_i37]; rfl
            have e_i37_7 : i37 7 = (ii 7) := by rw [e_i37]; rfl
            have e_i37_8 : i37 8 = (ii 8) := by rw [e_i37]; rfl
            have e_i37_9 : i37 9 = (ii 9) := by rw [e_i37]; rfl
            have e_i37_10 : i37 10 = (ii 10) := by rw [e_i37]; rfl
            have e_i37_11 : i37 11 = (ii 11) := by rw [e_i37]; rfl
            have e_i37_12 : i37 12 = (ii 12) := by rw [e_i37]; rfl
            have e_i37_13 : i37 13 = (ii 13) := by rw [e_i37]; rfl
            have e_i37_14 : i37 14 = (ii 14) := by rw [e_i37]; rfl
            have e_i37_15 : i37 15 = (ii 15) := by rw [e_i37]; rfl
            have e_i37_16 : i37 16 = (ii 16) := by rw [e_i37]; rfl
            have e_i37_17 : i37 17 = (ii 17) := by rw [e_i37]; rfl
            have e_i37_18 : i37 18 = (ii 18) := by rw [e_i37]; rfl
            have hO38 : ModOk i37 := by have hold9 := hG.1; have hold8 : _ → _ := hG.2; refine ⟨⟨⟨?_, ?_, ?_, ?_, ?_⟩, ⟨?_, ?_, ?_, ?_, ?_, ?_⟩, ⟨?_, ?_, ?_, ?_⟩⟩, fun q5 => ?_⟩ <;> omega
            have hf39 := hO38.1
            have hP : va_P G vwCl [(y, .inr (9, [.int (zI (i37 0)), .ref (q 0), .int (zI (i37 1)), .int (zI (i37 2)), .int (zI (i37 3)), .int (zI (i37 4)), .int (zI (i37 5)), .int (zI (i37 6)), .int (zI (i37 7)), .int (zI (i37 8)), .int (zI (i37 9)), .int (zI (i37 10)), .ref (q 1), .int (zI (i37 11)), .int (zI (i37 12)), .ref (q 2), .ref (q 3), .ref (q 4), .ref (q 5), .ref (q 6), .ref (q 7), .ref (q 8), .ref (q 9), .ref (q 10), .ref (q 11), .ref (q 12), .ref (q 13), .ref (q 14), .ref (q 15), .ref (q 16), .int (zI (i37 13)), .int (zI (i37 14)), .int (zI (i37 15)), .int (zI (i37 16)), .int (zI (i37 17)), .int (zI (i37 18)), .ref (q 17), .ref (q 18), .ref (q 19), .ref (q 20)])), ((q 0), .inl (cI, 900, .inl (fun k => zI (g36 k))))] H := by subst e_i37; exact hP
            have hD : va_D A [(y, .inr (9, [.int (zI (i37 0)), .ref (q 0), .int (zI (i37 1)), .int (zI (i37 2)), .int (zI (i37 3)), .int (zI (i37 4)), .int (zI (i37 5)), .int (zI (i37 6)), .int (zI (i37 7)), .int (zI (i37 8)), .int (zI (i37 9)), .int (zI (i37 10)), .ref (q 1), .int (zI (i37 11)), .int (zI (i37 12)), .ref (q 2), .ref (q 3), .ref (q 4), .ref (q 5), .ref (q 6), .ref (q 7), .ref (q 8), .ref (q 9), .ref (q 10), .ref (q 11), .ref (q 12), .ref (q 13), .ref (q 14), .ref (q 15), .ref (q 16), .int (zI (i37 13)), .int (zI (i37 14)), .int (zI (i37 15)), .int (zI (i37 16)), .int (zI (i37 17)), .int (zI (i37 18)), .ref (q 17), .ref (q 18), .ref (q 19), .ref (q 20)])), ((q 0), .inl (cI, 900, .inl (fun k => zI (g36 k))))] := by subst e_i37; exact hD
            exact ih1 (v6 + 1) g36 i37 _ _ (by omega) (by omega) hO38 h_g36 hP hD hS ls (lv_sub hl [0, 2, 3, 4, 5, 6, 7] rfl)
        · refine lv_iload_n hx hb dX9_feed_36 rfl (lv_at hl 2 rfl) ?_
          refine lv_goto (tgt := 76) hx hb dX9_feed_37 (by decide) ?_
          refine lv_istore (lv' := [(7, .int (zI x0)), (6, .int (zI v6)), (0, .ref y), (1, .int (zI x0)), (2, .int (zI x1)), (3, .int (zI x2)), (4, .int (zI x3)), (5, .int (zI x4))]) hx hb dX9_feed_76 hl (by decide) rfl (fun ls hl => ?_)
          refine lv_aload_n hx hb dX9_feed_78 rfl (lv_at hl 2 rfl) ?_
          refine r_get F hK hP 0 1 rfl rfl in_X9 (by decide) k_1164 rfl dX9_feed_79 ?_
          refine lv_aload_n hx hb dX9_feed_82 rfl (lv_at hl 2 rfl) ?_
          refine r_get F hK hP 0 2 rfl rfl in_X9 (by decide) k_1165 rfl dX9_feed_83 ?_
          refine lv_iload hx hb dX9_feed_86 (lv_at hl 0 rfl) ?_
          refine lv_bipush (v := zI 24) hx hb dX9_feed_88 (by decide) ?_
          refine lv_bipush (v := zI 8) hx hb dX9_feed_90 (by decide) ?_
          refine lv_iload hx hb dX9_feed_92 (lv_at hl 1 rfl) ?_
          refine lv_iconst (v := zI 4) hx hb dX9_feed_94 rfl ?_
          refine rz_irem F (by omega) (by omega) dX9_feed_95 (fun z40 h_z40 => ?_)
          refine r_imul (v := zI (8 * z40)) F dX9_feed_96 (zI_mul _ _) ?_
          refine r_isub (v := zI (24 - (8 * z40))) F dX9_feed_97 (zI_sub _ _) ?_
          refine lv_ishr hx hb dX9_feed_98 ?_
          refine rz_top (fun z41 h_z41 => ?_)
          refine lv_sipush (v := zI 255) hx hb dX9_feed_99 (by decide) ?_
          refine lv_iand hx hb dX9_feed_102 ?_
          refine rz_top (fun z42 h_z42 => ?_)
          refine rz_iastG F hK hP hD hS 1 0 rfl rfl (by omega) (by omega) dX9_feed_103 (w1 := fun g43 => [(y, .inr (9, [.int (zI (ii 0)), .ref (q 0), .int (zI (ii 1)), .int (zI (ii 2)), .int (zI (ii 3)), .int (zI (ii 4)), .int (zI (ii 5)), .int (zI (ii 6)), .int (zI (ii 7)), .int (zI (ii 8)), .int (zI (ii 9)), .int (zI (ii 10)), .ref (q 1), .int (zI (ii 11)), .int (zI (ii 12)), .ref (q 2), .ref (q 3), .ref (q 4), .ref (q 5), .ref (q 6), .ref (q 7), .ref (q 8), .ref (q 9), .ref (q 10), .ref (q 11), .ref (q 12), .ref (q 13), .ref (q 14), .ref (q 15), .ref (q 16), .int (zI (ii 13)), .int (zI (ii 14)), .int (zI (ii 15)), .int (zI (ii 16)), .int (zI (ii 17)), .int (zI (ii 18)), .ref (q 17), .ref (q 18), .ref (q 19), .ref (q 20)])), ((q 0), .inl (cI, 900, .inl (fun k => zI (g43 k))))]) (fun _ => rfl) (fun g43 e_g43 H locs hP hD hS => ?_)
          have h_g43 : ∀ k, k < 900 → (-2147483648) ≤ g43 k ∧ g43 k ≤ 2147483647 := by rw [e_g43]; exact uZ_all (P := fun _ y9 => (-2147483648) ≤ y9 ∧ y9 ≤ 2147483647) h_gt9 (fun _ => by omega)
          refine lv_aload_n hx hb dX9_feed_104 rfl (lv_at hl 2 rfl) ?_
          refine lv_dup hx hb dX9_feed_105 rfl ?_
          refine r_get F hK hP 0 2 rfl rfl in_X9 (by decide) k_1165 rfl dX9_feed_106 ?_
          refine lv_iconst (v := zI 1) hx hb dX9_feed_109 rfl ?_
          refine r_iadd (v := zI ((ii 1) + 1)) F dX9_feed_110 (zI_add _ _) ?_
          refine r_put F hK hP hD hS 0 2 rfl rfl in_X9 tyX9 tyX9_ok nmX9 (by decide) k_1165 rfl rfl rfl (Nat.le_of_ble_eq_true rfl) dX9_feed_111 (w1 := [(y, .inr (9, [.int (zI (ii 0)), .ref (q 0), .int (zI ((ii 1) + 1)), .int (zI (ii 2)), .int (zI (ii 3)), .int (zI (ii 4)), .int (zI (ii 5)), .int (zI (ii 6)), .int (zI (ii 7)), .int (zI (ii 8)), .int (zI (ii 9)), .int (zI (ii 10)), .ref (q 1), .int (zI (ii 11)), .int (zI (ii 12)), .ref (q 2), .ref (q 3), .ref (q 4), .ref (q 5), .ref (q 6), .ref (q 7), .ref (q 8), .ref (q 9), .ref (q 10), .ref (q 11), .ref (q 12), .ref (q 13), .ref (q 14), .ref (q 15), .ref (q 16), .int (zI (ii 13)), .int (zI (ii 14)), .int (zI (ii 15)), .int (zI (ii 16)), .int (zI (ii 17)), .int (zI (ii 18)), .ref (q 17), .ref (q 18), .ref (q 19), .ref (q 20)])), ((q 0), .inl (cI, 900, .inl (fun k => zI (g43 k))))]) rfl (fun H locs hP hD hS => ?_)
          refine lv_iinc (v := zI (v6 + 1)) (lv' := [(6, .int (zI (v6 + 1))), (7, .int (zI x0)), (0, .ref y), (1, .int (zI x0)), (2, .int (zI x1)), (3, .int (zI x2)), (4, .int (zI x3)), (5, .int (zI x4))]) hx hb dX9_feed_114 hl (k := 1) rfl (zI_add _ _) (by decide) rfl (fun ls hl => ?_)
          refine lv_goto (tgt := 23) hx hb dX9_feed_117 (by decide) ?_
          obtain ⟨i44, e_i44⟩ : ∃ i44 : Nat → Int, i44 = fun k => [(ii 0), ((ii 1) + 1), (ii 2), (ii 3), (ii 4), (ii 5), (ii 6), (ii 7), (ii 8), (ii 9), (ii 10), (ii 11), (ii 12), (ii 13), (ii 14), (ii 15), (ii 16), (ii 17), (ii 18)].getD k 0 := ⟨_, rfl⟩
          have e_i44_0 : i44 0 = (ii 0) := by rw [e_i44]; rfl
          have e_i44_1 : i44 1 = ((ii 1) + 1) := by rw [e_i44]; rfl
          have e_i44_2 : i44 2 = (ii 2) := by rw [e_i44]; rfl
          have e_i44_3 : i44 3 = (ii 3) := by rw [e_i44]; rfl
          have e_i44_4 : i44 4 = (ii 4) := by rw [e_i44]; rfl
          have e_i44_5 : i44 5 = (ii 5) := by rw [e_i44]; rfl
          have e_i44_6 : i44 6 = (ii 6) := by rw [e_i44]; rfl
          have e_i44_7 : i44 7 = (ii 7) := by rw [e_i44]; rfl
          have e_i44_8 : i44 8 = (ii 8) := by rw [e_i44]; rfl
          have e_i44_9 : i44 9 = (ii 9) := by rw [e_i44]; rfl
          have e_i44_10 : i44 10 = (ii 10) := by rw [e_i44]; rfl
          have e_i44_11 : i44 11 = (ii 11) := by rw [e_i44]; rfl
          have e_i44_12 : i44 12 = (ii 12) := by rw [e_i44]; rfl
          have e_i44_13 : i44 13 = (ii 13) := by rw [e_i44]; rfl
          have e_i44_14 : i44 14 = (ii 14) := by rw [e_i44]; rfl
          have e_i44_15 : i44 15 = (ii 15) := by rw [e_i44]; rfl
          have e_i44_16 : i44 16 = (ii 16) := by rw [e_i44]; rfl
          have e_i44_17 : i44 17 = (ii 17) := by rw [e_i44]; rfl
          have e_i44_18 : i44 18 = (ii 18) := by rw [e_i44]; rfl
          have hO45 : ModOk i44 := by have hold9 := hG.1; have hold8 : _ → _ := hG.2; refine ⟨⟨⟨?_, ?_, ?_, ?_, ?_⟩, ⟨?_, ?_, ?_, ?_, ?_, ?_⟩, ⟨?_, ?_, ?_, ?_⟩⟩, fun q5 => ?_⟩ <;> omega
          have hf46 := hO45.1
          have hP : va_P G vwCl [(y, .inr (9, [.int (zI (i44 0)), .ref (q 0), .int (zI (i44 1)), .int (zI (i44 2)), .int (zI (i44 3)), .int (zI (i44 4)), .int (zI (i44 5)), .int (zI (i44 6)), .int (zI (i44 7)), .int (zI (i44 8)), .int (zI (i44 9)), .int (zI (i44 10)), .ref (q 1), .int (zI (i44 11)), .int (zI (i44 12)), .ref (q 2), .ref (q 3), .ref (q 4), .ref (q 5), .ref (q 6), .ref (q 7), .ref (q 8), .ref (q 9), .ref (q 10), .ref (q 11), .ref (q 12), .ref (q 13), .ref (q 14), .ref (q 15), .ref (q 16), .int (zI (i44 13)), .int (zI (i44 14)), .int (zI (i44 15)), .int (zI (i44 16)), .int (zI (i44 17)), .int (zI (i44 18)), .ref (q 17), .ref (q 18), .ref (q 19), .ref (q 20)])), ((q 0), .inl (cI, 900, .inl (fun k => zI (g43 k))))] H := by subst e_i44; exact hP
          have hD : va_D A [(y, .inr (9, [.int (zI (i44 0)), .ref (q 0), .int (zI (i44 1)), .int (zI (i44 2)), .int (zI (i44 3)), .int (zI (i44 4)), .int (zI (i44 5)), .int (zI (i44 6)), .int (zI (i44 7)), .int (zI (i44 8)), .int (zI (i44 9)), .int (zI (i44 10)), .ref (q 1), .int (zI (i44 11)), .int (zI (i44 12)), .ref (q 2), .ref (q 3), .ref (q 4), .ref (q 5), .ref (q 6), .ref (q 7), .ref (q 8), .ref (q 9), .ref (q 10), .ref (q 11), .ref (q 12), .ref (q 13), .ref (q 14), .ref (q 15), .ref (q 16), .int (zI (i44 13)), .int (zI (i44 14)), .int (zI (i44 15)), .int (zI (i44 16)), .int (zI (i44 17)), .int (zI (i44 18)), .ref (q 17), .ref (q 18), .ref (q 19), .ref (q 20)])), ((q 0), .inl (cI, 900, .inl (fun k => zI (g43 k))))] := by subst e_i44; exact hD
          exact ih1 (v6 + 1) g43 i44 _ _ (by omega) (by omega) hO45 h_g43 hP hD hS ls (lv_sub hl [0, 2, 3, 4, 5, 6, 7] rfl)
  · refine lv_iconst (v := zI (-1)) hx hb dX9_feed_18 rfl ?_
    obtain ⟨i47, e_i47⟩ : ∃ i47 : Nat → Int, i47 = fun k => [0, (i 1), (i 2), (i 3), (i 4), (i 5), (i 6), (i 7), (i 8), (i 9), (i 10), (i 11), (i 12), (i 13), (i 14), (i 15), (i 16), (i 17), (i 18)].getD k 0 := ⟨_, rfl⟩
    have e_i47_0 : i47 0 = 0 := by rw [e_i47]; rfl
    have e_i47_1 : i47 1 = (i 1) := by rw [e_i47]; rfl
    have e_i47_2 : i47 2 = (i 2) := by rw [e_i47]; rfl
    have e_i47_3 : i47 3 = (i 3) := by rw [e_i47]; rfl
    have e_i47_4 : i47 4 = (i 4) := by rw [e_i47]; rfl
    have e_i47_5 : i47 5 = (i 5) := by rw [e_i47]; rfl
    have e_i47_6 : i47 6 = (i 6) := by rw [e_i47]; rfl
    have e_i47_7 : i47 7 = (i 7) := by rw [e_i47]; rfl
    have e_i47_8 : i47 8 = (i 8) := by rw [e_i47]; rfl
    have e_i47_9 : i47 9 = (i 9) := by rw [e_i47]; rfl
    have e_i47_10 : i47 10 = (i 10) := by rw [e_i47]; rfl
    have e_i47_11 : i47 11 = (i 11) := by rw [e_i47]; rfl
    have e_i47_12 : i47 12 = (i 12) := by rw [e_i47]; rfl
    have e_i47_13 : i47 13 = (i 13) := by rw [e_i47]; rfl
    have e_i47_14 : i47 14 = (i 14) := by rw [e_i47]; rfl
    have e_i47_15 : i47 15 = (i 15) := by rw [e_i47]; rfl
    have e_i47_16 : i47 16 = (i 16) := by rw [e_i47]; rfl
    have e_i47_17 : i47 17 = (i 17) := by rw [e_i47]; rfl
    have e_i47_18 : i47 18 = (i 18) := by rw [e_i47]; rfl
    have hO48 : ModOk i47 := by have hold9 := hM.1; have hold8 : _ → _ := hM.2; refine ⟨⟨⟨?_, ?_, ?_, ?_, ?_⟩, ⟨?_, ?_, ?_, ?_, ?_, ?_⟩, ⟨?_, ?_, ?_, ?_⟩⟩, fun q5 => ?_⟩ <;> omega
    have hf49 := hO48.1
    have hP : va_P G vwCl [(y, .inr (9, [.int (zI (i47 0)), .ref (q 0), .int (zI (i47 1)), .int (zI (i47 2)), .int (zI (i47 3)), .int (zI (i47 4)), .int (zI (i47 5)), .int (zI (i47 6)), .int (zI (i47 7)), .int (zI (i47 8)), .int (zI (i47 9)), .int (zI (i47 10)), .ref (q 1), .int (zI (i47 11)), .int (zI (i47 12)), .ref (q 2), .ref (q 3), .ref (q 4), .ref (q 5), .ref (q 6), .ref (q 7), .ref (q 8), .ref (q 9), .ref (q 10), .ref (q 11), .ref (q 12), .ref (q 13), .ref (q 14), .ref (q 15), .ref (q 16), .int (zI (i47 13)), .int (zI (i47 14)), .int (zI (i47 15)), .int (zI (i47 16)), .int (zI (i47 17)), .int (zI (i47 18)), .ref (q 17), .ref (q 18), .ref (q 19), .ref (q 20)])), ((q 0), .inl (cI, 900, .inl (fun k => zI (g_tape k))))] H := by subst e_i47; exact hP
    have hD : va_D A [(y, .inr (9, [.int (zI (i47 0)), .ref (q 0), .int (zI (i47 1)), .int (zI (i47 2)), .int (zI (i47 3)), .int (zI (i47 4)), .int (zI (i47 5)), .int (zI (i47 6)), .int (zI (i47 7)), .int (zI (i47 8)), .int (zI (i47 9)), .int (zI (i47 10)), .ref (q 1), .int (zI (i47 11)), .int (zI (i47 12)), .ref (q 2), .ref (q 3), .ref (q 4), .ref (q 5), .ref (q 6), .ref (q 7), .ref (q 8), .ref (q 9), .ref (q 10), .ref (q 11), .ref (q 12), .ref (q 13), .ref (q 14), .ref (q 15), .ref (q 16), .int (zI (i47 13)), .int (zI (i47 14)), .int (zI (i47 15)), .int (zI (i47 16)), .int (zI (i47 17)), .int (zI (i47 18)), .ref (q 17), .ref (q 18), .ref (q 19), .ref (q 20)])), ((q 0), .inl (cI, 900, .inl (fun k => zI (g_tape k))))] := by subst e_i47; exact hD
    exact ret (zI (-1)) (fun k => [(i47, fun _ _ => 0), (fun _ => 0, fun _ => g_tape)].getD k (fun _ => 0, fun _ _ => 0)) _ _ _ _ _ _ rfl ⟨(-1), rfl, hO48, hr_tape, (show (i 1 ≤ 880 ∧ ((-1) : Int) = i 1 + 20 ∧ i47 1 = i 1 + 20) ∨ (880 < i 1 ∧ ((-1) : Int) = -1 ∧ i47 1 = i 1) from by omega)⟩ (bw_subP (isC := [0, 1]) hP rfl) (hD.sub [0, 1] (by decide) rfl) hS (Nat.le_of_ble_eq_true rfl) (Nat.le_of_ble_eq_true rfl) dX9_feed_19
