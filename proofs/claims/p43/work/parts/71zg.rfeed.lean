abbrev rm_X9_feedX : Room := { frames := 0, cells := 0, slots := 0, locals := 0 }
set_option maxRecDepth 100000 in
set_option maxHeartbeats 8000000 in
theorem c_X9_feedX {l : Launch} {E : (Nat → Prop) → State → Prop} (hO : bw_Ok E) {G : va_G} {cI cB cJ cN cW : ClassId} (y : Nat) (q : Nat → Nat) (i : Nat → Int) (hM : ModOk i) (g_tape : Nat → Int) (hr_tape : ∀ k, k < 900 → (-2147483648) ≤ g_tape k ∧ g_tape k ≤ 2147483647) (x0 : Int) (x1 : Int) (x2 : Int) (x3 : Int) (x4 : Int) (hx09 : zR x0) (hx19 : zR x1) (hx29 : zR x2) (hx39 : zR x3) (hx49 : zR x4)  : bw_Ci (S := zV) l yX9_feed (bw_ws (Cond.code yX9_feed cX9_feed 8 (some .int))) rm_X9_feedX E G (bw_kt cI cB cJ cN cW) [.ref y, .int (zI x0), .int (zI x1), .int (zI x2), .int (zI x3), .int (zI x4)] [(y, .inr (9, [.int (zI (i 0)), .ref (q 0), .int (zI (i 1)), .int (zI (i 2)), .int (zI (i 3)), .int (zI (i 4)), .int (zI (i 5)), .int (zI (i 6)), .int (zI (i 7)), .int (zI (i 8)), .int (zI (i 9)), .int (zI (i 10)), .ref (q 1), .int (zI (i 11)), .int (zI (i 12)), .ref (q 2), .ref (q 3), .ref (q 4), .ref (q 5), .ref (q 6), .ref (q 7), .ref (q 8), .ref (q 9), .ref (q 10), .ref (q 11), .ref (q 12), .ref (q 13), .ref (q 14), .ref (q 15), .ref (q 16), .int (zI (i 13)), .int (zI (i 14)), .int (zI (i 15)), .int (zI (i 16)), .int (zI (i 17)), .int (zI (i 18)), .ref (q 17), .ref (q 18), .ref (q 19), .ref (q 20)])), ((q 0), .inl (cI, 900, .inl (fun k => zI (g_tape k))))] (fun r u => ∃ z : Int, r = zI z ∧ (ModOk (u 0).1) ∧ (∀ k, k < 900 → (-2147483648) ≤ ((u 1).2 0) k ∧ ((u 1).2 0) k ≤ 2147483647) ∧ (((i 1 ≤ 880 ∧ z = i 1 + 20 ∧ (u 0).1 1 = i 1 + 20 ∧ ((u 1).2 0) = fed g_tape (i 1) x0 x1 x2 x3 x4 20) ∨ (880 < i 1 ∧ z = -1 ∧ (u 0).1 1 = i 1 ∧ ((u 1).2 0) = g_tape)) ∧ (u 0).1 8 = i 8 ∧ (u 0).1 9 = i 9 ∧ (u 0).1 10 = i 10 ∧ (u 0).1 12 = i 12 ∧ (u 0).1 13 = i 13 ∧ (u 0).1 15 = i 15 ∧ (u 0).1 17 = i 17)) (fun u => [(y, .inr (9, [.int (zI ((u 0).1 0)), .ref (q 0), .int (zI ((u 0).1 1)), .int (zI ((u 0).1 2)), .int (zI ((u 0).1 3)), .int (zI ((u 0).1 4)), .int (zI ((u 0).1 5)), .int (zI ((u 0).1 6)), .int (zI ((u 0).1 7)), .int (zI ((u 0).1 8)), .int (zI ((u 0).1 9)), .int (zI ((u 0).1 10)), .ref (q 1), .int (zI ((u 0).1 11)), .int (zI ((u 0).1 12)), .ref (q 2), .ref (q 3), .ref (q 4), .ref (q 5), .ref (q 6), .ref (q 7), .ref (q 8), .ref (q 9), .ref (q 10), .ref (q 11), .ref (q 12), .ref (q 13), .ref (q 14), .ref (q 15), .ref (q 16), .int (zI ((u 0).1 13)), .int (zI ((u 0).1 14)), .int (zI ((u 0).1 15)), .int (zI ((u 0).1 16)), .int (zI ((u 0).1 17)), .int (zI ((u 0).1 18)), .ref (q 17), .ref (q 18), .ref (q 19), .ref (q 20)])), ((q 0), .inl (cI, 900, .inl (fun k => zI (((u 1).2 0) k))))]) := by
  refine bw_Ci.of (cc := cX9_feed) (maxL := 8) (ty := .int) (by decide) rfl (Nat.le_of_ble_eq_true rfl) ?_
  intro p e s m below meth c A Q hx hb hml hts hown hin hK hA hS hP hD hE ret ls hl
  have F : CallFix p m c cX9_feed 8 s ([.ref y, .int (zI x0), .int (zI x1), .int (zI x2), .int (zI x3), .int (zI x4)] : List Value).toArray bw_T RX9 := ⟨hx, hb, hml, hown, fun w h => hts w (List.mem_cons_of_mem _ h)⟩
  replace hl : lv_has ls 8 [(0, .ref y), (1, .int (zI x0)), (2, .int (zI x1)), (3, .int (zI x2)), (4, .int (zI x3)), (5, .int (zI x4))] := hl
  have hf1 := hM.1
  refine lv_aload_n hx hb dX9_feed_0 rfl (lv_at hl 0 rfl) ?_
  refine lv_iconst (v := zI 0) hx hb dX9_feed_1 rfl ?_
  refine r_put F hK hP hD hS 0 0 rfl rfl in_X9 tyX9 tyX9_ok nmX9 (by decide) k_1163 rfl rfl rfl (Nat.le_of_ble_eq_true rfl) dX9_feed_2 (w1 := [(y, .inr (9, [.int (zI 0), .ref (q 0), .int (zI (i 1)), .int (zI (i 2)), .int (zI (i 3)), .int (zI (i 4)), .int (zI (i 5)), .int (zI (i 6)), .int (zI (i 7)), .int (zI (i 8)), .int (zI (i 9)), .int (zI (i 10)), .ref (q 1), .int (zI (i 11)), .int (zI (i 12)), .ref (q 2), .ref (q 3), .ref (q 4), .ref (q 5), .ref (q 6), .ref (q 7), .ref (q 8), .ref (q 9), .ref (q 10), .ref (q 11), .ref (q 12), .ref (q 13), .ref (q 14), .ref (q 15), .ref (q 16), .int (zI (i 13)), .int (zI (i 14)), .int (zI (i 15)), .int (zI (i 16)), .int (zI (i 17)), .int (zI (i 18)), .ref (q 17), .ref (q 18), .ref (q 19), .ref (q 20)])), ((q 0), .inl (cI, 900, .inl (fun k => zI (g_tape k))))]) rfl (fun H locs hP hD hS => ?_)
  refine lv_aload_n hx hb dX9_feed_5 rfl (lv_at hl 0 rfl) ?_
  refine r_get F hK hP 0 2 rfl rfl in_X9 (by decide) k_1165 rfl dX9_feed_6 ?_
  refine lv_bipush (v := zI 20) hx hb dX9_feed_9 (by decide) ?_
  refine r_iadd (v := zI ((i 1) + 20)) F dX9_feed_11 (zI_add _ _) ?_
  refine lv_sipush (v := zI 900) hx hb dX9_feed_12 (by decide) ?_
  refine rz_icmp_le (tgt := 20) F (by omega) (by omega) dX9_feed_15 (by decide) (fun h15_1 => ?_) (fun h15_1 => ?_)
  · refine lv_iconst (v := zI 0) hx hb dX9_feed_20 rfl ?_
    refine lv_istore (lv' := [(6, .int (zI 0)), (0, .ref y), (1, .int (zI x0)), (2, .int (zI x1)), (3, .int (zI x2)), (4, .int (zI x3)), (5, .int (zI x4))]) hx hb dX9_feed_21 hl (by decide) rfl (fun ls hl => ?_)
    obtain ⟨i3, e_i3⟩ : ∃ i3 : Nat → Int, i3 = fun k => [0, (i 1), (i 2), (i 3), (i 4), (i 5), (i 6), (i 7), (i 8), (i 9), (i 10), (i 11), (i 12), (i 13), (i 14), (i 15), (i 16), (i 17), (i 18)].getD k 0 := ⟨_, rfl⟩
    have e_i3_0 : i3 0 = 0 := congrFun e_i3 0
    have e_i3_1 : i3 1 = (i 1) := congrFun e_i3 1
    have e_i3_2 : i3 2 = (i 2) := congrFun e_i3 2
    have e_i3_3 : i3 3 = (i 3) := congrFun e_i3 3
    have e_i3_4 : i3 4 = (i 4) := congrFun e_i3 4
    have e_i3_5 : i3 5 = (i 5) := congrFun e_i3 5
    have e_i3_6 : i3 6 = (i 6) := congrFun e_i3 6
    have e_i3_7 : i3 7 = (i 7) := congrFun e_i3 7
    have e_i3_8 : i3 8 = (i 8) := congrFun e_i3 8
    have e_i3_9 : i3 9 = (i 9) := congrFun e_i3 9
    have e_i3_10 : i3 10 = (i 10) := congrFun e_i3 10
    have e_i3_11 : i3 11 = (i 11) := congrFun e_i3 11
    have e_i3_12 : i3 12 = (i 12) := congrFun e_i3 12
    have e_i3_13 : i3 13 = (i 13) := congrFun e_i3 13
    have e_i3_14 : i3 14 = (i 14) := congrFun e_i3 14
    have e_i3_15 : i3 15 = (i 15) := congrFun e_i3 15
    have e_i3_16 : i3 16 = (i 16) := congrFun e_i3 16
    have e_i3_17 : i3 17 = (i 17) := congrFun e_i3 17
    have e_i3_18 : i3 18 = (i 18) := congrFun e_i3 18
    have hO4 : ModOk i3 := ⟨⟨⟨(by rw [e_i3_11]; exact hM.1.1.1), (by rw [e_i3_14]; exact hM.1.1.2.1), (by rw [e_i3_16]; exact hM.1.1.2.2.1), (by rw [e_i3_7]; exact hM.1.1.2.2.2.1), (by rw [e_i3_5]; exact hM.1.1.2.2.2.2)⟩, ⟨(by rw [e_i3_1]; exact hM.1.2.1.1), (by rw [e_i3_2]; exact hM.1.2.1.2.1), (by rw [e_i3_3]; exact hM.1.2.1.2.2.1), (by rw [e_i3_4]; exact hM.1.2.1.2.2.2.1), (by rw [e_i3_6]; exact hM.1.2.1.2.2.2.2.1), (by rw [e_i3_10]; exact hM.1.2.1.2.2.2.2.2)⟩, ⟨(by rw [e_i3_12]; exact hM.1.2.2.1), (by rw [e_i3_13]; exact hM.1.2.2.2.1), (by rw [e_i3_15]; exact hM.1.2.2.2.2.1), (by rw [e_i3_17]; exact hM.1.2.2.2.2.2)⟩⟩, fun q5 => by rw [e_i3_7]; exact hM.2 (by rw [← e_i3_5]; exact q5)⟩
    have hf5 := hO4.1
    have hP : va_P G vwCl [(y, .inr (9, [.int (zI (i3 0)), .ref (q 0), .int (zI (i3 1)), .int (zI (i3 2)), .int (zI (i3 3)), .int (zI (i3 4)), .int (zI (i3 5)), .int (zI (i3 6)), .int (zI (i3 7)), .int (zI (i3 8)), .int (zI (i3 9)), .int (zI (i3 10)), .ref (q 1), .int (zI (i3 11)), .int (zI (i3 12)), .ref (q 2), .ref (q 3), .ref (q 4), .ref (q 5), .ref (q 6), .ref (q 7), .ref (q 8), .ref (q 9), .ref (q 10), .ref (q 11), .ref (q 12), .ref (q 13), .ref (q 14), .ref (q 15), .ref (q 16), .int (zI (i3 13)), .int (zI (i3 14)), .int (zI (i3 15)), .int (zI (i3 16)), .int (zI (i3 17)), .int (zI (i3 18)), .ref (q 17), .ref (q 18), .ref (q 19), .ref (q 20)])), ((q 0), .inl (cI, 900, .inl (fun k => zI (g_tape k))))] H := by subst e_i3; exact hP
    have hD : va_D A [(y, .inr (9, [.int (zI (i3 0)), .ref (q 0), .int (zI (i3 1)), .int (zI (i3 2)), .int (zI (i3 3)), .int (zI (i3 4)), .int (zI (i3 5)), .int (zI (i3 6)), .int (zI (i3 7)), .int (zI (i3 8)), .int (zI (i3 9)), .int (zI (i3 10)), .ref (q 1), .int (zI (i3 11)), .int (zI (i3 12)), .ref (q 2), .ref (q 3), .ref (q 4), .ref (q 5), .ref (q 6), .ref (q 7), .ref (q 8), .ref (q 9), .ref (q 10), .ref (q 11), .ref (q 12), .ref (q 13), .ref (q 14), .ref (q 15), .ref (q 16), .int (zI (i3 13)), .int (zI (i3 14)), .int (zI (i3 15)), .int (zI (i3 16)), .int (zI (i3 17)), .int (zI (i3 18)), .ref (q 17), .ref (q 18), .ref (q 19), .ref (q 20)])), ((q 0), .inl (cI, 900, .inl (fun k => zI (g_tape k))))] := by subst e_i3; exact hD
    refine W.widen (k := 0) (n := 0) (Nat.le_of_ble_eq_true rfl) (Nat.le_of_ble_eq_true rfl) ?_
    refine (?_ : ∀ (n9_1 : Nat) (v6 : Int) (gt9 : Nat → Int) (ii : Nat → Int) (H : Heap) (locs : List Loc), (0 ≤ v6 ∧ v6 ≤ 20 ∧ ii 1 = i 1 + v6 ∧ ii 8 = i 8 ∧ ii 9 = i 9 ∧ ii 10 = i 10 ∧ ii 12 = i 12 ∧ ii 13 = i 13 ∧ ii 15 = i 15 ∧ ii 17 = i 17) → (20 - v6 : Int).toNat < n9_1 → (ModOk ii) → (∀ k, k < 900 → (-2147483648) ≤ gt9 k ∧ gt9 k ≤ 2147483647) → (gt9 = fed g_tape (i 1) x0 x1 x2 x3 x4 (v6).toNat) → va_P G vwCl [(y, .inr (9, [.int (zI (ii 0)), .ref (q 0), .int (zI (ii 1)), .int (zI (ii 2)), .int (zI (ii 3)), .int (zI (ii 4)), .int (zI (ii 5)), .int (zI (ii 6)), .int (zI (ii 7)), .int (zI (ii 8)), .int (zI (ii 9)), .int (zI (ii 10)), .ref (q 1), .int (zI (ii 11)), .int (zI (ii 12)), .ref (q 2), .ref (q 3), .ref (q 4), .ref (q 5), .ref (q 6), .ref (q 7), .ref (q 8), .ref (q 9), .ref (q 10), .ref (q 11), .ref (q 12), .ref (q 13), .ref (q 14), .ref (q 15), .ref (q 16), .int (zI (ii 13)), .int (zI (ii 14)), .int (zI (ii 15)), .int (zI (ii 16)), .int (zI (ii 17)), .int (zI (ii 18)), .ref (q 17), .ref (q 18), .ref (q 19), .ref (q 20)])), ((q 0), .inl (cI, 900, .inl (fun k => zI (gt9 k))))] H → va_D A [(y, .inr (9, [.int (zI (ii 0)), .ref (q 0), .int (zI (ii 1)), .int (zI (ii 2)), .int (zI (ii 3)), .int (zI (ii 4)), .int (zI (ii 5)), .int (zI (ii 6)), .int (zI (ii 7)), .int (zI (ii 8)), .int (zI (ii 9)), .int (zI (ii 10)), .ref (q 1), .int (zI (ii 11)), .int (zI (ii 12)), .ref (q 2), .ref (q 3), .ref (q 4), .ref (q 5), .ref (q 6), .ref (q 7), .ref (q 8), .ref (q 9), .ref (q 10), .ref (q 11), .ref (q 12), .ref (q 13), .ref (q 14), .ref (q 15), .ref (q 16), .int (zI (ii 13)), .int (zI (ii 14)), .int (zI (ii 15)), .int (zI (ii 16)), .int (zI (ii 17)), .int (zI (ii 18)), .ref (q 17), .ref (q 18), .ref (q 19), .ref (q 20)])), ((q 0), .inl (cI, 900, .inl (fun k => zI (gt9 k))))] → va_S A s.heap H locs → ∀ ls : Array Slot, lv_has ls 8 [(6, .int (zI v6)), (0, .ref y), (1, .int (zI x0)), (2, .int (zI x1)), (3, .int (zI x2)), (4, .int (zI x3)), (5, .int (zI x4))] → W p l e rm_X9_feedX s m ([.ref y, .int (zI x0), .int (zI x1), .int (zI x2), .int (zI x3), .int (zI x4)] : List Value).toArray below meth c H locs 0 0 Q (F0 m 23 ls [])) ((20 - 0 : Int).toNat + 1) 0 g_tape i3 _ _ (by omega) (by omega) hO4 hr_tape rfl hP hD hS ls hl
    clear hP hD hS hl ls
    intro n9_1
    induction n9_1 with
    | zero =>
      intro v6 gt9 ii H locs hI hM
      exact absurd hM (by omega)
    | succ n9_1 ih1 =>
      intro v6 gt9 ii H locs hI1 hM1 hG h_gt9 hfd hP hD hS ls hl
      have hf6 := hG.1
      refine lv_iload hx hb dX9_feed_23 (lv_at hl 0 rfl) ?_
      refine lv_bipush (v := zI 20) hx hb dX9_feed_25 (by decide) ?_
      refine rz_icmp_ge (tgt := 120) F (by omega) (by omega) dX9_feed_27 (by decide) (fun h27_6 => ?_) (fun h27_6 => ?_)
      · refine lv_aload_n hx hb dX9_feed_120 rfl (lv_at hl 1 rfl) ?_
        refine r_get F hK hP 0 2 rfl rfl in_X9 (by decide) k_1165 rfl dX9_feed_121 ?_
        exact ret (zI (ii 1)) (fun k => [(ii, fun _ _ => 0), (fun _ => 0, fun _ => gt9)].getD k (fun _ => 0, fun _ _ => 0)) _ _ _ _ _ _ rfl ⟨(ii 1), rfl, hG, h_gt9, (show ((i 1 ≤ 880 ∧ ((ii 1) : Int) = i 1 + 20 ∧ ii 1 = i 1 + 20 ∧ gt9 = fed g_tape (i 1) x0 x1 x2 x3 x4 20) ∨ (880 < i 1 ∧ ((ii 1) : Int) = -1 ∧ ii 1 = i 1 ∧ gt9 = g_tape)) ∧ ii 8 = i 8 ∧ ii 9 = i 9 ∧ ii 10 = i 10 ∧ ii 12 = i 12 ∧ ii 13 = i 13 ∧ ii 15 = i 15 ∧ ii 17 = i 17 from ⟨Or.inl ⟨by omega, by omega, by omega, (by have q8 := hfd; rw [show (v6).toNat = 20 by omega] at q8; exact q8)⟩, by omega⟩)⟩ (bw_subP (isC := [0, 1]) hP rfl) (hD.sub [0, 1] (by decide) rfl) hS (Nat.le_of_ble_eq_true rfl) (Nat.le_of_ble_eq_true rfl) dX9_feed_124
      · refine lv_iload hx hb dX9_feed_30 (lv_at hl 0 rfl) ?_
        refine lv_iconst (v := zI 4) hx hb dX9_feed_32 rfl ?_
        refine rz_icmp_ge (tgt := 40) F (by omega) (by omega) dX9_feed_33 (by decide) (fun h33_7 => ?_) (fun h33_7 => ?_)
        · refine lv_iload hx hb dX9_feed_40 (lv_at hl 0 rfl) ?_
          refine lv_bipush (v := zI 8) hx hb dX9_feed_42 (by decide) ?_
          refine rz_icmp_ge (tgt := 51) F (by omega) (by omega) dX9_feed_44 (by decide) (fun h44_8 => ?_) (fun h44_8 => ?_)
          · refine lv_iload hx hb dX9_feed_51 (lv_at hl 0 rfl) ?_
            refine lv_bipush (v := zI 12) hx hb dX9_feed_53 (by decide) ?_
            refine rz_icmp_ge (tgt := 62) F (by omega) (by omega) dX9_feed_55 (by decide) (fun h55_9 => ?_) (fun h55_9 => ?_)
            · refine lv_iload hx hb dX9_feed_62 (lv_at hl 0 rfl) ?_
              refine lv_bipush (v := zI 16) hx hb dX9_feed_64 (by decide) ?_
              refine rz_icmp_ge (tgt := 74) F (by omega) (by omega) dX9_feed_66 (by decide) (fun h66_10 => ?_) (fun h66_10 => ?_)
              · refine lv_iload hx hb dX9_feed_74 (lv_at hl 6 rfl) ?_
                refine lv_istore (lv' := [(7, .int (zI x4)), (6, .int (zI v6)), (0, .ref y), (1, .int (zI x0)), (2, .int (zI x1)), (3, .int (zI x2)), (4, .int (zI x3)), (5, .int (zI x4))]) hx hb dX9_feed_76 hl (by decide) rfl (fun ls hl => ?_)
                refine lv_aload_n hx hb dX9_feed_78 rfl (lv_at hl 2 rfl) ?_
                refine r_get F hK hP 0 1 rfl rfl in_X9 (by decide) k_1164 rfl dX9_feed_79 ?_
                refine lv_aload_n hx hb dX9_feed_82 rfl (lv_at hl 2 rfl) ?_
                refine r_get F hK hP 0 2 rfl rfl in_X9 (by decide) k_1165 rfl dX9_feed_83 ?_
                refine lv_iload hx hb dX9_feed_86 (lv_at hl 0 rfl) ?_
                refine lv_bipush (v := zI 24) hx hb dX9_feed_88 (by decide) ?_
                refine lv_bipush (v := zI 8) hx hb dX9_feed_90 (by decide) ?_
                refine lv_iload hx hb dX9_feed_92 (lv_at hl 1 rfl) ?_
                refine lv_iconst (v := zI 4) hx hb dX9_feed_94 rfl ?_
                refine rz_irem F (by omega) (by omega) dX9_feed_95 (fun z12 h_z12 => ?_)
                refine r_imul (v := zI (8 * z12)) F dX9_feed_96 (zI_mul _ _) ?_
                refine r_isub (v := zI (24 - (8 * z12))) F dX9_feed_97 (zI_sub _ _) ?_
                refine lv_ishr hx hb dX9_feed_98 ?_
                refine lv_sipush (v := zI 255) hx hb dX9_feed_99 (by decide) ?_
                refine lv_iand hx hb dX9_feed_102 ?_
                refine rz_eq (z := bA x4 (24 - (8 * z12))) (Int32.ofInt_toInt _).symm ?_
                have hbr15 := by_rel ((zI x4) >>> ((zI (24 - (8 * z12))) &&& 31))
                have hbr16 : 0 ≤ bA x4 (24 - (8 * z12)) ∧ bA x4 (24 - (8 * z12)) ≤ 255 := (by_rel _).1
                refine rz_iastG F hK hP hD hS 1 0 rfl rfl (by omega) (by omega) dX9_feed_103 (w1 := fun g17 => [(y, .inr (9, [.int (zI (ii 0)), .ref (q 0), .int (zI (ii 1)), .int (zI (ii 2)), .int (zI (ii 3)), .int (zI (ii 4)), .int (zI (ii 5)), .int (zI (ii 6)), .int (zI (ii 7)), .int (zI (ii 8)), .int (zI (ii 9)), .int (zI (ii 10)), .ref (q 1), .int (zI (ii 11)), .int (zI (ii 12)), .ref (q 2), .ref (q 3), .ref (q 4), .ref (q 5), .ref (q 6), .ref (q 7), .ref (q 8), .ref (q 9), .ref (q 10), .ref (q 11), .ref (q 12), .ref (q 13), .ref (q 14), .ref (q 15), .ref (q 16), .int (zI (ii 13)), .int (zI (ii 14)), .int (zI (ii 15)), .int (zI (ii 16)), .int (zI (ii 17)), .int (zI (ii 18)), .ref (q 17), .ref (q 18), .ref (q 19), .ref (q 20)])), ((q 0), .inl (cI, 900, .inl (fun k => zI (g17 k))))]) (fun _ => rfl) (fun g17 e_g17 H locs hP hD hS => ?_)
                have h_g17 : ∀ k, k < 900 → (-2147483648) ≤ g17 k ∧ g17 k ≤ 2147483647 := by rw [e_g17]; exact uZ_all (P := fun _ y9 => (-2147483648) ≤ y9 ∧ y9 ≤ 2147483647) h_gt9 (fun _ => by omega)
                refine lv_aload_n hx hb dX9_feed_104 rfl (lv_at hl 2 rfl) ?_
                refine lv_dup hx hb dX9_feed_105 rfl ?_
                refine r_get F hK hP 0 2 rfl rfl in_X9 (by decide) k_1165 rfl dX9_feed_106 ?_
                refine lv_iconst (v := zI 1) hx hb dX9_feed_109 rfl ?_
                refine r_iadd (v := zI ((ii 1) + 1)) F dX9_feed_110 (zI_add _ _) ?_
                refine r_put F hK hP hD hS 0 2 rfl rfl in_X9 tyX9 tyX9_ok nmX9 (by decide) k_1165 rfl rfl rfl (Nat.le_of_ble_eq_true rfl) dX9_feed_111 (w1 := [(y, .inr (9, [.int (zI (ii 0)), .ref (q 0), .int (zI ((ii 1) + 1)), .int (zI (ii 2)), .int (zI (ii 3)), .int (zI (ii 4)), .int (zI (ii 5)), .int (zI (ii 6)), .int (zI (ii 7)), .int (zI (ii 8)), .int (zI (ii 9)), .int (zI (ii 10)), .ref (q 1), .int (zI (ii 11)), .int (zI (ii 12)), .ref (q 2), .ref (q 3), .ref (q 4), .ref (q 5), .ref (q 6), .ref (q 7), .ref (q 8), .ref (q 9), .ref (q 10), .ref (q 11), .ref (q 12), .ref (q 13), .ref (q 14), .ref (q 15), .ref (q 16), .int (zI (ii 13)), .int (zI (ii 14)), .int (zI (ii 15)), .int (zI (ii 16)), .int (zI (ii 17)), .int (zI (ii 18)), .ref (q 17), .ref (q 18), .ref (q 19), .ref (q 20)])), ((q 0), .inl (cI, 900, .inl (fun k => zI (g17 k))))]) rfl (fun H locs hP hD hS => ?_)
                refine lv_iinc (v := zI (v6 + 1)) (lv' := [(6, .int (zI (v6 + 1))), (7, .int (zI x4)), (0, .ref y), (1, .int (zI x0)), (2, .int (zI x1)), (3, .int (zI x2)), (4, .int (zI x3)), (5, .int (zI x4))]) hx hb dX9_feed_114 hl (k := 1) rfl (zI_add _ _) (by decide) rfl (fun ls hl => ?_)
                refine lv_goto (tgt := 23) hx hb dX9_feed_117 (by decide) ?_
                obtain ⟨i18, e_i18⟩ : ∃ i18 : Nat → Int, i18 = fun k => [(ii 0), ((ii 1) + 1), (ii 2), (ii 3), (ii 4), (ii 5), (ii 6), (ii 7), (ii 8), (ii 9), (ii 10), (ii 11), (ii 12), (ii 13), (ii 14), (ii 15), (ii 16), (ii 17), (ii 18)].getD k 0 := ⟨_, rfl⟩
                have e_i18_0 : i18 0 = (ii 0) := congrFun e_i18 0
                have e_i18_1 : i18 1 = ((ii 1) + 1) := congrFun e_i18 1
                have e_i18_2 : i18 2 = (ii 2) := congrFun e_i18 2
                have e_i18_3 : i18 3 = (ii 3) := congrFun e_i18 3
                have e_i18_4 : i18 4 = (ii 4) := congrFun e_i18 4
                have e_i18_5 : i18 5 = (ii 5) := congrFun e_i18 5
                have e_i18_6 : i18 6 = (ii 6) := congrFun e_i18 6
                have e_i18_7 : i18 7 = (ii 7) := congrFun e_i18 7
                have e_i18_8 : i18 8 = (ii 8) := congrFun e_i18 8
                have e_i18_9 : i18 9 = (ii 9) := congrFun e_i18 9
                have e_i18_10 : i18 10 = (ii 10) := congrFun e_i18 10
                have e_i18_11 : i18 11 = (ii 11) := congrFun e_i18 11
                have e_i18_12 : i18 12 = (ii 12) := congrFun e_i18 12
                have e_i18_13 : i18 13 = (ii 13) := congrFun e_i18 13
                have e_i18_14 : i18 14 = (ii 14) := congrFun e_i18 14
                have e_i18_15 : i18 15 = (ii 15) := congrFun e_i18 15
                have e_i18_16 : i18 16 = (ii 16) := congrFun e_i18 16
                have e_i18_17 : i18 17 = (ii 17) := congrFun e_i18 17
                have e_i18_18 : i18 18 = (ii 18) := congrFun e_i18 18
                have hO19 : ModOk i18 := ⟨⟨⟨(by rw [e_i18_11]; exact hG.1.1.1), (by rw [e_i18_14]; exact hG.1.1.2.1), (by rw [e_i18_16]; exact hG.1.1.2.2.1), (by rw [e_i18_7]; exact hG.1.1.2.2.2.1), (by rw [e_i18_5]; exact hG.1.1.2.2.2.2)⟩, ⟨(by omega), (by rw [e_i18_2]; exact hG.1.2.1.2.1), (by rw [e_i18_3]; exact hG.1.2.1.2.2.1), (by rw [e_i18_4]; exact hG.1.2.1.2.2.2.1), (by rw [e_i18_6]; exact hG.1.2.1.2.2.2.2.1), (by rw [e_i18_10]; exact hG.1.2.1.2.2.2.2.2)⟩, ⟨(by rw [e_i18_12]; exact hG.1.2.2.1), (by rw [e_i18_13]; exact hG.1.2.2.2.1), (by rw [e_i18_15]; exact hG.1.2.2.2.2.1), (by rw [e_i18_17]; exact hG.1.2.2.2.2.2)⟩⟩, fun q5 => by rw [e_i18_7]; exact hG.2 (by rw [← e_i18_5]; exact q5)⟩
                have hf20 := hO19.1
                have hP : va_P G vwCl [(y, .inr (9, [.int (zI (i18 0)), .ref (q 0), .int (zI (i18 1)), .int (zI (i18 2)), .int (zI (i18 3)), .int (zI (i18 4)), .int (zI (i18 5)), .int (zI (i18 6)), .int (zI (i18 7)), .int (zI (i18 8)), .int (zI (i18 9)), .int (zI (i18 10)), .ref (q 1), .int (zI (i18 11)), .int (zI (i18 12)), .ref (q 2), .ref (q 3), .ref (q 4), .ref (q 5), .ref (q 6), .ref (q 7), .ref (q 8), .ref (q 9), .ref (q 10), .ref (q 11), .ref (q 12), .ref (q 13), .ref (q 14), .ref (q 15), .ref (q 16), .int (zI (i18 13)), .int (zI (i18 14)), .int (zI (i18 15)), .int (zI (i18 16)), .int (zI (i18 17)), .int (zI (i18 18)), .ref (q 17), .ref (q 18), .ref (q 19), .ref (q 20)])), ((q 0), .inl (cI, 900, .inl (fun k => zI (g17 k))))] H := by subst e_i18; exact hP
                have hD : va_D A [(y, .inr (9, [.int (zI (i18 0)), .ref (q 0), .int (zI (i18 1)), .int (zI (i18 2)), .int (zI (i18 3)), .int (zI (i18 4)), .int (zI (i18 5)), .int (zI (i18 6)), .int (zI (i18 7)), .int (zI (i18 8)), .int (zI (i18 9)), .int (zI (i18 10)), .ref (q 1), .int (zI (i18 11)), .int (zI (i18 12)), .ref (q 2), .ref (q 3), .ref (q 4), .ref (q 5), .ref (q 6), .ref (q 7), .ref (q 8), .ref (q 9), .ref (q 10), .ref (q 11), .ref (q 12), .ref (q 13), .ref (q 14), .ref (q 15), .ref (q 16), .int (zI (i18 13)), .int (zI (i18 14)), .int (zI (i18 15)), .int (zI (i18 16)), .int (zI (i18 17)), .int (zI (i18 18)), .ref (q 17), .ref (q 18), .ref (q 19), .ref (q 20)])), ((q 0), .inl (cI, 900, .inl (fun k => zI (g17 k))))] := by subst e_i18; exact hD
                exact ih1 (v6 + 1) g17 i18 _ _ (by omega) (by omega) hO19 h_g17 (fed_step (v := v6) (a := (ii 1)) (y := x4) (s := 24 - 8 * z12) hfd (by omega) (by omega) (by unfold fedW; rw [if_neg (by omega), if_neg (by omega), if_neg (by omega), if_neg (by omega)]) (by omega) e_g17) hP hD hS ls (lv_sub hl [0, 2, 3, 4, 5, 6, 7] rfl)
              · refine lv_iload hx hb dX9_feed_69 (lv_at hl 5 rfl) ?_
                refine lv_goto (tgt := 76) hx hb dX9_feed_71 (by decide) ?_
                refine lv_istore (lv' := [(7, .int (zI x3)), (6, .int (zI v6)), (0, .ref y), (1, .int (zI x0)), (2, .int (zI x1)), (3, .int (zI x2)), (4, .int (zI x3)), (5, .int (zI x4))]) hx hb dX9_feed_76 hl (by decide) rfl (fun ls hl => ?_)
                refine lv_aload_n hx hb dX9_feed_78 rfl (lv_at hl 2 rfl) ?_
                refine r_get F hK hP 0 1 rfl rfl in_X9 (by decide) k_1164 rfl dX9_feed_79 ?_
                refine lv_aload_n hx hb dX9_feed_82 rfl (lv_at hl 2 rfl) ?_
                refine r_get F hK hP 0 2 rfl rfl in_X9 (by decide) k_1165 rfl dX9_feed_83 ?_
                refine lv_iload hx hb dX9_feed_86 (lv_at hl 0 rfl) ?_
                refine lv_bipush (v := zI 24) hx hb dX9_feed_88 (by decide) ?_
                refine lv_bipush (v := zI 8) hx hb dX9_feed_90 (by decide) ?_
                refine lv_iload hx hb dX9_feed_92 (lv_at hl 1 rfl) ?_
                refine lv_iconst (v := zI 4) hx hb dX9_feed_94 rfl ?_
                refine rz_irem F (by omega) (by omega) dX9_feed_95 (fun z21 h_z21 => ?_)
                refine r_imul (v := zI (8 * z21)) F dX9_feed_96 (zI_mul _ _) ?_
                refine r_isub (v := zI (24 - (8 * z21))) F dX9_feed_97 (zI_sub _ _) ?_
                refine lv_ishr hx hb dX9_feed_98 ?_
                refine lv_sipush (v := zI 255) hx hb dX9_feed_99 (by decide) ?_
                refine lv_iand hx hb dX9_feed_102 ?_
                refine rz_eq (z := bA x3 (24 - (8 * z21))) (Int32.ofInt_toInt _).symm ?_
                have hbr24 := by_rel ((zI x3) >>> ((zI (24 - (8 * z21))) &&& 31))
                have hbr25 : 0 ≤ bA x3 (24 - (8 * z21)) ∧ bA x3 (24 - (8 * z21)) ≤ 255 := (by_rel _).1
                refine rz_iastG F hK hP hD hS 1 0 rfl rfl (by omega) (by omega) dX9_feed_103 (w1 := fun g26 => [(y, .inr (9, [.int (zI (ii 0)), .ref (q 0), .int (zI (ii 1)), .int (zI (ii 2)), .int (zI (ii 3)), .int (zI (ii 4)), .int (zI (ii 5)), .int (zI (ii 6)), .int (zI (ii 7)), .int (zI (ii 8)), .int (zI (ii 9)), .int (zI (ii 10)), .ref (q 1), .int (zI (ii 11)), .int (zI (ii 12)), .ref (q 2), .ref (q 3), .ref (q 4), .ref (q 5), .ref (q 6), .ref (q 7), .ref (q 8), .ref (q 9), .ref (q 10), .ref (q 11), .ref (q 12), .ref (q 13), .ref (q 14), .ref (q 15), .ref (q 16), .int (zI (ii 13)), .int (zI (ii 14)), .int (zI (ii 15)), .int (zI (ii 16)), .int (zI (ii 17)), .int (zI (ii 18)), .ref (q 17), .ref (q 18), .ref (q 19), .ref (q 20)])), ((q 0), .inl (cI, 900, .inl (fun k => zI (g26 k))))]) (fun _ => rfl) (fun g26 e_g26 H locs hP hD hS => ?_)
                have h_g26 : ∀ k, k < 900 → (-2147483648) ≤ g26 k ∧ g26 k ≤ 2147483647 := by rw [e_g26]; exact uZ_all (P := fun _ y9 => (-2147483648) ≤ y9 ∧ y9 ≤ 2147483647) h_gt9 (fun _ => by omega)
                refine lv_aload_n hx hb dX9_feed_104 rfl (lv_at hl 2 rfl) ?_
                refine lv_dup hx hb dX9_feed_105 rfl ?_
                refine r_get F hK hP 0 2 rfl rfl in_X9 (by decide) k_1165 rfl dX9_feed_106 ?_
                refine lv_iconst (v := zI 1) hx hb dX9_feed_109 rfl ?_
                refine r_iadd (v := zI ((ii 1) + 1)) F dX9_feed_110 (zI_add _ _) ?_
                refine r_put F hK hP hD hS 0 2 rfl rfl in_X9 tyX9 tyX9_ok nmX9 (by decide) k_1165 rfl rfl rfl (Nat.le_of_ble_eq_true rfl) dX9_feed_111 (w1 := [(y, .inr (9, [.int (zI (ii 0)), .ref (q 0), .int (zI ((ii 1) + 1)), .int (zI (ii 2)), .int (zI (ii 3)), .int (zI (ii 4)), .int (zI (ii 5)), .int (zI (ii 6)), .int (zI (ii 7)), .int (zI (ii 8)), .int (zI (ii 9)), .int (zI (ii 10)), .ref (q 1), .int (zI (ii 11)), .int (zI (ii 12)), .ref (q 2), .ref (q 3), .ref (q 4), .ref (q 5), .ref (q 6), .ref (q 7), .ref (q 8), .ref (q 9), .ref (q 10), .ref (q 11), .ref (q 12), .ref (q 13), .ref (q 14), .ref (q 15), .ref (q 16), .int (zI (ii 13)), .int (zI (ii 14)), .int (zI (ii 15)), .int (zI (ii 16)), .int (zI (ii 17)), .int (zI (ii 18)), .ref (q 17), .ref (q 18), .ref (q 19), .ref (q 20)])), ((q 0), .inl (cI, 900, .inl (fun k => zI (g26 k))))]) rfl (fun H locs hP hD hS => ?_)
                refine lv_iinc (v := zI (v6 + 1)) (lv' := [(6, .int (zI (v6 + 1))), (7, .int (zI x3)), (0, .ref y), (1, .int (zI x0)), (2, .int (zI x1)), (3, .int (zI x2)), (4, .int (zI x3)), (5, .int (zI x4))]) hx hb dX9_feed_114 hl (k := 1) rfl (zI_add _ _) (by decide) rfl (fun ls hl => ?_)
                refine lv_goto (tgt := 23) hx hb dX9_feed_117 (by decide) ?_
                obtain ⟨i27, e_i27⟩ : ∃ i27 : Nat → Int, i27 = fun k => [(ii 0), ((ii 1) + 1), (ii 2), (ii 3), (ii 4), (ii 5), (ii 6), (ii 7), (ii 8), (ii 9), (ii 10), (ii 11), (ii 12), (ii 13), (ii 14), (ii 15), (ii 16), (ii 17), (ii 18)].getD k 0 := ⟨_, rfl⟩
                have e_i27_0 : i27 0 = (ii 0) := congrFun e_i27 0
                have e_i27_1 : i27 1 = ((ii 1) + 1) := congrFun e_i27 1
                have e_i27_2 : i27 2 = (ii 2) := congrFun e_i27 2
                have e_i27_3 : i27 3 = (ii 3) := congrFun e_i27 3
                have e_i27_4 : i27 4 = (ii 4) := congrFun e_i27 4
                have e_i27_5 : i27 5 = (ii 5) := congrFun e_i27 5
                have e_i27_6 : i27 6 = (ii 6) := congrFun e_i27 6
                have e_i27_7 : i27 7 = (ii 7) := congrFun e_i27 7
                have e_i27_8 : i27 8 = (ii 8) := congrFun e_i27 8
                have e_i27_9 : i27 9 = (ii 9) := congrFun e_i27 9
                have e_i27_10 : i27 10 = (ii 10) := congrFun e_i27 10
                have e_i27_11 : i27 11 = (ii 11) := congrFun e_i27 11
                have e_i27_12 : i27 12 = (ii 12) := congrFun e_i27 12
                have e_i27_13 : i27 13 = (ii 13) := congrFun e_i27 13
                have e_i27_14 : i27 14 = (ii 14) := congrFun e_i27 14
                have e_i27_15 : i27 15 = (ii 15) := congrFun e_i27 15
                have e_i27_16 : i27 16 = (ii 16) := congrFun e_i27 16
                have e_i27_17 : i27 17 = (ii 17) := congrFun e_i27 17
                have e_i27_18 : i27 18 = (ii 18) := congrFun e_i27 18
                have hO28 : ModOk i27 := ⟨⟨⟨(by rw [e_i27_11]; exact hG.1.1.1), (by rw [e_i27_14]; exact hG.1.1.2.1), (by rw [e_i27_16]; exact hG.1.1.2.2.1), (by rw [e_i27_7]; exact hG.1.1.2.2.2.1), (by rw [e_i27_5]; exact hG.1.1.2.2.2.2)⟩, ⟨(by omega), (by rw [e_i27_2]; exact hG.1.2.1.2.1), (by rw [e_i27_3]; exact hG.1.2.1.2.2.1), (by rw [e_i27_4]; exact hG.1.2.1.2.2.2.1), (by rw [e_i27_6]; exact hG.1.2.1.2.2.2.2.1), (by rw [e_i27_10]; exact hG.1.2.1.2.2.2.2.2)⟩, ⟨(by rw [e_i27_12]; exact hG.1.2.2.1), (by rw [e_i27_13]; exact hG.1.2.2.2.1), (by rw [e_i27_15]; exact hG.1.2.2.2.2.1), (by rw [e_i27_17]; exact hG.1.2.2.2.2.2)⟩⟩, fun q5 => by rw [e_i27_7]; exact hG.2 (by rw [← e_i27_5]; exact q5)⟩
                have hf29 := hO28.1
                have hP : va_P G vwCl [(y, .inr (9, [.int (zI (i27 0)), .ref (q 0), .int (zI (i27 1)), .int (zI (i27 2)), .int (zI (i27 3)), .int (zI (i27 4)), .int (zI (i27 5)), .int (zI (i27 6)), .int (zI (i27 7)), .int (zI (i27 8)), .int (zI (i27 9)), .int (zI (i27 10)), .ref (q 1), .int (zI (i27 11)), .int (zI (i27 12)), .ref (q 2), .ref (q 3), .ref (q 4), .ref (q 5), .ref (q 6), .ref (q 7), .ref (q 8), .ref (q 9), .ref (q 10), .ref (q 11), .ref (q 12), .ref (q 13), .ref (q 14), .ref (q 15), .ref (q 16), .int (zI (i27 13)), .int (zI (i27 14)), .int (zI (i27 15)), .int (zI (i27 16)), .int (zI (i27 17)), .int (zI (i27 18)), .ref (q 17), .ref (q 18), .ref (q 19), .ref (q 20)])), ((q 0), .inl (cI, 900, .inl (fun k => zI (g26 k))))] H := by subst e_i27; exact hP
                have hD : va_D A [(y, .inr (9, [.int (zI (i27 0)), .ref (q 0), .int (zI (i27 1)), .int (zI (i27 2)), .int (zI (i27 3)), .int (zI (i27 4)), .int (zI (i27 5)), .int (zI (i27 6)), .int (zI (i27 7)), .int (zI (i27 8)), .int (zI (i27 9)), .int (zI (i27 10)), .ref (q 1), .int (zI (i27 11)), .int (zI (i27 12)), .ref (q 2), .ref (q 3), .ref (q 4), .ref (q 5), .ref (q 6), .ref (q 7), .ref (q 8), .ref (q 9), .ref (q 10), .ref (q 11), .ref (q 12), .ref (q 13), .ref (q 14), .ref (q 15), .ref (q 16), .int (zI (i27 13)), .int (zI (i27 14)), .int (zI (i27 15)), .int (zI (i27 16)), .int (zI (i27 17)), .int (zI (i27 18)), .ref (q 17), .ref (q 18), .ref (q 19), .ref (q 20)])), ((q 0), .inl (cI, 900, .inl (fun k => zI (g26 k))))] := by subst e_i27; exact hD
                exact ih1 (v6 + 1) g26 i27 _ _ (by omega) (by omega) hO28 h_g26 (fed_step (v := v6) (a := (ii 1)) (y := x3) (s := 24 - 8 * z21) hfd (by omega) (by omega) (by unfold fedW; rw [if_neg (by omega), if_neg (by omega), if_neg (by omega), if_pos (by omega)]) (by omega) e_g26) hP hD hS ls (lv_sub hl [0, 2, 3, 4, 5, 6, 7] rfl)
            · refine lv_iload_n hx hb dX9_feed_58 rfl (lv_at hl 4 rfl) ?_
              refine lv_goto (tgt := 76) hx hb dX9_feed_59 (by decide) ?_
              refine lv_istore (lv' := [(7, .int (zI x2)), (6, .int (zI v6)), (0, .ref y), (1, .int (zI x0)), (2, .int (zI x1)), (3, .int (zI x2)), (4, .int (zI x3)), (5, .int (zI x4))]) hx hb dX9_feed_76 hl (by decide) rfl (fun ls hl => ?_)
              refine lv_aload_n hx hb dX9_feed_78 rfl (lv_at hl 2 rfl) ?_
              refine r_get F hK hP 0 1 rfl rfl in_X9 (by decide) k_1164 rfl dX9_feed_79 ?_
              refine lv_aload_n hx hb dX9_feed_82 rfl (lv_at hl 2 rfl) ?_
              refine r_get F hK hP 0 2 rfl rfl in_X9 (by decide) k_1165 rfl dX9_feed_83 ?_
              refine lv_iload hx hb dX9_feed_86 (lv_at hl 0 rfl) ?_
              refine lv_bipush (v := zI 24) hx hb dX9_feed_88 (by decide) ?_
              refine lv_bipush (v := zI 8) hx hb dX9_feed_90 (by decide) ?_
              refine lv_iload hx hb dX9_feed_92 (lv_at hl 1 rfl) ?_
              refine lv_iconst (v := zI 4) hx hb dX9_feed_94 rfl ?_
              refine rz_irem F (by omega) (by omega) dX9_feed_95 (fun z30 h_z30 => ?_)
              refine r_imul (v := zI (8 * z30)) F dX9_feed_96 (zI_mul _ _) ?_
              refine r_isub (v := zI (24 - (8 * z30))) F dX9_feed_97 (zI_sub _ _) ?_
              refine lv_ishr hx hb dX9_feed_98 ?_
              refine lv_sipush (v := zI 255) hx hb dX9_feed_99 (by decide) ?_
              refine lv_iand hx hb dX9_feed_102 ?_
              refine rz_eq (z := bA x2 (24 - (8 * z30))) (Int32.ofInt_toInt _).symm ?_
              have hbr33 := by_rel ((zI x2) >>> ((zI (24 - (8 * z30))) &&& 31))
              have hbr34 : 0 ≤ bA x2 (24 - (8 * z30)) ∧ bA x2 (24 - (8 * z30)) ≤ 255 := (by_rel _).1
              refine rz_iastG F hK hP hD hS 1 0 rfl rfl (by omega) (by omega) dX9_feed_103 (w1 := fun g35 => [(y, .inr (9, [.int (zI (ii 0)), .ref (q 0), .int (zI (ii 1)), .int (zI (ii 2)), .int (zI (ii 3)), .int (zI (ii 4)), .int (zI (ii 5)), .int (zI (ii 6)), .int (zI (ii 7)), .int (zI (ii 8)), .int (zI (ii 9)), .int (zI (ii 10)), .ref (q 1), .int (zI (ii 11)), .int (zI (ii 12)), .ref (q 2), .ref (q 3), .ref (q 4), .ref (q 5), .ref (q 6), .ref (q 7), .ref (q 8), .ref (q 9), .ref (q 10), .ref (q 11), .ref (q 12), .ref (q 13), .ref (q 14), .ref (q 15), .ref (q 16), .int (zI (ii 13)), .int (zI (ii 14)), .int (zI (ii 15)), .int (zI (ii 16)), .int (zI (ii 17)), .int (zI (ii 18)), .ref (q 17), .ref (q 18), .ref (q 19), .ref (q 20)])), ((q 0), .inl (cI, 900, .inl (fun k => zI (g35 k))))]) (fun _ => rfl) (fun g35 e_g35 H locs hP hD hS => ?_)
              have h_g35 : ∀ k, k < 900 → (-2147483648) ≤ g35 k ∧ g35 k ≤ 2147483647 := by rw [e_g35]; exact uZ_all (P := fun _ y9 => (-2147483648) ≤ y9 ∧ y9 ≤ 2147483647) h_gt9 (fun _ => by omega)
              refine lv_aload_n hx hb dX9_feed_104 rfl (lv_at hl 2 rfl) ?_
              refine lv_dup hx hb dX9_feed_105 rfl ?_
              refine r_get F hK hP 0 2 rfl rfl in_X9 (by decide) k_1165 rfl dX9_feed_106 ?_
              refine lv_iconst (v := zI 1) hx hb dX9_feed_109 rfl ?_
              refine r_iadd (v := zI ((ii 1) + 1)) F dX9_feed_110 (zI_add _ _) ?_
              refine r_put F hK hP hD hS 0 2 rfl rfl in_X9 tyX9 tyX9_ok nmX9 (by decide) k_1165 rfl rfl rfl (Nat.le_of_ble_eq_true rfl) dX9_feed_111 (w1 := [(y, .inr (9, [.int (zI (ii 0)), .ref (q 0), .int (zI ((ii 1) + 1)), .int (zI (ii 2)), .int (zI (ii 3)), .int (zI (ii 4)), .int (zI (ii 5)), .int (zI (ii 6)), .int (zI (ii 7)), .int (zI (ii 8)), .int (zI (ii 9)), .int (zI (ii 10)), .ref (q 1), .int (zI (ii 11)), .int (zI (ii 12)), .ref (q 2), .ref (q 3), .ref (q 4), .ref (q 5), .ref (q 6), .ref (q 7), .ref (q 8), .ref (q 9), .ref (q 10), .ref (q 11), .ref (q 12), .ref (q 13), .ref (q 14), .ref (q 15), .ref (q 16), .int (zI (ii 13)), .int (zI (ii 14)), .int (zI (ii 15)), .int (zI (ii 16)), .int (zI (ii 17)), .int (zI (ii 18)), .ref (q 17), .ref (q 18), .ref (q 19), .ref (q 20)])), ((q 0), .inl (cI, 900, .inl (fun k => zI (g35 k))))]) rfl (fun H locs hP hD hS => ?_)
              refine lv_iinc (v := zI (v6 + 1)) (lv' := [(6, .int (zI (v6 + 1))), (7, .int (zI x2)), (0, .ref y), (1, .int (zI x0)), (2, .int (zI x1)), (3, .int (zI x2)), (4, .int (zI x3)), (5, .int (zI x4))]) hx hb dX9_feed_114 hl (k := 1) rfl (zI_add _ _) (by decide) rfl (fun ls hl => ?_)
              refine lv_goto (tgt := 23) hx hb dX9_feed_117 (by decide) ?_
              obtain ⟨i36, e_i36⟩ : ∃ i36 : Nat → Int, i36 = fun k => [(ii 0), ((ii 1) + 1), (ii 2), (ii 3), (ii 4), (ii 5), (ii 6), (ii 7), (ii 8), (ii 9), (ii 10), (ii 11), (ii 12), (ii 13), (ii 14), (ii 15), (ii 16), (ii 17), (ii 18)].getD k 0 := ⟨_, rfl⟩
              have e_i36_0 : i36 0 = (ii 0) := congrFun e_i36 0
              have e_i36_1 : i36 1 = ((ii 1) + 1) := congrFun e_i36 1
              have e_i36_2 : i36 2 = (ii 2) := congrFun e_i36 2
              have e_i36_3 : i36 3 = (ii 3) := congrFun e_i36 3
              have e_i36_4 : i36 4 = (ii 4) := congrFun e_i36 4
              have e_i36_5 : i36 5 = (ii 5) := congrFun e_i36 5
              have e_i36_6 : i36 6 = (ii 6) := congrFun e_i36 6
              have e_i36_7 : i36 7 = (ii 7) := congrFun e_i36 7
              have e_i36_8 : i36 8 = (ii 8) := congrFun e_i36 8
              have e_i36_9 : i36 9 = (ii 9) := congrFun e_i36 9
              have e_i36_10 : i36 10 = (ii 10) := congrFun e_i36 10
              have e_i36_11 : i36 11 = (ii 11) := congrFun e_i36 11
              have e_i36_12 : i36 12 = (ii 12) := congrFun e_i36 12
              have e_i36_13 : i36 13 = (ii 13) := congrFun e_i36 13
              have e_i36_14 : i36 14 = (ii 14) := congrFun e_i36 14
              have e_i36_15 : i36 15 = (ii 15) := congrFun e_i36 15
              have e_i36_16 : i36 16 = (ii 16) := congrFun e_i36 16
              have e_i36_17 : i36 17 = (ii 17) := congrFun e_i36 17
              have e_i36_18 : i36 18 = (ii 18) := congrFun e_i36 18
              have hO37 : ModOk i36 := ⟨⟨⟨(by rw [e_i36_11]; exact hG.1.1.1), (by rw [e_i36_14]; exact hG.1.1.2.1), (by rw [e_i36_16]; exact hG.1.1.2.2.1), (by rw [e_i36_7]; exact hG.1.1.2.2.2.1), (by rw [e_i36_5]; exact hG.1.1.2.2.2.2)⟩, ⟨(by omega), (by rw [e_i36_2]; exact hG.1.2.1.2.1), (by rw [e_i36_3]; exact hG.1.2.1.2.2.1), (by rw [e_i36_4]; exact hG.1.2.1.2.2.2.1), (by rw [e_i36_6]; exact hG.1.2.1.2.2.2.2.1), (by rw [e_i36_10]; exact hG.1.2.1.2.2.2.2.2)⟩, ⟨(by rw [e_i36_12]; exact hG.1.2.2.1), (by rw [e_i36_13]; exact hG.1.2.2.2.1), (by rw [e_i36_15]; exact hG.1.2.2.2.2.1), (by rw [e_i36_17]; exact hG.1.2.2.2.2.2)⟩⟩, fun q5 => by rw [e_i36_7]; exact hG.2 (by rw [← e_i36_5]; exact q5)⟩
              have hf38 := hO37.1
              have hP : va_P G vwCl [(y, .inr (9, [.int (zI (i36 0)), .ref (q 0), .int (zI (i36 1)), .int (zI (i36 2)), .int (zI (i36 3)), .int (zI (i36 4)), .int (zI (i36 5)), .int (zI (i36 6)), .int (zI (i36 7)), .int (zI (i36 8)), .int (zI (i36 9)), .int (zI (i36 10)), .ref (q 1), .int (zI (i36 11)), .int (zI (i36 12)), .ref (q 2), .ref (q 3), .ref (q 4), .ref (q 5), .ref (q 6), .ref (q 7), .ref (q 8), .ref (q 9), .ref (q 10), .ref (q 11), .ref (q 12), .ref (q 13), .ref (q 14), .ref (q 15), .ref (q 16), .int (zI (i36 13)), .int (zI (i36 14)), .int (zI (i36 15)), .int (zI (i36 16)), .int (zI (i36 17)), .int (zI (i36 18)), .ref (q 17), .ref (q 18), .ref (q 19), .ref (q 20)])), ((q 0), .inl (cI, 900, .inl (fun k => zI (g35 k))))] H := by subst e_i36; exact hP
              have hD : va_D A [(y, .inr (9, [.int (zI (i36 0)), .ref (q 0), .int (zI (i36 1)), .int (zI (i36 2)), .int (zI (i36 3)), .int (zI (i36 4)), .int (zI (i36 5)), .int (zI (i36 6)), .int (zI (i36 7)), .int (zI (i36 8)), .int (zI (i36 9)), .int (zI (i36 10)), .ref (q 1), .int (zI (i36 11)), .int (zI (i36 12)), .ref (q 2), .ref (q 3), .ref (q 4), .ref (q 5), .ref (q 6), .ref (q 7), .ref (q 8), .ref (q 9), .ref (q 10), .ref (q 11), .ref (q 12), .ref (q 13), .ref (q 14), .ref (q 15), .ref (q 16), .int (zI (i36 13)), .int (zI (i36 14)), .int (zI (i36 15)), .int (zI (i36 16)), .int (zI (i36 17)), .int (zI (i36 18)), .ref (q 17), .ref (q 18), .ref (q 19), .ref (q 20)])), ((q 0), .inl (cI, 900, .inl (fun k => zI (g35 k))))] := by subst e_i36; exact hD
              exact ih1 (v6 + 1) g35 i36 _ _ (by omega) (by omega) hO37 h_g35 (fed_step (v := v6) (a := (ii 1)) (y := x2) (s := 24 - 8 * z30) hfd (by omega) (by omega) (by unfold fedW; rw [if_neg (by omega), if_neg (by omega), if_pos (by omega)]) (by omega) e_g35) hP hD hS ls (lv_sub hl [0, 2, 3, 4, 5, 6, 7] rfl)
          · refine lv_iload_n hx hb dX9_feed_47 rfl (lv_at hl 3 rfl) ?_
            refine lv_goto (tgt := 76) hx hb dX9_feed_48 (by decide) ?_
            refine lv_istore (lv' := [(7, .int (zI x1)), (6, .int (zI v6)), (0, .ref y), (1, .int (zI x0)), (2, .int (zI x1)), (3, .int (zI x2)), (4, .int (zI x3)), (5, .int (zI x4))]) hx hb dX9_feed_76 hl (by decide) rfl (fun ls hl => ?_)
            refine lv_aload_n hx hb dX9_feed_78 rfl (lv_at hl 2 rfl) ?_
            refine r_get F hK hP 0 1 rfl rfl in_X9 (by decide) k_1164 rfl dX9_feed_79 ?_
            refine lv_aload_n hx hb dX9_feed_82 rfl (lv_at hl 2 rfl) ?_
            refine r_get F hK hP 0 2 rfl rfl in_X9 (by decide) k_1165 rfl dX9_feed_83 ?_
            refine lv_iload hx hb dX9_feed_86 (lv_at hl 0 rfl) ?_
            refine lv_bipush (v := zI 24) hx hb dX9_feed_88 (by decide) ?_
            refine lv_bipush (v := zI 8) hx hb dX9_feed_90 (by decide) ?_
            refine lv_iload hx hb dX9_feed_92 (lv_at hl 1 rfl) ?_
            refine lv_iconst (v := zI 4) hx hb dX9_feed_94 rfl ?_
            refine rz_irem F (by omega) (by omega) dX9_feed_95 (fun z39 h_z39 => ?_)
            refine r_imul (v := zI (8 * z39)) F dX9_feed_96 (zI_mul _ _) ?_
            refine r_isub (v := zI (24 - (8 * z39))) F dX9_feed_97 (zI_sub _ _) ?_
            refine lv_ishr hx hb dX9_feed_98 ?_
            refine lv_sipush (v := zI 255) hx hb dX9_feed_99 (by decide) ?_
            refine lv_iand hx hb dX9_feed_102 ?_
            refine rz_eq (z := bA x1 (24 - (8 * z39))) (Int32.ofInt_toInt _).symm ?_
            have hbr42 := by_rel ((zI x1) >>> ((zI (24 - (8 * z39))) &&& 31))
            have hbr43 : 0 ≤ bA x1 (24 - (8 * z39)) ∧ bA x1 (24 - (8 * z39)) ≤ 255 := (by_rel _).1
            refine rz_iastG F hK hP hD hS 1 0 rfl rfl (by omega) (by omega) dX9_feed_103 (w1 := fun g44 => [(y, .inr (9, [.int (zI (ii 0)), .ref (q 0), .int (zI (ii 1)), .int (zI (ii 2)), .int (zI (ii 3)), .int (zI (ii 4)), .int (zI (ii 5)), .int (zI (ii 6)), .int (zI (ii 7)), .int (zI (ii 8)), .int (zI (ii 9)), .int (zI (ii 10)), .ref (q 1), .int (zI (ii 11)), .int (zI (ii 12)), .ref (q 2), .ref (q 3), .ref (q 4), .ref (q 5), .ref (q 6), .ref (q 7), .ref (q 8), .ref (q 9), .ref (q 10), .ref (q 11), .ref (q 12), .ref (q 13), .ref (q 14), .ref (q 15), .ref (q 16), .int (zI (ii 13)), .int (zI (ii 14)), .int (zI (ii 15)), .int (zI (ii 16)), .int (zI (ii 17)), .int (zI (ii 18)), .ref (q 17), .ref (q 18), .ref (q 19), .ref (q 20)])), ((q 0), .inl (cI, 900, .inl (fun k => zI (g44 k))))]) (fun _ => rfl) (fun g44 e_g44 H locs hP hD hS => ?_)
            have h_g44 : ∀ k, k < 900 → (-2147483648) ≤ g44 k ∧ g44 k ≤ 2147483647 := by rw [e_g44]; exact uZ_all (P := fun _ y9 => (-2147483648) ≤ y9 ∧ y9 ≤ 2147483647) h_gt9 (fun _ => by omega)
            refine lv_aload_n hx hb dX9_feed_104 rfl (lv_at hl 2 rfl) ?_
            refine lv_dup hx hb dX9_feed_105 rfl ?_
            refine r_get F hK hP 0 2 rfl rfl in_X9 (by decide) k_1165 rfl dX9_feed_106 ?_
            refine lv_iconst (v := zI 1) hx hb dX9_feed_109 rfl ?_
            refine r_iadd (v := zI ((ii 1) + 1)) F dX9_feed_110 (zI_add _ _) ?_
            refine r_put F hK hP hD hS 0 2 rfl rfl in_X9 tyX9 tyX9_ok nmX9 (by decide) k_1165 rfl rfl rfl (Nat.le_of_ble_eq_true rfl) dX9_feed_111 (w1 := [(y, .inr (9, [.int (zI (ii 0)), .ref (q 0), .int (zI ((ii 1) + 1)), .int (zI (ii 2)), .int (zI (ii 3)), .int (zI (ii 4)), .int (zI (ii 5)), .int (zI (ii 6)), .int (zI (ii 7)), .int (zI (ii 8)), .int (zI (ii 9)), .int (zI (ii 10)), .ref (q 1), .int (zI (ii 11)), .int (zI (ii 12)), .ref (q 2), .ref (q 3), .ref (q 4), .ref (q 5), .ref (q 6), .ref (q 7), .ref (q 8), .ref (q 9), .ref (q 10), .ref (q 11), .ref (q 12), .ref (q 13), .ref (q 14), .ref (q 15), .ref (q 16), .int (zI (ii 13)), .int (zI (ii 14)), .int (zI (ii 15)), .int (zI (ii 16)), .int (zI (ii 17)), .int (zI (ii 18)), .ref (q 17), .ref (q 18), .ref (q 19), .ref (q 20)])), ((q 0), .inl (cI, 900, .inl (fun k => zI (g44 k))))]) rfl (fun H locs hP hD hS => ?_)
            refine lv_iinc (v := zI (v6 + 1)) (lv' := [(6, .int (zI (v6 + 1))), (7, .int (zI x1)), (0, .ref y), (1, .int (zI x0)), (2, .int (zI x1)), (3, .int (zI x2)), (4, .int (zI x3)), (5, .int (zI x4))]) hx hb dX9_feed_114 hl (k := 1) rfl (zI_add _ _) (by decide) rfl (fun ls hl => ?_)
            refine lv_goto (tgt := 23) hx hb dX9_feed_117 (by decide) ?_
            obtain ⟨i45, e_i45⟩ : ∃ i45 : Nat → Int, i45 = fun k => [(ii 0), ((ii 1) + 1), (ii 2), (ii 3), (ii 4), (ii 5), (ii 6), (ii 7), (ii 8), (ii 9), (ii 10), (ii 11), (ii 12), (ii 13), (ii 14), (ii 15), (ii 16), (ii 17), (ii 18)].getD k 0 := ⟨_, rfl⟩
            have e_i45_0 : i45 0 = (ii 0) := congrFun e_i45 0
            have e_i45_1 : i45 1 = ((ii 1) + 1) := congrFun e_i45 1
            have e_i45_2 : i45 2 = (ii 2) := congrFun e_i45 2
            have e_i45_3 : i45 3 = (ii 3) := congrFun e_i45 3
            have e_i45_4 : i45 4 = (ii 4) := congrFun e_i45 4
            have e_i45_5 : i45 5 = (ii 5) := congrFun e_i45 5
            have e_i45_6 : i45 6 = (ii 6) := congrFun e_i45 6
            have e_i45_7 : i45 7 = (ii 7) := congrFun e_i45 7
            have e_i45_8 : i45 8 = (ii 8) := congrFun e_i45 8
            have e_i45_9 : i45 9 = (ii 9) := congrFun e_i45 9
            have e_i45_10 : i45 10 = (ii 10) := congrFun e_i45 10
            have e_i45_11 : i45 11 = (ii 11) := congrFun e_i45 11
            have e_i45_12 : i45 12 = (ii 12) := congrFun e_i45 12
            have e_i45_13 : i45 13 = (ii 13) := congrFun e_i45 13
            have e_i45_14 : i45 14 = (ii 14) := congrFun e_i45 14
            have e_i45_15 : i45 15 = (ii 15) := congrFun e_i45 15
            have e_i45_16 : i45 16 = (ii 16) := congrFun e_i45 16
            have e_i45_17 : i45 17 = (ii 17) := congrFun e_i45 17
            have e_i45_18 : i45 18 = (ii 18) := congrFun e_i45 18
            have hO46 : ModOk i45 := ⟨⟨⟨(by rw [e_i45_11]; exact hG.1.1.1), (by rw [e_i45_14]; exact hG.1.1.2.1), (by rw [e_i45_16]; exact hG.1.1.2.2.1), (by rw [e_i45_7]; exact hG.1.1.2.2.2.1), (by rw [e_i45_5]; exact hG.1.1.2.2.2.2)⟩, ⟨(by omega), (by rw [e_i45_2]; exact hG.1.2.1.2.1), (by rw [e_i45_3]; exact hG.1.2.1.2.2.1), (by rw [e_i45_4]; exact hG.1.2.1.2.2.2.1), (by rw [e_i45_6]; exact hG.1.2.1.2.2.2.2.1), (by rw [e_i45_10]; exact hG.1.2.1.2.2.2.2.2)⟩, ⟨(by rw [e_i45_12]; exact hG.1.2.2.1), (by rw [e_i45_13]; exact hG.1.2.2.2.1), (by rw [e_i45_15]; exact hG.1.2.2.2.2.1), (by rw [e_i45_17]; exact hG.1.2.2.2.2.2)⟩⟩, fun q5 => by rw [e_i45_7]; exact hG.2 (by rw [← e_i45_5]; exact q5)⟩
            have hf47 := hO46.1
            have hP : va_P G vwCl [(y, .inr (9, [.int (zI (i45 0)), .ref (q 0), .int (zI (i45 1)), .int (zI (i45 2)), .int (zI (i45 3)), .int (zI (i45 4)), .int (zI (i45 5)), .int (zI (i45 6)), .int (zI (i45 7)), .int (zI (i45 8)), .int (zI (i45 9)), .int (zI (i45 10)), .ref (q 1), .int (zI (i45 11)), .int (zI (i45 12)), .ref (q 2), .ref (q 3), .ref (q 4), .ref (q 5), .ref (q 6), .ref (q 7), .ref (q 8), .ref (q 9), .ref (q 10), .ref (q 11), .ref (q 12), .ref (q 13), .ref (q 14), .ref (q 15), .ref (q 16), .int (zI (i45 13)), .int (zI (i45 14)), .int (zI (i45 15)), .int (zI (i45 16)), .int (zI (i45 17)), .int (zI (i45 18)), .ref (q 17), .ref (q 18), .ref (q 19), .ref (q 20)])), ((q 0), .inl (cI, 900, .inl (fun k => zI (g44 k))))] H := by subst e_i45; exact hP
            have hD : va_D A [(y, .inr (9, [.int (zI (i45 0)), .ref (q 0), .int (zI (i45 1)), .int (zI (i45 2)), .int (zI (i45 3)), .int (zI (i45 4)), .int (zI (i45 5)), .int (zI (i45 6)), .int (zI (i45 7)), .int (zI (i45 8)), .int (zI (i45 9)), .int (zI (i45 10)), .ref (q 1), .int (zI (i45 11)), .int (zI (i45 12)), .ref (q 2), .ref (q 3), .ref (q 4), .ref (q 5), .ref (q 6), .ref (q 7), .ref (q 8), .ref (q 9), .ref (q 10), .ref (q 11), .ref (q 12), .ref (q 13), .ref (q 14), .ref (q 15), .ref (q 16), .int (zI (i45 13)), .int (zI (i45 14)), .int (zI (i45 15)), .int (zI (i45 16)), .int (zI (i45 17)), .int (zI (i45 18)), .ref (q 17), .ref (q 18), .ref (q 19), .ref (q 20)])), ((q 0), .inl (cI, 900, .inl (fun k => zI (g44 k))))] := by subst e_i45; exact hD
            exact ih1 (v6 + 1) g44 i45 _ _ (by omega) (by omega) hO46 h_g44 (fed_step (v := v6) (a := (ii 1)) (y := x1) (s := 24 - 8 * z39) hfd (by omega) (by omega) (by unfold fedW; rw [if_neg (by omega), if_pos (by omega)]) (by omega) e_g44) hP hD hS ls (lv_sub hl [0, 2, 3, 4, 5, 6, 7] rfl)
        · refine lv_iload_n hx hb dX9_feed_36 rfl (lv_at hl 2 rfl) ?_
          refine lv_goto (tgt := 76) hx hb dX9_feed_37 (by decide) ?_
          refine lv_istore (lv' := [(7, .int (zI x0)), (6, .int (zI v6)), (0, .ref y), (1, .int (zI x0)), (2, .int (zI x1)), (3, .int (zI x2)), (4, .int (zI x3)), (5, .int (zI x4))]) hx hb dX9_feed_76 hl (by decide) rfl (fun ls hl => ?_)
          refine lv_aload_n hx hb dX9_feed_78 rfl (lv_at hl 2 rfl) ?_
          refine r_get F hK hP 0 1 rfl rfl in_X9 (by decide) k_1164 rfl dX9_feed_79 ?_
          refine lv_aload_n hx hb dX9_feed_82 rfl (lv_at hl 2 rfl) ?_
          refine r_get F hK hP 0 2 rfl rfl in_X9 (by decide) k_1165 rfl dX9_feed_83 ?_
          refine lv_iload hx hb dX9_feed_86 (lv_at hl 0 rfl) ?_
          refine lv_bipush (v := zI 24) hx hb dX9_feed_88 (by decide) ?_
          refine lv_bipush (v := zI 8) hx hb dX9_feed_90 (by decide) ?_
          refine lv_iload hx hb dX9_feed_92 (lv_at hl 1 rfl) ?_
          refine lv_iconst (v := zI 4) hx hb dX9_feed_94 rfl ?_
          refine rz_irem F (by omega) (by omega) dX9_feed_95 (fun z48 h_z48 => ?_)
          refine r_imul (v := zI (8 * z48)) F dX9_feed_96 (zI_mul _ _) ?_
          refine r_isub (v := zI (24 - (8 * z48))) F dX9_feed_97 (zI_sub _ _) ?_
          refine lv_ishr hx hb dX9_feed_98 ?_
          refine lv_sipush (v := zI 255) hx hb dX9_feed_99 (by decide) ?_
          refine lv_iand hx hb dX9_feed_102 ?_
          refine rz_eq (z := bA x0 (24 - (8 * z48))) (Int32.ofInt_toInt _).symm ?_
          have hbr51 := by_rel ((zI x0) >>> ((zI (24 - (8 * z48))) &&& 31))
          have hbr52 : 0 ≤ bA x0 (24 - (8 * z48)) ∧ bA x0 (24 - (8 * z48)) ≤ 255 := (by_rel _).1
          refine rz_iastG F hK hP hD hS 1 0 rfl rfl (by omega) (by omega) dX9_feed_103 (w1 := fun g53 => [(y, .inr (9, [.int (zI (ii 0)), .ref (q 0), .int (zI (ii 1)), .int (zI (ii 2)), .int (zI (ii 3)), .int (zI (ii 4)), .int (zI (ii 5)), .int (zI (ii 6)), .int (zI (ii 7)), .int (zI (ii 8)), .int (zI (ii 9)), .int (zI (ii 10)), .ref (q 1), .int (zI (ii 11)), .int (zI (ii 12)), .ref (q 2), .ref (q 3), .ref (q 4), .ref (q 5), .ref (q 6), .ref (q 7), .ref (q 8), .ref (q 9), .ref (q 10), .ref (q 11), .ref (q 12), .ref (q 13), .ref (q 14), .ref (q 15), .ref (q 16), .int (zI (ii 13)), .int (zI (ii 14)), .int (zI (ii 15)), .int (zI (ii 16)), .int (zI (ii 17)), .int (zI (ii 18)), .ref (q 17), .ref (q 18), .ref (q 19), .ref (q 20)])), ((q 0), .inl (cI, 900, .inl (fun k => zI (g53 k))))]) (fun _ => rfl) (fun g53 e_g53 H locs hP hD hS => ?_)
          have h_g53 : ∀ k, k < 900 → (-2147483648) ≤ g53 k ∧ g53 k ≤ 2147483647 := by rw [e_g53]; exact uZ_all (P := fun _ y9 => (-2147483648) ≤ y9 ∧ y9 ≤ 2147483647) h_gt9 (fun _ => by omega)
          refine lv_aload_n hx hb dX9_feed_104 rfl (lv_at hl 2 rfl) ?_
          refine lv_dup hx hb dX9_feed_105 rfl ?_
          refine r_get F hK hP 0 2 rfl rfl in_X9 (by decide) k_1165 rfl dX9_feed_106 ?_
          refine lv_iconst (v := zI 1) hx hb dX9_feed_109 rfl ?_
          refine r_iadd (v := zI ((ii 1) + 1)) F dX9_feed_110 (zI_add _ _) ?_
          refine r_put F hK hP hD hS 0 2 rfl rfl in_X9 tyX9 tyX9_ok nmX9 (by decide) k_1165 rfl rfl rfl (Nat.le_of_ble_eq_true rfl) dX9_feed_111 (w1 := [(y, .inr (9, [.int (zI (ii 0)), .ref (q 0), .int (zI ((ii 1) + 1)), .int (zI (ii 2)), .int (zI (ii 3)), .int (zI (ii 4)), .int (zI (ii 5)), .int (zI (ii 6)), .int (zI (ii 7)), .int (zI (ii 8)), .int (zI (ii 9)), .int (zI (ii 10)), .ref (q 1), .int (zI (ii 11)), .int (zI (ii 12)), .ref (q 2), .ref (q 3), .ref (q 4), .ref (q 5), .ref (q 6), .ref (q 7), .ref (q 8), .ref (q 9), .ref (q 10), .ref (q 11), .ref (q 12), .ref (q 13), .ref (q 14), .ref (q 15), .ref (q 16), .int (zI (ii 13)), .int (zI (ii 14)), .int (zI (ii 15)), .int (zI (ii 16)), .int (zI (ii 17)), .int (zI (ii 18)), .ref (q 17), .ref (q 18), .ref (q 19), .ref (q 20)])), ((q 0), .inl (cI, 900, .inl (fun k => zI (g53 k))))]) rfl (fun H locs hP hD hS => ?_)
          refine lv_iinc (v := zI (v6 + 1)) (lv' := [(6, .int (zI (v6 + 1))), (7, .int (zI x0)), (0, .ref y), (1, .int (zI x0)), (2, .int (zI x1)), (3, .int (zI x2)), (4, .int (zI x3)), (5, .int (zI x4))]) hx hb dX9_feed_114 hl (k := 1) rfl (zI_add _ _) (by decide) rfl (fun ls hl => ?_)
          refine lv_goto (tgt := 23) hx hb dX9_feed_117 (by decide) ?_
          obtain ⟨i54, e_i54⟩ : ∃ i54 : Nat → Int, i54 = fun k => [(ii 0), ((ii 1) + 1), (ii 2), (ii 3), (ii 4), (ii 5), (ii 6), (ii 7), (ii 8), (ii 9), (ii 10), (ii 11), (ii 12), (ii 13), (ii 14), (ii 15), (ii 16), (ii 17), (ii 18)].getD k 0 := ⟨_, rfl⟩
          have e_i54_0 : i54 0 = (ii 0) := congrFun e_i54 0
          have e_i54_1 : i54 1 = ((ii 1) + 1) := congrFun e_i54 1
          have e_i54_2 : i54 2 = (ii 2) := congrFun e_i54 2
          have e_i54_3 : i54 3 = (ii 3) := congrFun e_i54 3
          have e_i54_4 : i54 4 = (ii 4) := congrFun e_i54 4
          have e_i54_5 : i54 5 = (ii 5) := congrFun e_i54 5
          have e_i54_6 : i54 6 = (ii 6) := congrFun e_i54 6
          have e_i54_7 : i54 7 = (ii 7) := congrFun e_i54 7
          have e_i54_8 : i54 8 = (ii 8) := congrFun e_i54 8
          have e_i54_9 : i54 9 = (ii 9) := congrFun e_i54 9
          have e_i54_10 : i54 10 = (ii 10) := congrFun e_i54 10
          have e_i54_11 : i54 11 = (ii 11) := congrFun e_i54 11
          have e_i54_12 : i54 12 = (ii 12) := congrFun e_i54 12
          have e_i54_13 : i54 13 = (ii 13) := congrFun e_i54 13
          have e_i54_14 : i54 14 = (ii 14) := congrFun e_i54 14
          have e_i54_15 : i54 15 = (ii 15) := congrFun e_i54 15
          have e_i54_16 : i54 16 = (ii 16) := congrFun e_i54 16
          have e_i54_17 : i54 17 = (ii 17) := congrFun e_i54 17
          have e_i54_18 : i54 18 = (ii 18) := congrFun e_i54 18
          have hO55 : ModOk i54 := ⟨⟨⟨(by rw [e_i54_11]; exact hG.1.1.1), (by rw [e_i54_14]; exact hG.1.1.2.1), (by rw [e_i54_16]; exact hG.1.1.2.2.1), (by rw [e_i54_7]; exact hG.1.1.2.2.2.1), (by rw [e_i54_5]; exact hG.1.1.2.2.2.2)⟩, ⟨(by omega), (by rw [e_i54_2]; exact hG.1.2.1.2.1), (by rw [e_i54_3]; exact hG.1.2.1.2.2.1), (by rw [e_i54_4]; exact hG.1.2.1.2.2.2.1), (by rw [e_i54_6]; exact hG.1.2.1.2.2.2.2.1), (by rw [e_i54_10]; exact hG.1.2.1.2.2.2.2.2)⟩, ⟨(by rw [e_i54_12]; exact hG.1.2.2.1), (by rw [e_i54_13]; exact hG.1.2.2.2.1), (by rw [e_i54_15]; exact hG.1.2.2.2.2.1), (by rw [e_i54_17]; exact hG.1.2.2.2.2.2)⟩⟩, fun q5 => by rw [e_i54_7]; exact hG.2 (by rw [← e_i54_5]; exact q5)⟩
          have hf56 := hO55.1
          have hP : va_P G vwCl [(y, .inr (9, [.int (zI (i54 0)), .ref (q 0), .int (zI (i54 1)), .int (zI (i54 2)), .int (zI (i54 3)), .int (zI (i54 4)), .int (zI (i54 5)), .int (zI (i54 6)), .int (zI (i54 7)), .int (zI (i54 8)), .int (zI (i54 9)), .int (zI (i54 10)), .ref (q 1), .int (zI (i54 11)), .int (zI (i54 12)), .ref (q 2), .ref (q 3), .ref (q 4), .ref (q 5), .ref (q 6), .ref (q 7), .ref (q 8), .ref (q 9), .ref (q 10), .ref (q 11), .ref (q 12), .ref (q 13), .ref (q 14), .ref (q 15), .ref (q 16), .int (zI (i54 13)), .int (zI (i54 14)), .int (zI (i54 15)), .int (zI (i54 16)), .int (zI (i54 17)), .int (zI (i54 18)), .ref (q 17), .ref (q 18), .ref (q 19), .ref (q 20)])), ((q 0), .inl (cI, 900, .inl (fun k => zI (g53 k))))] H := by subst e_i54; exact hP
          have hD : va_D A [(y, .inr (9, [.int (zI (i54 0)), .ref (q 0), .int (zI (i54 1)), .int (zI (i54 2)), .int (zI (i54 3)), .int (zI (i54 4)), .int (zI (i54 5)), .int (zI (i54 6)), .int (zI (i54 7)), .int (zI (i54 8)), .int (zI (i54 9)), .int (zI (i54 10)), .ref (q 1), .int (zI (i54 11)), .int (zI (i54 12)), .ref (q 2), .ref (q 3), .ref (q 4), .ref (q 5), .ref (q 6), .ref (q 7), .ref (q 8), .ref (q 9), .ref (q 10), .ref (q 11), .ref (q 12), .ref (q 13), .ref (q 14), .ref (q 15), .ref (q 16), .int (zI (i54 13)), .int (zI (i54 14)), .int (zI (i54 15)), .int (zI (i54 16)), .int (zI (i54 17)), .int (zI (i54 18)), .ref (q 17), .ref (q 18), .ref (q 19), .ref (q 20)])), ((q 0), .inl (cI, 900, .inl (fun k => zI (g53 k))))] := by subst e_i54; exact hD
          exact ih1 (v6 + 1) g53 i54 _ _ (by omega) (by omega) hO55 h_g53 (fed_step (v := v6) (a := (ii 1)) (y := x0) (s := 24 - 8 * z48) hfd (by omega) (by omega) (by unfold fedW; rw [if_pos (by omega)]) (by omega) e_g53) hP hD hS ls (lv_sub hl [0, 2, 3, 4, 5, 6, 7] rfl)
  · refine lv_iconst (v := zI (-1)) hx hb dX9_feed_18 rfl ?_
    obtain ⟨i57, e_i57⟩ : ∃ i57 : Nat → Int, i57 = fun k => [0, (i 1), (i 2), (i 3), (i 4), (i 5), (i 6), (i 7), (i 8), (i 9), (i 10), (i 11), (i 12), (i 13), (i 14), (i 15), (i 16), (i 17), (i 18)].getD k 0 := ⟨_, rfl⟩
    have e_i57_0 : i57 0 = 0 := congrFun e_i57 0
    have e_i57_1 : i57 1 = (i 1) := congrFun e_i57 1
    have e_i57_2 : i57 2 = (i 2) := congrFun e_i57 2
    have e_i57_3 : i57 3 = (i 3) := congrFun e_i57 3
    have e_i57_4 : i57 4 = (i 4) := congrFun e_i57 4
    have e_i57_5 : i57 5 = (i 5) := congrFun e_i57 5
    have e_i57_6 : i57 6 = (i 6) := congrFun e_i57 6
    have e_i57_7 : i57 7 = (i 7) := congrFun e_i57 7
    have e_i57_8 : i57 8 = (i 8) := congrFun e_i57 8
    have e_i57_9 : i57 9 = (i 9) := congrFun e_i57 9
    have e_i57_10 : i57 10 = (i 10) := congrFun e_i57 10
    have e_i57_11 : i57 11 = (i 11) := congrFun e_i57 11
    have e_i57_12 : i57 12 = (i 12) := congrFun e_i57 12
    have e_i57_13 : i57 13 = (i 13) := congrFun e_i57 13
    have e_i57_14 : i57 14 = (i 14) := congrFun e_i57 14
    have e_i57_15 : i57 15 = (i 15) := congrFun e_i57 15
    have e_i57_16 : i57 16 = (i 16) := congrFun e_i57 16
    have e_i57_17 : i57 17 = (i 17) := congrFun e_i57 17
    have e_i57_18 : i57 18 = (i 18) := congrFun e_i57 18
    have hO58 : ModOk i57 := ⟨⟨⟨(by rw [e_i57_11]; exact hM.1.1.1), (by rw [e_i57_14]; exact hM.1.1.2.1), (by rw [e_i57_16]; exact hM.1.1.2.2.1), (by rw [e_i57_7]; exact hM.1.1.2.2.2.1), (by rw [e_i57_5]; exact hM.1.1.2.2.2.2)⟩, ⟨(by rw [e_i57_1]; exact hM.1.2.1.1), (by rw [e_i57_2]; exact hM.1.2.1.2.1), (by rw [e_i57_3]; exact hM.1.2.1.2.2.1), (by rw [e_i57_4]; exact hM.1.2.1.2.2.2.1), (by rw [e_i57_6]; exact hM.1.2.1.2.2.2.2.1), (by rw [e_i57_10]; exact hM.1.2.1.2.2.2.2.2)⟩, ⟨(by rw [e_i57_12]; exact hM.1.2.2.1), (by rw [e_i57_13]; exact hM.1.2.2.2.1), (by rw [e_i57_15]; exact hM.1.2.2.2.2.1), (by rw [e_i57_17]; exact hM.1.2.2.2.2.2)⟩⟩, fun q5 => by rw [e_i57_7]; exact hM.2 (by rw [← e_i57_5]; exact q5)⟩
    have hf59 := hO58.1
    have hP : va_P G vwCl [(y, .inr (9, [.int (zI (i57 0)), .ref (q 0), .int (zI (i57 1)), .int (zI (i57 2)), .int (zI (i57 3)), .int (zI (i57 4)), .int (zI (i57 5)), .int (zI (i57 6)), .int (zI (i57 7)), .int (zI (i57 8)), .int (zI (i57 9)), .int (zI (i57 10)), .ref (q 1), .int (zI (i57 11)), .int (zI (i57 12)), .ref (q 2), .ref (q 3), .ref (q 4), .ref (q 5), .ref (q 6), .ref (q 7), .ref (q 8), .ref (q 9), .ref (q 10), .ref (q 11), .ref (q 12), .ref (q 13), .ref (q 14), .ref (q 15), .ref (q 16), .int (zI (i57 13)), .int (zI (i57 14)), .int (zI (i57 15)), .int (zI (i57 16)), .int (zI (i57 17)), .int (zI (i57 18)), .ref (q 17), .ref (q 18), .ref (q 19), .ref (q 20)])), ((q 0), .inl (cI, 900, .inl (fun k => zI (g_tape k))))] H := by subst e_i57; exact hP
    have hD : va_D A [(y, .inr (9, [.int (zI (i57 0)), .ref (q 0), .int (zI (i57 1)), .int (zI (i57 2)), .int (zI (i57 3)), .int (zI (i57 4)), .int (zI (i57 5)), .int (zI (i57 6)), .int (zI (i57 7)), .int (zI (i57 8)), .int (zI (i57 9)), .int (zI (i57 10)), .ref (q 1), .int (zI (i57 11)), .int (zI (i57 12)), .ref (q 2), .ref (q 3), .ref (q 4), .ref (q 5), .ref (q 6), .ref (q 7), .ref (q 8), .ref (q 9), .ref (q 10), .ref (q 11), .ref (q 12), .ref (q 13), .ref (q 14), .ref (q 15), .ref (q 16), .int (zI (i57 13)), .int (zI (i57 14)), .int (zI (i57 15)), .int (zI (i57 16)), .int (zI (i57 17)), .int (zI (i57 18)), .ref (q 17), .ref (q 18), .ref (q 19), .ref (q 20)])), ((q 0), .inl (cI, 900, .inl (fun k => zI (g_tape k))))] := by subst e_i57; exact hD
    exact ret (zI (-1)) (fun k => [(i57, fun _ _ => 0), (fun _ => 0, fun _ => g_tape)].getD k (fun _ => 0, fun _ _ => 0)) _ _ _ _ _ _ rfl ⟨(-1), rfl, hO58, hr_tape, (show ((i 1 ≤ 880 ∧ ((-1) : Int) = i 1 + 20 ∧ i57 1 = i 1 + 20 ∧ g_tape = fed g_tape (i 1) x0 x1 x2 x3 x4 20) ∨ (880 < i 1 ∧ ((-1) : Int) = -1 ∧ i57 1 = i 1 ∧ g_tape = g_tape)) ∧ i57 8 = i 8 ∧ i57 9 = i 9 ∧ i57 10 = i 10 ∧ i57 12 = i 12 ∧ i57 13 = i 13 ∧ i57 15 = i 15 ∧ i57 17 = i 17 from ⟨Or.inr ⟨by omega, by omega, by omega, rfl⟩, by omega⟩)⟩ (bw_subP (isC := [0, 1]) hP rfl) (hD.sub [0, 1] (by decide) rfl) hS (Nat.le_of_ble_eq_true rfl) (Nat.le_of_ble_eq_true rfl) dX9_feed_19
