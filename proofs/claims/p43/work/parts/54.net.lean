theorem dX9_comeBut_0 : decode cX9_comeBut 0 = .ok (.iconst 1, 1) := bo_4 (by decide +kernel)
theorem dX9_comeBut_1 : decode cX9_comeBut 1 = .ok (.istore_n 2, 1) := bo_61 (by decide +kernel)
theorem dX9_comeBut_2 : decode cX9_comeBut 2 = .ok (.iconst 0, 1) := bo_3 (by decide +kernel)
theorem dX9_comeBut_3 : decode cX9_comeBut 3 = .ok (.istore_n 3, 1) := bo_62 (by decide +kernel)
theorem dX9_comeBut_4 : decode cX9_comeBut 4 = .ok (.iload_n 2, 1) := bo_28 (by decide +kernel)
theorem dX9_comeBut_5 : decode cX9_comeBut 5 = .ok (.iload_n 3, 1) := bo_29 (by decide +kernel)
theorem dX9_comeBut_6 : decode cX9_comeBut 6 = .ok (.if_icmp .eq 74, 3) := bo_159 0 74 (by decide +kernel)
theorem dX9_comeBut_80 : decode cX9_comeBut 80 = .ok (.iload_n 2, 1) := bo_28 (by decide +kernel)
theorem dX9_comeBut_81 : decode cX9_comeBut 81 = .ok (.ireturn, 1) := bo_172 (by decide +kernel)
theorem dX9_comeBut_9 : decode cX9_comeBut 9 = .ok (.iload_n 2, 1) := bo_28 (by decide +kernel)
theorem dX9_comeBut_10 : decode cX9_comeBut 10 = .ok (.istore_n 3, 1) := bo_62 (by decide +kernel)
theorem dX9_comeBut_11 : decode cX9_comeBut 11 = .ok (.iconst 0, 1) := bo_3 (by decide +kernel)
theorem dX9_comeBut_12 : decode cX9_comeBut 12 = .ok (.istore 4, 2) := bo_54 (by decide +kernel)
theorem dX9_comeBut_14 : decode cX9_comeBut 14 = .ok (.iload 4, 2) := bo_21 (by decide +kernel)
theorem dX9_comeBut_16 : decode cX9_comeBut 16 = .ok (.iconst 2, 1) := bo_5 (by decide +kernel)
theorem dX9_comeBut_17 : decode cX9_comeBut 17 = .ok (.aload_n 0, 1) := bo_42 (by decide +kernel)
theorem dX9_comeBut_18 : decode cX9_comeBut 18 = .ok (.getfield 213, 3) := bo_180 0 213 (by decide +kernel)
theorem dX9_comeBut_21 : decode cX9_comeBut 21 = .ok (.imul, 1) := bo_104 (by decide +kernel)
theorem dX9_comeBut_22 : decode cX9_comeBut 22 = .ok (.if_icmp .ge 55, 3) := bo_162 0 55 (by decide +kernel)
theorem dX9_comeBut_77 : decode cX9_comeBut 77 = .ok (.goto (-73), 3) := bo_167 255 183 (by decide +kernel)
theorem dX9_comeBut_25 : decode cX9_comeBut 25 = .ok (.aload_n 0, 1) := bo_42 (by decide +kernel)
theorem dX9_comeBut_26 : decode cX9_comeBut 26 = .ok (.getfield 23, 3) := bo_180 0 23 (by decide +kernel)
theorem dX9_comeBut_29 : decode cX9_comeBut 29 = .ok (.iload 4, 2) := bo_21 (by decide +kernel)
theorem dX9_comeBut_31 : decode cX9_comeBut 31 = .ok (.invokestatic 297, 3) := bo_184 1 41 (by decide +kernel)
theorem dX9_comeBut_34 : decode cX9_comeBut 34 = .ok (.ifCond .le 37, 3) := bo_158 0 37 (by decide +kernel)
theorem dX9_comeBut_71 : decode cX9_comeBut 71 = .ok (.iinc 4 1, 3) := bo_132 4 1 (by decide +kernel)
theorem dX9_comeBut_74 : decode cX9_comeBut 74 = .ok (.goto (-60), 3) := bo_167 255 196 (by decide +kernel)
theorem dX9_comeBut_37 : decode cX9_comeBut 37 = .ok (.iload_n 1, 1) := bo_27 (by decide +kernel)
theorem dX9_comeBut_38 : decode cX9_comeBut 38 = .ok (.iload 4, 2) := bo_21 (by decide +kernel)
theorem dX9_comeBut_40 : decode cX9_comeBut 40 = .ok (.invokestatic 272, 3) := bo_184 1 16 (by decide +kernel)
theorem dX9_comeBut_43 : decode cX9_comeBut 43 = .ok (.ifCond .ne 28, 3) := bo_154 0 28 (by decide +kernel)
theorem dX9_comeBut_46 : decode cX9_comeBut 46 = .ok (.iload_n 2, 1) := bo_28 (by decide +kernel)
theorem dX9_comeBut_47 : decode cX9_comeBut 47 = .ok (.iload 4, 2) := bo_21 (by decide +kernel)
theorem dX9_comeBut_49 : decode cX9_comeBut 49 = .ok (.iconst 2, 1) := bo_5 (by decide +kernel)
theorem dX9_comeBut_50 : decode cX9_comeBut 50 = .ok (.idiv, 1) := bo_108 (by decide +kernel)
theorem dX9_comeBut_51 : decode cX9_comeBut 51 = .ok (.invokestatic 272, 3) := bo_184 1 16 (by decide +kernel)
theorem dX9_comeBut_54 : decode cX9_comeBut 54 = .ok (.ifCond .eq 17, 3) := bo_153 0 17 (by decide +kernel)
theorem dX9_comeBut_57 : decode cX9_comeBut 57 = .ok (.iload_n 2, 1) := bo_28 (by decide +kernel)
theorem dX9_comeBut_58 : decode cX9_comeBut 58 = .ok (.iconst 1, 1) := bo_4 (by decide +kernel)
theorem dX9_comeBut_59 : decode cX9_comeBut 59 = .ok (.aload_n 0, 1) := bo_42 (by decide +kernel)
theorem dX9_comeBut_60 : decode cX9_comeBut 60 = .ok (.getfield 23, 3) := bo_180 0 23 (by decide +kernel)
theorem dX9_comeBut_63 : decode cX9_comeBut 63 = .ok (.iload 4, 2) := bo_21 (by decide +kernel)
theorem dX9_comeBut_65 : decode cX9_comeBut 65 = .ok (.invokestatic 333, 3) := bo_184 1 77 (by decide +kernel)
theorem k_1582 : Cond.methodLink RX9 333 yX9_goesTo ∈ bw_T := bw_m 1582 (by decide +kernel) rfl
theorem ks_X9_goesTo : bw_KS RX9 yX9_goesTo (Cond.code yX9_goesTo cX9_goesTo 2 (some .int)) := ⟨bw_m 1583 (by decide +kernel) rfl, bw_m 107 (by decide +kernel) rfl, bw_m 1584 (by decide +kernel) rfl⟩
theorem dX9_comeBut_68 : decode cX9_comeBut 68 = .ok (.ishl, 1) := bo_120 (by decide +kernel)
theorem dX9_comeBut_69 : decode cX9_comeBut 69 = .ok (.ior, 1) := bo_128 (by decide +kernel)
theorem dX9_comeBut_70 : decode cX9_comeBut 70 = .ok (.istore_n 2, 1) := bo_61 (by decide +kernel)
abbrev rm_X9_comeBut : Room := { frames := 1, cells := 0, slots := 0, locals := 23 }
set_option maxRecDepth 100000 in
set_option maxHeartbeats 8000000 in
theorem c_X9_comeBut {l : Launch} {E : (Nat → Prop) → State → Prop} (hO : bw_Ok E) {G : va_G} {cI cB cJ cN cW : ClassId} (y : Nat) (q : Nat → Nat) (i : Nat → Int) (hM : ModOk i) (g_now : Nat → Int) (x : Int) (hx9 : zR x) (hpn : ProgOk g_now) : bw_Ci (S := zV) l yX9_comeBut (bw_ws (Cond.code yX9_comeBut cX9_comeBut 5 (some .int))) rm_X9_comeBut E G (bw_kt cI cB cJ cN cW) [.ref y, .int (zI x)] [(y, .inr (9, [.int (zI (i 0)), .ref (q 0), .int (zI (i 1)), .int (zI (i 2)), .int (zI (i 3)), .int (zI (i 4)), .int (zI (i 5)), .int (zI (i 6)), .int (zI (i 7)), .int (zI (i 8)), .int (zI (i 9)), .int (zI (i 10)), .ref (q 1), .int (zI (i 11)), .int (zI (i 12)), .ref (q 2), .ref (q 3), .ref (q 4), .ref (q 5), .ref (q 6), .ref (q 7), .ref (q 8), .ref (q 9), .ref (q 10), .ref (q 11), .ref (q 12), .ref (q 13), .ref (q 14), .ref (q 15), .ref (q 16), .int (zI (i 13)), .int (zI (i 14)), .int (zI (i 15)), .int (zI (i 16)), .int (zI (i 17)), .int (zI (i 18)), .ref (q 17), .ref (q 18), .ref (q 19), .ref (q 20)])), ((q 3), .inl (cI, 200, .inl (fun k => zI (g_now k))))] (fun r u => ∃ z : Int, r = zI z ∧ (0 ≤ z ∧ z < 1024)) (fun u => [(y, .inr (9, [.int (zI (i 0)), .ref (q 0), .int (zI (i 1)), .int (zI (i 2)), .int (zI (i 3)), .int (zI (i 4)), .int (zI (i 5)), .int (zI (i 6)), .int (zI (i 7)), .int (zI (i 8)), .int (zI (i 9)), .int (zI (i 10)), .ref (q 1), .int (zI (i 11)), .int (zI (i 12)), .ref (q 2), .ref (q 3), .ref (q 4), .ref (q 5), .ref (q 6), .ref (q 7), .ref (q 8), .ref (q 9), .ref (q 10), .ref (q 11), .ref (q 12), .ref (q 13), .ref (q 14), .ref (q 15), .ref (q 16), .int (zI (i 13)), .int (zI (i 14)), .int (zI (i 15)), .int (zI (i 16)), .int (zI (i 17)), .int (zI (i 18)), .ref (q 17), .ref (q 18), .ref (q 19), .ref (q 20)])), ((q 3), .inl (cI, 200, .inl (fun k => zI (g_now k))))]) := by
  refine bw_Ci.of (cc := cX9_comeBut) (maxL := 5) (ty := .int) (by decide) rfl (Nat.le_of_ble_eq_true rfl) ?_
  intro p e s m below meth c A Q hx hb hml hts hown hin hK hA hS hP hD hE ret ls hl
  have F : CallFix p m c cX9_comeBut 5 s ([.ref y, .int (zI x)] : List Value).toArray bw_T RX9 := ⟨hx, hb, hml, hown, fun w h => hts w (List.mem_cons_of_mem _ h)⟩
  replace hl : lv_has ls 5 [(0, .ref y), (1, .int (zI x))] := hl
  have hf1 := hM.1
  refine lv_iconst (v := zI 1) hx hb dX9_comeBut_0 rfl ?_
  refine lv_istore_n (lv' := [(2, .int (zI 1)), (0, .ref y), (1, .int (zI x))]) hx hb dX9_comeBut_1 rfl hl (by decide) rfl (fun ls hl => ?_)
  refine lv_iconst (v := zI 0) hx hb dX9_comeBut_2 rfl ?_
  refine lv_istore_n (lv' := [(3, .int (zI 0)), (2, .int (zI 1)), (0, .ref y), (1, .int (zI x))]) hx hb dX9_comeBut_3 rfl hl (by decide) rfl (fun ls hl => ?_)
  refine W.widen (k := 0) (n := 0) (Nat.le_of_ble_eq_true rfl) (Nat.le_of_ble_eq_true rfl) ?_
  refine (?_ : ∀ (n9_1 : Nat) (v2 : Int) (v3 : Int) (H : Heap) (locs : List Loc), (0 ≤ v3 ∧ v3 ≤ v2 ∧ v2 < 1024) → (1024 - v3 : Int).toNat < n9_1 → va_P G vwCl [(y, .inr (9, [.int (zI (i 0)), .ref (q 0), .int (zI (i 1)), .int (zI (i 2)), .int (zI (i 3)), .int (zI (i 4)), .int (zI (i 5)), .int (zI (i 6)), .int (zI (i 7)), .int (zI (i 8)), .int (zI (i 9)), .int (zI (i 10)), .ref (q 1), .int (zI (i 11)), .int (zI (i 12)), .ref (q 2), .ref (q 3), .ref (q 4), .ref (q 5), .ref (q 6), .ref (q 7), .ref (q 8), .ref (q 9), .ref (q 10), .ref (q 11), .ref (q 12), .ref (q 13), .ref (q 14), .ref (q 15), .ref (q 16), .int (zI (i 13)), .int (zI (i 14)), .int (zI (i 15)), .int (zI (i 16)), .int (zI (i 17)), .int (zI (i 18)), .ref (q 17), .ref (q 18), .ref (q 19), .ref (q 20)])), ((q 3), .inl (cI, 200, .inl (fun k => zI (g_now k))))] H → va_D A [(y, .inr (9, [.int (zI (i 0)), .ref (q 0), .int (zI (i 1)), .int (zI (i 2)), .int (zI (i 3)), .int (zI (i 4)), .int (zI (i 5)), .int (zI (i 6)), .int (zI (i 7)), .int (zI (i 8)), .int (zI (i 9)), .int (zI (i 10)), .ref (q 1), .int (zI (i 11)), .int (zI (i 12)), .ref (q 2), .ref (q 3), .ref (q 4), .ref (q 5), .ref (q 6), .ref (q 7), .ref (q 8), .ref (q 9), .ref (q 10), .ref (q 11), .ref (q 12), .ref (q 13), .ref (q 14), .ref (q 15), .ref (q 16), .int (zI (i 13)), .int (zI (i 14)), .int (zI (i 15)), .int (zI (i 16)), .int (zI (i 17)), .int (zI (i 18)), .ref (q 17), .ref (q 18), .ref (q 19), .ref (q 20)])), ((q 3), .inl (cI, 200, .inl (fun k => zI (g_now k))))] → va_S A s.heap H locs → ∀ ls : Array Slot, lv_has ls 5 [(3, .int (zI v3)), (2, .int (zI v2)), (0, .ref y), (1, .int (zI x))] → W p l e rm_X9_comeBut s m ([.ref y, .int (zI x)] : List Value).toArray below meth c H locs 0 0 Q (F0 m 4 ls [])) ((1024 - 0 : Int).toNat + 1) 1 0 _ _ (by omega) (by omega) hP hD hS ls hl
  clear hP hD hS hl ls
  intro n9_1
  induction n9_1 with
  | zero =>
    intro v2 v3 H locs hI hM
    exact absurd hM (by omega)
  | succ n9_1 ih1 =>
    intro v2 v3 H locs hI1 hM1  hP hD hS ls hl
    refine lv_iload_n hx hb dX9_comeBut_4 rfl (lv_at hl 1 rfl) ?_
    refine lv_iload_n hx hb dX9_comeBut_5 rfl (lv_at hl 0 rfl) ?_
    refine rz_icmp_eq (tgt := 80) F (by omega) (by omega) dX9_comeBut_6 (by decide) (fun h6_1 => ?_) (fun h6_1 => ?_)
    · refine lv_iload_n hx hb dX9_comeBut_80 rfl (lv_at hl 1 rfl) ?_
      exact ret (zI v2) (fun k => [((fun _ => 0), fun _ _ => 0)].getD k (fun _ => 0, fun _ _ => 0)) _ _ _ _ _ _ rfl ⟨v2, rfl, by omega⟩ (bw_subP (isC := [0, 1]) hP rfl) (hD.sub [0, 1] (by decide) rfl) hS (Nat.le_of_ble_eq_true rfl) (Nat.le_of_ble_eq_true rfl) dX9_comeBut_81
    · refine lv_iload_n hx hb dX9_comeBut_9 rfl (lv_at hl 1 rfl) ?_
      refine lv_istore_n (lv' := [(3, .int (zI v2)), (2, .int (zI v2)), (0, .ref y), (1, .int (zI x))]) hx hb dX9_comeBut_10 rfl hl (by decide) rfl (fun ls hl => ?_)
      refine lv_iconst (v := zI 0) hx hb dX9_comeBut_11 rfl ?_
      refine lv_istore (lv' := [(4, .int (zI 0)), (3, .int (zI v2)), (2, .int (zI v2)), (0, .ref y), (1, .int (zI x))]) hx hb dX9_comeBut_12 hl (by decide) rfl (fun ls hl => ?_)
      refine W.widen (k := 0) (n := 0) (Nat.le_of_ble_eq_true rfl) (Nat.le_of_ble_eq_true rfl) ?_
      refine (?_ : ∀ (n9_2 : Nat) (w2 : Int) (w4 : Int) (H : Heap) (locs : List Loc), (v2 ≤ w2 ∧ w2 < 1024 ∧ 0 ≤ w4 ∧ w4 ≤ 20) → (20 - w4 : Int).toNat < n9_2 → va_P G vwCl [(y, .inr (9, [.int (zI (i 0)), .ref (q 0), .int (zI (i 1)), .int (zI (i 2)), .int (zI (i 3)), .int (zI (i 4)), .int (zI (i 5)), .int (zI (i 6)), .int (zI (i 7)), .int (zI (i 8)), .int (zI (i 9)), .int (zI (i 10)), .ref (q 1), .int (zI (i 11)), .int (zI (i 12)), .ref (q 2), .ref (q 3), .ref (q 4), .ref (q 5), .ref (q 6), .ref (q 7), .ref (q 8), .ref (q 9), .ref (q 10), .ref (q 11), .ref (q 12), .ref (q 13), .ref (q 14), .ref (q 15), .ref (q 16), .int (zI (i 13)), .int (zI (i 14)), .int (zI (i 15)), .int (zI (i 16)), .int (zI (i 17)), .int (zI (i 18)), .ref (q 17), .ref (q 18), .ref (q 19), .ref (q 20)])), ((q 3), .inl (cI, 200, .inl (fun k => zI (g_now k))))] H → va_D A [(y, .inr (9, [.int (zI (i 0)), .ref (q 0), .int (zI (i 1)), .int (zI (i 2)), .int (zI (i 3)), .int (zI (i 4)), .int (zI (i 5)), .int (zI (i 6)), .int (zI (i 7)), .int (zI (i 8)), .int (zI (i 9)), .int (zI (i 10)), .ref (q 1), .int (zI (i 11)), .int (zI (i 12)), .ref (q 2), .ref (q 3), .ref (q 4), .ref (q 5), .ref (q 6), .ref (q 7), .ref (q 8), .ref (q 9), .ref (q 10), .ref (q 11), .ref (q 12), .ref (q 13), .ref (q 14), .ref (q 15), .ref (q 16), .int (zI (i 13)), .int (zI (i 14)), .int (zI (i 15)), .int (zI (i 16)), .int (zI (i 17)), .int (zI (i 18)), .ref (q 17), .ref (q 18), .ref (q 19), .ref (q 20)])), ((q 3), .inl (cI, 200, .inl (fun k => zI (g_now k))))] → va_S A s.heap H locs → ∀ ls : Array Slot, lv_has ls 5 [(4, .int (zI w4)), (3, .int (zI v2)), (2, .int (zI w2)), (0, .ref y), (1, .int (zI x))] → W p l e rm_X9_comeBut s m ([.ref y, .int (zI x)] : List Value).toArray below meth c H locs 0 0 Q (F0 m 14 ls [])) ((20 - 0 : Int).toNat + 1) v2 0 _ _ (by omega) (by omega) hP hD hS ls hl
      clear hP hD hS hl ls
      intro n9_2
      induction n9_2 with
      | zero =>
        intro w2 w4 H locs hI hM
        exact absurd hM (by omega)
      | succ n9_2 ih2 =>
        intro w2 w4 H locs hI2 hM2  hP hD hS ls hl
        refine lv_iload hx hb dX9_comeBut_14 (lv_at hl 0 rfl) ?_
        refine lv_iconst (v := zI 2) hx hb dX9_comeBut_16 rfl ?_
        refine lv_aload_n hx hb dX9_comeBut_17 rfl (lv_at hl 3 rfl) ?_
        refine r_get F hK hP 0 30 rfl rfl in_X9 (by decide) k_1193 rfl dX9_comeBut_18 ?_
        refine r_imul (v := zI (2 * (i 13))) F dX9_comeBut_21 (zI_mul _ _) ?_
        refine rz_icmp_ge (tgt := 77) F (by omega) (by omega) dX9_comeBut_22 (by decide) (fun h22_2 => ?_) (fun h22_2 => ?_)
        · refine lv_goto (tgt := 4) hx hb dX9_comeBut_77 (by decide) ?_
          exact ih1 w2 v2 _ _ (by omega) (by omega) hP hD hS ls (lv_sub hl [1, 2, 3, 4] rfl)
        · refine lv_aload_n hx hb dX9_comeBut_25 rfl (lv_at hl 3 rfl) ?_
          refine r_get F hK hP 0 16 rfl rfl in_X9 (by decide) k_1179 rfl dX9_comeBut_26 ?_
          refine lv_iload hx hb dX9_comeBut_29 (lv_at hl 0 rfl) ?_
          refine r_callSi (As := [.ref (q 3), .int (zI w4)]) (rest := []) (wr := [(y, .inr (9, [.int (zI (i 0)), .ref (q 0), .int (zI (i 1)), .int (zI (i 2)), .int (zI (i 3)), .int (zI (i 4)), .int (zI (i 5)), .int (zI (i 6)), .int (zI (i 7)), .int (zI (i 8)), .int (zI (i 9)), .int (zI (i 10)), .ref (q 1), .int (zI (i 11)), .int (zI (i 12)), .ref (q 2), .ref (q 3), .ref (q 4), .ref (q 5), .ref (q 6), .ref (q 7), .ref (q 8), .ref (q 9), .ref (q 10), .ref (q 11), .ref (q 12), .ref (q 13), .ref (q 14), .ref (q 15), .ref (q 16), .int (zI (i 13)), .int (zI (i 14)), .int (zI (i 15)), .int (zI (i 16)), .int (zI (i 17)), .int (zI (i 18)), .ref (q 17), .ref (q 18), .ref (q 19), .ref (q 20)]))]) F hK hP hD hS hA hO hE (c_X9_laid hO (q 3) g_now w4 (by omega) hpn (by omega)) k_1489 ks_X9_laid 2 rfl (by decide +kernel) ⟨Nat.le_of_ble_eq_true rfl, Nat.le_of_ble_eq_true rfl⟩ [1] [0] rfl rfl (by decide) (by decide) (by decide) hl.1 rfl (Nat.le_of_ble_eq_true rfl) dX9_comeBut_31 ⟨Nat.le_of_ble_eq_true rfl, Nat.le_of_ble_eq_true rfl⟩ (w1 := fun u4 => [(y, .inr (9, [.int (zI (i 0)), .ref (q 0), .int (zI (i 1)), .int (zI (i 2)), .int (zI (i 3)), .int (zI (i 4)), .int (zI (i 5)), .int (zI (i 6)), .int (zI (i 7)), .int (zI (i 8)), .int (zI (i 9)), .int (zI (i 10)), .ref (q 1), .int (zI (i 11)), .int (zI (i 12)), .ref (q 2), .ref (q 3), .ref (q 4), .ref (q 5), .ref (q 6), .ref (q 7), .ref (q 8), .ref (q 9), .ref (q 10), .ref (q 11), .ref (q 12), .ref (q 13), .ref (q 14), .ref (q 15), .ref (q 16), .int (zI (i 13)), .int (zI (i 14)), .int (zI (i 15)), .int (zI (i 16)), .int (zI (i 17)), .int (zI (i 18)), .ref (q 17), .ref (q 18), .ref (q 19), .ref (q 20)])), ((q 3), .inl (cI, 200, .inl (fun k => zI (g_now k))))]) (fun _ => rfl) (fun r5 u4 H locs hp6 hP hD hS => ?_)
          obtain ⟨z7, rfl, h_z7⟩ := hp6
          refine rz_if_le (tgt := 71) F (by omega) dX9_comeBut_34 (by decide) (fun h34_7 => ?_) (fun h34_7 => ?_)
          · refine lv_iinc (v := zI (w4 + 1)) (lv' := [(4, .int (zI (w4 + 1))), (3, .int (zI v2)), (2, .int (zI w2)), (0, .ref y), (1, .int (zI x))]) hx hb dX9_comeBut_71 hl (k := 0) rfl (zI_add _ _) (by decide) rfl (fun ls hl => ?_)
            refine lv_goto (tgt := 14) hx hb dX9_comeBut_74 (by decide) ?_
            exact ih2 w2 (w4 + 1) _ _ (by omega) (by omega) hP hD hS ls (lv_sub hl [0, 1, 2, 3, 4] rfl)
          · refine lv_iload_n hx hb dX9_comeBut_37 rfl (lv_at hl 4 rfl) ?_
            refine lv_iload hx hb dX9_comeBut_38 (lv_at hl 0 rfl) ?_
            refine r_callSi (As := [.int (zI x), .int (zI w4)]) (rest := []) (wr := [(y, .inr (9, [.int (zI (i 0)), .ref (q 0), .int (zI (i 1)), .int (zI (i 2)), .int (zI (i 3)), .int (zI (i 4)), .int (zI (i 5)), .int (zI (i 6)), .int (zI (i 7)), .int (zI (i 8)), .int (zI (i 9)), .int (zI (i 10)), .ref (q 1), .int (zI (i 11)), .int (zI (i 12)), .ref (q 2), .ref (q 3), .ref (q 4), .ref (q 5), .ref (q 6), .ref (q 7), .ref (q 8), .ref (q 9), .ref (q 10), .ref (q 11), .ref (q 12), .ref (q 13), .ref (q 14), .ref (q 15), .ref (q 16), .int (zI (i 13)), .int (zI (i 14)), .int (zI (i 15)), .int (zI (i 16)), .int (zI (i 17)), .int (zI (i 18)), .ref (q 17), .ref (q 18), .ref (q 19), .ref (q 20)])), ((q 3), .inl (cI, 200, .inl (fun k => zI (g_now k))))]) F hK hP hD hS hA hO hE (c_X9_has hO x w4 (by omega) (by omega)) k_1463 ks_X9_has 2 rfl (by decide +kernel) ⟨Nat.le_of_ble_eq_true rfl, Nat.le_of_ble_eq_true rfl⟩ [] [0, 1] rfl rfl (by decide) (by decide) (by decide) hl.1 rfl (Nat.le_of_ble_eq_true rfl) dX9_comeBut_40 ⟨Nat.le_of_ble_eq_true rfl, Nat.le_of_ble_eq_true rfl⟩ (w1 := fun u9 => [(y, .inr (9, [.int (zI (i 0)), .ref (q 0), .int (zI (i 1)), .int (zI (i 2)), .int (zI (i 3)), .int (zI (i 4)), .int (zI (i 5)), .int (zI (i 6)), .int (zI (i 7)), .int (zI (i 8)), .int (zI (i 9)), .int (zI (i 10)), .ref (q 1), .int (zI (i 11)), .int (zI (i 12)), .ref (q 2), .ref (q 3), .ref (q 4), .ref (q 5), .ref (q 6), .ref (q 7), .ref (q 8), .ref (q 9), .ref (q 10), .ref (q 11), .ref (q 12), .ref (q 13), .ref (q 14), .ref (q 15), .ref (q 16), .int (zI (i 13)), .int (zI (i 14)), .int (zI (i 15)), .int (zI (i 16)), .int (zI (i 17)), .int (zI (i 18)), .ref (q 17), .ref (q 18), .ref (q 19), .ref (q 20)])), ((q 3), .inl (cI, 200, .inl (fun k => zI (g_now k))))]) (fun _ => rfl) (fun r10 u9 H locs hp11 hP hD hS => ?_)
            obtain ⟨z12, rfl, h_z12⟩ := hp11
            refine rz_ifb_ne (tgt := 71) F (by omega) dX9_comeBut_43 (by decide) (fun h43_12 => ?_) (fun h43_12 => ?_)
            · refine lv_iinc (v := zI (w4 + 1)) (lv' := [(4, .int (zI (w4 + 1))), (3, .int (zI v2)), (2, .int (zI w2)), (0, .ref y), (1, .int (zI x))]) hx hb dX9_comeBut_71 hl (k := 0) rfl (zI_add _ _) (by decide) rfl (fun ls hl => ?_)
              refine lv_goto (tgt := 14) hx hb dX9_comeBut_74 (by decide) ?_
              exact ih2 w2 (w4 + 1) _ _ (by omega) (by omega) hP hD hS ls (lv_sub hl [0, 1, 2, 3, 4] rfl)
            · refine lv_iload_n hx hb dX9_comeBut_46 rfl (lv_at hl 2 rfl) ?_
              refine lv_iload hx hb dX9_comeBut_47 (lv_at hl 0 rfl) ?_
              refine lv_iconst (v := zI 2) hx hb dX9_comeBut_49 rfl ?_
              refine rz_idiv F (by omega) (by omega) dX9_comeBut_50 (fun z14 h_z14 => ?_)
              refine r_callSi (As := [.int (zI w2), .int (zI z14)]) (rest := []) (wr := [(y, .inr (9, [.int (zI (i 0)), .ref (q 0), .int (zI (i 1)), .int (zI (i 2)), .int (zI (i 3)), .int (zI (i 4)), .int (zI (i 5)), .int (zI (i 6)), .int (zI (i 7)), .int (zI (i 8)), .int (zI (i 9)), .int (zI (i 10)), .ref (q 1), .int (zI (i 11)), .int (zI (i 12)), .ref (q 2), .ref (q 3), .ref (q 4), .ref (q 5), .ref (q 6), .ref (q 7), .ref (q 8), .ref (q 9), .ref (q 10), .ref (q 11), .ref (q 12), .ref (q 13), .ref (q 14), .ref (q 15), .ref (q 16), .int (zI (i 13)), .int (zI (i 14)), .int (zI (i 15)), .int (zI (i 16)), .int (zI (i 17)), .int (zI (i 18)), .ref (q 17), .ref (q 18), .ref (q 19), .ref (q 20)])), ((q 3), .inl (cI, 200, .inl (fun k => zI (g_now k))))]) F hK hP hD hS hA hO hE (c_X9_has hO w2 z14 (by omega) (by omega)) k_1463 ks_X9_has 2 rfl (by decide +kernel) ⟨Nat.le_of_ble_eq_true rfl, Nat.le_of_ble_eq_true rfl⟩ [] [0, 1] rfl rfl (by decide) (by decide) (by decide) hl.1 rfl (Nat.le_of_ble_eq_true rfl) dX9_comeBut_51 ⟨Nat.le_of_ble_eq_true rfl, Nat.le_of_ble_eq_true rfl⟩ (w1 := fun u15 => [(y, .inr (9, [.int (zI (i 0)), .ref (q 0), .int (zI (i 1)), .int (zI (i 2)), .int (zI (i 3)), .int (zI (i 4)), .int (zI (i 5)), .int (zI (i 6)), .int (zI (i 7)), .int (zI (i 8)), .int (zI (i 9)), .int (zI (i 10)), .ref (q 1), .int (zI (i 11)), .int (zI (i 12)), .ref (q 2), .ref (q 3), .ref (q 4), .ref (q 5), .ref (q 6), .ref (q 7), .ref (q 8), .ref (q 9), .ref (q 10), .ref (q 11), .ref (q 12), .ref (q 13), .ref (q 14), .ref (q 15), .ref (q 16), .int (zI (i 13)), .int (zI (i 14)), .int (zI (i 15)), .int (zI (i 16)), .int (zI (i 17)), .int (zI (i 18)), .ref (q 17), .ref (q 18), .ref (q 19), .ref (q 20)])), ((q 3), .inl (cI, 200, .inl (fun k => zI (g_now k))))]) (fun _ => rfl) (fun r16 u15 H locs hp17 hP hD hS => ?_)
              obtain ⟨z18, rfl, h_z18⟩ := hp17
              refine rz_ifb_eq (tgt := 71) F (by omega) dX9_comeBut_54 (by decide) (fun h54_18 => ?_) (fun h54_18 => ?_)
              · refine lv_iinc (v := zI (w4 + 1)) (lv' := [(4, .int (zI (w4 + 1))), (3, .int (zI v2)), (2, .int (zI w2)), (0, .ref y), (1, .int (zI x))]) hx hb dX9_comeBut_71 hl (k := 0) rfl (zI_add _ _) (by decide) rfl (fun ls hl => ?_)
                refine lv_goto (tgt := 14) hx hb dX9_comeBut_74 (by decide) ?_
                exact ih2 w2 (w4 + 1) _ _ (by omega) (by omega) hP hD hS ls (lv_sub hl [0, 1, 2, 3, 4] rfl)
              · refine lv_iload_n hx hb dX9_comeBut_57 rfl (lv_at hl 2 rfl) ?_
                refine lv_iconst (v := zI 1) hx hb dX9_comeBut_58 rfl ?_
                refine lv_aload_n hx hb dX9_comeBut_59 rfl (lv_at hl 3 rfl) ?_
                refine r_get F hK hP 0 16 rfl rfl in_X9 (by decide) k_1179 rfl dX9_comeBut_60 ?_
                refine lv_iload hx hb dX9_comeBut_63 (lv_at hl 0 rfl) ?_
                refine r_callSi (As := [.ref (q 3), .int (zI w4)]) (rest := [.int (zI 1), .int (zI w2)]) (wr := [(y, .inr (9, [.int (zI (i 0)), .ref (q 0), .int (zI (i 1)), .int (zI (i 2)), .int (zI (i 3)), .int (zI (i 4)), .int (zI (i 5)), .int (zI (i 6)), .int (zI (i 7)), .int (zI (i 8)), .int (zI (i 9)), .int (zI (i 10)), .ref (q 1), .int (zI (i 11)), .int (zI (i 12)), .ref (q 2), .ref (q 3), .ref (q 4), .ref (q 5), .ref (q 6), .ref (q 7), .ref (q 8), .ref (q 9), .ref (q 10), .ref (q 11), .ref (q 12), .ref (q 13), .ref (q 14), .ref (q 15), .ref (q 16), .int (zI (i 13)), .int (zI (i 14)), .int (zI (i 15)), .int (zI (i 16)), .int (zI (i 17)), .int (zI (i 18)), .ref (q 17), .ref (q 18), .ref (q 19), .ref (q 20)]))]) F hK hP hD hS hA hO hE (c_X9_goesTo hO (q 3) g_now w4 (by omega) hpn (by omega)) k_1582 ks_X9_goesTo 2 rfl (by decide +kernel) ⟨Nat.le_of_ble_eq_true rfl, Nat.le_of_ble_eq_true rfl⟩ [1] [0] rfl rfl (by decide) (by decide) (by decide) hl.1 rfl (Nat.le_of_ble_eq_true rfl) dX9_comeBut_65 ⟨Nat.le_of_ble_eq_true rfl, Nat.le_of_ble_eq_true rfl⟩ (w1 := fun u20 => [(y, .inr (9, [.int (zI (i 0)), .ref (q 0), .int (zI (i 1)), .int (zI (i 2)), .int (zI (i 3)), .int (zI (i 4)), .int (zI (i 5)), .int (zI (i 6)), .int (zI (i 7)), .int (zI (i 8)), .int (zI (i 9)), .int (zI (i 10)), .ref (q 1), .int (zI (i 11)), .int (zI (i 12)), .ref (q 2), .ref (q 3), .ref (q 4), .ref (q 5), .ref (q 6), .ref (q 7), .ref (q 8), .ref (q 9), .ref (q 10), .ref (q 11), .ref (q 12), .ref (q 13), .ref (q 14), .ref (q 15), .ref (q 16), .int (zI (i 13)), .int (zI (i 14)), .int (zI (i 15)), .int (zI (i 16)), .int (zI (i 17)), .int (zI (i 18)), .ref (q 17), .ref (q 18), .ref (q 19), .ref (q 20)])), ((q 3), .inl (cI, 200, .inl (fun k => zI (g_now k))))]) (fun _ => rfl) (fun r21 u20 H locs hp22 hP hD hS => ?_)
                obtain ⟨z23, rfl, h_z23⟩ := hp22
                refine rz_ishl1 F (by omega) dX9_comeBut_68 (fun z25 h_z25 => ?_)
                refine rz_iorM F 10 1024 (by decide) (by decide) (by omega) (by omega) dX9_comeBut_69 (fun z27 h_z27 => ?_)
                refine lv_istore_n (lv' := [(2, .int (zI z27)), (4, .int (zI w4)), (3, .int (zI v2)), (0, .ref y), (1, .int (zI x))]) hx hb dX9_comeBut_70 rfl hl (by decide) rfl (fun ls hl => ?_)
                refine lv_iinc (v := zI (w4 + 1)) (lv' := [(4, .int (zI (w4 + 1))), (2, .int (zI z27)), (3, .int (zI v2)), (0, .ref y), (1, .int (zI x))]) hx hb dX9_comeBut_71 hl (k := 1) rfl (zI_add _ _) (by decide) rfl (fun ls hl => ?_)
                refine lv_goto (tgt := 14) hx hb dX9_comeBut_74 (by decide) ?_
                exact ih2 z27 (w4 + 1) _ _ (by omega) (by omega) hP hD hS ls (lv_sub hl [0, 2, 1, 3, 4] rfl)
theorem dX9_come_0 : decode cX9_come 0 = .ok (.aload_n 0, 1) := bo_42 (by decide +kernel)
theorem dX9_come_1 : decode cX9_come 1 = .ok (.invokevirtual 197, 3) := bo_182 0 197 (by decide +kernel)
theorem dX9_come_4 : decode cX9_come 4 = .ok (.aload_n 0, 1) := bo_42 (by decide +kernel)
theorem dX9_come_5 : decode cX9_come 5 = .ok (.getfield 222, 3) := bo_180 0 222 (by decide +kernel)
theorem dX9_come_8 : decode cX9_come 8 = .ok (.ifCond .eq 11, 3) := bo_153 0 11 (by decide +kernel)
theorem dX9_come_19 : decode cX9_come 19 = .ok (.aload_n 0, 1) := bo_42 (by decide +kernel)
theorem dX9_come_20 : decode cX9_come 20 = .ok (.iconst 1, 1) := bo_4 (by decide +kernel)
theorem dX9_come_21 : decode cX9_come 21 = .ok (.invokevirtual 200, 3) := bo_182 0 200 (by decide +kernel)
theorem dX9_come_24 : decode cX9_come 24 = .ok (.ireturn, 1) := bo_172 (by decide +kernel)
theorem dX9_come_11 : decode cX9_come 11 = .ok (.aload_n 0, 1) := bo_42 (by decide +kernel)
theorem dX9_come_12 : decode cX9_come 12 = .ok (.iconst 0, 1) := bo_3 (by decide +kernel)
theorem dX9_come_13 : decode cX9_come 13 = .ok (.invokevirtual 336, 3) := bo_182 1 80 (by decide +kernel)
theorem k_1578 : Cond.methodLink RX9 336 yX9_comeBut ∈ bw_T := bw_m 1578 (by decide +kernel) rfl
theorem kv_X9_comeBut : bw_KV RX9 yX9_comeBut (Cond.code yX9_comeBut cX9_comeBut 5 (some .int)) := ⟨bw_m 1580 (by decide +kernel) rfl, bw_m 77 (by decide +kernel) rfl, bw_m 107 (by decide +kernel) rfl, bw_m 1581 (by decide +kernel) rfl⟩
theorem dX9_come_16 : decode cX9_come 16 = .ok (.goto 8, 3) := bo_167 0 8 (by decide +kernel)
abbrev rm_X9_come : Room := { frames := 2, cells := 0, slots := 0, locals := 47 }
set_option maxRecDepth 100000 in
set_option maxHeartbeats 8000000 in
theorem c_X9_come {l : Launch} {E : (Nat → Prop) → State → Prop} (hO : bw_Ok E) {G : va_G} {cI cB cJ cN cW : ClassId} (y : Nat) (q : Nat → Nat) (i : Nat → Int) (hM : ModOk i) (g_now : Nat → Int) (hpn : ProgOk g_now) : bw_Ci (S := zV) l yX9_come (bw_ws (Cond.code yX9_come cX9_come 1 (some .int))) rm_X9_come E G (bw_kt cI cB cJ cN cW) [.ref y] [(y, .inr (9, [.int (zI (i 0)), .ref (q 0), .int (zI (i 1)), .int (zI (i 2)), .int (zI (i 3)), .int (zI (i 4)), .int (zI (i 5)), .int (zI (i 6)), .int (zI (i 7)), .int (zI (i 8)), .int (zI (i 9)), .int (zI (i 10)), .ref (q 1), .int (zI (i 11)), .int (zI (i 12)), .ref (q 2), .ref (q 3), .ref (q 4), .ref (q 5), .ref (q 6), .ref (q 7), .ref (q 8), .ref (q 9), .ref (q 10), .ref (q 11), .ref (q 12), .ref (q 13), .ref (q 14), .ref (q 15), .ref (q 16), .int (zI (i 13)), .int (zI (i 14)), .int (zI (i 15)), .int (zI (i 16)), .int (zI (i 17)), .int (zI (i 18)), .ref (q 17), .ref (q 18), .ref (q 19), .ref (q 20)])), ((q 3), .inl (cI, 200, .inl (fun k => zI (g_now k))))] (fun r u => ∃ z : Int, r = zI z ∧ (ModOk (u 0).1) ∧ (((u 0).1 1 = i 1 ∧ (u 0).1 8 = i 8 ∧ (u 0).1 9 = i 9 ∧ (u 0).1 12 = i 12 ∧ (u 0).1 13 = i 13 ∧ (u 0).1 15 = i 15 ∧ (u 0).1 17 = i 17 ∧ (u 0).1 10 ≠ 4))) (fun u => [(y, .inr (9, [.int (zI ((u 0).1 0)), .ref (q 0), .int (zI ((u 0).1 1)), .int (zI ((u 0).1 2)), .int (zI ((u 0).1 3)), .int (zI ((u 0).1 4)), .int (zI ((u 0).1 5)), .int (zI ((u 0).1 6)), .int (zI ((u 0).1 7)), .int (zI ((u 0).1 8)), .int (zI ((u 0).1 9)), .int (zI ((u 0).1 10)), .ref (q 1), .int (zI ((u 0).1 11)), .int (zI ((u 0).1 12)), .ref (q 2), .ref (q 3), .ref (q 4), .ref (q 5), .ref (q 6), .ref (q 7), .ref (q 8), .ref (q 9), .ref (q 10), .ref (q 11), .ref (q 12), .ref (q 13), .ref (q 14), .ref (q 15), .ref (q 16), .int (zI ((u 0).1 13)), .int (zI ((u 0).1 14)), .int (zI ((u 0).1 15)), .int (zI ((u 0).1 16)), .int (zI ((u 0).1 17)), .int (zI ((u 0).1 18)), .ref (q 17), .ref (q 18), .ref (q 19), .ref (q 20)])), ((q 3), .inl (cI, 200, .inl (fun k => zI (g_now k))))]) := by
  refine bw_Ci.of (cc := cX9_come) (maxL := 1) (ty := .int) (by decide) rfl (Nat.le_of_ble_eq_true rfl) ?_
  intro p e s m below meth c A Q hx hb hml hts hown hin hK hA hS hP hD hE ret ls hl
  have F : CallFix p m c cX9_come 1 s ([.ref y] : List Value).toArray bw_T RX9 := ⟨hx, hb, hml, hown, fun w h => hts w (List.mem_cons_of_mem _ h)⟩
  replace hl : lv_has ls 1 [(0, .ref y)] := hl
  have hf1 := hM.1
  refine lv_aload_n hx hb dX9_come_0 rfl (lv_at hl 0 rfl) ?_
  refine r_callVv (As := []) (rest := []) (wr := [((q 3), .inl (cI, 200, .inl (fun k => zI (g_now k))))]) F hK hP hD hS hA hO hE (c_X9_good hO y q i hM) k_1296 kv_X9_good 0 rfl (by decide +kernel) ⟨Nat.le_of_ble_eq_true rfl, Nat.le_of_ble_eq_true rfl⟩ [0] [1] rfl rfl (by decide) (by decide) (by decide) 0 9 rfl rfl rfl hl.1 rfl (Nat.le_of_ble_eq_true rfl) dX9_come_1 ⟨Nat.le_of_ble_eq_true rfl, Nat.le_of_ble_eq_true rfl⟩ (w1 := fun u2 => [((q 3), .inl (cI, 200, .inl (fun k => zI (g_now k)))), (y, .inr (9, [.int (zI ((u2 0).1 0)), .ref (q 0), .int (zI ((u2 0).1 1)), .int (zI ((u2 0).1 2)), .int (zI ((u2 0).1 3)), .int (zI ((u2 0).1 4)), .int (zI ((u2 0).1 5)), .int (zI ((u2 0).1 6)), .int (zI ((u2 0).1 7)), .int (zI ((u2 0).1 8)), .int (zI ((u2 0).1 9)), .int (zI ((u2 0).1 10)), .ref (q 1), .int (zI ((u2 0).1 11)), .int (zI ((u2 0).1 12)), .ref (q 2), .ref (q 3), .ref (q 4), .ref (q 5), .ref (q 6), .ref (q 7), .ref (q 8), .ref (q 9), .ref (q 10), .ref (q 11), .ref (q 12), .ref (q 13), .ref (q 14), .ref (q 15), .ref (q 16), .int (zI ((u2 0).1 13)), .int (zI ((u2 0).1 14)), .int (zI ((u2 0).1 15)), .int (zI ((u2 0).1 16)), .int (zI ((u2 0).1 17)), .int (zI ((u2 0).1 18)), .ref (q 17), .ref (q 18), .ref (q 19), .ref (q 20)]))]) (fun _ => rfl) (fun  u2 H locs hp3 hP hD hS => ?_)
  have hf4 := hp3.1.1
  refine lv_aload_n hx hb dX9_come_4 rfl (lv_at hl 0 rfl) ?_
  refine r_get F hK hP 1 14 rfl rfl in_X9 (by decide) k_1177 rfl dX9_come_5 ?_
  refine rz_ifb_eq (tgt := 19) F (by omega) dX9_come_8 (by decide) (fun h8_4 => ?_) (fun h8_4 => ?_)
  · refine lv_aload_n hx hb dX9_come_19 rfl (lv_at hl 0 rfl) ?_
    refine lv_iconst (v := zI 1) hx hb dX9_come_20 rfl ?_
    refine r_callVi (As := [.int (zI 1)]) (rest := []) (wr := [((q 3), .inl (cI, 200, .inl (fun k => zI (g_now k))))]) F hK hP hD hS hA hO hE (c_X9_no hO y q ((u2 0).1) hp3.1 1 (by omega) (by omega)) k_1303 kv_X9_no 1 rfl (by decide +kernel) ⟨Nat.le_of_ble_eq_true rfl, Nat.le_of_ble_eq_true rfl⟩ [1] [0] rfl rfl (by decide) (by decide) (by decide) 0 9 rfl rfl rfl hl.1 rfl (Nat.le_of_ble_eq_true rfl) dX9_come_21 ⟨Nat.le_of_ble_eq_true rfl, Nat.le_of_ble_eq_true rfl⟩ (w1 := fun u6 => [((q 3), .inl (cI, 200, .inl (fun k => zI (g_now k)))), (y, .inr (9, [.int (zI ((u6 0).1 0)), .ref (q 0), .int (zI ((u6 0).1 1)), .int (zI ((u6 0).1 2)), .int (zI ((u6 0).1 3)), .int (zI ((u6 0).1 4)), .int (zI ((u6 0).1 5)), .int (zI ((u6 0).1 6)), .int (zI ((u6 0).1 7)), .int (zI ((u6 0).1 8)), .int (zI ((u6 0).1 9)), .int (zI ((u6 0).1 10)), .ref (q 1), .int (zI ((u6 0).1 11)), .int (zI ((u6 0).1 12)), .ref (q 2), .ref (q 3), .ref (q 4), .ref (q 5), .ref (q 6), .ref (q 7), .ref (q 8), .ref (q 9), .ref (q 10), .ref (q 11), .ref (q 12), .ref (q 13), .ref (q 14), .ref (q 15), .ref (q 16), .int (zI ((u6 0).1 13)), .int (zI ((u6 0).1 14)), .int (zI ((u6 0).1 15)), .int (zI ((u6 0).1 16)), .int (zI ((u6 0).1 17)), .int (zI ((u6 0).1 18)), .ref (q 17), .ref (q 18), .ref (q 19), .ref (q 20)]))]) (fun _ => rfl) (fun r7 u6 H locs hp8 hP hD hS => ?_)
    obtain ⟨z9, rfl, h_z9⟩ := hp8
    have hf10 := h_z9.1.1
    exact ret (zI z9) (fun k => [((u6 0).1, fun _ _ => 0)].getD k (fun _ => 0, fun _ _ => 0)) _ _ _ _ _ _ rfl ⟨z9, rfl, h_z9.1, (show ((u6 0).1) 1 = i 1 ∧ ((u6 0).1) 8 = i 8 ∧ ((u6 0).1) 9 = i 9 ∧ ((u6 0).1) 12 = i 12 ∧ ((u6 0).1) 13 = i 13 ∧ ((u6 0).1) 15 = i 15 ∧ ((u6 0).1) 17 = i 17 ∧ ((u6 0).1) 10 ≠ 4 from by omega)⟩ (bw_subP (isC := [1, 0]) hP rfl) (hD.sub [1, 0] (by decide) rfl) hS (Nat.le_of_ble_eq_true rfl) (Nat.le_of_ble_eq_true rfl) dX9_come_24
  · refine lv_aload_n hx hb dX9_come_11 rfl (lv_at hl 0 rfl) ?_
    refine lv_iconst (v := zI 0) hx hb dX9_come_12 rfl ?_
    refine r_callVi (As := [.int (zI 0)]) (rest := []) (wr := []) F hK hP hD hS hA hO hE (c_X9_comeBut hO y q ((u2 0).1) hp3.1 g_now 0 (by omega) hpn) k_1578 kv_X9_comeBut 1 rfl (by decide +kernel) ⟨Nat.le_of_ble_eq_true rfl, Nat.le_of_ble_eq_true rfl⟩ [1, 0] [] rfl rfl (by decide) (by decide) (by decide) 0 9 rfl rfl rfl hl.1 rfl (Nat.le_of_ble_eq_true rfl) dX9_come_13 ⟨Nat.le_of_ble_eq_true rfl, Nat.le_of_ble_eq_true rfl⟩ (w1 := fun u11 => [(y, .inr (9, [.int (zI ((u2 0).1 0)), .ref (q 0), .int (zI ((u2 0).1 1)), .int (zI ((u2 0).1 2)), .int (zI ((u2 0).1 3)), .int (zI ((u2 0).1 4)), .int (zI ((u2 0).1 5)), .int (zI ((u2 0).1 6)), .int (zI ((u2 0).1 7)), .int (zI ((u2 0).1 8)), .int (zI ((u2 0).1 9)), .int (zI ((u2 0).1 10)), .ref (q 1), .int (zI ((u2 0).1 11)), .int (zI ((u2 0).1 12)), .ref (q 2), .ref (q 3), .ref (q 4), .ref (q 5), .ref (q 6), .ref (q 7), .ref (q 8), .ref (q 9), .ref (q 10), .ref (q 11), .ref (q 12), .ref (q 13), .ref (q 14), .ref (q 15), .ref (q 16), .int (zI ((u2 0).1 13)), .int (zI ((u2 0).1 14)), .int (zI ((u2 0).1 15)), .int (zI ((u2 0).1 16)), .int (zI ((u2 0).1 17)), .int (zI ((u2 0).1 18)), .ref (q 17), .ref (q 18), .ref (q 19), .ref (q 20)])), ((q 3), .inl (cI, 200, .inl (fun k => zI (g_now k))))]) (fun _ => rfl) (fun r12 u11 H locs hp13 hP hD hS => ?_)
    obtain ⟨z14, rfl, h_z14⟩ := hp13
    refine lv_goto (tgt := 24) hx hb dX9_come_16 (by decide) ?_
    exact ret (zI z14) (fun k => [((u2 0).1, fun _ _ => 0)].getD k (fun _ => 0, fun _ _ => 0)) _ _ _ _ _ _ rfl ⟨z14, rfl, hp3.1, (show ((u2 0).1) 1 = i 1 ∧ ((u2 0).1) 8 = i 8 ∧ ((u2 0).1) 9 = i 9 ∧ ((u2 0).1) 12 = i 12 ∧ ((u2 0).1) 13 = i 13 ∧ ((u2 0).1) 15 = i 15 ∧ ((u2 0).1) 17 = i 17 ∧ ((u2 0).1) 10 ≠ 4 from by omega)⟩ (bw_subP (isC := [0, 1]) hP rfl) (hD.sub [0, 1] (by decide) rfl) hS (Nat.le_of_ble_eq_true rfl) (Nat.le_of_ble_eq_true rfl) dX9_come_24
theorem dX9_keys_0 : decode cX9_keys 0 = .ok (.aload_n 0, 1) := bo_42 (by decide +kernel)
theorem dX9_keys_1 : decode cX9_keys 1 = .ok (.invokevirtual 197, 3) := bo_182 0 197 (by decide +kernel)
theorem dX9_keys_4 : decode cX9_keys 4 = .ok (.aload_n 0, 1) := bo_42 (by decide +kernel)
theorem dX9_keys_5 : decode cX9_keys 5 = .ok (.getfield 222, 3) := bo_180 0 222 (by decide +kernel)
theorem dX9_keys_8 : decode cX9_keys 8 = .ok (.ifCond .ne 9, 3) := bo_154 0 9 (by decide +kernel)
theorem dX9_keys_17 : decode cX9_keys 17 = .ok (.iconst 0, 1) := bo_3 (by decide +kernel)
theorem dX9_keys_18 : decode cX9_keys 18 = .ok (.istore_n 1, 1) := bo_60 (by decide +kernel)
theorem dX9_keys_19 : decode cX9_keys 19 = .ok (.iconst 0, 1) := bo_3 (by decide +kernel)
theorem dX9_keys_20 : decode cX9_keys 20 = .ok (.istore_n 2, 1) := bo_61 (by decide +kernel)
theorem dX9_keys_21 : decode cX9_keys 21 = .ok (.iload_n 2, 1) := bo_28 (by decide +kernel)
theorem dX9_keys_22 : decode cX9_keys 22 = .ok (.iconst 2, 1) := bo_5 (by decide +kernel)
theorem dX9_keys_23 : decode cX9_keys 23 = .ok (.aload_n 0, 1) := bo_42 (by decide +kernel)
theorem dX9_keys_24 : decode cX9_keys 24 = .ok (.getfield 213, 3) := bo_180 0 213 (by decide +kernel)
theorem dX9_keys_27 : decode cX9_keys 27 = .ok (.imul, 1) := bo_104 (by decide +kernel)
theorem dX9_keys_28 : decode cX9_keys 28 = .ok (.if_icmp .ge 45, 3) := bo_162 0 45 (by decide +kernel)
theorem dX9_keys_73 : decode cX9_keys 73 = .ok (.iload_n 1, 1) := bo_27 (by decide +kernel)
theorem dX9_keys_74 : decode cX9_keys 74 = .ok (.ireturn, 1) := bo_172 (by decide +kernel)
theorem dX9_keys_31 : decode cX9_keys 31 = .ok (.iload_n 1, 1) := bo_27 (by decide +kernel)
theorem dX9_keys_32 : decode cX9_keys 32 = .ok (.aload_n 0, 1) := bo_42 (by decide +kernel)
theorem dX9_keys_33 : decode cX9_keys 33 = .ok (.getfield 23, 3) := bo_180 0 23 (by decide +kernel)
theorem dX9_keys_36 : decode cX9_keys 36 = .ok (.iload_n 2, 1) := bo_28 (by decide +kernel)
theorem dX9_keys_37 : decode cX9_keys 37 = .ok (.invokestatic 297, 3) := bo_184 1 41 (by decide +kernel)
theorem dX9_keys_40 : decode cX9_keys 40 = .ok (.ifCond .le 24, 3) := bo_158 0 24 (by decide +kernel)
theorem dX9_keys_64 : decode cX9_keys 64 = .ok (.iconst 0, 1) := bo_3 (by decide +kernel)
theorem dX9_keys_65 : decode cX9_keys 65 = .ok (.ior, 1) := bo_128 (by decide +kernel)
theorem dX9_keys_66 : decode cX9_keys 66 = .ok (.istore_n 1, 1) := bo_60 (by decide +kernel)
theorem dX9_keys_67 : decode cX9_keys 67 = .ok (.iinc 2 1, 3) := bo_132 2 1 (by decide +kernel)
theorem dX9_keys_70 : decode cX9_keys 70 = .ok (.goto (-49), 3) := bo_167 255 207 (by decide +kernel)
theorem dX9_keys_43 : decode cX9_keys 43 = .ok (.aload_n 0, 1) := bo_42 (by decide +kernel)
theorem dX9_keys_44 : decode cX9_keys 44 = .ok (.iconst 1, 1) := bo_4 (by decide +kernel)
theorem dX9_keys_45 : decode cX9_keys 45 = .ok (.iload_n 2, 1) := bo_28 (by decide +kernel)
theorem dX9_keys_46 : decode cX9_keys 46 = .ok (.ishl, 1) := bo_120 (by decide +kernel)
theorem dX9_keys_47 : decode cX9_keys 47 = .ok (.invokevirtual 336, 3) := bo_182 1 80 (by decide +kernel)
theorem dX9_keys_50 : decode cX9_keys 50 = .ok (.aload_n 0, 1) := bo_42 (by decide +kernel)
theorem dX9_keys_51 : decode cX9_keys 51 = .ok (.iconst 0, 1) := bo_3 (by decide +kernel)
theorem dX9_keys_52 : decode cX9_keys 52 = .ok (.invokevirtual 336, 3) := bo_182 1 80 (by decide +kernel)
theorem dX9_keys_55 : decode cX9_keys 55 = .ok (.if_icmp .eq 9, 3) := bo_159 0 9 (by decide +kernel)
theorem dX9_keys_58 : decode cX9_keys 58 = .ok (.iconst 1, 1) := bo_4 (by decide +kernel)
theorem dX9_keys_59 : decode cX9_keys 59 = .ok (.iload_n 2, 1) := bo_28 (by decide +kernel)
theorem dX9_keys_60 : decode cX9_keys 60 = .ok (.ishl, 1) := bo_120 (by decide +kernel)
theorem dX9_keys_61 : decode cX9_keys 61 = .ok (.goto 4, 3) := bo_167 0 4 (by decide +kernel)
theorem dX9_keys_11 : decode cX9_keys 11 = .ok (.aload_n 0, 1) := bo_42 (by decide +kernel)
theorem dX9_keys_12 : decode cX9_keys 12 = .ok (.iconst 1, 1) := bo_4 (by decide +kernel)
theorem dX9_keys_13 : decode cX9_keys 13 = .ok (.invokevirtual 200, 3) := bo_182 0 200 (by decide +kernel)
theorem dX9_keys_16 : decode cX9_keys 16 = .ok (.ireturn, 1) := bo_172 (by decide +kernel)
abbrev rm_X9_keys : Room := { frames := 2, cells := 0, slots := 0, locals := 47 }
set_option maxRecDepth 100000 in
set_option maxHeartbeats 8000000 in
theorem c_X9_keys {l : Launch} {E : (Nat → Prop) → State → Prop} (hO : bw_Ok E) {G : va_G} {cI cB cJ cN cW : ClassId} (y : Nat) (q : Nat → Nat) (i : Nat → Int) (hM : ModOk i) (g_now : Nat → Int) (hpn : ProgOk g_now) : bw_Ci (S := zV) l yX9_keys (bw_ws (Cond.code yX9_keys cX9_keys 3 (some .int))) rm_X9_keys E G (bw_kt cI cB cJ cN cW) [.ref y] [(y, .inr (9, [.int (zI (i 0)), .ref (q 0), .int (zI (i 1)), .int (zI (i 2)), .int (zI (i 3)), .int (zI (i 4)), .int (zI (i 5)), .int (zI (i 6)), .int (zI (i 7)), .int (zI (i 8)), .int (zI (i 9)), .int (zI (i 10)), .ref (q 1), .int (zI (i 11)), .int (zI (i 12)), .ref (q 2), .ref (q 3), .ref (q 4), .ref (q 5), .ref (q 6), .ref (q 7), .ref (q 8), .ref (q 9), .ref (q 10), .ref (q 11), .ref (q 12), .ref (q 13), .ref (q 14), .ref (q 15), .ref (q 16), .int (zI (i 13)), .int (zI (i 14)), .int (zI (i 15)), .int (zI (i 16)), .int (zI (i 17)), .int (zI (i 18)), .ref (q 17), .ref (q 18), .ref (q 19), .ref (q 20)])), ((q 3), .inl (cI, 200, .inl (fun k => zI (g_now k))))] (fun r u => ∃ z : Int, r = zI z ∧ (ModOk (u 0).1) ∧ (((u 0).1 1 = i 1 ∧ (u 0).1 8 = i 8 ∧ (u 0).1 9 = i 9 ∧ (u 0).1 12 = i 12 ∧ (u 0).1 13 = i 13 ∧ (u 0).1 15 = i 15 ∧ (u 0).1 17 = i 17 ∧ (u 0).1 10 ≠ 4))) (fun u => [(y, .inr (9, [.int (zI ((u 0).1 0)), .ref (q 0), .int (zI ((u 0).1 1)), .int (zI ((u 0).1 2)), .int (zI ((u 0).1 3)), .int (zI ((u 0).1 4)), .int (zI ((u 0).1 5)), .int (zI ((u 0).1 6)), .int (zI ((u 0).1 7)), .int (zI ((u 0).1 8)), .int (zI ((u 0).1 9)), .int (zI ((u 0).1 10)), .ref (q 1), .int (zI ((u 0).1 11)), .int (zI ((u 0).1 12)), .ref (q 2), .ref (q 3), .ref (q 4), .ref (q 5), .ref (q 6), .ref (q 7), .ref (q 8), .ref (q 9), .ref (q 10), .ref (q 11), .ref (q 12), .ref (q 13), .ref (q 14), .ref (q 15), .ref (q 16), .int (zI ((u 0).1 13)), .int (zI ((u 0).1 14)), .int (zI ((u 0).1 15)), .int (zI ((u 0).1 16)), .int (zI ((u 0).1 17)), .int (zI ((u 0).1 18)), .ref (q 17), .ref (q 18), .ref (q 19), .ref (q 20)])), ((q 3), .inl (cI, 200, .inl (fun k => zI (g_now k))))]) := by
  refine bw_Ci.of (cc := cX9_keys) (maxL := 3) (ty := .int) (by decide) rfl (Nat.le_of_ble_eq_true rfl) ?_
  intro p e s m below meth c A Q hx hb hml hts hown hin hK hA hS hP hD hE ret ls hl
  have F : CallFix p m c cX9_keys 3 s ([.ref y] : List Value).toArray bw_T RX9 := ⟨hx, hb, hml, hown, fun w h => hts w (List.mem_cons_of_mem _ h)⟩
  replace hl : lv_has ls 3 [(0, .ref y)] := hl
  have hf1 := hM.1
  refine lv_aload_n hx hb dX9_keys_0 rfl (lv_at hl 0 rfl) ?_
  refine r_callVv (As := []) (rest := []) (wr := [((q 3), .inl (cI, 200, .inl (fun k => zI (g_now k))))]) F hK hP hD hS hA hO hE (c_X9_good hO y q i hM) k_1296 kv_X9_good 0 rfl (by decide +kernel) ⟨Nat.le_of_ble_eq_true rfl, Nat.le_of_ble_eq_true rfl⟩ [0] [1] rfl rfl (by decide) (by decide) (by decide) 0 9 rfl rfl rfl hl.1 rfl (Nat.le_of_ble_eq_true rfl) dX9_keys_1 ⟨Nat.le_of_ble_eq_true rfl, Nat.le_of_ble_eq_true rfl⟩ (w1 := fun u2 => [((q 3), .inl (cI, 200, .inl (fun k => zI (g_now k)))), (y, .inr (9, [.int (zI ((u2 0).1 0)), .ref (q 0), .int (zI ((u2 0).1 1)), .int (zI ((u2 0).1 2)), .int (zI ((u2 0).1 3)), .int (zI ((u2 0).1 4)), .int (zI ((u2 0).1 5)), .int (zI ((u2 0).1 6)), .int (zI ((u2 0).1 7)), .int (zI ((u2 0).1 8)), .int (zI ((u2 0).1 9)), .int (zI ((u2 0).1 10)), .ref (q 1), .int (zI ((u2 0).1 11)), .int (zI ((u2 0).1 12)), .ref (q 2), .ref (q 3), .ref (q 4), .ref (q 5), .ref (q 6), .ref (q 7), .ref (q 8), .ref (q 9), .ref (q 10), .ref (q 11), .ref (q 12), .ref (q 13), .ref (q 14), .ref (q 15), .ref (q 16), .int (zI ((u2 0).1 13)), .int (zI ((u2 0).1 14)), .int (zI ((u2 0).1 15)), .int (zI ((u2 0).1 16)), .int (zI ((u2 0).1 17)), .int (zI ((u2 0).1 18)), .ref (q 17), .ref (q 18), .ref (q 19), .ref (q 20)]))]) (fun _ => rfl) (fun  u2 H locs hp3 hP hD hS => ?_)
  have hf4 := hp3.1.1
  refine lv_aload_n hx hb dX9_keys_4 rfl (lv_at hl 0 rfl) ?_
  refine r_get F hK hP 1 14 rfl rfl in_X9 (by decide) k_1177 rfl dX9_keys_5 ?_
  refine rz_ifb_ne (tgt := 17) F (by omega) dX9_keys_8 (by decide) (fun h8_4 => ?_) (fun h8_4 => ?_)
  · refine lv_iconst (v := zI 0) hx hb dX9_keys_17 rfl ?_
    refine lv_istore_n (lv' := [(1, .int (zI 0)), (0, .ref y)]) hx hb dX9_keys_18 rfl hl (by decide) rfl (fun ls hl => ?_)
    refine lv_iconst (v := zI 0) hx hb dX9_keys_19 rfl ?_
    refine lv_istore_n (lv' := [(2, .int (zI 0)), (1, .int (zI 0)), (0, .ref y)]) hx hb dX9_keys_20 rfl hl (by decide) rfl (fun ls hl => ?_)
    refine W.widen (k := 0) (n := 0) (Nat.le_of_ble_eq_true rfl) (Nat.le_of_ble_eq_true rfl) ?_
    refine (?_ : ∀ (n9_1 : Nat) (v1 : Int) (v2 : Int) (H : Heap) (locs : List Loc), (0 ≤ v2 ∧ v2 ≤ 20) → (20 - v2 : Int).toNat < n9_1 → va_P G vwCl [((q 3), .inl (cI, 200, .inl (fun k => zI (g_now k)))), (y, .inr (9, [.int (zI ((u2 0).1 0)), .ref (q 0), .int (zI ((u2 0).1 1)), .int (zI ((u2 0).1 2)), .int (zI ((u2 0).1 3)), .int (zI ((u2 0).1 4)), .int (zI ((u2 0).1 5)), .int (zI ((u2 0).1 6)), .int (zI ((u2 0).1 7)), .int (zI ((u2 0).1 8)), .int (zI ((u2 0).1 9)), .int (zI ((u2 0).1 10)), .ref (q 1), .int (zI ((u2 0).1 11)), .int (zI ((u2 0).1 12)), .ref (q 2), .ref (q 3), .ref (q 4), .ref (q 5), .ref (q 6), .ref (q 7), .ref (q 8), .ref (q 9), .ref (q 10), .ref (q 11), .ref (q 12), .ref (q 13), .ref (q 14), .ref (q 15), .ref (q 16), .int (zI ((u2 0).1 13)), .int (zI ((u2 0).1 14)), .int (zI ((u2 0).1 15)), .int (zI ((u2 0).1 16)), .int (zI ((u2 0).1 17)), .int (zI ((u2 0).1 18)), .ref (q 17), .ref (q 18), .ref (q 19), .ref (q 20)]))] H → va_D A [((q 3), .inl (cI, 200, .inl (fun k => zI (g_now k)))), (y, .inr (9, [.int (zI ((u2 0).1 0)), .ref (q 0), .int (zI ((u2 0).1 1)), .int (zI ((u2 0).1 2)), .int (zI ((u2 0).1 3)), .int (zI ((u2 0).1 4)), .int (zI ((u2 0).1 5)), .int (zI ((u2 0).1 6)), .int (zI ((u2 0).1 7)), .int (zI ((u2 0).1 8)), .int (zI ((u2 0).1 9)), .int (zI ((u2 0).1 10)), .ref (q 1), .int (zI ((u2 0).1 11)), .int (zI ((u2 0).1 12)), .ref (q 2), .ref (q 3), .ref (q 4), .ref (q 5), .ref (q 6), .ref (q 7), .ref (q 8), .ref (q 9), .ref (q 10), .ref (q 11), .ref (q 12), .ref (q 13), .ref (q 14), .ref (q 15), .ref (q 16), .int (zI ((u2 0).1 13)), .int (zI ((u2 0).1 14)), .int (zI ((u2 0).1 15)), .int (zI ((u2 0).1 16)), .int (zI ((u2 0).1 17)), .int (zI ((u2 0).1 18)), .ref (q 17), .ref (q 18), .ref (q 19), .ref (q 20)]))] → va_S A s.heap H locs → ∀ ls : Array Slot, lv_has ls 3 [(2, .int (zI v2)), (1, .int (zI v1)), (0, .ref y)] → W p l e rm_X9_keys s m ([.ref y] : List Value).toArray below meth c H locs 0 0 Q (F0 m 21 ls [])) ((20 - 0 : Int).toNat + 1) 0 0 _ _ (by omega) (by omega) hP hD hS ls hl
    clear hP hD hS hl ls
    intro n9_1
    induction n9_1 with
    | zero =>
      intro v1 v2 H locs hI hM
      exact absurd hM (by omega)
    | succ n9_1 ih1 =>
      intro v1 v2 H locs hI1 hM1  hP hD hS ls hl
      refine lv_iload_n hx hb dX9_keys_21 rfl (lv_at hl 0 rfl) ?_
      refine lv_iconst (v := zI 2) hx hb dX9_keys_22 rfl ?_
      refine lv_aload_n hx hb dX9_keys_23 rfl (lv_at hl 2 rfl) ?_
      refine r_get F hK hP 1 30 rfl rfl in_X9 (by decide) k_1193 rfl dX9_keys_24 ?_
      refine r_imul (v := zI (2 * ((u2 0).1 13))) F dX9_keys_27 (zI_mul _ _) ?_
      refine rz_icmp_ge (tgt := 73) F (by omega) (by omega) dX9_keys_28 (by decide) (fun h28_5 => ?_) (fun h28_5 => ?_)
      · refine lv_iload_n hx hb dX9_keys_73 rfl (lv_at hl 1 rfl) ?_
        exact ret (zI v1) (fun k => [((u2 0).1, fun _ _ => 0)].getD k (fun _ => 0, fun _ _ => 0)) _ _ _ _ _ _ rfl ⟨v1, rfl, hp3.1, (show ((u2 0).1) 1 = i 1 ∧ ((u2 0).1) 8 = i 8 ∧ ((u2 0).1) 9 = i 9 ∧ ((u2 0).1) 12 = i 12 ∧ ((u2 0).1) 13 = i 13 ∧ ((u2 0).1) 15 = i 15 ∧ ((u2 0).1) 17 = i 17 ∧ ((u2 0).1) 10 ≠ 4 from by omega)⟩ (bw_subP (isC := [1, 0]) hP rfl) (hD.sub [1, 0] (by decide) rfl) hS (Nat.le_of_ble_eq_true rfl) (Nat.le_of_ble_eq_true rfl) dX9_keys_74
      · refine lv_iload_n hx hb dX9_keys_31 rfl (lv_at hl 1 rfl) ?_
        refine lv_aload_n hx hb dX9_keys_32 rfl (lv_at hl 2 rfl) ?_
        refine r_get F hK hP 1 16 rfl rfl in_X9 (by decide) k_1179 rfl dX9_keys_33 ?_
        refine lv_iload_n hx hb dX9_keys_36 rfl (lv_at hl 0 rfl) ?_
        refine r_callSi (As := [.ref (q 3), .int (zI v2)]) (rest := [.int (zI v1)]) (wr := [(y, .inr (9, [.int (zI ((u2 0).1 0)), .ref (q 0), .int (zI ((u2 0).1 1)), .int (zI ((u2 0).1 2)), .int (zI ((u2 0).1 3)), .int (zI ((u2 0).1 4)), .int (zI ((u2 0).1 5)), .int (zI ((u2 0).1 6)), .int (zI ((u2 0).1 7)), .int (zI ((u2 0).1 8)), .int (zI ((u2 0).1 9)), .int (zI ((u2 0).1 10)), .ref (q 1), .int (zI ((u2 0).1 11)), .int (zI ((u2 0).1 12)), .ref (q 2), .ref (q 3), .ref (q 4), .ref (q 5), .ref (q 6), .ref (q 7), .ref (q 8), .ref (q 9), .ref (q 10), .ref (q 11), .ref (q 12), .ref (q 13), .ref (q 14), .ref (q 15), .ref (q 16), .int (zI ((u2 0).1 13)), .int (zI ((u2 0).1 14)), .int (zI ((u2 0).1 15)), .int (zI ((u2 0).1 16)), .int (zI ((u2 0).1 17)), .int (zI ((u2 0).1 18)), .ref (q 17), .ref (q 18), .ref (q 19), .ref (q 20)]))]) F hK hP hD hS hA hO hE (c_X9_laid hO (q 3) g_now v2 (by omega) hpn (by omega)) k_1489 ks_X9_laid 2 rfl (by decide +kernel) ⟨Nat.le_of_ble_eq_true rfl, Nat.le_of_ble_eq_true rfl⟩ [0] [1] rfl rfl (by decide) (by decide) (by decide) hl.1 rfl (Nat.le_of_ble_eq_true rfl) dX9_keys_37 ⟨Nat.le_of_ble_eq_true rfl, Nat.le_of_ble_eq_true rfl⟩ (w1 := fun u7 => [(y, .inr (9, [.int (zI ((u2 0).1 0)), .ref (q 0), .int (zI ((u2 0).1 1)), .int (zI ((u2 0).1 2)), .int (zI ((u2 0).1 3)), .int (zI ((u2 0).1 4)), .int (zI ((u2 0).1 5)), .int (zI ((u2 0).1 6)), .int (zI ((u2 0).1 7)), .int (zI ((u2 0).1 8)), .int (zI ((u2 0).1 9)), .int (zI ((u2 0).1 10)), .ref (q 1), .int (zI ((u2 0).1 11)), .int (zI ((u2 0).1 12)), .ref (q 2), .ref (q 3), .ref (q 4), .ref (q 5), .ref (q 6), .ref (q 7), .ref (q 8), .ref (q 9), .ref (q 10), .ref (q 11), .ref (q 12), .ref (q 13), .ref (q 14), .ref (q 15), .ref (q 16), .int (zI ((u2 0).1 13)), .int (zI ((u2 0).1 14)), .int (zI ((u2 0).1 15)), .int (zI ((u2 0).1 16)), .int (zI ((u2 0).1 17)), .int (zI ((u2 0).1 18)), .ref (q 17), .ref (q 18), .ref (q 19), .ref (q 20)])), ((q 3), .inl (cI, 200, .inl (fun k => zI (g_now k))))]) (fun _ => rfl) (fun r8 u7 H locs hp9 hP hD hS => ?_)
        obtain ⟨z10, rfl, h_z10⟩ := hp9
        refine rz_if_le (tgt := 64) F (by omega) dX9_keys_40 (by decide) (fun h40_10 => ?_) (fun h40_10 => ?_)
        · refine lv_iconst (v := zI 0) hx hb dX9_keys_64 rfl ?_
          refine lv_ior hx hb dX9_keys_65 ?_
          refine rz_top (fun z12 h_z12 => ?_)
          refine lv_istore_n (lv' := [(1, .int (zI z12)), (2, .int (zI v2)), (0, .ref y)]) hx hb dX9_keys_66 rfl hl (by decide) rfl (fun ls hl => ?_)
          refine lv_iinc (v := zI (v2 + 1)) (lv' := [(2, .int (zI (v2 + 1))), (1, .int (zI z12)), (0, .ref y)]) hx hb dX9_keys_67 hl (k := 1) rfl (zI_add _ _) (by decide) rfl (fun ls hl => ?_)
          refine lv_goto (tgt := 21) hx hb dX9_keys_70 (by decide) ?_
          have hP := bw_subP (isC := [1, 0]) (wc := [((q 3), .inl (cI, 200, .inl (fun k => zI (g_now k)))), (y, .inr (9, [.int (zI ((u2 0).1 0)), .ref (q 0), .int (zI ((u2 0).1 1)), .int (zI ((u2 0).1 2)), .int (zI ((u2 0).1 3)), .int (zI ((u2 0).1 4)), .int (zI ((u2 0).1 5)), .int (zI ((u2 0).1 6)), .int (zI ((u2 0).1 7)), .int (zI ((u2 0).1 8)), .int (zI ((u2 0).1 9)), .int (zI ((u2 0).1 10)), .ref (q 1), .int (zI ((u2 0).1 11)), .int (zI ((u2 0).1 12)), .ref (q 2), .ref (q 3), .ref (q 4), .ref (q 5), .ref (q 6), .ref (q 7), .ref (q 8), .ref (q 9), .ref (q 10), .ref (q 11), .ref (q 12), .ref (q 13), .ref (q 14), .ref (q 15), .ref (q 16), .int (zI ((u2 0).1 13)), .int (zI ((u2 0).1 14)), .int (zI ((u2 0).1 15)), .int (zI ((u2 0).1 16)), .int (zI ((u2 0).1 17)), .int (zI ((u2 0).1 18)), .ref (q 17), .ref (q 18), .ref (q 19), .ref (q 20)]))]) hP rfl
          have hD := hD.sub (ws' := [((q 3), .inl (cI, 200, .inl (fun k => zI (g_now k)))), (y, .inr (9, [.int (zI ((u2 0).1 0)), .ref (q 0), .int (zI ((u2 0).1 1)), .int (zI ((u2 0).1 2)), .int (zI ((u2 0).1 3)), .int (zI ((u2 0).1 4)), .int (zI ((u2 0).1 5)), .int (zI ((u2 0).1 6)), .int (zI ((u2 0).1 7)), .int (zI ((u2 0).1 8)), .int (zI ((u2 0).1 9)), .int (zI ((u2 0).1 10)), .ref (q 1), .int (zI ((u2 0).1 11)), .int (zI ((u2 0).1 12)), .ref (q 2), .ref (q 3), .ref (q 4), .ref (q 5), .ref (q 6), .ref (q 7), .ref (q 8), .ref (q 9), .ref (q 10), .ref (q 11), .ref (q 12), .ref (q 13), .ref (q 14), .ref (q 15), .ref (q 16), .int (zI ((u2 0).1 13)), .int (zI ((u2 0).1 14)), .int (zI ((u2 0).1 15)), .int (zI ((u2 0).1 16)), .int (zI ((u2 0).1 17)), .int (zI ((u2 0).1 18)), .ref (q 17), .ref (q 18), .ref (q 19), .ref (q 20)]))]) [1, 0] (by decide) rfl
          exact ih1 z12 (v2 + 1) _ _ (by omega) (by omega) hP hD hS ls (lv_sub hl [0, 1, 2] rfl)
        · refine lv_aload_n hx hb dX9_keys_43 rfl (lv_at hl 2 rfl) ?_
          refine lv_iconst (v := zI 1) hx hb dX9_keys_44 rfl ?_
          refine lv_iload_n hx hb dX9_keys_45 rfl (lv_at hl 0 rfl) ?_
          refine lv_ishl hx hb dX9_keys_46 ?_
          refine rz_top (fun z13 h_z13 => ?_)
          refine r_callVi (As := [.int (zI z13)]) (rest := [.int (zI v1)]) (wr := []) F hK hP hD hS hA hO hE (c_X9_comeBut hO y q ((u2 0).1) hp3.1 g_now z13 (by omega) hpn) k_1578 kv_X9_comeBut 1 rfl (by decide +kernel) ⟨Nat.le_of_ble_eq_true rfl, Nat.le_of_ble_eq_true rfl⟩ [0, 1] [] rfl rfl (by decide) (by decide) (by decide) 0 9 rfl rfl rfl hl.1 rfl (Nat.le_of_ble_eq_true rfl) dX9_keys_47 ⟨Nat.le_of_ble_eq_true rfl, Nat.le_of_ble_eq_true rfl⟩ (w1 := fun u14 => [(y, .inr (9, [.int (zI ((u2 0).1 0)), .ref (q 0), .int (zI ((u2 0).1 1)), .int (zI ((u2 0).1 2)), .int (zI ((u2 0).1 3)), .int (zI ((u2 0).1 4)), .int (zI ((u2 0).1 5)), .int (zI ((u2 0).1 6)), .int (zI ((u2 0).1 7)), .int (zI ((u2 0).1 8)), .int (zI ((u2 0).1 9)), .int (zI ((u2 0).1 10)), .ref (q 1), .int (zI ((u2 0).1 11)), .int (zI ((u2 0).1 12)), .ref (q 2), .ref (q 3), .ref (q 4), .ref (q 5), .ref (q 6), .ref (q 7), .ref (q 8), .ref (q 9), .ref (q 10), .ref (q 11), .ref (q 12), .ref (q 13), .ref (q 14), .ref (q 15), .ref (q 16), .int (zI ((u2 0).1 13)), .int (zI ((u2 0).1 14)), .int (zI ((u2 0).1 15)), .int (zI ((u2 0).1 16)), .int (zI ((u2 0).1 17)), .int (zI ((u2 0).1 18)), .ref (q 17), .ref (q 18), .ref (q 19), .ref (q 20)])), ((q 3), .inl (cI, 200, .inl (fun k => zI (g_now k))))]) (fun _ => rfl) (fun r15 u14 H locs hp16 hP hD hS => ?_)
          obtain ⟨z17, rfl, h_z17⟩ := hp16
          refine lv_aload_n hx hb dX9_keys_50 rfl (lv_at hl 2 rfl) ?_
          refine lv_iconst (v := zI 0) hx hb dX9_keys_51 rfl ?_
          refine r_callVi (As := [.int (zI 0)]) (rest := [.int (zI z17), .int (zI v1)]) (wr := []) F hK hP hD hS hA hO hE (c_X9_comeBut hO y q ((u2 0).1) hp3.1 g_now 0 (by omega) hpn) k_1578 kv_X9_comeBut 1 rfl (by decide +kernel) ⟨Nat.le_of_ble_eq_true rfl, Nat.le_of_ble_eq_true rfl⟩ [0, 1] [] rfl rfl (by decide) (by decide) (by decide) 0 9 rfl rfl rfl hl.1 rfl (Nat.le_of_ble_eq_true rfl) dX9_keys_52 ⟨Nat.le_of_ble_eq_true rfl, Nat.le_of_ble_eq_true rfl⟩ (w1 := fun u18 => [(y, .inr (9, [.int (zI ((u2 0).1 0)), .ref (q 0), .int (zI ((u2 0).1 1)), .int (zI ((u2 0).1 2)), .int (zI ((u2 0).1 3)), .int (zI ((u2 0).1 4)), .int (zI ((u2 0).1 5)), .int (zI ((u2 0).1 6)), .int (zI ((u2 0).1 7)), .int (zI ((u2 0).1 8)), .int (zI ((u2 0).1 9)), .int (zI ((u2 0).1 10)), .ref (q 1), .int (zI ((u2 0).1 11)), .int (zI ((u2 0).1 12)), .ref (q 2), .ref (q 3), .ref (q 4), .ref (q 5), .ref (q 6), .ref (q 7), .ref (q 8), .ref (q 9), .ref (q 10), .ref (q 11), .ref (q 12), .ref (q 13), .ref (q 14), .ref (q 15), .ref (q 16), .int (zI ((u2 0).1 13)), .int (zI ((u2 0).1 14)), .int (zI ((u2 0).1 15)), .int (zI ((u2 0).1 16)), .int (zI ((u2 0).1 17)), .int (zI ((u2 0).1 18)), .ref (q 17), .ref (q 18), .ref (q 19), .ref (q 20)])), ((q 3), .inl (cI, 200, .inl (fun k => zI (g_now k))))]) (fun _ => rfl) (fun r19 u18 H locs hp20 hP hD hS => ?_)
          obtain ⟨z21, rfl, h_z21⟩ := hp20
          refine rz_icmp_eq (tgt := 64) F (by omega) (by omega) dX9_keys_55 (by decide) (fun h55_21 => ?_) (fun h55_21 => ?_)
          · refine lv_iconst (v := zI 0) hx hb dX9_keys_64 rfl ?_
            refine lv_ior hx hb dX9_keys_65 ?_
            refine rz_top (fun z23 h_z23 => ?_)
            refine lv_istore_n (lv' := [(1, .int (zI z23)), (2, .int (zI v2)), (0, .ref y)]) hx hb dX9_keys_66 rfl hl (by decide) rfl (fun ls hl => ?_)
            refine lv_iinc (v := zI (v2 + 1)) (lv' := [(2, .int (zI (v2 + 1))), (1, .int (zI z23)), (0, .ref y)]) hx hb dX9_keys_67 hl (k := 1) rfl (zI_add _ _) (by decide) rfl (fun ls hl => ?_)
            refine lv_goto (tgt := 21) hx hb dX9_keys_70 (by decide) ?_
            have hP := bw_subP (isC := [1, 0]) (wc := [((q 3), .inl (cI, 200, .inl (fun k => zI (g_now k)))), (y, .inr (9, [.int (zI ((u2 0).1 0)), .ref (q 0), .int (zI ((u2 0).1 1)), .int (zI ((u2 0).1 2)), .int (zI ((u2 0).1 3)), .int (zI ((u2 0).1 4)), .int (zI ((u2 0).1 5)), .int (zI ((u2 0).1 6)), .int (zI ((u2 0).1 7)), .int (zI ((u2 0).1 8)), .int (zI ((u2 0).1 9)), .int (zI ((u2 0).1 10)), .ref (q 1), .int (zI ((u2 0).1 11)), .int (zI ((u2 0).1 12)), .ref (q 2), .ref (q 3), .ref (q 4), .ref (q 5), .ref (q 6), .ref (q 7), .ref (q 8), .ref (q 9), .ref (q 10), .ref (q 11), .ref (q 12), .ref (q 13), .ref (q 14), .ref (q 15), .ref (q 16), .int (zI ((u2 0).1 13)), .int (zI ((u2 0).1 14)), .int (zI ((u2 0).1 15)), .int (zI ((u2 0).1 16)), .int (zI ((u2 0).1 17)), .int (zI ((u2 0).1 18)), .ref (q 17), .ref (q 18), .ref (q 19), .ref (q 20)]))]) hP rfl
            have hD := hD.sub (ws' := [((q 3), .inl (cI, 200, .inl (fun k => zI (g_now k)))), (y, .inr (9, [.int (zI ((u2 0).1 0)), .ref (q 0), .int (zI ((u2 0).1 1)), .int (zI ((u2 0).1 2)), .int (zI ((u2 0).1 3)), .int (zI ((u2 0).1 4)), .int (zI ((u2 0).1 5)), .int (zI ((u2 0).1 6)), .int (zI ((u2 0).1 7)), .int (zI ((u2 0).1 8)), .int (zI ((u2 0).1 9)), .int (zI ((u2 0).1 10)), .ref (q 1), .int (zI ((u2 0).1 11)), .int (zI ((u2 0).1 12)), .ref (q 2), .ref (q 3), .ref (q 4), .ref (q 5), .ref (q 6), .ref (q 7), .ref (q 8), .ref (q 9), .ref (q 10), .ref (q 11), .ref (q 12), .ref (q 13), .ref (q 14), .ref (q 15), .ref (q 16), .int (zI ((u2 0).1 13)), .int (zI ((u2 0).1 14)), .int (zI ((u2 0).1 15)), .int (zI ((u2 0).1 16)), .int (zI ((u2 0).1 17)), .int (zI ((u2 0).1 18)), .ref (q 17), .ref (q 18), .ref (q 19), .ref (q 20)]))]) [1, 0] (by decide) rfl
            exact ih1 z23 (v2 + 1) _ _ (by omega) (by omega) hP hD hS ls (lv_sub hl [0, 1, 2] rfl)
          · refine lv_iconst (v := zI 1) hx hb dX9_keys_58 rfl ?_
            refine lv_iload_n hx hb dX9_keys_59 rfl (lv_at hl 0 rfl) ?_
            refine lv_ishl hx hb dX9_keys_60 ?_
            refine rz_top (fun z24 h_z24 => ?_)
            refine lv_goto (tgt := 65) hx hb dX9_keys_61 (by decide) ?_
            refine lv_ior hx hb dX9_keys_65 ?_
            refine rz_top (fun z25 h_z25 => ?_)
            refine lv_istore_n (lv' := [(1, .int (zI z25)), (2, .int (zI v2)), (0, .ref y)]) hx hb dX9_keys_66 rfl hl (by decide) rfl (fun ls hl => ?_)
            refine lv_iinc (v := zI (v2 + 1)) (lv' := [(2, .int (zI (v2 + 1))), (1, .int (zI z25)), (0, .ref y)]) hx hb dX9_keys_67 hl (k := 1) rfl (zI_add _ _) (by decide) rfl (fun ls hl => ?_)
            refine lv_goto (tgt := 21) hx hb dX9_keys_70 (by decide) ?_
            have hP := bw_subP (isC := [1, 0]) (wc := [((q 3), .inl (cI, 200, .inl (fun k => zI (g_now k)))), (y, .inr (9, [.int (zI ((u2 0).1 0)), .ref (q 0), .int (zI ((u2 0).1 1)), .int (zI ((u2 0).1 2)), .int (zI ((u2 0).1 3)), .int (zI ((u2 0).1 4)), .int (zI ((u2 0).1 5)), .int (zI ((u2 0).1 6)), .int (zI ((u2 0).1 7)), .int (zI ((u2 0).1 8)), .int (zI ((u2 0).1 9)), .int (zI ((u2 0).1 10)), .ref (q 1), .int (zI ((u2 0).1 11)), .int (zI ((u2 0).1 12)), .ref (q 2), .ref (q 3), .ref (q 4), .ref (q 5), .ref (q 6), .ref (q 7), .ref (q 8), .ref (q 9), .ref (q 10), .ref (q 11), .ref (q 12), .ref (q 13), .ref (q 14), .ref (q 15), .ref (q 16), .int (zI ((u2 0).1 13)), .int (zI ((u2 0).1 14)), .int (zI ((u2 0).1 15)), .int (zI ((u2 0).1 16)), .int (zI ((u2 0).1 17)), .int (zI ((u2 0).1 18)), .ref (q 17), .ref (q 18), .ref (q 19), .ref (q 20)]))]) hP rfl
            have hD := hD.sub (ws' := [((q 3), .inl (cI, 200, .inl (fun k => zI (g_now k)))), (y, .inr (9, [.int (zI ((u2 0).1 0)), .ref (q 0), .int (zI ((u2 0).1 1)), .int (zI ((u2 0).1 2)), .int (zI ((u2 0).1 3)), .int (zI ((u2 0).1 4)), .int (zI ((u2 0).1 5)), .int (zI ((u2 0).1 6)), .int (zI ((u2 0).1 7)), .int (zI ((u2 0).1 8)), .int (zI ((u2 0).1 9)), .int (zI ((u2 0).1 10)), .ref (q 1), .int (zI ((u2 0).1 11)), .int (zI ((u2 0).1 12)), .ref (q 2), .ref (q 3), .ref (q 4), .ref (q 5), .ref (q 6), .ref (q 7), .ref (q 8), .ref (q 9), .ref (q 10), .ref (q 11), .ref (q 12), .ref (q 13), .ref (q 14), .ref (q 15), .ref (q 16), .int (zI ((u2 0).1 13)), .int (zI ((u2 0).1 14)), .int (zI ((u2 0).1 15)), .int (zI ((u2 0).1 16)), .int (zI ((u2 0).1 17)), .int (zI ((u2 0).1 18)), .ref (q 17), .ref (q 18), .ref (q 19), .ref (q 20)]))]) [1, 0] (by decide) rfl
            exact ih1 z25 (v2 + 1) _ _ (by omega) (by omega) hP hD hS ls (lv_sub hl [0, 1, 2] rfl)
  · refine lv_aload_n hx hb dX9_keys_11 rfl (lv_at hl 0 rfl) ?_
    refine lv_iconst (v := zI 1) hx hb dX9_keys_12 rfl ?_
    refine r_callVi (As := [.int (zI 1)]) (rest := []) (wr := [((q 3), .inl (cI, 200, .inl (fun k => zI (g_now k))))]) F hK hP hD hS hA hO hE (c_X9_no hO y q ((u2 0).1) hp3.1 1 (by omega) (by omega)) k_1303 kv_X9_no 1 rfl (by decide +kernel) ⟨Nat.le_of_ble_eq_true rfl, Nat.le_of_ble_eq_true rfl⟩ [1] [0] rfl rfl (by decide) (by decide) (by decide) 0 9 rfl rfl rfl hl.1 rfl (Nat.le_of_ble_eq_true rfl) dX9_keys_13 ⟨Nat.le_of_ble_eq_true rfl, Nat.le_of_ble_eq_true rfl⟩ (w1 := fun u26 => [((q 3), .inl (cI, 200, .inl (fun k => zI (g_now k)))), (y, .inr (9, [.int (zI ((u26 0).1 0)), .ref (q 0), .int (zI ((u26 0).1 1)), .int (zI ((u26 0).1 2)), .int (zI ((u26 0).1 3)), .int (zI ((u26 0).1 4)), .int (zI ((u26 0).1 5)), .int (zI ((u26 0).1 6)), .int (zI ((u26 0).1 7)), .int (zI ((u26 0).1 8)), .int (zI ((u26 0).1 9)), .int (zI ((u26 0).1 10)), .ref (q 1), .int (zI ((u26 0).1 11)), .int (zI ((u26 0).1 12)), .ref (q 2), .ref (q 3), .ref (q 4), .ref (q 5), .ref (q 6), .ref (q 7), .ref (q 8), .ref (q 9), .ref (q 10), .ref (q 11), .ref (q 12), .ref (q 13), .ref (q 14), .ref (q 15), .ref (q 16), .int (zI ((u26 0).1 13)), .int (zI ((u26 0).1 14)), .int (zI ((u26 0).1 15)), .int (zI ((u26 0).1 16)), .int (zI ((u26 0).1 17)), .int (zI ((u26 0).1 18)), .ref (q 17), .ref (q 18), .ref (q 19), .ref (q 20)]))]) (fun _ => rfl) (fun r27 u26 H locs hp28 hP hD hS => ?_)
    obtain ⟨z29, rfl, h_z29⟩ := hp28
    have hf30 := h_z29.1.1
    exact ret (zI z29) (fun k => [((u26 0).1, fun _ _ => 0)].getD k (fun _ => 0, fun _ _ => 0)) _ _ _ _ _ _ rfl ⟨z29, rfl, h_z29.1, (show ((u26 0).1) 1 = i 1 ∧ ((u26 0).1) 8 = i 8 ∧ ((u26 0).1) 9 = i 9 ∧ ((u26 0).1) 12 = i 12 ∧ ((u26 0).1) 13 = i 13 ∧ ((u26 0).1) 15 = i 15 ∧ ((u26 0).1) 17 = i 17 ∧ ((u26 0).1) 10 ≠ 4 from by omega)⟩ (bw_subP (isC := [1, 0]) hP rfl) (hD.sub [1, 0] (by decide) rfl) hS (Nat.le_of_ble_eq_true rfl) (Nat.le_of_ble_eq_true rfl) dX9_keys_16
theorem dX9_isEven_0 : decode cX9_isEven 0 = .ok (.iconst 0, 1) := bo_3 (by decide +kernel)
theorem dX9_isEven_1 : decode cX9_isEven 1 = .ok (.istore_n 2, 1) := bo_61 (by decide +kernel)
theorem dX9_isEven_2 : decode cX9_isEven 2 = .ok (.iconst 1, 1) := bo_4 (by decide +kernel)
theorem dX9_isEven_3 : decode cX9_isEven 3 = .ok (.iload_n 1, 1) := bo_27 (by decide +kernel)
theorem dX9_isEven_4 : decode cX9_isEven 4 = .ok (.ishl, 1) := bo_120 (by decide +kernel)
theorem dX9_isEven_5 : decode cX9_isEven 5 = .ok (.istore_n 3, 1) := bo_62 (by decide +kernel)
theorem dX9_isEven_6 : decode cX9_isEven 6 = .ok (.iconst 0, 1) := bo_3 (by decide +kernel)
theorem dX9_isEven_7 : decode cX9_isEven 7 = .ok (.istore 4, 2) := bo_54 (by decide +kernel)
theorem dX9_isEven_9 : decode cX9_isEven 9 = .ok (.iload 4, 2) := bo_21 (by decide +kernel)
theorem dX9_isEven_11 : decode cX9_isEven 11 = .ok (.iconst 2, 1) := bo_5 (by decide +kernel)
theorem dX9_isEven_12 : decode cX9_isEven 12 = .ok (.aload_n 0, 1) := bo_42 (by decide +kernel)
theorem dX9_isEven_13 : decode cX9_isEven 13 = .ok (.getfield 213, 3) := bo_180 0 213 (by decide +kernel)
theorem dX9_isEven_16 : decode cX9_isEven 16 = .ok (.imul, 1) := bo_104 (by decide +kernel)
theorem dX9_isEven_17 : decode cX9_isEven 17 = .ok (.if_icmp .ge 44, 3) := bo_162 0 44 (by decide +kernel)
theorem dX9_isEven_61 : decode cX9_isEven 61 = .ok (.iload_n 2, 1) := bo_28 (by decide +kernel)
theorem dX9_isEven_62 : decode cX9_isEven 62 = .ok (.ifCond .ne 5, 3) := bo_154 0 5 (by decide +kernel)
theorem dX9_isEven_67 : decode cX9_isEven 67 = .ok (.iconst 0, 1) := bo_3 (by decide +kernel)
theorem dX9_isEven_68 : decode cX9_isEven 68 = .ok (.istore 4, 2) := bo_54 (by decide +kernel)
theorem dX9_isEven_70 : decode cX9_isEven 70 = .ok (.iload_n 3, 1) := bo_29 (by decide +kernel)
theorem dX9_isEven_71 : decode cX9_isEven 71 = .ok (.iload 4, 2) := bo_21 (by decide +kernel)
theorem dX9_isEven_73 : decode cX9_isEven 73 = .ok (.if_icmp .eq 71, 3) := bo_159 0 71 (by decide +kernel)
theorem dX9_isEven_144 : decode cX9_isEven 144 = .ok (.iload_n 3, 1) := bo_29 (by decide +kernel)
theorem dX9_isEven_145 : decode cX9_isEven 145 = .ok (.iload_n 2, 1) := bo_28 (by decide +kernel)
theorem dX9_isEven_146 : decode cX9_isEven 146 = .ok (.if_icmp .eq 5, 3) := bo_159 0 5 (by decide +kernel)
theorem dX9_isEven_151 : decode cX9_isEven 151 = .ok (.iconst 0, 1) := bo_3 (by decide +kernel)
theorem dX9_isEven_152 : decode cX9_isEven 152 = .ok (.istore 5, 2) := bo_54 (by decide +kernel)
theorem dX9_isEven_154 : decode cX9_isEven 154 = .ok (.iconst 0, 1) := bo_3 (by decide +kernel)
theorem dX9_isEven_155 : decode cX9_isEven 155 = .ok (.istore 6, 2) := bo_54 (by decide +kernel)
theorem dX9_isEven_157 : decode cX9_isEven 157 = .ok (.iconst 0, 1) := bo_3 (by decide +kernel)
theorem dX9_isEven_158 : decode cX9_isEven 158 = .ok (.istore 7, 2) := bo_54 (by decide +kernel)
theorem dX9_isEven_160 : decode cX9_isEven 160 = .ok (.iload 7, 2) := bo_21 (by decide +kernel)
theorem dX9_isEven_162 : decode cX9_isEven 162 = .ok (.aload_n 0, 1) := bo_42 (by decide +kernel)
theorem dX9_isEven_163 : decode cX9_isEven 163 = .ok (.getfield 213, 3) := bo_180 0 213 (by decide +kernel)
theorem dX9_isEven_166 : decode cX9_isEven 166 = .ok (.if_icmp .ge 133, 3) := bo_162 0 133 (by decide +kernel)
theorem dX9_isEven_299 : decode cX9_isEven 299 = .ok (.iload 5, 2) := bo_21 (by decide +kernel)
theorem dX9_isEven_301 : decode cX9_isEven 301 = .ok (.iload 6, 2) := bo_21 (by decide +kernel)
theorem dX9_isEven_303 : decode cX9_isEven 303 = .ok (.if_icmp .ne 13, 3) := bo_160 0 13 (by decide +kernel)
theorem dX9_isEven_316 : decode cX9_isEven 316 = .ok (.iconst 0, 1) := bo_3 (by decide +kernel)
theorem dX9_isEven_317 : decode cX9_isEven 317 = .ok (.ireturn, 1) := bo_172 (by decide +kernel)
theorem dX9_isEven_306 : decode cX9_isEven 306 = .ok (.iload 5, 2) := bo_21 (by decide +kernel)
theorem dX9_isEven_308 : decode cX9_isEven 308 = .ok (.iconst 1, 1) := bo_4 (by decide +kernel)
theorem dX9_isEven_309 : decode cX9_isEven 309 = .ok (.if_icmp .gt 7, 3) := bo_163 0 7 (by decide +kernel)
theorem dX9_isEven_312 : decode cX9_isEven 312 = .ok (.iconst 1, 1) := bo_4 (by decide +kernel)
theorem dX9_isEven_313 : decode cX9_isEven 313 = .ok (.goto 4, 3) := bo_167 0 4 (by decide +kernel)
theorem dX9_isEven_169 : decode cX9_isEven 169 = .ok (.iconst 0, 1) := bo_3 (by decide +kernel)
theorem dX9_isEven_170 : decode cX9_isEven 170 = .ok (.istore 8, 2) := bo_54 (by decide +kernel)
theorem dX9_isEven_172 : decode cX9_isEven 172 = .ok (.iconst 0, 1) := bo_3 (by decide +kernel)
theorem dX9_isEven_173 : decode cX9_isEven 173 = .ok (.istore 9, 2) := bo_54 (by decide +kernel)
theorem dX9_isEven_175 : decode cX9_isEven 175 = .ok (.iload 9, 2) := bo_21 (by decide +kernel)
theorem dX9_isEven_177 : decode cX9_isEven 177 = .ok (.iconst 2, 1) := bo_5 (by decide +kernel)
theorem dX9_isEven_178 : decode cX9_isEven 178 = .ok (.aload_n 0, 1) := bo_42 (by decide +kernel)
theorem dX9_isEven_179 : decode cX9_isEven 179 = .ok (.getfield 213, 3) := bo_180 0 213 (by decide +kernel)
theorem dX9_isEven_182 : decode cX9_isEven 182 = .ok (.imul, 1) := bo_104 (by decide +kernel)
theorem dX9_isEven_183 : decode cX9_isEven 183 = .ok (.if_icmp .ge 70, 3) := bo_162 0 70 (by decide +kernel)
theorem dX9_isEven_253 : decode cX9_isEven 253 = .ok (.iload 8, 2) := bo_21 (by decide +kernel)
theorem dX9_isEven_255 : decode cX9_isEven 255 = .ok (.ifCond .ne 6, 3) := bo_154 0 6 (by decide +kernel)
theorem dX9_isEven_261 : decode cX9_isEven 261 = .ok (.iload 8, 2) := bo_21 (by decide +kernel)
theorem dX9_isEven_263 : decode cX9_isEven 263 = .ok (.iconst 1, 1) := bo_4 (by decide +kernel)
theorem dX9_isEven_264 : decode cX9_isEven 264 = .ok (.if_icmp .ne 15, 3) := bo_160 0 15 (by decide +kernel)
theorem dX9_isEven_279 : decode cX9_isEven 279 = .ok (.iload 8, 2) := bo_21 (by decide +kernel)
theorem dX9_isEven_281 : decode cX9_isEven 281 = .ok (.iconst (-1), 1) := bo_2 (by decide +kernel)
theorem dX9_isEven_282 : decode cX9_isEven 282 = .ok (.if_icmp .ne 9, 3) := bo_160 0 9 (by decide +kernel)
theorem dX9_isEven_291 : decode cX9_isEven 291 = .ok (.iconst 0, 1) := bo_3 (by decide +kernel)
theorem dX9_isEven_292 : decode cX9_isEven 292 = .ok (.ireturn, 1) := bo_172 (by decide +kernel)
theorem dX9_isEven_285 : decode cX9_isEven 285 = .ok (.iinc 6 1, 3) := bo_132 6 1 (by decide +kernel)
theorem dX9_isEven_288 : decode cX9_isEven 288 = .ok (.goto 5, 3) := bo_167 0 5 (by decide +kernel)
theorem dX9_isEven_293 : decode cX9_isEven 293 = .ok (.iinc 7 1, 3) := bo_132 7 1 (by decide +kernel)
theorem dX9_isEven_296 : decode cX9_isEven 296 = .ok (.goto (-136), 3) := bo_167 255 120 (by decide +kernel)
theorem dX9_isEven_267 : decode cX9_isEven 267 = .ok (.iload 7, 2) := bo_21 (by decide +kernel)
theorem dX9_isEven_269 : decode cX9_isEven 269 = .ok (.iload_n 1, 1) := bo_27 (by decide +kernel)
theorem dX9_isEven_270 : decode cX9_isEven 270 = .ok (.if_icmp .ne 9, 3) := bo_160 0 9 (by decide +kernel)
theorem dX9_isEven_273 : decode cX9_isEven 273 = .ok (.iinc 5 1, 3) := bo_132 5 1 (by decide +kernel)
theorem dX9_isEven_276 : decode cX9_isEven 276 = .ok (.goto 17, 3) := bo_167 0 17 (by decide +kernel)
theorem dX9_isEven_258 : decode cX9_isEven 258 = .ok (.goto 35, 3) := bo_167 0 35 (by decide +kernel)
theorem dX9_isEven_186 : decode cX9_isEven 186 = .ok (.iload 8, 2) := bo_21 (by decide +kernel)
theorem dX9_isEven_188 : decode cX9_isEven 188 = .ok (.iload 9, 2) := bo_21 (by decide +kernel)
theorem dX9_isEven_190 : decode cX9_isEven 190 = .ok (.iconst 2, 1) := bo_5 (by decide +kernel)
theorem dX9_isEven_191 : decode cX9_isEven 191 = .ok (.idiv, 1) := bo_108 (by decide +kernel)
theorem dX9_isEven_192 : decode cX9_isEven 192 = .ok (.iload 7, 2) := bo_21 (by decide +kernel)
theorem dX9_isEven_194 : decode cX9_isEven 194 = .ok (.if_icmp .ne 13, 3) := bo_160 0 13 (by decide +kernel)
theorem dX9_isEven_207 : decode cX9_isEven 207 = .ok (.iconst 0, 1) := bo_3 (by decide +kernel)
theorem dX9_isEven_208 : decode cX9_isEven 208 = .ok (.aload_n 0, 1) := bo_42 (by decide +kernel)
theorem dX9_isEven_209 : decode cX9_isEven 209 = .ok (.getfield 65, 3) := bo_180 0 65 (by decide +kernel)
theorem k_1199 : Cond.fieldLink RX9 65 "BurntWaysModel" "rest" "[I" ∈ bw_T := bw_m 1199 (by decide +kernel) rfl
theorem dX9_isEven_212 : decode cX9_isEven 212 = .ok (.iload 9, 2) := bo_21 (by decide +kernel)
theorem dX9_isEven_214 : decode cX9_isEven 214 = .ok (.iaload, 1) := bo_46 (by decide +kernel)
theorem dX9_isEven_215 : decode cX9_isEven 215 = .ok (.ifCond .le 27, 3) := bo_158 0 27 (by decide +kernel)
theorem dX9_isEven_242 : decode cX9_isEven 242 = .ok (.iconst 0, 1) := bo_3 (by decide +kernel)
theorem dX9_isEven_243 : decode cX9_isEven 243 = .ok (.isub, 1) := bo_100 (by decide +kernel)
theorem dX9_isEven_244 : decode cX9_isEven 244 = .ok (.iadd, 1) := bo_96 (by decide +kernel)
theorem dX9_isEven_245 : decode cX9_isEven 245 = .ok (.istore 8, 2) := bo_54 (by decide +kernel)
theorem dX9_isEven_247 : decode cX9_isEven 247 = .ok (.iinc 9 1, 3) := bo_132 9 1 (by decide +kernel)
theorem dX9_isEven_250 : decode cX9_isEven 250 = .ok (.goto (-75), 3) := bo_167 255 181 (by decide +kernel)
theorem dX9_isEven_218 : decode cX9_isEven 218 = .ok (.aload_n 0, 1) := bo_42 (by decide +kernel)
theorem dX9_isEven_219 : decode cX9_isEven 219 = .ok (.getfield 23, 3) := bo_180 0 23 (by decide +kernel)
theorem dX9_isEven_222 : decode cX9_isEven 222 = .ok (.iload 9, 2) := bo_21 (by decide +kernel)
theorem dX9_isEven_224 : decode cX9_isEven 224 = .ok (.invokestatic 333, 3) := bo_184 1 77 (by decide +kernel)
theorem dX9_isEven_227 : decode cX9_isEven 227 = .ok (.iload 7, 2) := bo_21 (by decide +kernel)
theorem dX9_isEven_229 : decode cX9_isEven 229 = .ok (.if_icmp .ne 13, 3) := bo_160 0 13 (by decide +kernel)
theorem dX9_isEven_232 : decode cX9_isEven 232 = .ok (.aload_n 0, 1) := bo_42 (by decide +kernel)
theorem dX9_isEven_233 : decode cX9_isEven 233 = .ok (.getfield 65, 3) := bo_180 0 65 (by decide +kernel)
theorem dX9_isEven_236 : decode cX9_isEven 236 = .ok (.iload 9, 2) := bo_21 (by decide +kernel)
theorem dX9_isEven_238 : decode cX9_isEven 238 = .ok (.iaload, 1) := bo_46 (by decide +kernel)
theorem dX9_isEven_239 : decode cX9_isEven 239 = .ok (.goto 4, 3) := bo_167 0 4 (by decide +kernel)
theorem dX9_isEven_197 : decode cX9_isEven 197 = .ok (.aload_n 0, 1) := bo_42 (by decide +kernel)
theorem dX9_isEven_198 : decode cX9_isEven 198 = .ok (.getfield 65, 3) := bo_180 0 65 (by decide +kernel)
theorem dX9_isEven_201 : decode cX9_isEven 201 = .ok (.iload 9, 2) := bo_21 (by decide +kernel)
theorem dX9_isEven_203 : decode cX9_isEven 203 = .ok (.iaload, 1) := bo_46 (by decide +kernel)
theorem dX9_isEven_204 : decode cX9_isEven 204 = .ok (.goto 4, 3) := bo_167 0 4 (by decide +kernel)
theorem dX9_isEven_149 : decode cX9_isEven 149 = .ok (.iconst 0, 1) := bo_3 (by decide +kernel)
theorem dX9_isEven_150 : decode cX9_isEven 150 = .ok (.ireturn, 1) := bo_172 (by decide +kernel)
theorem dX9_isEven_76 : decode cX9_isEven 76 = .ok (.iload_n 3, 1) := bo_29 (by decide +kernel)
theorem dX9_isEven_77 : decode cX9_isEven 77 = .ok (.istore 4, 2) := bo_54 (by decide +kernel)
theorem dX9_isEven_79 : decode cX9_isEven 79 = .ok (.iconst 0, 1) := bo_3 (by decide +kernel)
theorem dX9_isEven_80 : decode cX9_isEven 80 = .ok (.istore 5, 2) := bo_54 (by decide +kernel)
theorem dX9_isEven_82 : decode cX9_isEven 82 = .ok (.iload 5, 2) := bo_21 (by decide +kernel)
theorem dX9_isEven_84 : decode cX9_isEven 84 = .ok (.iconst 2, 1) := bo_5 (by decide +kernel)
theorem dX9_isEven_85 : decode cX9_isEven 85 = .ok (.aload_n 0, 1) := bo_42 (by decide +kernel)
theorem dX9_isEven_86 : decode cX9_isEven 86 = .ok (.getfield 213, 3) := bo_180 0 213 (by decide +kernel)
theorem dX9_isEven_89 : decode cX9_isEven 89 = .ok (.imul, 1) := bo_104 (by decide +kernel)
theorem dX9_isEven_90 : decode cX9_isEven 90 = .ok (.if_icmp .ge 51, 3) := bo_162 0 51 (by decide +kernel)
theorem dX9_isEven_141 : decode cX9_isEven 141 = .ok (.goto (-71), 3) := bo_167 255 185 (by decide +kernel)
theorem dX9_isEven_93 : decode cX9_isEven 93 = .ok (.iconst 1, 1) := bo_4 (by decide +kernel)
theorem dX9_isEven_94 : decode cX9_isEven 94 = .ok (.iload 5, 2) := bo_21 (by decide +kernel)
theorem dX9_isEven_96 : decode cX9_isEven 96 = .ok (.iconst 2, 1) := bo_5 (by decide +kernel)
theorem dX9_isEven_97 : decode cX9_isEven 97 = .ok (.idiv, 1) := bo_108 (by decide +kernel)
theorem dX9_isEven_98 : decode cX9_isEven 98 = .ok (.ishl, 1) := bo_120 (by decide +kernel)
theorem dX9_isEven_99 : decode cX9_isEven 99 = .ok (.iconst 1, 1) := bo_4 (by decide +kernel)
theorem dX9_isEven_100 : decode cX9_isEven 100 = .ok (.aload_n 0, 1) := bo_42 (by decide +kernel)
theorem dX9_isEven_101 : decode cX9_isEven 101 = .ok (.getfield 23, 3) := bo_180 0 23 (by decide +kernel)
theorem dX9_isEven_104 : decode cX9_isEven 104 = .ok (.iload 5, 2) := bo_21 (by decide +kernel)
theorem dX9_isEven_106 : decode cX9_isEven 106 = .ok (.invokestatic 333, 3) := bo_184 1 77 (by decide +kernel)
theorem dX9_isEven_109 : decode cX9_isEven 109 = .ok (.ishl, 1) := bo_120 (by decide +kernel)
theorem dX9_isEven_110 : decode cX9_isEven 110 = .ok (.ior, 1) := bo_128 (by decide +kernel)
theorem dX9_isEven_111 : decode cX9_isEven 111 = .ok (.istore 6, 2) := bo_54 (by decide +kernel)
theorem dX9_isEven_113 : decode cX9_isEven 113 = .ok (.aload_n 0, 1) := bo_42 (by decide +kernel)
theorem dX9_isEven_114 : decode cX9_isEven 114 = .ok (.getfield 65, 3) := bo_180 0 65 (by decide +kernel)
theorem dX9_isEven_117 : decode cX9_isEven 117 = .ok (.iload 5, 2) := bo_21 (by decide +kernel)
theorem dX9_isEven_119 : decode cX9_isEven 119 = .ok (.iaload, 1) := bo_46 (by decide +kernel)
theorem dX9_isEven_120 : decode cX9_isEven 120 = .ok (.ifCond .le 15, 3) := bo_158 0 15 (by decide +kernel)
theorem dX9_isEven_135 : decode cX9_isEven 135 = .ok (.iinc 5 1, 3) := bo_132 5 1 (by decide +kernel)
theorem dX9_isEven_138 : decode cX9_isEven 138 = .ok (.goto (-56), 3) := bo_167 255 200 (by decide +kernel)
theorem dX9_isEven_123 : decode cX9_isEven 123 = .ok (.iload 6, 2) := bo_21 (by decide +kernel)
theorem dX9_isEven_125 : decode cX9_isEven 125 = .ok (.iload_n 3, 1) := bo_29 (by decide +kernel)
theorem dX9_isEven_126 : decode cX9_isEven 126 = .ok (.iand, 1) := bo_126 (by decide +kernel)
theorem dX9_isEven_127 : decode cX9_isEven 127 = .ok (.ifCond .eq 8, 3) := bo_153 0 8 (by decide +kernel)
theorem dX9_isEven_130 : decode cX9_isEven 130 = .ok (.iload_n 3, 1) := bo_29 (by decide +kernel)
theorem dX9_isEven_131 : decode cX9_isEven 131 = .ok (.iload 6, 2) := bo_21 (by decide +kernel)
theorem dX9_isEven_133 : decode cX9_isEven 133 = .ok (.ior, 1) := bo_128 (by decide +kernel)
theorem dX9_isEven_134 : decode cX9_isEven 134 = .ok (.istore_n 3, 1) := bo_62 (by decide +kernel)
theorem dX9_isEven_65 : decode cX9_isEven 65 = .ok (.iconst 1, 1) := bo_4 (by decide +kernel)
theorem dX9_isEven_66 : decode cX9_isEven 66 = .ok (.ireturn, 1) := bo_172 (by decide +kernel)
theorem dX9_isEven_20 : decode cX9_isEven 20 = .ok (.iload_n 2, 1) := bo_28 (by decide +kernel)
theorem dX9_isEven_21 : decode cX9_isEven 21 = .ok (.aload_n 0, 1) := bo_42 (by decide +kernel)
theorem dX9_isEven_22 : decode cX9_isEven 22 = .ok (.getfield 65, 3) := bo_180 0 65 (by decide +kernel)
theorem dX9_isEven_25 : decode cX9_isEven 25 = .ok (.iload 4, 2) := bo_21 (by decide +kernel)
theorem dX9_isEven_27 : decode cX9_isEven 27 = .ok (.iaload, 1) := bo_46 (by decide +kernel)
theorem dX9_isEven_28 : decode cX9_isEven 28 = .ok (.ifCond .le 24, 3) := bo_158 0 24 (by decide +kernel)
theorem dX9_isEven_52 : decode cX9_isEven 52 = .ok (.iconst 0, 1) := bo_3 (by decide +kernel)
theorem dX9_isEven_53 : decode cX9_isEven 53 = .ok (.ior, 1) := bo_128 (by decide +kernel)
theorem dX9_isEven_54 : decode cX9_isEven 54 = .ok (.istore_n 2, 1) := bo_61 (by decide +kernel)
theorem dX9_isEven_55 : decode cX9_isEven 55 = .ok (.iinc 4 1, 3) := bo_132 4 1 (by decide +kernel)
theorem dX9_isEven_58 : decode cX9_isEven 58 = .ok (.goto (-49), 3) := bo_167 255 207 (by decide +kernel)
theorem dX9_isEven_31 : decode cX9_isEven 31 = .ok (.iconst 1, 1) := bo_4 (by decide +kernel)
theorem dX9_isEven_32 : decode cX9_isEven 32 = .ok (.iload 4, 2) := bo_21 (by decide +kernel)
theorem dX9_isEven_34 : decode cX9_isEven 34 = .ok (.iconst 2, 1) := bo_5 (by decide +kernel)
theorem dX9_isEven_35 : decode cX9_isEven 35 = .ok (.idiv, 1) := bo_108 (by decide +kernel)
theorem dX9_isEven_36 : decode cX9_isEven 36 = .ok (.ishl, 1) := bo_120 (by decide +kernel)
theorem dX9_isEven_37 : decode cX9_isEven 37 = .ok (.iconst 1, 1) := bo_4 (by decide +kernel)
theorem dX9_isEven_38 : decode cX9_isEven 38 = .ok (.aload_n 0, 1) := bo_42 (by decide +kernel)
theorem dX9_isEven_39 : decode cX9_isEven 39 = .ok (.getfield 23, 3) := bo_180 0 23 (by decide +kernel)
theorem dX9_isEven_42 : decode cX9_isEven 42 = .ok (.iload 4, 2) := bo_21 (by decide +kernel)
theorem dX9_isEven_44 : decode cX9_isEven 44 = .ok (.invokestatic 333, 3) := bo_184 1 77 (by decide +kernel)
theorem dX9_isEven_47 : decode cX9_isEven 47 = .ok (.ishl, 1) := bo_120 (by decide +kernel)
theorem dX9_isEven_48 : decode cX9_isEven 48 = .ok (.ior, 1) := bo_128 (by decide +kernel)
theorem dX9_isEven_49 : decode cX9_isEven 49 = .ok (.goto 4, 3) := bo_167 0 4 (by decide +kernel)
abbrev rm_X9_isEven : Room := { frames := 1, cells := 0, slots := 0, locals := 21 }
set_option maxRecDepth 100000 in
set_option maxHeartbeats 8000000 in
theorem c_X9_isEven {l : Launch} {E : (Nat → Prop) → State → Prop} (hO : bw_Ok E) {G : va_G} {cI cB cJ cN cW : ClassId} (y : Nat) (q : Nat → Nat) (i : Nat → Int) (hM : ModOk i) (g_now : Nat → Int) (g_rest : Nat → Int) (hr_rest : ∀ k, k < 20 → 0 ≤ g_rest k ∧ g_rest k ≤ 9) (x : Int) (hx9 : zR x) (hpn : ProgOk g_now) (hx8 : 0 ≤ x ∧ x < 10) : bw_Ci (S := zV) l yX9_isEven (bw_ws (Cond.code yX9_isEven cX9_isEven 10 (some .boolean))) rm_X9_isEven E G (bw_kt cI cB cJ cN cW) [.ref y, .int (zI x)] [(y, .inr (9, [.int (zI (i 0)), .ref (q 0), .int (zI (i 1)), .int (zI (i 2)), .int (zI (i 3)), .int (zI (i 4)), .int (zI (i 5)), .int (zI (i 6)), .int (zI (i 7)), .int (zI (i 8)), .int (zI (i 9)), .int (zI (i 10)), .ref (q 1), .int (zI (i 11)), .int (zI (i 12)), .ref (q 2), .ref (q 3), .ref (q 4), .ref (q 5), .ref (q 6), .ref (q 7), .ref (q 8), .ref (q 9), .ref (q 10), .ref (q 11), .ref (q 12), .ref (q 13), .ref (q 14), .ref (q 15), .ref (q 16), .int (zI (i 13)), .int (zI (i 14)), .int (zI (i 15)), .int (zI (i 16)), .int (zI (i 17)), .int (zI (i 18)), .ref (q 17), .ref (q 18), .ref (q 19), .ref (q 20)])), ((q 3), .inl (cI, 200, .inl (fun k => zI (g_now k)))), ((q 17), .inl (cI, 20, .inl (fun k => zI (g_rest k))))] (fun r u => ∃ z : Int, r = zI z ∧ (0 ≤ z ∧ z ≤ 1)) (fun u => [(y, .inr (9, [.int (zI (i 0)), .ref (q 0), .int (zI (i 1)), .int (zI (i 2)), .int (zI (i 3)), .int (zI (i 4)), .int (zI (i 5)), .int (zI (i 6)), .int (zI (i 7)), .int (zI (i 8)), .int (zI (i 9)), .int (zI (i 10)), .ref (q 1), .int (zI (i 11)), .int (zI (i 12)), .ref (q 2), .ref (q 3), .ref (q 4), .ref (q 5), .ref (q 6), .ref (q 7), .ref (q 8), .ref (q 9), .ref (q 10), .ref (q 11), .ref (q 12), .ref (q 13), .ref (q 14), .ref (q 15), .ref (q 16), .int (zI (i 13)), .int (zI (i 14)), .int (zI (i 15)), .int (zI (i 16)), .int (zI (i 17)), .int (zI (i 18)), .ref (q 17), .ref (q 18), .ref (q 19), .ref (q 20)])), ((q 3), .inl (cI, 200, .inl (fun k => zI (g_now k)))), ((q 17), .inl (cI, 20, .inl (fun k => zI (g_rest k))))]) := by
  refine bw_Ci.of (cc := cX9_isEven) (maxL := 10) (ty := .boolean) (by decide) rfl (Nat.le_of_ble_eq_true rfl) ?_
  intro p e s m below meth c A Q hx hb hml hts hown hin hK hA hS hP hD hE ret ls hl
  have F : CallFix p m c cX9_isEven 10 s ([.ref y, .int (zI x)] : List Value).toArray bw_T RX9 := ⟨hx, hb, hml, hown, fun w h => hts w (List.mem_cons_of_mem _ h)⟩
  replace hl : lv_has ls 10 [(0, .ref y), (1, .int (zI x))] := hl
  have hf1 := hM.1
  refine lv_iconst (v := zI 0) hx hb dX9_isEven_0 rfl ?_
  refine lv_istore_n (lv' := [(2, .int (zI 0)), (0, .ref y), (1, .int (zI x))]) hx hb dX9_isEven_1 rfl hl (by decide) rfl (fun ls hl => ?_)
  refine lv_iconst (v := zI 1) hx hb dX9_isEven_2 rfl ?_
  refine lv_iload_n hx hb dX9_isEven_3 rfl (lv_at hl 2 rfl) ?_
  refine rz_ishl1 F (by omega) dX9_isEven_4 (fun z3 h_z3 => ?_)
  refine lv_istore_n (lv' := [(3, .int (zI z3)), (2, .int (zI 0)), (0, .ref y), (1, .int (zI x))]) hx hb dX9_isEven_5 rfl hl (by decide) rfl (fun ls hl => ?_)
  refine lv_iconst (v := zI 0) hx hb dX9_isEven_6 rfl ?_
  refine lv_istore (lv' := [(4, .int (zI 0)), (3, .int (zI z3)), (2, .int (zI 0)), (0, .ref y), (1, .int (zI x))]) hx hb dX9_isEven_7 hl (by decide) rfl (fun ls hl => ?_)
  refine W.widen (k := 0) (n := 0) (Nat.le_of_ble_eq_true rfl) (Nat.le_of_ble_eq_true rfl) ?_
  refine (?_ : ∀ (n9_1 : Nat) (v2 : Int) (v4 : Int) (H : Heap) (locs : List Loc), (0 ≤ v4 ∧ v4 ≤ 20 ∧ 0 ≤ v2 ∧ v2 < 1024) → (20 - v4 : Int).toNat < n9_1 → va_P G vwCl [(y, .inr (9, [.int (zI (i 0)), .ref (q 0), .int (zI (i 1)), .int (zI (i 2)), .int (zI (i 3)), .int (zI (i 4)), .int (zI (i 5)), .int (zI (i 6)), .int (zI (i 7)), .int (zI (i 8)), .int (zI (i 9)), .int (zI (i 10)), .ref (q 1), .int (zI (i 11)), .int (zI (i 12)), .ref (q 2), .ref (q 3), .ref (q 4), .ref (q 5), .ref (q 6), .ref (q 7), .ref (q 8), .ref (q 9), .ref (q 10), .ref (q 11), .ref (q 12), .ref (q 13), .ref (q 14), .ref (q 15), .ref (q 16), .int (zI (i 13)), .int (zI (i 14)), .int (zI (i 15)), .int (zI (i 16)), .int (zI (i 17)), .int (zI (i 18)), .ref (q 17), .ref (q 18), .ref (q 19), .ref (q 20)])), ((q 3), .inl (cI, 200, .inl (fun k => zI (g_now k)))), ((q 17), .inl (cI, 20, .inl (fun k => zI (g_rest k))))] H → va_D A [(y, .inr (9, [.int (zI (i 0)), .ref (q 0), .int (zI (i 1)), .int (zI (i 2)), .int (zI (i 3)), .int (zI (i 4)), .int (zI (i 5)), .int (zI (i 6)), .int (zI (i 7)), .int (zI (i 8)), .int (zI (i 9)), .int (zI (i 10)), .ref (q 1), .int (zI (i 11)), .int (zI (i 12)), .ref (q 2), .ref (q 3), .ref (q 4), .ref (q 5), .ref (q 6), .ref (q 7), .ref (q 8), .ref (q 9), .ref (q 10), .ref (q 11), .ref (q 12), .ref (q 13), .ref (q 14), .ref (q 15), .ref (q 16), .int (zI (i 13)), .int (zI (i 14)), .int (zI (i 15)), .int (zI (i 16)), .int (zI (i 17)), .int (zI (i 18)), .ref (q 17), .ref (q 18), .ref (q 19), .ref (q 20)])), ((q 3), .inl (cI, 200, .inl (fun k => zI (g_now k)))), ((q 17), .inl (cI, 20, .inl (fun k => zI (g_rest k))))] → va_S A s.heap H locs → ∀ ls : Array Slot, lv_has ls 10 [(4, .int (zI v4)), (3, .int (zI z3)), (2, .int (zI v2)), (0, .ref y), (1, .int (zI x))] → W p l e rm_X9_isEven s m ([.ref y, .int (zI x)] : List Value).toArray below meth c H locs 0 0 Q (F0 m 9 ls [])) ((20 - 0 : Int).toNat + 1) 0 0 _ _ (by omega) (by omega) hP hD hS ls hl
  clear hP hD hS hl ls
  intro n9_1
  induction n9_1 with
  | zero =>
    intro v2 v4 H locs hI hM
    exact absurd hM (by omega)
  | succ n9_1 ih1 =>
    intro v2 v4 H locs hI1 hM1  hP hD hS ls hl
    refine lv_iload hx hb dX9_isEven_9 (lv_at hl 0 rfl) ?_
    refine lv_iconst (v := zI 2) hx hb dX9_isEven_11 rfl ?_
    refine lv_aload_n hx hb dX9_isEven_12 rfl (lv_at hl 3 rfl) ?_
    refine r_get F hK hP 0 30 rfl rfl in_X9 (by decide) k_1193 rfl dX9_isEven_13 ?_
    refine r_imul (v := zI (2 * (i 13))) F dX9_isEven_16 (zI_mul _ _) ?_
    refine rz_icmp_ge (tgt := 61) F (by omega) (by omega) dX9_isEven_17 (by decide) (fun h17_3 => ?_) (fun h17_3 => ?_)
    · refine lv_iload_n hx hb dX9_isEven_61 rfl (lv_at hl 2 rfl) ?_
      refine rz_if_ne (tgt := 67) F (by omega) dX9_isEven_62 (by decide) (fun h62_4 => ?_) (fun h62_4 => ?_)
      · refine lv_iconst (v := zI 0) hx hb dX9_isEven_67 rfl ?_
        refine lv_istore (lv' := [(4, .int (zI 0)), (3, .int (zI z3)), (2, .int (zI v2)), (0, .ref y), (1, .int (zI x))]) hx hb dX9_isEven_68 hl (by decide) rfl (fun ls hl => ?_)
        refine W.widen (k := 0) (n := 0) (Nat.le_of_ble_eq_true rfl) (Nat.le_of_ble_eq_true rfl) ?_
        refine (?_ : ∀ (n9_2 : Nat) (b3 : Int) (b4 : Int) (H : Heap) (locs : List Loc), (0 ≤ b4 ∧ b4 ≤ b3 ∧ b3 < 1024) → (1024 - b4 : Int).toNat < n9_2 → va_P G vwCl [(y, .inr (9, [.int (zI (i 0)), .ref (q 0), .int (zI (i 1)), .int (zI (i 2)), .int (zI (i 3)), .int (zI (i 4)), .int (zI (i 5)), .int (zI (i 6)), .int (zI (i 7)), .int (zI (i 8)), .int (zI (i 9)), .int (zI (i 10)), .ref (q 1), .int (zI (i 11)), .int (zI (i 12)), .ref (q 2), .ref (q 3), .ref (q 4), .ref (q 5), .ref (q 6), .ref (q 7), .ref (q 8), .ref (q 9), .ref (q 10), .ref (q 11), .ref (q 12), .ref (q 13), .ref (q 14), .ref (q 15), .ref (q 16), .int (zI (i 13)), .int (zI (i 14)), .int (zI (i 15)), .int (zI (i 16)), .int (zI (i 17)), .int (zI (i 18)), .ref (q 17), .ref (q 18), .ref (q 19), .ref (q 20)])), ((q 3), .inl (cI, 200, .inl (fun k => zI (g_now k)))), ((q 17), .inl (cI, 20, .inl (fun k => zI (g_rest k))))] H → va_D A [(y, .inr (9, [.int (zI (i 0)), .ref (q 0), .int (zI (i 1)), .int (zI (i 2)), .int (zI (i 3)), .int (zI (i 4)), .int (zI (i 5)), .int (zI (i 6)), .int (zI (i 7)), .int (zI (i 8)), .int (zI (i 9)), .int (zI (i 10)), .ref (q 1), .int (zI (i 11)), .int (zI (i 12)), .ref (q 2), .ref (q 3), .ref (q 4), .ref (q 5), .ref (q 6), .ref (q 7), .ref (q 8), .ref (q 9), .ref (q 10), .ref (q 11), .ref (q 12), .ref (q 13), .ref (q 14), .ref (q 15), .ref (q 16), .int (zI (i 13)), .int (zI (i 14)), .int (zI (i 15)), .int (zI (i 16)), .int (zI (i 17)), .int (zI (i 18)), .ref (q 17), .ref (q 18), .ref (q 19), .ref (q 20)])), ((q 3), .inl (cI, 200, .inl (fun k => zI (g_now k)))), ((q 17), .inl (cI, 20, .inl (fun k => zI (g_rest k))))] → va_S A s.heap H locs → ∀ ls : Array Slot, lv_has ls 10 [(4, .int (zI b4)), (3, .int (zI b3)), (2, .int (zI v2)), (0, .ref y), (1, .int (zI x))] → W p l e rm_X9_isEven s m ([.ref y, .int (zI x)] : List Value).toArray below meth c H locs 0 0 Q (F0 m 70 ls [])) ((1024 - 0 : Int).toNat + 1) z3 0 _ _ (by omega) (by omega) hP hD hS ls hl
        clear hP hD hS hl ls
        intro n9_2
        induction n9_2 with
        | zero =>
          intro b3 b4 H locs hI hM
          exact absurd hM (by omega)
        | succ n9_2 ih2 =>
          intro b3 b4 H locs hI2 hM2  hP hD hS ls hl
          refine lv_iload_n hx hb dX9_isEven_70 rfl (lv_at hl 1 rfl) ?_
          refine lv_iload hx hb dX9_isEven_71 (lv_at hl 0 rfl) ?_
          refine rz_icmp_eq (tgt := 144) F (by omega) (by omega) dX9_isEven_73 (by decide) (fun h73_5 => ?_) (fun h73_5 => ?_)
          · refine lv_iload_n hx hb dX9_isEven_144 rfl (lv_at hl 1 rfl) ?_
            refine lv_iload_n hx hb dX9_isEven_145 rfl (lv_at hl 2 rfl) ?_
            refine rz_icmp_eq (tgt := 151) F (by omega) (by omega) dX9_isEven_146 (by decide) (fun h146_6 => ?_) (fun h146_6 => ?_)
            · refine lv_iconst (v := zI 0) hx hb dX9_isEven_151 rfl ?_
              refine lv_istore (lv' := [(5, .int (zI 0)), (4, .int (zI b4)), (3, .int (zI b3)), (2, .int (zI v2)), (0, .ref y), (1, .int (zI x))]) hx hb dX9_isEven_152 hl (by decide) rfl (fun ls hl => ?_)
              refine lv_iconst (v := zI 0) hx hb dX9_isEven_154 rfl ?_
              refine lv_istore (lv' := [(6, .int (zI 0)), (5, .int (zI 0)), (4, .int (zI b4)), (3, .int (zI b3)), (2, .int (zI v2)), (0, .ref y), (1, .int (zI x))]) hx hb dX9_isEven_155 hl (by decide) rfl (fun ls hl => ?_)
              refine lv_iconst (v := zI 0) hx hb dX9_isEven_157 rfl ?_
              refine lv_istore (lv' := [(7, .int (zI 0)), (6, .int (zI 0)), (5, .int (zI 0)), (4, .int (zI b4)), (3, .int (zI b3)), (2, .int (zI v2)), (0, .ref y), (1, .int (zI x))]) hx hb dX9_isEven_158 hl (by decide) rfl (fun ls hl => ?_)
              refine W.widen (k := 0) (n := 0) (Nat.le_of_ble_eq_true rfl) (Nat.le_of_ble_eq_true rfl) ?_
              refine (?_ : ∀ (n9_3 : Nat) (c5 : Int) (c6 : Int) (c7 : Int) (H : Heap) (locs : List Loc), (0 ≤ c7 ∧ c7 ≤ 10 ∧ 0 ≤ c5 ∧ c5 ≤ c7 ∧ 0 ≤ c6 ∧ c6 ≤ c7) → (10 - c7 : Int).toNat < n9_3 → va_P G vwCl [(y, .inr (9, [.int (zI (i 0)), .ref (q 0), .int (zI (i 1)), .int (zI (i 2)), .int (zI (i 3)), .int (zI (i 4)), .int (zI (i 5)), .int (zI (i 6)), .int (zI (i 7)), .int (zI (i 8)), .int (zI (i 9)), .int (zI (i 10)), .ref (q 1), .int (zI (i 11)), .int (zI (i 12)), .ref (q 2), .ref (q 3), .ref (q 4), .ref (q 5), .ref (q 6), .ref (q 7), .ref (q 8), .ref (q 9), .ref (q 10), .ref (q 11), .ref (q 12), .ref (q 13), .ref (q 14), .ref (q 15), .ref (q 16), .int (zI (i 13)), .int (zI (i 14)), .int (zI (i 15)), .int (zI (i 16)), .int (zI (i 17)), .int (zI (i 18)), .ref (q 17), .ref (q 18), .ref (q 19), .ref (q 20)])), ((q 3), .inl (cI, 200, .inl (fun k => zI (g_now k)))), ((q 17), .inl (cI, 20, .inl (fun k => zI (g_rest k))))] H → va_D A [(y, .inr (9, [.int (zI (i 0)), .ref (q 0), .int (zI (i 1)), .int (zI (i 2)), .int (zI (i 3)), .int (zI (i 4)), .int (zI (i 5)), .int (zI (i 6)), .int (zI (i 7)), .int (zI (i 8)), .int (zI (i 9)), .int (zI (i 10)), .ref (q 1), .int (zI (i 11)), .int (zI (i 12)), .ref (q 2), .ref (q 3), .ref (q 4), .ref (q 5), .ref (q 6), .ref (q 7), .ref (q 8), .ref (q 9), .ref (q 10), .ref (q 11), .ref (q 12), .ref (q 13), .ref (q 14), .ref (q 15), .ref (q 16), .int (zI (i 13)), .int (zI (i 14)), .int (zI (i 15)), .int (zI (i 16)), .int (zI (i 17)), .int (zI (i 18)), .ref (q 17), .ref (q 18), .ref (q 19), .ref (q 20)])), ((q 3), .inl (cI, 200, .inl (fun k => zI (g_now k)))), ((q 17), .inl (cI, 20, .inl (fun k => zI (g_rest k))))] → va_S A s.heap H locs → ∀ ls : Array Slot, lv_has ls 10 [(7, .int (zI c7)), (6, .int (zI c6)), (5, .int (zI c5)), (4, .int (zI b4)), (3, .int (zI b3)), (2, .int (zI v2)), (0, .ref y), (1, .int (zI x))] → W p l e rm_X9_isEven s m ([.ref y, .int (zI x)] : List Value).toArray below meth c H locs 0 0 Q (F0 m 160 ls [])) ((10 - 0 : Int).toNat + 1) 0 0 0 _ _ (by omega) (by omega) hP hD hS ls hl
              clear hP hD hS hl ls
              intro n9_3
              induction n9_3 with
              | zero =>
                intro c5 c6 c7 H locs hI hM
                exact absurd hM (by omega)
              | succ n9_3 ih3 =>
                intro c5 c6 c7 H locs hI3 hM3  hP hD hS ls hl
                refine lv_iload hx hb dX9_isEven_160 (lv_at hl 0 rfl) ?_
                refine lv_aload_n hx hb dX9_isEven_162 rfl (lv_at hl 6 rfl) ?_
                refine r_get F hK hP 0 30 rfl rfl in_X9 (by decide) k_1193 rfl dX9_isEven_163 ?_
                refine rz_icmp_ge (tgt := 299) F (by omega) (by omega) dX9_isEven_166 (by decide) (fun h166_7 => ?_) (fun h166_7 => ?_)
                · refine lv_iload hx hb dX9_isEven_299 (lv_at hl 2 rfl) ?_
                  refine lv_iload hx hb dX9_isEven_301 (lv_at hl 1 rfl) ?_
                  refine rz_icmp_ne (tgt := 316) F (by omega) (by omega) dX9_isEven_303 (by decide) (fun h303_8 => ?_) (fun h303_8 => ?_)
                  · refine lv_iconst (v := zI 0) hx hb dX9_isEven_316 rfl ?_
                    exact ret (zI 0) (fun k => [((fun _ => 0), fun _ _ => 0)].getD k (fun _ => 0, fun _ _ => 0)) _ _ _ _ _ _ rfl ⟨0, rfl, by omega⟩ (bw_subP (isC := [0, 1, 2]) hP rfl) (hD.sub [0, 1, 2] (by decide) rfl) hS (Nat.le_of_ble_eq_true rfl) (Nat.le_of_ble_eq_true rfl) dX9_isEven_317
                  · refine lv_iload hx hb dX9_isEven_306 (lv_at hl 2 rfl) ?_
                    refine lv_iconst (v := zI 1) hx hb dX9_isEven_308 rfl ?_
                    refine rz_icmp_gt (tgt := 316) F (by omega) (by omega) dX9_isEven_309 (by decide) (fun h309_9 => ?_) (fun h309_9 => ?_)
                    · refine lv_iconst (v := zI 0) hx hb dX9_isEven_316 rfl ?_
                      exact ret (zI 0) (fun k => [((fun _ => 0), fun _ _ => 0)].getD k (fun _ => 0, fun _ _ => 0)) _ _ _ _ _ _ rfl ⟨0, rfl, by omega⟩ (bw_subP (isC := [0, 1, 2]) hP rfl) (hD.sub [0, 1, 2] (by decide) rfl) hS (Nat.le_of_ble_eq_true rfl) (Nat.le_of_ble_eq_true rfl) dX9_isEven_317
                    · refine lv_iconst (v := zI 1) hx hb dX9_isEven_312 rfl ?_
                      refine lv_goto (tgt := 317) hx hb dX9_isEven_313 (by decide) ?_
                      exact ret (zI 1) (fun k => [((fun _ => 0), fun _ _ => 0)].getD k (fun _ => 0, fun _ _ => 0)) _ _ _ _ _ _ rfl ⟨1, rfl, by omega⟩ (bw_subP (isC := [0, 1, 2]) hP rfl) (hD.sub [0, 1, 2] (by decide) rfl) hS (Nat.le_of_ble_eq_true rfl) (Nat.le_of_ble_eq_true rfl) dX9_isEven_317
                · refine lv_iconst (v := zI 0) hx hb dX9_isEven_169 rfl ?_
                  refine lv_istore (lv' := [(8, .int (zI 0)), (7, .int (zI c7)), (6, .int (zI c6)), (5, .int (zI c5)), (4, .int (zI b4)), (3, .int (zI b3)), (2, .int (zI v2)), (0, .ref y), (1, .int (zI x))]) hx hb dX9_isEven_170 hl (by decide) rfl (fun ls hl => ?_)
                  refine lv_iconst (v := zI 0) hx hb dX9_isEven_172 rfl ?_
                  refine lv_istore (lv' := [(9, .int (zI 0)), (8, .int (zI 0)), (7, .int (zI c7)), (6, .int (zI c6)), (5, .int (zI c5)), (4, .int (zI b4)), (3, .int (zI b3)), (2, .int (zI v2)), (0, .ref y), (1, .int (zI x))]) hx hb dX9_isEven_173 hl (by decide) rfl (fun ls hl => ?_)
                  refine W.widen (k := 0) (n := 0) (Nat.le_of_ble_eq_true rfl) (Nat.le_of_ble_eq_true rfl) ?_
                  refine (?_ : ∀ (n9_4 : Nat) (d8 : Int) (d9 : Int) (H : Heap) (locs : List Loc), (0 ≤ d9 ∧ d9 ≤ 20 ∧ d8 ≤ 9 * d9 ∧ 0 ≤ d8 + 9 * d9) → (20 - d9 : Int).toNat < n9_4 → va_P G vwCl [(y, .inr (9, [.int (zI (i 0)), .ref (q 0), .int (zI (i 1)), .int (zI (i 2)), .int (zI (i 3)), .int (zI (i 4)), .int (zI (i 5)), .int (zI (i 6)), .int (zI (i 7)), .int (zI (i 8)), .int (zI (i 9)), .int (zI (i 10)), .ref (q 1), .int (zI (i 11)), .int (zI (i 12)), .ref (q 2), .ref (q 3), .ref (q 4), .ref (q 5), .ref (q 6), .ref (q 7), .ref (q 8), .ref (q 9), .ref (q 10), .ref (q 11), .ref (q 12), .ref (q 13), .ref (q 14), .ref (q 15), .ref (q 16), .int (zI (i 13)), .int (zI (i 14)), .int (zI (i 15)), .int (zI (i 16)), .int (zI (i 17)), .int (zI (i 18)), .ref (q 17), .ref (q 18), .ref (q 19), .ref (q 20)])), ((q 3), .inl (cI, 200, .inl (fun k => zI (g_now k)))), ((q 17), .inl (cI, 20, .inl (fun k => zI (g_rest k))))] H → va_D A [(y, .inr (9, [.int (zI (i 0)), .ref (q 0), .int (zI (i 1)), .int (zI (i 2)), .int (zI (i 3)), .int (zI (i 4)), .int (zI (i 5)), .int (zI (i 6)), .int (zI (i 7)), .int (zI (i 8)), .int (zI (i 9)), .int (zI (i 10)), .ref (q 1), .int (zI (i 11)), .int (zI (i 12)), .ref (q 2), .ref (q 3), .ref (q 4), .ref (q 5), .ref (q 6), .ref (q 7), .ref (q 8), .ref (q 9), .ref (q 10), .ref (q 11), .ref (q 12), .ref (q 13), .ref (q 14), .ref (q 15), .ref (q 16), .int (zI (i 13)), .int (zI (i 14)), .int (zI (i 15)), .int (zI (i 16)), .int (zI (i 17)), .int (zI (i 18)), .ref (q 17), .ref (q 18), .ref (q 19), .ref (q 20)])), ((q 3), .inl (cI, 200, .inl (fun k => zI (g_now k)))), ((q 17), .inl (cI, 20, .inl (fun k => zI (g_rest k))))] → va_S A s.heap H locs → ∀ ls : Array Slot, lv_has ls 10 [(9, .int (zI d9)), (8, .int (zI d8)), (7, .int (zI c7)), (6, .int (zI c6)), (5, .int (zI c5)), (4, .int (zI b4)), (3, .int (zI b3)), (2, .int (zI v2)), (0, .ref y), (1, .int (zI x))] → W p l e rm_X9_isEven s m ([.ref y, .int (zI x)] : List Value).toArray below meth c H locs 0 0 Q (F0 m 175 ls [])) ((20 - 0 : Int).toNat + 1) 0 0 _ _ (by omega) (by omega) hP hD hS ls hl
                  clear hP hD hS hl ls
                  intro n9_4
                  induction n9_4 with
                  | zero =>
                    intro d8 d9 H locs hI hM
                    exact absurd hM (by omega)
                  | succ n9_4 ih4 =>
                    intro d8 d9 H locs hI4 hM4  hP hD hS ls hl
                    refine lv_iload hx hb dX9_isEven_175 (lv_at hl 0 rfl) ?_
                    refine lv_iconst (v := zI 2) hx hb dX9_isEven_177 rfl ?_
                    refine lv_aload_n hx hb dX9_isEven_178 rfl (lv_at hl 8 rfl) ?_
                    refine r_get F hK hP 0 30 rfl rfl in_X9 (by decide) k_1193 rfl dX9_isEven_179 ?_
                    refine r_imul (v := zI (2 * (i 13))) F dX9_isEven_182 (zI_mul _ _) ?_
                    refine rz_icmp_ge (tgt := 253) F (by omega) (by omega) dX9_isEven_183 (by decide) (fun h183_10 => ?_) (fun h183_10 => ?_)
                    · refine lv_iload hx hb dX9_isEven_253 (lv_at hl 1 rfl) ?_
                      refine rz_if_ne (tgt := 261) F (by omega) dX9_isEven_255 (by decide) (fun h255_11 => ?_) (fun h255_11 => ?_)
                      · refine lv_iload hx hb dX9_isEven_261 (lv_at hl 1 rfl) ?_
                        refine lv_iconst (v := zI 1) hx hb dX9_isEven_263 rfl ?_
                        refine rz_icmp_ne (tgt := 279) F (by omega) (by omega) dX9_isEven_264 (by decide) (fun h264_12 => ?_) (fun h264_12 => ?_)
                        · refine lv_iload hx hb dX9_isEven_279 (lv_at hl 1 rfl) ?_
                          refine lv_iconst (v := zI (-1)) hx hb dX9_isEven_281 rfl ?_
                          refine rz_icmp_ne (tgt := 291) F (by omega) (by omega) dX9_isEven_282 (by decide) (fun h282_13 => ?_) (fun h282_13 => ?_)
                          · refine lv_iconst (v := zI 0) hx hb dX9_isEven_291 rfl ?_
                            exact ret (zI 0) (fun k => [((fun _ => 0), fun _ _ => 0)].getD k (fun _ => 0, fun _ _ => 0)) _ _ _ _ _ _ rfl ⟨0, rfl, by omega⟩ (bw_subP (isC := [0, 1, 2]) hP rfl) (hD.sub [0, 1, 2] (by decide) rfl) hS (Nat.le_of_ble_eq_true rfl) (Nat.le_of_ble_eq_true rfl) dX9_isEven_292
                          · refine lv_iinc (v := zI (c6 + 1)) (lv' := [(6, .int (zI (c6 + 1))), (9, .int (zI d9)), (8, .int (zI d8)), (7, .int (zI c7)), (5, .int (zI c5)), (4, .int (zI b4)), (3, .int (zI b3)), (2, .int (zI v2)), (0, .ref y), (1, .int (zI x))]) hx hb dX9_isEven_285 hl (k := 3) rfl (zI_add _ _) (by decide) rfl (fun ls hl => ?_)
                            refine lv_goto (tgt := 293) hx hb dX9_isEven_288 (by decide) ?_
                            refine lv_iinc (v := zI (c7 + 1)) (lv' := [(7, .int (zI (c7 + 1))), (6, .int (zI (c6 + 1))), (9, .int (zI d9)), (8, .int (zI d8)), (5, .int (zI c5)), (4, .int (zI b4)), (3, .int (zI b3)), (2, .int (zI v2)), (0, .ref y), (1, .int (zI x))]) hx hb dX9_isEven_293 hl (k := 3) rfl (zI_add _ _) (by decide) rfl (fun ls hl => ?_)
                            refine lv_goto (tgt := 160) hx hb dX9_isEven_296 (by decide) ?_
                            exact ih3 c5 (c6 + 1) (c7 + 1) _ _ (by omega) (by omega) hP hD hS ls (lv_sub hl [0, 1, 4, 5, 6, 7, 8, 9] rfl)
                        · refine lv_iload hx hb dX9_isEven_267 (lv_at hl 2 rfl) ?_
                          refine lv_iload_n hx hb dX9_isEven_269 rfl (lv_at hl 9 rfl) ?_
                          refine rz_icmp_ne (tgt := 279) F (by omega) (by omega) dX9_isEven_270 (by decide) (fun h270_14 => ?_) (fun h270_14 => ?_)
                          · refine lv_iload hx hb dX9_isEven_279 (lv_at hl 1 rfl) ?_
                            refine lv_iconst (v := zI (-1)) hx hb dX9_isEven_281 rfl ?_
                            refine rz_icmp_ne (tgt := 291) F (by omega) (by omega) dX9_isEven_282 (by decide) (fun h282_15 => ?_) (fun h282_15 => ?_)
                            · refine lv_iconst (v := zI 0) hx hb dX9_isEven_291 rfl ?_
                              exact ret (zI 0) (fun k => [((fun _ => 0), fun _ _ => 0)].getD k (fun _ => 0, fun _ _ => 0)) _ _ _ _ _ _ rfl ⟨0, rfl, by omega⟩ (bw_subP (isC := [0, 1, 2]) hP rfl) (hD.sub [0, 1, 2] (by decide) rfl) hS (Nat.le_of_ble_eq_true rfl) (Nat.le_of_ble_eq_true rfl) dX9_isEven_292
                            · refine lv_iinc (v := zI (c6 + 1)) (lv' := [(6, .int (zI (c6 + 1))), (9, .int (zI d9)), (8, .int (zI d8)), (7, .int (zI c7)), (5, .int (zI c5)), (4, .int (zI b4)), (3, .int (zI b3)), (2, .int (zI v2)), (0, .ref y), (1, .int (zI x))]) hx hb dX9_isEven_285 hl (k := 3) rfl (zI_add _ _) (by decide) rfl (fun ls hl => ?_)
                              refine lv_goto (tgt := 293) hx hb dX9_isEven_288 (by decide) ?_
                              refine lv_iinc (v := zI (c7 + 1)) (lv' := [(7, .int (zI (c7 + 1))), (6, .int (zI (c6 + 1))), (9, .int (zI d9)), (8, .int (zI d8)), (5, .int (zI c5)), (4, .int (zI b4)), (3, .int (zI b3)), (2, .int (zI v2)), (0, .ref y), (1, .int (zI x))]) hx hb dX9_isEven_293 hl (k := 3) rfl (zI_add _ _) (by decide) rfl (fun ls hl => ?_)
                              refine lv_goto (tgt := 160) hx hb dX9_isEven_296 (by decide) ?_
                              exact ih3 c5 (c6 + 1) (c7 + 1) _ _ (by omega) (by omega) hP hD hS ls (lv_sub hl [0, 1, 4, 5, 6, 7, 8, 9] rfl)
                          · refine lv_iinc (v := zI (c5 + 1)) (lv' := [(5, .int (zI (c5 + 1))), (9, .int (zI d9)), (8, .int (zI d8)), (7, .int (zI c7)), (6, .int (zI c6)), (4, .int (zI b4)), (3, .int (zI b3)), (2, .int (zI v2)), (0, .ref y), (1, .int (zI x))]) hx hb dX9_isEven_273 hl (k := 4) rfl (zI_add _ _) (by decide) rfl (fun ls hl => ?_)
                            refine lv_goto (tgt := 293) hx hb dX9_isEven_276 (by decide) ?_
                            refine lv_iinc (v := zI (c7 + 1)) (lv' := [(7, .int (zI (c7 + 1))), (5, .int (zI (c5 + 1))), (9, .int (zI d9)), (8, .int (zI d8)), (6, .int (zI c6)), (4, .int (zI b4)), (3, .int (zI b3)), (2, .int (zI v2)), (0, .ref y), (1, .int (zI x))]) hx hb dX9_isEven_293 hl (k := 3) rfl (zI_add _ _) (by decide) rfl (fun ls hl => ?_)
                            refine lv_goto (tgt := 160) hx hb dX9_isEven_296 (by decide) ?_
                            exact ih3 (c5 + 1) c6 (c7 + 1) _ _ (by omega) (by omega) hP hD hS ls (lv_sub hl [0, 4, 1, 5, 6, 7, 8, 9] rfl)
                      · refine lv_goto (tgt := 293) hx hb dX9_isEven_258 (by decide) ?_
                        refine lv_iinc (v := zI (c7 + 1)) (lv' := [(7, .int (zI (c7 + 1))), (9, .int (zI d9)), (8, .int (zI d8)), (6, .int (zI c6)), (5, .int (zI c5)), (4, .int (zI b4)), (3, .int (zI b3)), (2, .int (zI v2)), (0, .ref y), (1, .int (zI x))]) hx hb dX9_isEven_293 hl (k := 2) rfl (zI_add _ _) (by decide) rfl (fun ls hl => ?_)
                        refine lv_goto (tgt := 160) hx hb dX9_isEven_296 (by decide) ?_
                        exact ih3 c5 c6 (c7 + 1) _ _ (by omega) (by omega) hP hD hS ls (lv_sub hl [0, 3, 4, 5, 6, 7, 8, 9] rfl)
                    · refine lv_iload hx hb dX9_isEven_186 (lv_at hl 1 rfl) ?_
                      refine lv_iload hx hb dX9_isEven_188 (lv_at hl 0 rfl) ?_
                      refine lv_iconst (v := zI 2) hx hb dX9_isEven_190 rfl ?_
                      refine rz_idiv F (by omega) (by omega) dX9_isEven_191 (fun z17 h_z17 => ?_)
                      refine lv_iload hx hb dX9_isEven_192 (lv_at hl 2 rfl) ?_
                      refine rz_icmp_ne (tgt := 207) F (by omega) (by omega) dX9_isEven_194 (by decide) (fun h194_17 => ?_) (fun h194_17 => ?_)
                      · refine lv_iconst (v := zI 0) hx hb dX9_isEven_207 rfl ?_
                        refine lv_aload_n hx hb dX9_isEven_208 rfl (lv_at hl 8 rfl) ?_
                        refine r_get F hK hP 0 36 rfl rfl in_X9 (by decide) k_1199 rfl dX9_isEven_209 ?_
                        refine lv_iload hx hb dX9_isEven_212 (lv_at hl 0 rfl) ?_
                        refine rz_iald F hK hP 2 0 rfl rfl (by omega) (by omega) dX9_isEven_214 ?_
                        have h_l214_18 := hr_rest (d9).toNat (by omega)
                        refine rz_if_le (tgt := 242) F (by omega) dX9_isEven_215 (by decide) (fun h215_19 => ?_) (fun h215_19 => ?_)
                        · refine lv_iconst (v := zI 0) hx hb dX9_isEven_242 rfl ?_
                          refine r_isub (v := zI (0 - 0)) F dX9_isEven_243 (zI_sub _ _) ?_
                          refine r_iadd (v := zI (d8 + (0 - 0))) F dX9_isEven_244 (zI_add _ _) ?_
                          refine lv_istore (lv' := [(8, .int (zI (d8 + (0 - 0)))), (9, .int (zI d9)), (7, .int (zI c7)), (6, .int (zI c6)), (5, .int (zI c5)), (4, .int (zI b4)), (3, .int (zI b3)), (2, .int (zI v2)), (0, .ref y), (1, .int (zI x))]) hx hb dX9_isEven_245 hl (by decide) rfl (fun ls hl => ?_)
                          refine lv_iinc (v := zI (d9 + 1)) (lv' := [(9, .int (zI (d9 + 1))), (8, .int (zI (d8 + (0 - 0)))), (7, .int (zI c7)), (6, .int (zI c6)), (5, .int (zI c5)), (4, .int (zI b4)), (3, .int (zI b3)), (2, .int (zI v2)), (0, .ref y), (1, .int (zI x))]) hx hb dX9_isEven_247 hl (k := 1) rfl (zI_add _ _) (by decide) rfl (fun ls hl => ?_)
                          refine lv_goto (tgt := 175) hx hb dX9_isEven_250 (by decide) ?_
                          exact ih4 (d8 + (0 - 0)) (d9 + 1) _ _ (by omega) (by omega) hP hD hS ls (lv_sub hl [0, 1, 2, 3, 4, 5, 6, 7, 8, 9] rfl)
                        · refine lv_aload_n hx hb dX9_isEven_218 rfl (lv_at hl 8 rfl) ?_
                          refine r_get F hK hP 0 16 rfl rfl in_X9 (by decide) k_1179 rfl dX9_isEven_219 ?_
                          refine lv_iload hx hb dX9_isEven_222 (lv_at hl 0 rfl) ?_
                          refine r_callSi (As := [.ref (q 3), .int (zI d9)]) (rest := [.int (zI 0), .int (zI d8)]) (wr := [(y, .inr (9, [.int (zI (i 0)), .ref (q 0), .int (zI (i 1)), .int (zI (i 2)), .int (zI (i 3)), .int (zI (i 4)), .int (zI (i 5)), .int (zI (i 6)), .int (zI (i 7)), .int (zI (i 8)), .int (zI (i 9)), .int (zI (i 10)), .ref (q 1), .int (zI (i 11)), .int (zI (i 12)), .ref (q 2), .ref (q 3), .ref (q 4), .ref (q 5), .ref (q 6), .ref (q 7), .ref (q 8), .ref (q 9), .ref (q 10), .ref (q 11), .ref (q 12), .ref (q 13), .ref (q 14), .ref (q 15), .ref (q 16), .int (zI (i 13)), .int (zI (i 14)), .int (zI (i 15)), .int (zI (i 16)), .int (zI (i 17)), .int (zI (i 18)), .ref (q 17), .ref (q 18), .ref (q 19), .ref (q 20)])), ((q 17), .inl (cI, 20, .inl (fun k => zI (g_rest k))))]) F hK hP hD hS hA hO hE (c_X9_goesTo hO (q 3) g_now d9 (by omega) hpn (by omega)) k_1582 ks_X9_goesTo 2 rfl (by decide +kernel) ⟨Nat.le_of_ble_eq_true rfl, Nat.le_of_ble_eq_true rfl⟩ [1] [0, 2] rfl rfl (by decide) (by decide) (by decide) hl.1 rfl (Nat.le_of_ble_eq_true rfl) dX9_isEven_224 ⟨Nat.le_of_ble_eq_true rfl, Nat.le_of_ble_eq_true rfl⟩ (w1 := fun u21 => [(y, .inr (9, [.int (zI (i 0)), .ref (q 0), .int (zI (i 1)), .int (zI (i 2)), .int (zI (i 3)), .int (zI (i 4)), .int (zI (i 5)), .int (zI (i 6)), .int (zI (i 7)), .int (zI (i 8)), .int (zI (i 9)), .int (zI (i 10)), .ref (q 1), .int (zI (i 11)), .int (zI (i 12)), .ref (q 2), .ref (q 3), .ref (q 4), .ref (q 5), .ref (q 6), .ref (q 7), .ref (q 8), .ref (q 9), .ref (q 10), .ref (q 11), .ref (q 12), .ref (q 13), .ref (q 14), .ref (q 15), .ref (q 16), .int (zI (i 13)), .int (zI (i 14)), .int (zI (i 15)), .int (zI (i 16)), .int (zI (i 17)), .int (zI (i 18)), .ref (q 17), .ref (q 18), .ref (q 19), .ref (q 20)])), ((q 17), .inl (cI, 20, .inl (fun k => zI (g_rest k)))), ((q 3), .inl (cI, 200, .inl (fun k => zI (g_now k))))]) (fun _ => rfl) (fun r22 u21 H locs hp23 hP hD hS => ?_)
                          obtain ⟨z24, rfl, h_z24⟩ := hp23
                          refine lv_iload hx hb dX9_isEven_227 (lv_at hl 2 rfl) ?_
                          refine rz_icmp_ne (tgt := 242) F (by omega) (by omega) dX9_isEven_229 (by decide) (fun h229_24 => ?_) (fun h229_24 => ?_)
                          · refine lv_iconst (v := zI 0) hx hb dX9_isEven_242 rfl ?_
                            refine r_isub (v := zI (0 - 0)) F dX9_isEven_243 (zI_sub _ _) ?_
                            refine r_iadd (v := zI (d8 + (0 - 0))) F dX9_isEven_244 (zI_add _ _) ?_
                            refine lv_istore (lv' := [(8, .int (zI (d8 + (0 - 0)))), (9, .int (zI d9)), (7, .int (zI c7)), (6, .int (zI c6)), (5, .int (zI c5)), (4, .int (zI b4)), (3, .int (zI b3)), (2, .int (zI v2)), (0, .ref y), (1, .int (zI x))]) hx hb dX9_isEven_245 hl (by decide) rfl (fun ls hl => ?_)
                            refine lv_iinc (v := zI (d9 + 1)) (lv' := [(9, .int (zI (d9 + 1))), (8, .int (zI (d8 + (0 - 0)))), (7, .int (zI c7)), (6, .int (zI c6)), (5, .int (zI c5)), (4, .int (zI b4)), (3, .int (zI b3)), (2, .int (zI v2)), (0, .ref y), (1, .int (zI x))]) hx hb dX9_isEven_247 hl (k := 1) rfl (zI_add _ _) (by decide) rfl (fun ls hl => ?_)
                            refine lv_goto (tgt := 175) hx hb dX9_isEven_250 (by decide) ?_
                            have hP := bw_subP (isC := [0, 2, 1]) (wc := [(y, .inr (9, [.int (zI (i 0)), .ref (q 0), .int (zI (i 1)), .int (zI (i 2)), .int (zI (i 3)), .int (zI (i 4)), .int (zI (i 5)), .int (zI (i 6)), .int (zI (i 7)), .int (zI (i 8)), .int (zI (i 9)), .int (zI (i 10)), .ref (q 1), .int (zI (i 11)), .int (zI (i 12)), .ref (q 2), .ref (q 3), .ref (q 4), .ref (q 5), .ref (q 6), .ref (q 7), .ref (q 8), .ref (q 9), .ref (q 10), .ref (q 11), .ref (q 12), .ref (q 13), .ref (q 14), .ref (q 15), .ref (q 16), .int (zI (i 13)), .int (zI (i 14)), .int (zI (i 15)), .int (zI (i 16)), .int (zI (i 17)), .int (zI (i 18)), .ref (q 17), .ref (q 18), .ref (q 19), .ref (q 20)])), ((q 3), .inl (cI, 200, .inl (fun k => zI (g_now k)))), ((q 17), .inl (cI, 20, .inl (fun k => zI (g_rest k))))]) hP rfl
                            have hD := hD.sub (ws' := [(y, .inr (9, [.int (zI (i 0)), .ref (q 0), .int (zI (i 1)), .int (zI (i 2)), .int (zI (i 3)), .int (zI (i 4)), .int (zI (i 5)), .int (zI (i 6)), .int (zI (i 7)), .int (zI (i 8)), .int (zI (i 9)), .int (zI (i 10)), .ref (q 1), .int (zI (i 11)), .int (zI (i 12)), .ref (q 2), .ref (q 3), .ref (q 4), .ref (q 5), .ref (q 6), .ref (q 7), .ref (q 8), .ref (q 9), .ref (q 10), .ref (q 11), .ref (q 12), .ref (q 13), .ref (q 14), .ref (q 15), .ref (q 16), .int (zI (i 13)), .int (zI (i 14)), .int (zI (i 15)), .int (zI (i 16)), .int (zI (i 17)), .int (zI (i 18)), .ref (q 17), .ref (q 18), .ref (q 19), .ref (q 20)])), ((q 3), .inl (cI, 200, .inl (fun k => zI (g_now k)))), ((q 17), .inl (cI, 20, .inl (fun k => zI (g_rest k))))]) [0, 2, 1] (by decide) rfl
                            exact ih4 (d8 + (0 - 0)) (d9 + 1) _ _ (by omega) (by omega) hP hD hS ls (lv_sub hl [0, 1, 2, 3, 4, 5, 6, 7, 8, 9] rfl)
                          · refine lv_aload_n hx hb dX9_isEven_232 rfl (lv_at hl 8 rfl) ?_
                            refine r_get F hK hP 0 36 rfl rfl in_X9 (by decide) k_1199 rfl dX9_isEven_233 ?_
                            refine lv_iload hx hb dX9_isEven_236 (lv_at hl 0 rfl) ?_
                            refine rz_iald F hK hP 1 0 rfl rfl (by omega) (by omega) dX9_isEven_238 ?_
                            have h_l238_25 := hr_rest (d9).toNat (by omega)
                            refine lv_goto (tgt := 243) hx hb dX9_isEven_239 (by decide) ?_
                            refine r_isub (v := zI (0 - (g_rest (d9).toNat))) F dX9_isEven_243 (zI_sub _ _) ?_
                            refine r_iadd (v := zI (d8 + (0 - (g_rest (d9).toNat)))) F dX9_isEven_244 (zI_add _ _) ?_
                            refine lv_istore (lv' := [(8, .int (zI (d8 + (0 - (g_rest (d9).toNat))))), (9, .int (zI d9)), (7, .int (zI c7)), (6, .int (zI c6)), (5, .int (zI c5)), (4, .int (zI b4)), (3, .int (zI b3)), (2, .int (zI v2)), (0, .ref y), (1, .int (zI x))]) hx hb dX9_isEven_245 hl (by decide) rfl (fun ls hl => ?_)
                            refine lv_iinc (v := zI (d9 + 1)) (lv' := [(9, .int (zI (d9 + 1))), (8, .int (zI (d8 + (0 - (g_rest (d9).toNat))))), (7, .int (zI c7)), (6, .int (zI c6)), (5, .int (zI c5)), (4, .int (zI b4)), (3, .int (zI b3)), (2, .int (zI v2)), (0, .ref y), (1, .int (zI x))]) hx hb dX9_isEven_247 hl (k := 1) rfl (zI_add _ _) (by decide) rfl (fun ls hl => ?_)
                            refine lv_goto (tgt := 175) hx hb dX9_isEven_250 (by decide) ?_
                            have hP := bw_subP (isC := [0, 2, 1]) (wc := [(y, .inr (9, [.int (zI (i 0)), .ref (q 0), .int (zI (i 1)), .int (zI (i 2)), .int (zI (i 3)), .int (zI (i 4)), .int (zI (i 5)), .int (zI (i 6)), .int (zI (i 7)), .int (zI (i 8)), .int (zI (i 9)), .int (zI (i 10)), .ref (q 1), .int (zI (i 11)), .int (zI (i 12)), .ref (q 2), .ref (q 3), .ref (q 4), .ref (q 5), .ref (q 6), .ref (q 7), .ref (q 8), .ref (q 9), .ref (q 10), .ref (q 11), .ref (q 12), .ref (q 13), .ref (q 14), .ref (q 15), .ref (q 16), .int (zI (i 13)), .int (zI (i 14)), .int (zI (i 15)), .int (zI (i 16)), .int (zI (i 17)), .int (zI (i 18)), .ref (q 17), .ref (q 18), .ref (q 19), .ref (q 20)])), ((q 3), .inl (cI, 200, .inl (fun k => zI (g_now k)))), ((q 17), .inl (cI, 20, .inl (fun k => zI (g_rest k))))]) hP rfl
                            have hD := hD.sub (ws' := [(y, .inr (9, [.int (zI (i 0)), .ref (q 0), .int (zI (i 1)), .int (zI (i 2)), .int (zI (i 3)), .int (zI (i 4)), .int (zI (i 5)), .int (zI (i 6)), .int (zI (i 7)), .int (zI (i 8)), .int (zI (i 9)), .int (zI (i 10)), .ref (q 1), .int (zI (i 11)), .int (zI (i 12)), .ref (q 2), .ref (q 3), .ref (q 4), .ref (q 5), .ref (q 6), .ref (q 7), .ref (q 8), .ref (q 9), .ref (q 10), .ref (q 11), .ref (q 12), .ref (q 13), .ref (q 14), .ref (q 15), .ref (q 16), .int (zI (i 13)), .int (zI (i 14)), .int (zI (i 15)), .int (zI (i 16)), .int (zI (i 17)), .int (zI (i 18)), .ref (q 17), .ref (q 18), .ref (q 19), .ref (q 20)])), ((q 3), .inl (cI, 200, .inl (fun k => zI (g_now k)))), ((q 17), .inl (cI, 20, .inl (fun k => zI (g_rest k))))]) [0, 2, 1] (by decide) rfl
                            exact ih4 (d8 + (0 - (g_rest (d9).toNat))) (d9 + 1) _ _ (by omega) (by omega) hP hD hS ls (lv_sub hl [0, 1, 2, 3, 4, 5, 6, 7, 8, 9] rfl)
                      · refine lv_aload_n hx hb dX9_isEven_197 rfl (lv_at hl 8 rfl) ?_
                        refine r_get F hK hP 0 36 rfl rfl in_X9 (by decide) k_1199 rfl dX9_isEven_198 ?_
                        refine lv_iload hx hb dX9_isEven_201 (lv_at hl 0 rfl) ?_
                        refine rz_iald F hK hP 2 0 rfl rfl (by omega) (by omega) dX9_isEven_203 ?_
                        have h_l203_26 := hr_rest (d9).toNat (by omega)
                        refine lv_goto (tgt := 208) hx hb dX9_isEven_204 (by decide) ?_
                        refine lv_aload_n hx hb dX9_isEven_208 rfl (lv_at hl 8 rfl) ?_
                        refine r_get F hK hP 0 36 rfl rfl in_X9 (by decide) k_1199 rfl dX9_isEven_209 ?_
                        refine lv_iload hx hb dX9_isEven_212 (lv_at hl 0 rfl) ?_
                        refine rz_iald F hK hP 2 0 rfl rfl (by omega) (by omega) dX9_isEven_214 ?_
                        have h_l214_27 := hr_rest (d9).toNat (by omega)
                        refine rz_if_le (tgt := 242) F (by omega) dX9_isEven_215 (by decide) (fun h215_28 => ?_) (fun h215_28 => ?_)
                        · refine lv_iconst (v := zI 0) hx hb dX9_isEven_242 rfl ?_
                          refine r_isub (v := zI ((g_rest (d9).toNat) - 0)) F dX9_isEven_243 (zI_sub _ _) ?_
                          refine r_iadd (v := zI (d8 + ((g_rest (d9).toNat) - 0))) F dX9_isEven_244 (zI_add _ _) ?_
                          refine lv_istore (lv' := [(8, .int (zI (d8 + ((g_rest (d9).toNat) - 0)))), (9, .int (zI d9)), (7, .int (zI c7)), (6, .int (zI c6)), (5, .int (zI c5)), (4, .int (zI b4)), (3, .int (zI b3)), (2, .int (zI v2)), (0, .ref y), (1, .int (zI x))]) hx hb dX9_isEven_245 hl (by decide) rfl (fun ls hl => ?_)
                          refine lv_iinc (v := zI (d9 + 1)) (lv' := [(9, .int (zI (d9 + 1))), (8, .int (zI (d8 + ((g_rest (d9).toNat) - 0)))), (7, .int (zI c7)), (6, .int (zI c6)), (5, .int (zI c5)), (4, .int (zI b4)), (3, .int (zI b3)), (2, .int (zI v2)), (0, .ref y), (1, .int (zI x))]) hx hb dX9_isEven_247 hl (k := 1) rfl (zI_add _ _) (by decide) rfl (fun ls hl => ?_)
                          refine lv_goto (tgt := 175) hx hb dX9_isEven_250 (by decide) ?_
                          exact ih4 (d8 + ((g_rest (d9).toNat) - 0)) (d9 + 1) _ _ (by omega) (by omega) hP hD hS ls (lv_sub hl [0, 1, 2, 3, 4, 5, 6, 7, 8, 9] rfl)
                        · refine lv_aload_n hx hb dX9_isEven_218 rfl (lv_at hl 8 rfl) ?_
                          refine r_get F hK hP 0 16 rfl rfl in_X9 (by decide) k_1179 rfl dX9_isEven_219 ?_
                          refine lv_iload hx hb dX9_isEven_222 (lv_at hl 0 rfl) ?_
                          refine r_callSi (As := [.ref (q 3), .int (zI d9)]) (rest := [.int (zI (g_rest (d9).toNat)), .int (zI d8)]) (wr := [(y, .inr (9, [.int (zI (i 0)), .ref (q 0), .int (zI (i 1)), .int (zI (i 2)), .int (zI (i 3)), .int (zI (i 4)), .int (zI (i 5)), .int (zI (i 6)), .int (zI (i 7)), .int (zI (i 8)), .int (zI (i 9)), .int (zI (i 10)), .ref (q 1), .int (zI (i 11)), .int (zI (i 12)), .ref (q 2), .ref (q 3), .ref (q 4), .ref (q 5), .ref (q 6), .ref (q 7), .ref (q 8), .ref (q 9), .ref (q 10), .ref (q 11), .ref (q 12), .ref (q 13), .ref (q 14), .ref (q 15), .ref (q 16), .int (zI (i 13)), .int (zI (i 14)), .int (zI (i 15)), .int (zI (i 16)), .int (zI (i 17)), .int (zI (i 18)), .ref (q 17), .ref (q 18), .ref (q 19), .ref (q 20)])), ((q 17), .inl (cI, 20, .inl (fun k => zI (g_rest k))))]) F hK hP hD hS hA hO hE (c_X9_goesTo hO (q 3) g_now d9 (by omega) hpn (by omega)) k_1582 ks_X9_goesTo 2 rfl (by decide +kernel) ⟨Nat.le_of_ble_eq_true rfl, Nat.le_of_ble_eq_true rfl⟩ [1] [0, 2] rfl rfl (by decide) (by decide) (by decide) hl.1 rfl (Nat.le_of_ble_eq_true rfl) dX9_isEven_224 ⟨Nat.le_of_ble_eq_true rfl, Nat.le_of_ble_eq_true rfl⟩ (w1 := fun u30 => [(y, .inr (9, [.int (zI (i 0)), .ref (q 0), .int (zI (i 1)), .int (zI (i 2)), .int (zI (i 3)), .int (zI (i 4)), .int (zI (i 5)), .int (zI (i 6)), .int (zI (i 7)), .int (zI (i 8)), .int (zI (i 9)), .int (zI (i 10)), .ref (q 1), .int (zI (i 11)), .int (zI (i 12)), .ref (q 2), .ref (q 3), .ref (q 4), .ref (q 5), .ref (q 6), .ref (q 7), .ref (q 8), .ref (q 9), .ref (q 10), .ref (q 11), .ref (q 12), .ref (q 13), .ref (q 14), .ref (q 15), .ref (q 16), .int (zI (i 13)), .int (zI (i 14)), .int (zI (i 15)), .int (zI (i 16)), .int (zI (i 17)), .int (zI (i 18)), .ref (q 17), .ref (q 18), .ref (q 19), .ref (q 20)])), ((q 17), .inl (cI, 20, .inl (fun k => zI (g_rest k)))), ((q 3), .inl (cI, 200, .inl (fun k => zI (g_now k))))]) (fun _ => rfl) (fun r31 u30 H locs hp32 hP hD hS => ?_)
                          obtain ⟨z33, rfl, h_z33⟩ := hp32
                          refine lv_iload hx hb dX9_isEven_227 (lv_at hl 2 rfl) ?_
                          refine rz_icmp_ne (tgt := 242) F (by omega) (by omega) dX9_isEven_229 (by decide) (fun h229_33 => ?_) (fun h229_33 => ?_)
                          · refine lv_iconst (v := zI 0) hx hb dX9_isEven_242 rfl ?_
                            refine r_isub (v := zI ((g_rest (d9).toNat) - 0)) F dX9_isEven_243 (zI_sub _ _) ?_
                            refine r_iadd (v := zI (d8 + ((g_rest (d9).toNat) - 0))) F dX9_isEven_244 (zI_add _ _) ?_
                            refine lv_istore (lv' := [(8, .int (zI (d8 + ((g_rest (d9).toNat) - 0)))), (9, .int (zI d9)), (7, .int (zI c7)), (6, .int (zI c6)), (5, .int (zI c5)), (4, .int (zI b4)), (3, .int (zI b3)), (2, .int (zI v2)), (0, .ref y), (1, .int (zI x))]) hx hb dX9_isEven_245 hl (by decide) rfl (fun ls hl => ?_)
                            refine lv_iinc (v := zI (d9 + 1)) (lv' := [(9, .int (zI (d9 + 1))), (8, .int (zI (d8 + ((g_rest (d9).toNat) - 0)))), (7, .int (zI c7)), (6, .int (zI c6)), (5, .int (zI c5)), (4, .int (zI b4)), (3, .int (zI b3)), (2, .int (zI v2)), (0, .ref y), (1, .int (zI x))]) hx hb dX9_isEven_247 hl (k := 1) rfl (zI_add _ _) (by decide) rfl (fun ls hl => ?_)
                            refine lv_goto (tgt := 175) hx hb dX9_isEven_250 (by decide) ?_
                            have hP := bw_subP (isC := [0, 2, 1]) (wc := [(y, .inr (9, [.int (zI (i 0)), .ref (q 0), .int (zI (i 1)), .int (zI (i 2)), .int (zI (i 3)), .int (zI (i 4)), .int (zI (i 5)), .int (zI (i 6)), .int (zI (i 7)), .int (zI (i 8)), .int (zI (i 9)), .int (zI (i 10)), .ref (q 1), .int (zI (i 11)), .int (zI (i 12)), .ref (q 2), .ref (q 3), .ref (q 4), .ref (q 5), .ref (q 6), .ref (q 7), .ref (q 8), .ref (q 9), .ref (q 10), .ref (q 11), .ref (q 12), .ref (q 13), .ref (q 14), .ref (q 15), .ref (q 16), .int (zI (i 13)), .int (zI (i 14)), .int (zI (i 15)), .int (zI (i 16)), .int (zI (i 17)), .int (zI (i 18)), .ref (q 17), .ref (q 18), .ref (q 19), .ref (q 20)])), ((q 3), .inl (cI, 200, .inl (fun k => zI (g_now k)))), ((q 17), .inl (cI, 20, .inl (fun k => zI (g_rest k))))]) hP rfl
                            have hD := hD.sub (ws' := [(y, .inr (9, [.int (zI (i 0)), .ref (q 0), .int (zI (i 1)), .int (zI (i 2)), .int (zI (i 3)), .int (zI (i 4)), .int (zI (i 5)), .int (zI (i 6)), .int (zI (i 7)), .int (zI (i 8)), .int (zI (i 9)), .int (zI (i 10)), .ref (q 1), .int (zI (i 11)), .int (zI (i 12)), .ref (q 2), .ref (q 3), .ref (q 4), .ref (q 5), .ref (q 6), .ref (q 7), .ref (q 8), .ref (q 9), .ref (q 10), .ref (q 11), .ref (q 12), .ref (q 13), .ref (q 14), .ref (q 15), .ref (q 16), .int (zI (i 13)), .int (zI (i 14)), .int (zI (i 15)), .int (zI (i 16)), .int (zI (i 17)), .int (zI (i 18)), .ref (q 17), .ref (q 18), .ref (q 19), .ref (q 20)])), ((q 3), .inl (cI, 200, .inl (fun k => zI (g_now k)))), ((q 17), .inl (cI, 20, .inl (fun k => zI (g_rest k))))]) [0, 2, 1] (by decide) rfl
                            exact ih4 (d8 + ((g_rest (d9).toNat) - 0)) (d9 + 1) _ _ (by omega) (by omega) hP hD hS ls (lv_sub hl [0, 1, 2, 3, 4, 5, 6, 7, 8, 9] rfl)
                          · refine lv_aload_n hx hb dX9_isEven_232 rfl (lv_at hl 8 rfl) ?_
                            refine r_get F hK hP 0 36 rfl rfl in_X9 (by decide) k_1199 rfl dX9_isEven_233 ?_
                            refine lv_iload hx hb dX9_isEven_236 (lv_at hl 0 rfl) ?_
                            refine rz_iald F hK hP 1 0 rfl rfl (by omega) (by omega) dX9_isEven_238 ?_
                            have h_l238_34 := hr_rest (d9).toNat (by omega)
                            refine lv_goto (tgt := 243) hx hb dX9_isEven_239 (by decide) ?_
                            refine r_isub (v := zI ((g_rest (d9).toNat) - (g_rest (d9).toNat))) F dX9_isEven_243 (zI_sub _ _) ?_
                            refine r_iadd (v := zI (d8 + ((g_rest (d9).toNat) - (g_rest (d9).toNat)))) F dX9_isEven_244 (zI_add _ _) ?_
                            refine lv_istore (lv' := [(8, .int (zI (d8 + ((g_rest (d9).toNat) - (g_rest (d9).toNat))))), (9, .int (zI d9)), (7, .int (zI c7)), (6, .int (zI c6)), (5, .int (zI c5)), (4, .int (zI b4)), (3, .int (zI b3)), (2, .int (zI v2)), (0, .ref y), (1, .int (zI x))]) hx hb dX9_isEven_245 hl (by decide) rfl (fun ls hl => ?_)
                            refine lv_iinc (v := zI (d9 + 1)) (lv' := [(9, .int (zI (d9 + 1))), (8, .int (zI (d8 + ((g_rest (d9).toNat) - (g_rest (d9).toNat))))), (7, .int (zI c7)), (6, .int (zI c6)), (5, .int (zI c5)), (4, .int (zI b4)), (3, .int (zI b3)), (2, .int (zI v2)), (0, .ref y), (1, .int (zI x))]) hx hb dX9_isEven_247 hl (k := 1) rfl (zI_add _ _) (by decide) rfl (fun ls hl => ?_)
                            refine lv_goto (tgt := 175) hx hb dX9_isEven_250 (by decide) ?_
                            have hP := bw_subP (isC := [0, 2, 1]) (wc := [(y, .inr (9, [.int (zI (i 0)), .ref (q 0), .int (zI (i 1)), .int (zI (i 2)), .int (zI (i 3)), .int (zI (i 4)), .int (zI (i 5)), .int (zI (i 6)), .int (zI (i 7)), .int (zI (i 8)), .int (zI (i 9)), .int (zI (i 10)), .ref (q 1), .int (zI (i 11)), .int (zI (i 12)), .ref (q 2), .ref (q 3), .ref (q 4), .ref (q 5), .ref (q 6), .ref (q 7), .ref (q 8), .ref (q 9), .ref (q 10), .ref (q 11), .ref (q 12), .ref (q 13), .ref (q 14), .ref (q 15), .ref (q 16), .int (zI (i 13)), .int (zI (i 14)), .int (zI (i 15)), .int (zI (i 16)), .int (zI (i 17)), .int (zI (i 18)), .ref (q 17), .ref (q 18), .ref (q 19), .ref (q 20)])), ((q 3), .inl (cI, 200, .inl (fun k => zI (g_now k)))), ((q 17), .inl (cI, 20, .inl (fun k => zI (g_rest k))))]) hP rfl
                            have hD := hD.sub (ws' := [(y, .inr (9, [.int (zI (i 0)), .ref (q 0), .int (zI (i 1)), .int (zI (i 2)), .int (zI (i 3)), .int (zI (i 4)), .int (zI (i 5)), .int (zI (i 6)), .int (zI (i 7)), .int (zI (i 8)), .int (zI (i 9)), .int (zI (i 10)), .ref (q 1), .int (zI (i 11)), .int (zI (i 12)), .ref (q 2), .ref (q 3), .ref (q 4), .ref (q 5), .ref (q 6), .ref (q 7), .ref (q 8), .ref (q 9), .ref (q 10), .ref (q 11), .ref (q 12), .ref (q 13), .ref (q 14), .ref (q 15), .ref (q 16), .int (zI (i 13)), .int (zI (i 14)), .int (zI (i 15)), .int (zI (i 16)), .int (zI (i 17)), .int (zI (i 18)), .ref (q 17), .ref (q 18), .ref (q 19), .ref (q 20)])), ((q 3), .inl (cI, 200, .inl (fun k => zI (g_now k)))), ((q 17), .inl (cI, 20, .inl (fun k => zI (g_rest k))))]) [0, 2, 1] (by decide) rfl
                            exact ih4 (d8 + ((g_rest (d9).toNat) - (g_rest (d9).toNat))) (d9 + 1) _ _ (by omega) (by omega) hP hD hS ls (lv_sub hl [0, 1, 2, 3, 4, 5, 6, 7, 8, 9] rfl)
            · refine lv_iconst (v := zI 0) hx hb dX9_isEven_149 rfl ?_
              exact ret (zI 0) (fun k => [((fun _ => 0), fun _ _ => 0)].getD k (fun _ => 0, fun _ _ => 0)) _ _ _ _ _ _ rfl ⟨0, rfl, by omega⟩ (bw_subP (isC := [0, 1, 2]) hP rfl) (hD.sub [0, 1, 2] (by decide) rfl) hS (Nat.le_of_ble_eq_true rfl) (Nat.le_of_ble_eq_true rfl) dX9_isEven_150
          · refine lv_iload_n hx hb dX9_isEven_76 rfl (lv_at hl 1 rfl) ?_
            refine lv_istore (lv' := [(4, .int (zI b3)), (3, .int (zI b3)), (2, .int (zI v2)), (0, .ref y), (1, .int (zI x))]) hx hb dX9_isEven_77 hl (by decide) rfl (fun ls hl => ?_)
            refine lv_iconst (v := zI 0) hx hb dX9_isEven_79 rfl ?_
            refine lv_istore (lv' := [(5, .int (zI 0)), (4, .int (zI b3)), (3, .int (zI b3)), (2, .int (zI v2)), (0, .ref y), (1, .int (zI x))]) hx hb dX9_isEven_80 hl (by decide) rfl (fun ls hl => ?_)
            refine W.widen (k := 0) (n := 0) (Nat.le_of_ble_eq_true rfl) (Nat.le_of_ble_eq_true rfl) ?_
            refine (?_ : ∀ (n9_3 : Nat) (w3 : Int) (w5 : Int) (H : Heap) (locs : List Loc), (b3 ≤ w3 ∧ w3 < 1024 ∧ 0 ≤ w5 ∧ w5 ≤ 20) → (20 - w5 : Int).toNat < n9_3 → va_P G vwCl [(y, .inr (9, [.int (zI (i 0)), .ref (q 0), .int (zI (i 1)), .int (zI (i 2)), .int (zI (i 3)), .int (zI (i 4)), .int (zI (i 5)), .int (zI (i 6)), .int (zI (i 7)), .int (zI (i 8)), .int (zI (i 9)), .int (zI (i 10)), .ref (q 1), .int (zI (i 11)), .int (zI (i 12)), .ref (q 2), .ref (q 3), .ref (q 4), .ref (q 5), .ref (q 6), .ref (q 7), .ref (q 8), .ref (q 9), .ref (q 10), .ref (q 11), .ref (q 12), .ref (q 13), .ref (q 14), .ref (q 15), .ref (q 16), .int (zI (i 13)), .int (zI (i 14)), .int (zI (i 15)), .int (zI (i 16)), .int (zI (i 17)), .int (zI (i 18)), .ref (q 17), .ref (q 18), .ref (q 19), .ref (q 20)])), ((q 3), .inl (cI, 200, .inl (fun k => zI (g_now k)))), ((q 17), .inl (cI, 20, .inl (fun k => zI (g_rest k))))] H → va_D A [(y, .inr (9, [.int (zI (i 0)), .ref (q 0), .int (zI (i 1)), .int (zI (i 2)), .int (zI (i 3)), .int (zI (i 4)), .int (zI (i 5)), .int (zI (i 6)), .int (zI (i 7)), .int (zI (i 8)), .int (zI (i 9)), .int (zI (i 10)), .ref (q 1), .int (zI (i 11)), .int (zI (i 12)), .ref (q 2), .ref (q 3), .ref (q 4), .ref (q 5), .ref (q 6), .ref (q 7), .ref (q 8), .ref (q 9), .ref (q 10), .ref (q 11), .ref (q 12), .ref (q 13), .ref (q 14), .ref (q 15), .ref (q 16), .int (zI (i 13)), .int (zI (i 14)), .int (zI (i 15)), .int (zI (i 16)), .int (zI (i 17)), .int (zI (i 18)), .ref (q 17), .ref (q 18), .ref (q 19), .ref (q 20)])), ((q 3), .inl (cI, 200, .inl (fun k => zI (g_now k)))), ((q 17), .inl (cI, 20, .inl (fun k => zI (g_rest k))))] → va_S A s.heap H locs → ∀ ls : Array Slot, lv_has ls 10 [(5, .int (zI w5)), (4, .int (zI b3)), (3, .int (zI w3)), (2, .int (zI v2)), (0, .ref y), (1, .int (zI x))] → W p l e rm_X9_isEven s m ([.ref y, .int (zI x)] : List Value).toArray below meth c H locs 0 0 Q (F0 m 82 ls [])) ((20 - 0 : Int).toNat + 1) b3 0 _ _ (by omega) (by omega) hP hD hS ls hl
            clear hP hD hS hl ls
            intro n9_3
            induction n9_3 with
            | zero =>
              intro w3 w5 H locs hI hM
              exact absurd hM (by omega)
            | succ n9_3 ih3 =>
              intro w3 w5 H locs hI3 hM3  hP hD hS ls hl
              refine lv_iload hx hb dX9_isEven_82 (lv_at hl 0 rfl) ?_
              refine lv_iconst (v := zI 2) hx hb dX9_isEven_84 rfl ?_
              refine lv_aload_n hx hb dX9_isEven_85 rfl (lv_at hl 4 rfl) ?_
              refine r_get F hK hP 0 30 rfl rfl in_X9 (by decide) k_1193 rfl dX9_isEven_86 ?_
              refine r_imul (v := zI (2 * (i 13))) F dX9_isEven_89 (zI_mul _ _) ?_
              refine rz_icmp_ge (tgt := 141) F (by omega) (by omega) dX9_isEven_90 (by decide) (fun h90_35 => ?_) (fun h90_35 => ?_)
              · refine lv_goto (tgt := 70) hx hb dX9_isEven_141 (by decide) ?_
                exact ih2 w3 b3 _ _ (by omega) (by omega) hP hD hS ls (lv_sub hl [1, 2, 3, 4, 5] rfl)
              · refine lv_iconst (v := zI 1) hx hb dX9_isEven_93 rfl ?_
                refine lv_iload hx hb dX9_isEven_94 (lv_at hl 0 rfl) ?_
                refine lv_iconst (v := zI 2) hx hb dX9_isEven_96 rfl ?_
                refine rz_idiv F (by omega) (by omega) dX9_isEven_97 (fun z37 h_z37 => ?_)
                refine rz_ishl1 F (by omega) dX9_isEven_98 (fun z39 h_z39 => ?_)
                refine lv_iconst (v := zI 1) hx hb dX9_isEven_99 rfl ?_
                refine lv_aload_n hx hb dX9_isEven_100 rfl (lv_at hl 4 rfl) ?_
                refine r_get F hK hP 0 16 rfl rfl in_X9 (by decide) k_1179 rfl dX9_isEven_101 ?_
                refine lv_iload hx hb dX9_isEven_104 (lv_at hl 0 rfl) ?_
                refine r_callSi (As := [.ref (q 3), .int (zI w5)]) (rest := [.int (zI 1), .int (zI z39)]) (wr := [(y, .inr (9, [.int (zI (i 0)), .ref (q 0), .int (zI (i 1)), .int (zI (i 2)), .int (zI (i 3)), .int (zI (i 4)), .int (zI (i 5)), .int (zI (i 6)), .int (zI (i 7)), .int (zI (i 8)), .int (zI (i 9)), .int (zI (i 10)), .ref (q 1), .int (zI (i 11)), .int (zI (i 12)), .ref (q 2), .ref (q 3), .ref (q 4), .ref (q 5), .ref (q 6), .ref (q 7), .ref (q 8), .ref (q 9), .ref (q 10), .ref (q 11), .ref (q 12), .ref (q 13), .ref (q 14), .ref (q 15), .ref (q 16), .int (zI (i 13)), .int (zI (i 14)), .int (zI (i 15)), .int (zI (i 16)), .int (zI (i 17)), .int (zI (i 18)), .ref (q 17), .ref (q 18), .ref (q 19), .ref (q 20)])), ((q 17), .inl (cI, 20, .inl (fun k => zI (g_rest k))))]) F hK hP hD hS hA hO hE (c_X9_goesTo hO (q 3) g_now w5 (by omega) hpn (by omega)) k_1582 ks_X9_goesTo 2 rfl (by decide +kernel) ⟨Nat.le_of_ble_eq_true rfl, Nat.le_of_ble_eq_true rfl⟩ [1] [0, 2] rfl rfl (by decide) (by decide) (by decide) hl.1 rfl (Nat.le_of_ble_eq_true rfl) dX9_isEven_106 ⟨Nat.le_of_ble_eq_true rfl, Nat.le_of_ble_eq_true rfl⟩ (w1 := fun u40 => [(y, .inr (9, [.int (zI (i 0)), .ref (q 0), .int (zI (i 1)), .int (zI (i 2)), .int (zI (i 3)), .int (zI (i 4)), .int (zI (i 5)), .int (zI (i 6)), .int (zI (i 7)), .int (zI (i 8)), .int (zI (i 9)), .int (zI (i 10)), .ref (q 1), .int (zI (i 11)), .int (zI (i 12)), .ref (q 2), .ref (q 3), .ref (q 4), .ref (q 5), .ref (q 6), .ref (q 7), .ref (q 8), .ref (q 9), .ref (q 10), .ref (q 11), .ref (q 12), .ref (q 13), .ref (q 14), .ref (q 15), .ref (q 16), .int (zI (i 13)), .int (zI (i 14)), .int (zI (i 15)), .int (zI (i 16)), .int (zI (i 17)), .int (zI (i 18)), .ref (q 17), .ref (q 18), .ref (q 19), .ref (q 20)])), ((q 17), .inl (cI, 20, .inl (fun k => zI (g_rest k)))), ((q 3), .inl (cI, 200, .inl (fun k => zI (g_now k))))]) (fun _ => rfl) (fun r41 u40 H locs hp42 hP hD hS => ?_)
                obtain ⟨z43, rfl, h_z43⟩ := hp42
                refine rz_ishl1 F (by omega) dX9_isEven_109 (fun z45 h_z45 => ?_)
                refine rz_iorM F 10 1024 (by decide) (by decide) (by omega) (by omega) dX9_isEven_110 (fun z47 h_z47 => ?_)
                refine lv_istore (lv' := [(6, .int (zI z47)), (5, .int (zI w5)), (4, .int (zI b3)), (3, .int (zI w3)), (2, .int (zI v2)), (0, .ref y), (1, .int (zI x))]) hx hb dX9_isEven_111 hl (by decide) rfl (fun ls hl => ?_)
                refine lv_aload_n hx hb dX9_isEven_113 rfl (lv_at hl 5 rfl) ?_
                refine r_get F hK hP 0 36 rfl rfl in_X9 (by decide) k_1199 rfl dX9_isEven_114 ?_
                refine lv_iload hx hb dX9_isEven_117 (lv_at hl 1 rfl) ?_
                refine rz_iald F hK hP 1 0 rfl rfl (by omega) (by omega) dX9_isEven_119 ?_
                have h_l119_47 := hr_rest (w5).toNat (by omega)
                refine rz_if_le (tgt := 135) F (by omega) dX9_isEven_120 (by decide) (fun h120_48 => ?_) (fun h120_48 => ?_)
                · refine lv_iinc (v := zI (w5 + 1)) (lv' := [(5, .int (zI (w5 + 1))), (6, .int (zI z47)), (4, .int (zI b3)), (3, .int (zI w3)), (2, .int (zI v2)), (0, .ref y), (1, .int (zI x))]) hx hb dX9_isEven_135 hl (k := 1) rfl (zI_add _ _) (by decide) rfl (fun ls hl => ?_)
                  refine lv_goto (tgt := 82) hx hb dX9_isEven_138 (by decide) ?_
                  have hP := bw_subP (isC := [0, 2, 1]) (wc := [(y, .inr (9, [.int (zI (i 0)), .ref (q 0), .int (zI (i 1)), .int (zI (i 2)), .int (zI (i 3)), .int (zI (i 4)), .int (zI (i 5)), .int (zI (i 6)), .int (zI (i 7)), .int (zI (i 8)), .int (zI (i 9)), .int (zI (i 10)), .ref (q 1), .int (zI (i 11)), .int (zI (i 12)), .ref (q 2), .ref (q 3), .ref (q 4), .ref (q 5), .ref (q 6), .ref (q 7), .ref (q 8), .ref (q 9), .ref (q 10), .ref (q 11), .ref (q 12), .ref (q 13), .ref (q 14), .ref (q 15), .ref (q 16), .int (zI (i 13)), .int (zI (i 14)), .int (zI (i 15)), .int (zI (i 16)), .int (zI (i 17)), .int (zI (i 18)), .ref (q 17), .ref (q 18), .ref (q 19), .ref (q 20)])), ((q 3), .inl (cI, 200, .inl (fun k => zI (g_now k)))), ((q 17), .inl (cI, 20, .inl (fun k => zI (g_rest k))))]) hP rfl
                  have hD := hD.sub (ws' := [(y, .inr (9, [.int (zI (i 0)), .ref (q 0), .int (zI (i 1)), .int (zI (i 2)), .int (zI (i 3)), .int (zI (i 4)), .int (zI (i 5)), .int (zI (i 6)), .int (zI (i 7)), .int (zI (i 8)), .int (zI (i 9)), .int (zI (i 10)), .ref (q 1), .int (zI (i 11)), .int (zI (i 12)), .ref (q 2), .ref (q 3), .ref (q 4), .ref (q 5), .ref (q 6), .ref (q 7), .ref (q 8), .ref (q 9), .ref (q 10), .ref (q 11), .ref (q 12), .ref (q 13), .ref (q 14), .ref (q 15), .ref (q 16), .int (zI (i 13)), .int (zI (i 14)), .int (zI (i 15)), .int (zI (i 16)), .int (zI (i 17)), .int (zI (i 18)), .ref (q 17), .ref (q 18), .ref (q 19), .ref (q 20)])), ((q 3), .inl (cI, 200, .inl (fun k => zI (g_now k)))), ((q 17), .inl (cI, 20, .inl (fun k => zI (g_rest k))))]) [0, 2, 1] (by decide) rfl
                  exact ih3 w3 (w5 + 1) _ _ (by omega) (by omega) hP hD hS ls (lv_sub hl [0, 2, 3, 4, 5, 6] rfl)
                · refine lv_iload hx hb dX9_isEven_123 (lv_at hl 0 rfl) ?_
                  refine lv_iload_n hx hb dX9_isEven_125 rfl (lv_at hl 3 rfl) ?_
                  refine lv_iand hx hb dX9_isEven_126 ?_
                  refine rz_top (fun z50 h_z50 => ?_)
                  refine rz_if_eq (tgt := 135) F (by omega) dX9_isEven_127 (by decide) (fun h127_50 => ?_) (fun h127_50 => ?_)
                  · refine lv_iinc (v := zI (w5 + 1)) (lv' := [(5, .int (zI (w5 + 1))), (6, .int (zI z47)), (4, .int (zI b3)), (3, .int (zI w3)), (2, .int (zI v2)), (0, .ref y), (1, .int (zI x))]) hx hb dX9_isEven_135 hl (k := 1) rfl (zI_add _ _) (by decide) rfl (fun ls hl => ?_)
                    refine lv_goto (tgt := 82) hx hb dX9_isEven_138 (by decide) ?_
                    have hP := bw_subP (isC := [0, 2, 1]) (wc := [(y, .inr (9, [.int (zI (i 0)), .ref (q 0), .int (zI (i 1)), .int (zI (i 2)), .int (zI (i 3)), .int (zI (i 4)), .int (zI (i 5)), .int (zI (i 6)), .int (zI (i 7)), .int (zI (i 8)), .int (zI (i 9)), .int (zI (i 10)), .ref (q 1), .int (zI (i 11)), .int (zI (i 12)), .ref (q 2), .ref (q 3), .ref (q 4), .ref (q 5), .ref (q 6), .ref (q 7), .ref (q 8), .ref (q 9), .ref (q 10), .ref (q 11), .ref (q 12), .ref (q 13), .ref (q 14), .ref (q 15), .ref (q 16), .int (zI (i 13)), .int (zI (i 14)), .int (zI (i 15)), .int (zI (i 16)), .int (zI (i 17)), .int (zI (i 18)), .ref (q 17), .ref (q 18), .ref (q 19), .ref (q 20)])), ((q 3), .inl (cI, 200, .inl (fun k => zI (g_now k)))), ((q 17), .inl (cI, 20, .inl (fun k => zI (g_rest k))))]) hP rfl
                    have hD := hD.sub (ws' := [(y, .inr (9, [.int (zI (i 0)), .ref (q 0), .int (zI (i 1)), .int (zI (i 2)), .int (zI (i 3)), .int (zI (i 4)), .int (zI (i 5)), .int (zI (i 6)), .int (zI (i 7)), .int (zI (i 8)), .int (zI (i 9)), .int (zI (i 10)), .ref (q 1), .int (zI (i 11)), .int (zI (i 12)), .ref (q 2), .ref (q 3), .ref (q 4), .ref (q 5), .ref (q 6), .ref (q 7), .ref (q 8), .ref (q 9), .ref (q 10), .ref (q 11), .ref (q 12), .ref (q 13), .ref (q 14), .ref (q 15), .ref (q 16), .int (zI (i 13)), .int (zI (i 14)), .int (zI (i 15)), .int (zI (i 16)), .int (zI (i 17)), .int (zI (i 18)), .ref (q 17), .ref (q 18), .ref (q 19), .ref (q 20)])), ((q 3), .inl (cI, 200, .inl (fun k => zI (g_now k)))), ((q 17), .inl (cI, 20, .inl (fun k => zI (g_rest k))))]) [0, 2, 1] (by decide) rfl
                    exact ih3 w3 (w5 + 1) _ _ (by omega) (by omega) hP hD hS ls (lv_sub hl [0, 2, 3, 4, 5, 6] rfl)
                  · refine lv_iload_n hx hb dX9_isEven_130 rfl (lv_at hl 3 rfl) ?_
                    refine lv_iload hx hb dX9_isEven_131 (lv_at hl 0 rfl) ?_
                    refine rz_iorM F 10 1024 (by decide) (by decide) (by omega) (by omega) dX9_isEven_133 (fun z53 h_z53 => ?_)
                    refine lv_istore_n (lv' := [(3, .int (zI z53)), (6, .int (zI z47)), (5, .int (zI w5)), (4, .int (zI b3)), (2, .int (zI v2)), (0, .ref y), (1, .int (zI x))]) hx hb dX9_isEven_134 rfl hl (by decide) rfl (fun ls hl => ?_)
                    refine lv_iinc (v := zI (w5 + 1)) (lv' := [(5, .int (zI (w5 + 1))), (3, .int (zI z53)), (6, .int (zI z47)), (4, .int (zI b3)), (2, .int (zI v2)), (0, .ref y), (1, .int (zI x))]) hx hb dX9_isEven_135 hl (k := 2) rfl (zI_add _ _) (by decide) rfl (fun ls hl => ?_)
                    refine lv_goto (tgt := 82) hx hb dX9_isEven_138 (by decide) ?_
                    have hP := bw_subP (isC := [0, 2, 1]) (wc := [(y, .inr (9, [.int (zI (i 0)), .ref (q 0), .int (zI (i 1)), .int (zI (i 2)), .int (zI (i 3)), .int (zI (i 4)), .int (zI (i 5)), .int (zI (i 6)), .int (zI (i 7)), .int (zI (i 8)), .int (zI (i 9)), .int (zI (i 10)), .ref (q 1), .int (zI (i 11)), .int (zI (i 12)), .ref (q 2), .ref (q 3), .ref (q 4), .ref (q 5), .ref (q 6), .ref (q 7), .ref (q 8), .ref (q 9), .ref (q 10), .ref (q 11), .ref (q 12), .ref (q 13), .ref (q 14), .ref (q 15), .ref (q 16), .int (zI (i 13)), .int (zI (i 14)), .int (zI (i 15)), .int (zI (i 16)), .int (zI (i 17)), .int (zI (i 18)), .ref (q 17), .ref (q 18), .ref (q 19), .ref (q 20)])), ((q 3), .inl (cI, 200, .inl (fun k => zI (g_now k)))), ((q 17), .inl (cI, 20, .inl (fun k => zI (g_rest k))))]) hP rfl
                    have hD := hD.sub (ws' := [(y, .inr (9, [.int (zI (i 0)), .ref (q 0), .int (zI (i 1)), .int (zI (i 2)), .int (zI (i 3)), .int (zI (i 4)), .int (zI (i 5)), .int (zI (i 6)), .int (zI (i 7)), .int (zI (i 8)), .int (zI (i 9)), .int (zI (i 10)), .ref (q 1), .int (zI (i 11)), .int (zI (i 12)), .ref (q 2), .ref (q 3), .ref (q 4), .ref (q 5), .ref (q 6), .ref (q 7), .ref (q 8), .ref (q 9), .ref (q 10), .ref (q 11), .ref (q 12), .ref (q 13), .ref (q 14), .ref (q 15), .ref (q 16), .int (zI (i 13)), .int (zI (i 14)), .int (zI (i 15)), .int (zI (i 16)), .int (zI (i 17)), .int (zI (i 18)), .ref (q 17), .ref (q 18), .ref (q 19), .ref (q 20)])), ((q 3), .inl (cI, 200, .inl (fun k => zI (g_now k)))), ((q 17), .inl (cI, 20, .inl (fun k => zI (g_rest k))))]) [0, 2, 1] (by decide) rfl
                    exact ih3 z53 (w5 + 1) _ _ (by omega) (by omega) hP hD hS ls (lv_sub hl [0, 3, 1, 4, 5, 6] rfl)
      · refine lv_iconst (v := zI 1) hx hb dX9_isEven_65 rfl ?_
        exact ret (zI 1) (fun k => [((fun _ => 0), fun _ _ => 0)].getD k (fun _ => 0, fun _ _ => 0)) _ _ _ _ _ _ rfl ⟨1, rfl, by omega⟩ (bw_subP (isC := [0, 1, 2]) hP rfl) (hD.sub [0, 1, 2] (by decide) rfl) hS (Nat.le_of_ble_eq_true rfl) (Nat.le_of_ble_eq_true rfl) dX9_isEven_66
    · refine lv_iload_n hx hb dX9_isEven_20 rfl (lv_at hl 2 rfl) ?_
      refine lv_aload_n hx hb dX9_isEven_21 rfl (lv_at hl 3 rfl) ?_
      refine r_get F hK hP 0 36 rfl rfl in_X9 (by decide) k_1199 rfl dX9_isEven_22 ?_
      refine lv_iload hx hb dX9_isEven_25 (lv_at hl 0 rfl) ?_
      refine rz_iald F hK hP 2 0 rfl rfl (by omega) (by omega) dX9_isEven_27 ?_
      have h_l27_53 := hr_rest (v4).toNat (by omega)
      refine rz_if_le (tgt := 52) F (by omega) dX9_isEven_28 (by decide) (fun h28_54 => ?_) (fun h28_54 => ?_)
      · refine lv_iconst (v := zI 0) hx hb dX9_isEven_52 rfl ?_
        refine rz_iorM F 10 1024 (by decide) (by decide) (by omega) (by omega) dX9_isEven_53 (fun z57 h_z57 => ?_)
        refine lv_istore_n (lv' := [(2, .int (zI z57)), (4, .int (zI v4)), (3, .int (zI z3)), (0, .ref y), (1, .int (zI x))]) hx hb dX9_isEven_54 rfl hl (by decide) rfl (fun ls hl => ?_)
        refine lv_iinc (v := zI (v4 + 1)) (lv' := [(4, .int (zI (v4 + 1))), (2, .int (zI z57)), (3, .int (zI z3)), (0, .ref y), (1, .int (zI x))]) hx hb dX9_isEven_55 hl (k := 1) rfl (zI_add _ _) (by decide) rfl (fun ls hl => ?_)
        refine lv_goto (tgt := 9) hx hb dX9_isEven_58 (by decide) ?_
        exact ih1 z57 (v4 + 1) _ _ (by omega) (by omega) hP hD hS ls (lv_sub hl [0, 2, 1, 3, 4] rfl)
      · refine lv_iconst (v := zI 1) hx hb dX9_isEven_31 rfl ?_
        refine lv_iload hx hb dX9_isEven_32 (lv_at hl 0 rfl) ?_
        refine lv_iconst (v := zI 2) hx hb dX9_isEven_34 rfl ?_
        refine rz_idiv F (by omega) (by omega) dX9_isEven_35 (fun z58 h_z58 => ?_)
        refine rz_ishl1 F (by omega) dX9_isEven_36 (fun z60 h_z60 => ?_)
        refine lv_iconst (v := zI 1) hx hb dX9_isEven_37 rfl ?_
        refine lv_aload_n hx hb dX9_isEven_38 rfl (lv_at hl 3 rfl) ?_
        refine r_get F hK hP 0 16 rfl rfl in_X9 (by decide) k_1179 rfl dX9_isEven_39 ?_
        refine lv_iload hx hb dX9_isEven_42 (lv_at hl 0 rfl) ?_
        refine r_callSi (As := [.ref (q 3), .int (zI v4)]) (rest := [.int (zI 1), .int (zI z60), .int (zI v2)]) (wr := [(y, .inr (9, [.int (zI (i 0)), .ref (q 0), .int (zI (i 1)), .int (zI (i 2)), .int (zI (i 3)), .int (zI (i 4)), .int (zI (i 5)), .int (zI (i 6)), .int (zI (i 7)), .int (zI (i 8)), .int (zI (i 9)), .int (zI (i 10)), .ref (q 1), .int (zI (i 11)), .int (zI (i 12)), .ref (q 2), .ref (q 3), .ref (q 4), .ref (q 5), .ref (q 6), .ref (q 7), .ref (q 8), .ref (q 9), .ref (q 10), .ref (q 11), .ref (q 12), .ref (q 13), .ref (q 14), .ref (q 15), .ref (q 16), .int (zI (i 13)), .int (zI (i 14)), .int (zI (i 15)), .int (zI (i 16)), .int (zI (i 17)), .int (zI (i 18)), .ref (q 17), .ref (q 18), .ref (q 19), .ref (q 20)])), ((q 17), .inl (cI, 20, .inl (fun k => zI (g_rest k))))]) F hK hP hD hS hA hO hE (c_X9_goesTo hO (q 3) g_now v4 (by omega) hpn (by omega)) k_1582 ks_X9_goesTo 2 rfl (by decide +kernel) ⟨Nat.le_of_ble_eq_true rfl, Nat.le_of_ble_eq_true rfl⟩ [1] [0, 2] rfl rfl (by decide) (by decide) (by decide) hl.1 rfl (Nat.le_of_ble_eq_true rfl) dX9_isEven_44 ⟨Nat.le_of_ble_eq_true rfl, Nat.le_of_ble_eq_true rfl⟩ (w1 := fun u61 => [(y, .inr (9, [.int (zI (i 0)), .ref (q 0), .int (zI (i 1)), .int (zI (i 2)), .int (zI (i 3)), .int (zI (i 4)), .int (zI (i 5)), .int (zI (i 6)), .int (zI (i 7)), .int (zI (i 8)), .int (zI (i 9)), .int (zI (i 10)), .ref (q 1), .int (zI (i 11)), .int (zI (i 12)), .ref (q 2), .ref (q 3), .ref (q 4), .ref (q 5), .ref (q 6), .ref (q 7), .ref (q 8), .ref (q 9), .ref (q 10), .ref (q 11), .ref (q 12), .ref (q 13), .ref (q 14), .ref (q 15), .ref (q 16), .int (zI (i 13)), .int (zI (i 14)), .int (zI (i 15)), .int (zI (i 16)), .int (zI (i 17)), .int (zI (i 18)), .ref (q 17), .ref (q 18), .ref (q 19), .ref (q 20)])), ((q 17), .inl (cI, 20, .inl (fun k => zI (g_rest k)))), ((q 3), .inl (cI, 200, .inl (fun k => zI (g_now k))))]) (fun _ => rfl) (fun r62 u61 H locs hp63 hP hD hS => ?_)
        obtain ⟨z64, rfl, h_z64⟩ := hp63
        refine rz_ishl1 F (by omega) dX9_isEven_47 (fun z66 h_z66 => ?_)
        refine rz_iorM F 10 1024 (by decide) (by decide) (by omega) (by omega) dX9_isEven_48 (fun z68 h_z68 => ?_)
        refine lv_goto (tgt := 53) hx hb dX9_isEven_49 (by decide) ?_
        refine rz_iorM F 10 1024 (by decide) (by decide) (by omega) (by omega) dX9_isEven_53 (fun z70 h_z70 => ?_)
        refine lv_istore_n (lv' := [(2, .int (zI z70)), (4, .int (zI v4)), (3, .int (zI z3)), (0, .ref y), (1, .int (zI x))]) hx hb dX9_isEven_54 rfl hl (by decide) rfl (fun ls hl => ?_)
        refine lv_iinc (v := zI (v4 + 1)) (lv' := [(4, .int (zI (v4 + 1))), (2, .int (zI z70)), (3, .int (zI z3)), (0, .ref y), (1, .int (zI x))]) hx hb dX9_isEven_55 hl (k := 1) rfl (zI_add _ _) (by decide) rfl (fun ls hl => ?_)
        refine lv_goto (tgt := 9) hx hb dX9_isEven_58 (by decide) ?_
        have hP := bw_subP (isC := [0, 2, 1]) (wc := [(y, .inr (9, [.int (zI (i 0)), .ref (q 0), .int (zI (i 1)), .int (zI (i 2)), .int (zI (i 3)), .int (zI (i 4)), .int (zI (i 5)), .int (zI (i 6)), .int (zI (i 7)), .int (zI (i 8)), .int (zI (i 9)), .int (zI (i 10)), .ref (q 1), .int (zI (i 11)), .int (zI (i 12)), .ref (q 2), .ref (q 3), .ref (q 4), .ref (q 5), .ref (q 6), .ref (q 7), .ref (q 8), .ref (q 9), .ref (q 10), .ref (q 11), .ref (q 12), .ref (q 13), .ref (q 14), .ref (q 15), .ref (q 16), .int (zI (i 13)), .int (zI (i 14)), .int (zI (i 15)), .int (zI (i 16)), .int (zI (i 17)), .int (zI (i 18)), .ref (q 17), .ref (q 18), .ref (q 19), .ref (q 20)])), ((q 3), .inl (cI, 200, .inl (fun k => zI (g_now k)))), ((q 17), .inl (cI, 20, .inl (fun k => zI (g_rest k))))]) hP rfl
        have hD := hD.sub (ws' := [(y, .inr (9, [.int (zI (i 0)), .ref (q 0), .int (zI (i 1)), .int (zI (i 2)), .int (zI (i 3)), .int (zI (i 4)), .int (zI (i 5)), .int (zI (i 6)), .int (zI (i 7)), .int (zI (i 8)), .int (zI (i 9)), .int (zI (i 10)), .ref (q 1), .int (zI (i 11)), .int (zI (i 12)), .ref (q 2), .ref (q 3), .ref (q 4), .ref (q 5), .ref (q 6), .ref (q 7), .ref (q 8), .ref (q 9), .ref (q 10), .ref (q 11), .ref (q 12), .ref (q 13), .ref (q 14), .ref (q 15), .ref (q 16), .int (zI (i 13)), .int (zI (i 14)), .int (zI (i 15)), .int (zI (i 16)), .int (zI (i 17)), .int (zI (i 18)), .ref (q 17), .ref (q 18), .ref (q 19), .ref (q 20)])), ((q 3), .inl (cI, 200, .inl (fun k => zI (g_now k)))), ((q 17), .inl (cI, 20, .inl (fun k => zI (g_rest k))))]) [0, 2, 1] (by decide) rfl
        exact ih1 z70 (v4 + 1) _ _ (by omega) (by omega) hP hD hS ls (lv_sub hl [0, 2, 1, 3, 4] rfl)
theorem dX9_layRest_0 : decode cX9_layRest 0 = .ok (.iconst 0, 1) := bo_3 (by decide +kernel)
theorem dX9_layRest_1 : decode cX9_layRest 1 = .ok (.istore_n 1, 1) := bo_60 (by decide +kernel)
theorem dX9_layRest_2 : decode cX9_layRest 2 = .ok (.iload_n 1, 1) := bo_27 (by decide +kernel)
theorem dX9_layRest_3 : decode cX9_layRest 3 = .ok (.bipush 20, 2) := bo_16 20 (by decide +kernel)
theorem dX9_layRest_5 : decode cX9_layRest 5 = .ok (.if_icmp .ge 37, 3) := bo_162 0 37 (by decide +kernel)
theorem dX9_layRest_42 : decode cX9_layRest 42 = .ok (.return_, 1) := bo_177 (by decide +kernel)
theorem dX9_layRest_8 : decode cX9_layRest 8 = .ok (.aload_n 0, 1) := bo_42 (by decide +kernel)
theorem dX9_layRest_9 : decode cX9_layRest 9 = .ok (.getfield 65, 3) := bo_180 0 65 (by decide +kernel)
theorem dX9_layRest_12 : decode cX9_layRest 12 = .ok (.iload_n 1, 1) := bo_27 (by decide +kernel)
theorem dX9_layRest_13 : decode cX9_layRest 13 = .ok (.iload_n 1, 1) := bo_27 (by decide +kernel)
theorem dX9_layRest_14 : decode cX9_layRest 14 = .ok (.iconst 2, 1) := bo_5 (by decide +kernel)
theorem dX9_layRest_15 : decode cX9_layRest 15 = .ok (.aload_n 0, 1) := bo_42 (by decide +kernel)
theorem dX9_layRest_16 : decode cX9_layRest 16 = .ok (.getfield 213, 3) := bo_180 0 213 (by decide +kernel)
theorem dX9_layRest_19 : decode cX9_layRest 19 = .ok (.imul, 1) := bo_104 (by decide +kernel)
theorem dX9_layRest_20 : decode cX9_layRest 20 = .ok (.if_icmp .ge 14, 3) := bo_162 0 14 (by decide +kernel)
theorem dX9_layRest_34 : decode cX9_layRest 34 = .ok (.iconst 0, 1) := bo_3 (by decide +kernel)
theorem dX9_layRest_35 : decode cX9_layRest 35 = .ok (.iastore, 1) := bo_79 (by decide +kernel)
theorem dX9_layRest_36 : decode cX9_layRest 36 = .ok (.iinc 1 1, 3) := bo_132 1 1 (by decide +kernel)
theorem dX9_layRest_39 : decode cX9_layRest 39 = .ok (.goto (-37), 3) := bo_167 255 219 (by decide +kernel)
theorem dX9_layRest_23 : decode cX9_layRest 23 = .ok (.aload_n 0, 1) := bo_42 (by decide +kernel)
theorem dX9_layRest_24 : decode cX9_layRest 24 = .ok (.getfield 23, 3) := bo_180 0 23 (by decide +kernel)
theorem dX9_layRest_27 : decode cX9_layRest 27 = .ok (.iload_n 1, 1) := bo_27 (by decide +kernel)
theorem dX9_layRest_28 : decode cX9_layRest 28 = .ok (.invokestatic 297, 3) := bo_184 1 41 (by decide +kernel)
theorem dX9_layRest_31 : decode cX9_layRest 31 = .ok (.goto 4, 3) := bo_167 0 4 (by decide +kernel)
abbrev rm_X9_layRest : Room := { frames := 1, cells := 0, slots := 0, locals := 23 }
set_option maxRecDepth 100000 in
set_option maxHeartbeats 8000000 in
theorem c_X9_layRest {l : Launch} {E : (Nat → Prop) → State → Prop} (hO : bw_Ok E) {G : va_G} {cI cB cJ cN cW : ClassId} (y : Nat) (q : Nat → Nat) (i : Nat → Int) (hM : ModOk i) (g_now : Nat → Int) (g_rest : Nat → Int) (hr_rest : ∀ k, k < 20 → 0 ≤ g_rest k ∧ g_rest k ≤ 9) (hpn : ProgOk g_now) : bw_Cv (S := zV) l yX9_layRest (bw_ws (Cond.code yX9_layRest cX9_layRest 2 none)) rm_X9_layRest E G (bw_kt cI cB cJ cN cW) [.ref y] [(y, .inr (9, [.int (zI (i 0)), .ref (q 0), .int (zI (i 1)), .int (zI (i 2)), .int (zI (i 3)), .int (zI (i 4)), .int (zI (i 5)), .int (zI (i 6)), .int (zI (i 7)), .int (zI (i 8)), .int (zI (i 9)), .int (zI (i 10)), .ref (q 1), .int (zI (i 11)), .int (zI (i 12)), .ref (q 2), .ref (q 3), .ref (q 4), .ref (q 5), .ref (q 6), .ref (q 7), .ref (q 8), .ref (q 9), .ref (q 10), .ref (q 11), .ref (q 12), .ref (q 13), .ref (q 14), .ref (q 15), .ref (q 16), .int (zI (i 13)), .int (zI (i 14)), .int (zI (i 15)), .int (zI (i 16)), .int (zI (i 17)), .int (zI (i 18)), .ref (q 17), .ref (q 18), .ref (q 19), .ref (q 20)])), ((q 3), .inl (cI, 200, .inl (fun k => zI (g_now k)))), ((q 17), .inl (cI, 20, .inl (fun k => zI (g_rest k))))] (fun u => (∀ k, k < 20 → 0 ≤ ((u 1).2 0) k ∧ ((u 1).2 0) k ≤ 9) ∧ (True)) (fun u => [(y, .inr (9, [.int (zI (i 0)), .ref (q 0), .int (zI (i 1)), .int (zI (i 2)), .int (zI (i 3)), .int (zI (i 4)), .int (zI (i 5)), .int (zI (i 6)), .int (zI (i 7)), .int (zI (i 8)), .int (zI (i 9)), .int (zI (i 10)), .ref (q 1), .int (zI (i 11)), .int (zI (i 12)), .ref (q 2), .ref (q 3), .ref (q 4), .ref (q 5), .ref (q 6), .ref (q 7), .ref (q 8), .ref (q 9), .ref (q 10), .ref (q 11), .ref (q 12), .ref (q 13), .ref (q 14), .ref (q 15), .ref (q 16), .int (zI (i 13)), .int (zI (i 14)), .int (zI (i 15)), .int (zI (i 16)), .int (zI (i 17)), .int (zI (i 18)), .ref (q 17), .ref (q 18), .ref (q 19), .ref (q 20)])), ((q 3), .inl (cI, 200, .inl (fun k => zI (g_now k)))), ((q 17), .inl (cI, 20, .inl (fun k => zI (((u 1).2 0) k))))]) := by
  refine bw_Cv.of (cc := cX9_layRest) (maxL := 2) (by decide) rfl (Nat.le_of_ble_eq_true rfl) ?_
  intro p e s m below meth c A Q hx hb hml hts hown hin hK hA hS hP hD hE ret ls hl
  have F : CallFix p m c cX9_layRest 2 s ([.ref y] : List Value).toArray bw_T RX9 := ⟨hx, hb, hml, hown, fun w h => hts w (List.mem_cons_of_mem _ h)⟩
  replace hl : lv_has ls 2 [(0, .ref y)] := hl
  have hf1 := hM.1
  refine lv_iconst (v := zI 0) hx hb dX9_layRest_0 rfl ?_
  refine lv_istore_n (lv' := [(1, .int (zI 0)), (0, .ref y)]) hx hb dX9_layRest_1 rfl hl (by decide) rfl (fun ls hl => ?_)
  refine W.widen (k := 0) (n := 0) (Nat.le_of_ble_eq_true rfl) (Nat.le_of_ble_eq_true rfl) ?_
  refine (?_ : ∀ (n9_1 : Nat) (v1 : Int) (gr9 : Nat → Int) (H : Heap) (locs : List Loc), (0 ≤ v1 ∧ v1 ≤ 20) → (20 - v1 : Int).toNat < n9_1 → (∀ k, k < 20 → 0 ≤ gr9 k ∧ gr9 k ≤ 9) → va_P G vwCl [(y, .inr (9, [.int (zI (i 0)), .ref (q 0), .int (zI (i 1)), .int (zI (i 2)), .int (zI (i 3)), .int (zI (i 4)), .int (zI (i 5)), .int (zI (i 6)), .int (zI (i 7)), .int (zI (i 8)), .int (zI (i 9)), .int (zI (i 10)), .ref (q 1), .int (zI (i 11)), .int (zI (i 12)), .ref (q 2), .ref (q 3), .ref (q 4), .ref (q 5), .ref (q 6), .ref (q 7), .ref (q 8), .ref (q 9), .ref (q 10), .ref (q 11), .ref (q 12), .ref (q 13), .ref (q 14), .ref (q 15), .ref (q 16), .int (zI (i 13)), .int (zI (i 14)), .int (zI (i 15)), .int (zI (i 16)), .int (zI (i 17)), .int (zI (i 18)), .ref (q 17), .ref (q 18), .ref (q 19), .ref (q 20)])), ((q 3), .inl (cI, 200, .inl (fun k => zI (g_now k)))), ((q 17), .inl (cI, 20, .inl (fun k => zI (gr9 k))))] H → va_D A [(y, .inr (9, [.int (zI (i 0)), .ref (q 0), .int (zI (i 1)), .int (zI (i 2)), .int (zI (i 3)), .int (zI (i 4)), .int (zI (i 5)), .int (zI (i 6)), .int (zI (i 7)), .int (zI (i 8)), .int (zI (i 9)), .int (zI (i 10)), .ref (q 1), .int (zI (i 11)), .int (zI (i 12)), .ref (q 2), .ref (q 3), .ref (q 4), .ref (q 5), .ref (q 6), .ref (q 7), .ref (q 8), .ref (q 9), .ref (q 10), .ref (q 11), .ref (q 12), .ref (q 13), .ref (q 14), .ref (q 15), .ref (q 16), .int (zI (i 13)), .int (zI (i 14)), .int (zI (i 15)), .int (zI (i 16)), .int (zI (i 17)), .int (zI (i 18)), .ref (q 17), .ref (q 18), .ref (q 19), .ref (q 20)])), ((q 3), .inl (cI, 200, .inl (fun k => zI (g_now k)))), ((q 17), .inl (cI, 20, .inl (fun k => zI (gr9 k))))] → va_S A s.heap H locs → ∀ ls : Array Slot, lv_has ls 2 [(1, .int (zI v1)), (0, .ref y)] → W p l e rm_X9_layRest s m ([.ref y] : List Value).toArray below meth c H locs 0 0 Q (F0 m 2 ls [])) ((20 - 0 : Int).toNat + 1) 0 g_rest _ _ (by omega) (by omega) hr_rest hP hD hS ls hl
  clear hP hD hS hl ls
  intro n9_1
  induction n9_1 with
  | zero =>
    intro v1 gr9 H locs hI hM
    exact absurd hM (by omega)
  | succ n9_1 ih1 =>
    intro v1 gr9 H locs hI1 hM1 h_gr9 hP hD hS ls hl
    refine lv_iload_n hx hb dX9_layRest_2 rfl (lv_at hl 0 rfl) ?_
    refine lv_bipush (v := zI 20) hx hb dX9_layRest_3 (by decide) ?_
    refine rz_icmp_ge (tgt := 42) F (by omega) (by omega) dX9_layRest_5 (by decide) (fun h5_1 => ?_) (fun h5_1 => ?_)
    · exact ret (fun k => [((fun _ => 0), fun _ _ => 0), (fun _ => 0, fun _ => gr9)].getD k (fun _ => 0, fun _ _ => 0)) _ _ _ _ _ _ ⟨h_gr9, trivial⟩ (bw_subP (isC := [0, 1, 2]) hP rfl) (hD.sub [0, 1, 2] (by decide) rfl) hS (Nat.le_of_ble_eq_true rfl) (Nat.le_of_ble_eq_true rfl) dX9_layRest_42
    · refine lv_aload_n hx hb dX9_layRest_8 rfl (lv_at hl 1 rfl) ?_
      refine r_get F hK hP 0 36 rfl rfl in_X9 (by decide) k_1199 rfl dX9_layRest_9 ?_
      refine lv_iload_n hx hb dX9_layRest_12 rfl (lv_at hl 0 rfl) ?_
      refine lv_iload_n hx hb dX9_layRest_13 rfl (lv_at hl 0 rfl) ?_
      refine lv_iconst (v := zI 2) hx hb dX9_layRest_14 rfl ?_
      refine lv_aload_n hx hb dX9_layRest_15 rfl (lv_at hl 1 rfl) ?_
      refine r_get F hK hP 0 30 rfl rfl in_X9 (by decide) k_1193 rfl dX9_layRest_16 ?_
      refine r_imul (v := zI (2 * (i 13))) F dX9_layRest_19 (zI_mul _ _) ?_
      refine rz_icmp_ge (tgt := 34) F (by omega) (by omega) dX9_layRest_20 (by decide) (fun h20_2 => ?_) (fun h20_2 => ?_)
      · refine lv_iconst (v := zI 0) hx hb dX9_layRest_34 rfl ?_
        refine rz_iastG F hK hP hD hS 2 0 rfl rfl (by omega) (by omega) dX9_layRest_35 (w1 := fun g4 => [(y, .inr (9, [.int (zI (i 0)), .ref (q 0), .int (zI (i 1)), .int (zI (i 2)), .int (zI (i 3)), .int (zI (i 4)), .int (zI (i 5)), .int (zI (i 6)), .int (zI (i 7)), .int (zI (i 8)), .int (zI (i 9)), .int (zI (i 10)), .ref (q 1), .int (zI (i 11)), .int (zI (i 12)), .ref (q 2), .ref (q 3), .ref (q 4), .ref (q 5), .ref (q 6), .ref (q 7), .ref (q 8), .ref (q 9), .ref (q 10), .ref (q 11), .ref (q 12), .ref (q 13), .ref (q 14), .ref (q 15), .ref (q 16), .int (zI (i 13)), .int (zI (i 14)), .int (zI (i 15)), .int (zI (i 16)), .int (zI (i 17)), .int (zI (i 18)), .ref (q 17), .ref (q 18), .ref (q 19), .ref (q 20)])), ((q 3), .inl (cI, 200, .inl (fun k => zI (g_now k)))), ((q 17), .inl (cI, 20, .inl (fun k => zI (g4 k))))]) (fun _ => rfl) (fun g4 e_g4 H locs hP hD hS => ?_)
        have h_g4 : ∀ k, k < 20 → 0 ≤ g4 k ∧ g4 k ≤ 9 := by rw [e_g4]; exact uZ_all (P := fun _ y9 => 0 ≤ y9 ∧ y9 ≤ 9) h_gr9 (fun _ => by omega)
        refine lv_iinc (v := zI (v1 + 1)) (lv' := [(1, .int (zI (v1 + 1))), (0, .ref y)]) hx hb dX9_layRest_36 hl (k := 0) rfl (zI_add _ _) (by decide) rfl (fun ls hl => ?_)
        refine lv_goto (tgt := 2) hx hb dX9_layRest_39 (by decide) ?_
        exact ih1 (v1 + 1) g4 _ _ (by omega) (by omega) h_g4 hP hD hS ls (lv_sub hl [0, 1] rfl)
      · refine lv_aload_n hx hb dX9_layRest_23 rfl (lv_at hl 1 rfl) ?_
        refine r_get F hK hP 0 16 rfl rfl in_X9 (by decide) k_1179 rfl dX9_layRest_24 ?_
        refine lv_iload_n hx hb dX9_layRest_27 rfl (lv_at hl 0 rfl) ?_
        refine r_callSi (As := [.ref (q 3), .int (zI v1)]) (rest := [.int (zI v1), .ref (q 17)]) (wr := [(y, .inr (9, [.int (zI (i 0)), .ref (q 0), .int (zI (i 1)), .int (zI (i 2)), .int (zI (i 3)), .int (zI (i 4)), .int (zI (i 5)), .int (zI (i 6)), .int (zI (i 7)), .int (zI (i 8)), .int (zI (i 9)), .int (zI (i 10)), .ref (q 1), .int (zI (i 11)), .int (zI (i 12)), .ref (q 2), .ref (q 3), .ref (q 4), .ref (q 5), .ref (q 6), .ref (q 7), .ref (q 8), .ref (q 9), .ref (q 10), .ref (q 11), .ref (q 12), .ref (q 13), .ref (q 14), .ref (q 15), .ref (q 16), .int (zI (i 13)), .int (zI (i 14)), .int (zI (i 15)), .int (zI (i 16)), .int (zI (i 17)), .int (zI (i 18)), .ref (q 17), .ref (q 18), .ref (q 19), .ref (q 20)])), ((q 17), .inl (cI, 20, .inl (fun k => zI (gr9 k))))]) F hK hP hD hS hA hO hE (c_X9_laid hO (q 3) g_now v1 (by omega) hpn (by omega)) k_1489 ks_X9_laid 2 rfl (by decide +kernel) ⟨Nat.le_of_ble_eq_true rfl, Nat.le_of_ble_eq_true rfl⟩ [1] [0, 2] rfl rfl (by decide) (by decide) (by decide) hl.1 rfl (Nat.le_of_ble_eq_true rfl) dX9_layRest_28 ⟨Nat.le_of_ble_eq_true rfl, Nat.le_of_ble_eq_true rfl⟩ (w1 := fun u5 => [(y, .inr (9, [.int (zI (i 0)), .ref (q 0), .int (zI (i 1)), .int (zI (i 2)), .int (zI (i 3)), .int (zI (i 4)), .int (zI (i 5)), .int (zI (i 6)), .int (zI (i 7)), .int (zI (i 8)), .int (zI (i 9)), .int (zI (i 10)), .ref (q 1), .int (zI (i 11)), .int (zI (i 12)), .ref (q 2), .ref (q 3), .ref (q 4), .ref (q 5), .ref (q 6), .ref (q 7), .ref (q 8), .ref (q 9), .ref (q 10), .ref (q 11), .ref (q 12), .ref (q 13), .ref (q 14), .ref (q 15), .ref (q 16), .int (zI (i 13)), .int (zI (i 14)), .int (zI (i 15)), .int (zI (i 16)), .int (zI (i 17)), .int (zI (i 18)), .ref (q 17), .ref (q 18), .ref (q 19), .ref (q 20)])), ((q 17), .inl (cI, 20, .inl (fun k => zI (gr9 k)))), ((q 3), .inl (cI, 200, .inl (fun k => zI (g_now k))))]) (fun _ => rfl) (fun r6 u5 H locs hp7 hP hD hS => ?_)
        obtain ⟨z8, rfl, h_z8⟩ := hp7
        refine lv_goto (tgt := 35) hx hb dX9_layRest_31 (by decide) ?_
        refine rz_iastG F hK hP hD hS 1 0 rfl rfl (by omega) (by omega) dX9_layRest_35 (w1 := fun g9 => [(y, .inr (9, [.int (zI (i 0)), .ref (q 0), .int (zI (i 1)), .int (zI (i 2)), .int (zI (i 3)), .int (zI (i 4)), .int (zI (i 5)), .int (zI (i 6)), .int (zI (i 7)), .int (zI (i 8)), .int (zI (i 9)), .int (zI (i 10)), .ref (q 1), .int (zI (i 11)), .int (zI (i 12)), .ref (q 2), .ref (q 3), .ref (q 4), .ref (q 5), .ref (q 6), .ref (q 7), .ref (q 8), .ref (q 9), .ref (q 10), .ref (q 11), .ref (q 12), .ref (q 13), .ref (q 14), .ref (q 15), .ref (q 16), .int (zI (i 13)), .int (zI (i 14)), .int (zI (i 15)), .int (zI (i 16)), .int (zI (i 17)), .int (zI (i 18)), .ref (q 17), .ref (q 18), .ref (q 19), .ref (q 20)])), ((q 17), .inl (cI, 20, .inl (fun k => zI (g9 k)))), ((q 3), .inl (cI, 200, .inl (fun k => zI (g_now k))))]) (fun _ => rfl) (fun g9 e_g9 H locs hP hD hS => ?_)
        have h_g9 : ∀ k, k < 20 → 0 ≤ g9 k ∧ g9 k ≤ 9 := by rw [e_g9]; exact uZ_all (P := fun _ y9 => 0 ≤ y9 ∧ y9 ≤ 9) h_gr9 (fun _ => by omega)
        refine lv_iinc (v := zI (v1 + 1)) (lv' := [(1, .int (zI (v1 + 1))), (0, .ref y)]) hx hb dX9_layRest_36 hl (k := 0) rfl (zI_add _ _) (by decide) rfl (fun ls hl => ?_)
        refine lv_goto (tgt := 2) hx hb dX9_layRest_39 (by decide) ?_
        have hP := bw_subP (isC := [0, 2, 1]) (wc := [(y, .inr (9, [.int (zI (i 0)), .ref (q 0), .int (zI (i 1)), .int (zI (i 2)), .int (zI (i 3)), .int (zI (i 4)), .int (zI (i 5)), .int (zI (i 6)), .int (zI (i 7)), .int (zI (i 8)), .int (zI (i 9)), .int (zI (i 10)), .ref (q 1), .int (zI (i 11)), .int (zI (i 12)), .ref (q 2), .ref (q 3), .ref (q 4), .ref (q 5), .ref (q 6), .ref (q 7), .ref (q 8), .ref (q 9), .ref (q 10), .ref (q 11), .ref (q 12), .ref (q 13), .ref (q 14), .ref (q 15), .ref (q 16), .int (zI (i 13)), .int (zI (i 14)), .int (zI (i 15)), .int (zI (i 16)), .int (zI (i 17)), .int (zI (i 18)), .ref (q 17), .ref (q 18), .ref (q 19), .ref (q 20)])), ((q 3), .inl (cI, 200, .inl (fun k => zI (g_now k)))), ((q 17), .inl (cI, 20, .inl (fun k => zI (g9 k))))]) hP rfl
        have hD := hD.sub (ws' := [(y, .inr (9, [.int (zI (i 0)), .ref (q 0), .int (zI (i 1)), .int (zI (i 2)), .int (zI (i 3)), .int (zI (i 4)), .int (zI (i 5)), .int (zI (i 6)), .int (zI (i 7)), .int (zI (i 8)), .int (zI (i 9)), .int (zI (i 10)), .ref (q 1), .int (zI (i 11)), .int (zI (i 12)), .ref (q 2), .ref (q 3), .ref (q 4), .ref (q 5), .ref (q 6), .ref (q 7), .ref (q 8), .ref (q 9), .ref (q 10), .ref (q 11), .ref (q 12), .ref (q 13), .ref (q 14), .ref (q 15), .ref (q 16), .int (zI (i 13)), .int (zI (i 14)), .int (zI (i 15)), .int (zI (i 16)), .int (zI (i 17)), .int (zI (i 18)), .ref (q 17), .ref (q 18), .ref (q 19), .ref (q 20)])), ((q 3), .inl (cI, 200, .inl (fun k => zI (g_now k)))), ((q 17), .inl (cI, 20, .inl (fun k => zI (g9 k))))]) [0, 2, 1] (by decide) rfl
        exact ih1 (v1 + 1) g9 _ _ (by omega) (by omega) h_g9 hP hD hS ls (lv_sub hl [0, 1] rfl)
theorem dX9_even_0 : decode cX9_even 0 = .ok (.aload_n 0, 1) := bo_42 (by decide +kernel)
theorem dX9_even_1 : decode cX9_even 1 = .ok (.invokevirtual 197, 3) := bo_182 0 197 (by decide +kernel)
theorem dX9_even_4 : decode cX9_even 4 = .ok (.aload_n 0, 1) := bo_42 (by decide +kernel)
theorem dX9_even_5 : decode cX9_even 5 = .ok (.getfield 222, 3) := bo_180 0 222 (by decide +kernel)
theorem dX9_even_8 : decode cX9_even 8 = .ok (.ifCond .ne 9, 3) := bo_154 0 9 (by decide +kernel)
theorem dX9_even_17 : decode cX9_even 17 = .ok (.aload_n 0, 1) := bo_42 (by decide +kernel)
theorem dX9_even_18 : decode cX9_even 18 = .ok (.invokevirtual 339, 3) := bo_182 1 83 (by decide +kernel)
theorem k_1589 : Cond.methodLink RX9 339 yX9_layRest ∈ bw_T := bw_m 1589 (by decide +kernel) rfl
theorem kv_X9_layRest : bw_KV RX9 yX9_layRest (Cond.code yX9_layRest cX9_layRest 2 none) := ⟨bw_m 1591 (by decide +kernel) rfl, bw_m 78 (by decide +kernel) rfl, bw_m 107 (by decide +kernel) rfl, bw_m 1592 (by decide +kernel) rfl⟩
theorem dX9_even_21 : decode cX9_even 21 = .ok (.aload_n 0, 1) := bo_42 (by decide +kernel)
theorem dX9_even_22 : decode cX9_even 22 = .ok (.iconst 0, 1) := bo_3 (by decide +kernel)
theorem dX9_even_23 : decode cX9_even 23 = .ok (.invokevirtual 342, 3) := bo_182 1 86 (by decide +kernel)
theorem k_1593 : Cond.methodLink RX9 342 yX9_isEven ∈ bw_T := bw_m 1593 (by decide +kernel) rfl
theorem kv_X9_isEven : bw_KV RX9 yX9_isEven (Cond.code yX9_isEven cX9_isEven 10 (some .boolean)) := ⟨bw_m 1595 (by decide +kernel) rfl, bw_m 79 (by decide +kernel) rfl, bw_m 107 (by decide +kernel) rfl, bw_m 1596 (by decide +kernel) rfl⟩
theorem dX9_even_26 : decode cX9_even 26 = .ok (.ifCond .eq 7, 3) := bo_153 0 7 (by decide +kernel)
theorem dX9_even_33 : decode cX9_even 33 = .ok (.iconst 0, 1) := bo_3 (by decide +kernel)
theorem dX9_even_34 : decode cX9_even 34 = .ok (.ireturn, 1) := bo_172 (by decide +kernel)
theorem dX9_even_29 : decode cX9_even 29 = .ok (.iconst 1, 1) := bo_4 (by decide +kernel)
theorem dX9_even_30 : decode cX9_even 30 = .ok (.goto 4, 3) := bo_167 0 4 (by decide +kernel)
theorem dX9_even_11 : decode cX9_even 11 = .ok (.aload_n 0, 1) := bo_42 (by decide +kernel)
theorem dX9_even_12 : decode cX9_even 12 = .ok (.iconst 1, 1) := bo_4 (by decide +kernel)
theorem dX9_even_13 : decode cX9_even 13 = .ok (.invokevirtual 200, 3) := bo_182 0 200 (by decide +kernel)
theorem dX9_even_16 : decode cX9_even 16 = .ok (.ireturn, 1) := bo_172 (by decide +kernel)
abbrev rm_X9_even : Room := { frames := 2, cells := 0, slots := 0, locals := 50 }
set_option maxRecDepth 100000 in
set_option maxHeartbeats 8000000 in
theorem c_X9_even {l : Launch} {E : (Nat → Prop) → State → Prop} (hO : bw_Ok E) {G : va_G} {cI cB cJ cN cW : ClassId} (y : Nat) (q : Nat → Nat) (i : Nat → Int) (hM : ModOk i) (g_now : Nat → Int) (g_rest : Nat → Int) (hr_rest : ∀ k, k < 20 → 0 ≤ g_rest k ∧ g_rest k ≤ 9) (hpn : ProgOk g_now) : bw_Ci (S := zV) l yX9_even (bw_ws (Cond.code yX9_even cX9_even 1 (some .int))) rm_X9_even E G (bw_kt cI cB cJ cN cW) [.ref y] [(y, .inr (9, [.int (zI (i 0)), .ref (q 0), .int (zI (i 1)), .int (zI (i 2)), .int (zI (i 3)), .int (zI (i 4)), .int (zI (i 5)), .int (zI (i 6)), .int (zI (i 7)), .int (zI (i 8)), .int (zI (i 9)), .int (zI (i 10)), .ref (q 1), .int (zI (i 11)), .int (zI (i 12)), .ref (q 2), .ref (q 3), .ref (q 4), .ref (q 5), .ref (q 6), .ref (q 7), .ref (q 8), .ref (q 9), .ref (q 10), .ref (q 11), .ref (q 12), .ref (q 13), .ref (q 14), .ref (q 15), .ref (q 16), .int (zI (i 13)), .int (zI (i 14)), .int (zI (i 15)), .int (zI (i 16)), .int (zI (i 17)), .int (zI (i 18)), .ref (q 17), .ref (q 18), .ref (q 19), .ref (q 20)])), ((q 3), .inl (cI, 200, .inl (fun k => zI (g_now k)))), ((q 17), .inl (cI, 20, .inl (fun k => zI (g_rest k))))] (fun r u => ∃ z : Int, r = zI z ∧ (ModOk (u 0).1) ∧ (∀ k, k < 20 → 0 ≤ ((u 1).2 0) k ∧ ((u 1).2 0) k ≤ 9) ∧ (((u 0).1 1 = i 1 ∧ (u 0).1 8 = i 8 ∧ (u 0).1 9 = i 9 ∧ (u 0).1 12 = i 12 ∧ (u 0).1 13 = i 13 ∧ (u 0).1 15 = i 15 ∧ (u 0).1 17 = i 17 ∧ (u 0).1 10 ≠ 4))) (fun u => [(y, .inr (9, [.int (zI ((u 0).1 0)), .ref (q 0), .int (zI ((u 0).1 1)), .int (zI ((u 0).1 2)), .int (zI ((u 0).1 3)), .int (zI ((u 0).1 4)), .int (zI ((u 0).1 5)), .int (zI ((u 0).1 6)), .int (zI ((u 0).1 7)), .int (zI ((u 0).1 8)), .int (zI ((u 0).1 9)), .int (zI ((u 0).1 10)), .ref (q 1), .int (zI ((u 0).1 11)), .int (zI ((u 0).1 12)), .ref (q 2), .ref (q 3), .ref (q 4), .ref (q 5), .ref (q 6), .ref (q 7), .ref (q 8), .ref (q 9), .ref (q 10), .ref (q 11), .ref (q 12), .ref (q 13), .ref (q 14), .ref (q 15), .ref (q 16), .int (zI ((u 0).1 13)), .int (zI ((u 0).1 14)), .int (zI ((u 0).1 15)), .int (zI ((u 0).1 16)), .int (zI ((u 0).1 17)), .int (zI ((u 0).1 18)), .ref (q 17), .ref (q 18), .ref (q 19), .ref (q 20)])), ((q 3), .inl (cI, 200, .inl (fun k => zI (g_now k)))), ((q 17), .inl (cI, 20, .inl (fun k => zI (((u 1).2 0) k))))]) := by
  refine bw_Ci.of (cc := cX9_even) (maxL := 1) (ty := .int) (by decide) rfl (Nat.le_of_ble_eq_true rfl) ?_
  intro p e s m below meth c A Q hx hb hml hts hown hin hK hA hS hP hD hE ret ls hl
  have F : CallFix p m c cX9_even 1 s ([.ref y] : List Value).toArray bw_T RX9 := ⟨hx, hb, hml, hown, fun w h => hts w (List.mem_cons_of_mem _ h)⟩
  replace hl : lv_has ls 1 [(0, .ref y)] := hl
  have hf1 := hM.1
  refine lv_aload_n hx hb dX9_even_0 rfl (lv_at hl 0 rfl) ?_
  refine r_callVv (As := []) (rest := []) (wr := [((q 3), .inl (cI, 200, .inl (fun k => zI (g_now k)))), ((q 17), .inl (cI, 20, .inl (fun k => zI (g_rest k))))]) F hK hP hD hS hA hO hE (c_X9_good hO y q i hM) k_1296 kv_X9_good 0 rfl (by decide +kernel) ⟨Nat.le_of_ble_eq_true rfl, Nat.le_of_ble_eq_true rfl⟩ [0] [1, 2] rfl rfl (by decide) (by decide) (by decide) 0 9 rfl rfl rfl hl.1 rfl (Nat.le_of_ble_eq_true rfl) dX9_even_1 ⟨Nat.le_of_ble_eq_true rfl, Nat.le_of_ble_eq_true rfl⟩ (w1 := fun u2 => [((q 3), .inl (cI, 200, .inl (fun k => zI (g_now k)))), ((q 17), .inl (cI, 20, .inl (fun k => zI (g_rest k)))), (y, .inr (9, [.int (zI ((u2 0).1 0)), .ref (q 0), .int (zI ((u2 0).1 1)), .int (zI ((u2 0).1 2)), .int (zI ((u2 0).1 3)), .int (zI ((u2 0).1 4)), .int (zI ((u2 0).1 5)), .int (zI ((u2 0).1 6)), .int (zI ((u2 0).1 7)), .int (zI ((u2 0).1 8)), .int (zI ((u2 0).1 9)), .int (zI ((u2 0).1 10)), .ref (q 1), .int (zI ((u2 0).1 11)), .int (zI ((u2 0).1 12)), .ref (q 2), .ref (q 3), .ref (q 4), .ref (q 5), .ref (q 6), .ref (q 7), .ref (q 8), .ref (q 9), .ref (q 10), .ref (q 11), .ref (q 12), .ref (q 13), .ref (q 14), .ref (q 15), .ref (q 16), .int (zI ((u2 0).1 13)), .int (zI ((u2 0).1 14)), .int (zI ((u2 0).1 15)), .int (zI ((u2 0).1 16)), .int (zI ((u2 0).1 17)), .int (zI ((u2 0).1 18)), .ref (q 17), .ref (q 18), .ref (q 19), .ref (q 20)]))]) (fun _ => rfl) (fun  u2 H locs hp3 hP hD hS => ?_)
  have hf4 := hp3.1.1
  refine lv_aload_n hx hb dX9_even_4 rfl (lv_at hl 0 rfl) ?_
  refine r_get F hK hP 2 14 rfl rfl in_X9 (by decide) k_1177 rfl dX9_even_5 ?_
  refine rz_ifb_ne (tgt := 17) F (by omega) dX9_even_8 (by decide) (fun h8_4 => ?_) (fun h8_4 => ?_)
  · refine lv_aload_n hx hb dX9_even_17 rfl (lv_at hl 0 rfl) ?_
    refine r_callVv (As := []) (rest := []) (wr := []) F hK hP hD hS hA hO hE (c_X9_layRest hO y q ((u2 0).1) hp3.1 g_now g_rest hr_rest hpn) k_1589 kv_X9_layRest 0 rfl (by decide +kernel) ⟨Nat.le_of_ble_eq_true rfl, Nat.le_of_ble_eq_true rfl⟩ [2, 0, 1] [] rfl rfl (by decide) (by decide) (by decide) 0 9 rfl rfl rfl hl.1 rfl (Nat.le_of_ble_eq_true rfl) dX9_even_18 ⟨Nat.le_of_ble_eq_true rfl, Nat.le_of_ble_eq_true rfl⟩ (w1 := fun u6 => [(y, .inr (9, [.int (zI ((u2 0).1 0)), .ref (q 0), .int (zI ((u2 0).1 1)), .int (zI ((u2 0).1 2)), .int (zI ((u2 0).1 3)), .int (zI ((u2 0).1 4)), .int (zI ((u2 0).1 5)), .int (zI ((u2 0).1 6)), .int (zI ((u2 0).1 7)), .int (zI ((u2 0).1 8)), .int (zI ((u2 0).1 9)), .int (zI ((u2 0).1 10)), .ref (q 1), .int (zI ((u2 0).1 11)), .int (zI ((u2 0).1 12)), .ref (q 2), .ref (q 3), .ref (q 4), .ref (q 5), .ref (q 6), .ref (q 7), .ref (q 8), .ref (q 9), .ref (q 10), .ref (q 11), .ref (q 12), .ref (q 13), .ref (q 14), .ref (q 15), .ref (q 16), .int (zI ((u2 0).1 13)), .int (zI ((u2 0).1 14)), .int (zI ((u2 0).1 15)), .int (zI ((u2 0).1 16)), .int (zI ((u2 0).1 17)), .int (zI ((u2 0).1 18)), .ref (q 17), .ref (q 18), .ref (q 19), .ref (q 20)])), ((q 3), .inl (cI, 200, .inl (fun k => zI (g_now k)))), ((q 17), .inl (cI, 20, .inl (fun k => zI (((u6 1).2 0) k))))]) (fun _ => rfl) (fun  u6 H locs hp7 hP hD hS => ?_)
    refine lv_aload_n hx hb dX9_even_21 rfl (lv_at hl 0 rfl) ?_
    refine lv_iconst (v := zI 0) hx hb dX9_even_22 rfl ?_
    refine r_callVi (As := [.int (zI 0)]) (rest := []) (wr := []) F hK hP hD hS hA hO hE (c_X9_isEven hO y q ((u2 0).1) hp3.1 g_now ((u6 1).2 0) hp7.1 0 (by omega) hpn (by omega)) k_1593 kv_X9_isEven 1 rfl (by decide +kernel) ⟨Nat.le_of_ble_eq_true rfl, Nat.le_of_ble_eq_true rfl⟩ [0, 1, 2] [] rfl rfl (by decide) (by decide) (by decide) 0 9 rfl rfl rfl hl.1 rfl (Nat.le_of_ble_eq_true rfl) dX9_even_23 ⟨Nat.le_of_ble_eq_true rfl, Nat.le_of_ble_eq_true rfl⟩ (w1 := fun u8 => [(y, .inr (9, [.int (zI ((u2 0).1 0)), .ref (q 0), .int (zI ((u2 0).1 1)), .int (zI ((u2 0).1 2)), .int (zI ((u2 0).1 3)), .int (zI ((u2 0).1 4)), .int (zI ((u2 0).1 5)), .int (zI ((u2 0).1 6)), .int (zI ((u2 0).1 7)), .int (zI ((u2 0).1 8)), .int (zI ((u2 0).1 9)), .int (zI ((u2 0).1 10)), .ref (q 1), .int (zI ((u2 0).1 11)), .int (zI ((u2 0).1 12)), .ref (q 2), .ref (q 3), .ref (q 4), .ref (q 5), .ref (q 6), .ref (q 7), .ref (q 8), .ref (q 9), .ref (q 10), .ref (q 11), .ref (q 12), .ref (q 13), .ref (q 14), .ref (q 15), .ref (q 16), .int (zI ((u2 0).1 13)), .int (zI ((u2 0).1 14)), .int (zI ((u2 0).1 15)), .int (zI ((u2 0).1 16)), .int (zI ((u2 0).1 17)), .int (zI ((u2 0).1 18)), .ref (q 17), .ref (q 18), .ref (q 19), .ref (q 20)])), ((q 3), .inl (cI, 200, .inl (fun k => zI (g_now k)))), ((q 17), .inl (cI, 20, .inl (fun k => zI (((u6 1).2 0) k))))]) (fun _ => rfl) (fun r9 u8 H locs hp10 hP hD hS => ?_)
    obtain ⟨z11, rfl, h_z11⟩ := hp10
    refine rz_ifb_eq (tgt := 33) F (by omega) dX9_even_26 (by decide) (fun h26_11 => ?_) (fun h26_11 => ?_)
    · refine lv_iconst (v := zI 0) hx hb dX9_even_33 rfl ?_
      exact ret (zI 0) (fun k => [((u2 0).1, fun _ _ => 0), (fun _ => 0, fun _ => ((u6 1).2 0))].getD k (fun _ => 0, fun _ _ => 0)) _ _ _ _ _ _ rfl ⟨0, rfl, hp3.1, hp7.1, (show ((u2 0).1) 1 = i 1 ∧ ((u2 0).1) 8 = i 8 ∧ ((u2 0).1) 9 = i 9 ∧ ((u2 0).1) 12 = i 12 ∧ ((u2 0).1) 13 = i 13 ∧ ((u2 0).1) 15 = i 15 ∧ ((u2 0).1) 17 = i 17 ∧ ((u2 0).1) 10 ≠ 4 from by omega)⟩ (bw_subP (isC := [0, 1, 2]) hP rfl) (hD.sub [0, 1, 2] (by decide) rfl) hS (Nat.le_of_ble_eq_true rfl) (Nat.le_of_ble_eq_true rfl) dX9_even_34
    · refine lv_iconst (v := zI 1) hx hb dX9_even_29 rfl ?_
      refine lv_goto (tgt := 34) hx hb dX9_even_30 (by decide) ?_
      exact ret (zI 1) (fun k => [((u2 0).1, fun _ _ => 0), (fun _ => 0, fun _ => ((u6 1).2 0))].getD k (fun _ => 0, fun _ _ => 0)) _ _ _ _ _ _ rfl ⟨1, rfl, hp3.1, hp7.1, (show ((u2 0).1) 1 = i 1 ∧ ((u2 0).1) 8 = i 8 ∧ ((u2 0).1) 9 = i 9 ∧ ((u2 0).1) 12 = i 12 ∧ ((u2 0).1) 13 = i 13 ∧ ((u2 0).1) 15 = i 15 ∧ ((u2 0).1) 17 = i 17 ∧ ((u2 0).1) 10 ≠ 4 from by omega)⟩ (bw_subP (isC := [0, 1, 2]) hP rfl) (hD.sub [0, 1, 2] (by decide) rfl) hS (Nat.le_of_ble_eq_true rfl) (Nat.le_of_ble_eq_true rfl) dX9_even_34
  · refine lv_aload_n hx hb dX9_even_11 rfl (lv_at hl 0 rfl) ?_
    refine lv_iconst (v := zI 1) hx hb dX9_even_12 rfl ?_
    refine r_callVi (As := [.int (zI 1)]) (rest := []) (wr := [((q 3), .inl (cI, 200, .inl (fun k => zI (g_now k)))), ((q 17), .inl (cI, 20, .inl (fun k => zI (g_rest k))))]) F hK hP hD hS hA hO hE (c_X9_no hO y q ((u2 0).1) hp3.1 1 (by omega) (by omega)) k_1303 kv_X9_no 1 rfl (by decide +kernel) ⟨Nat.le_of_ble_eq_true rfl, Nat.le_of_ble_eq_true rfl⟩ [2] [0, 1] rfl rfl (by decide) (by decide) (by decide) 0 9 rfl rfl rfl hl.1 rfl (Nat.le_of_ble_eq_true rfl) dX9_even_13 ⟨Nat.le_of_ble_eq_true rfl, Nat.le_of_ble_eq_true rfl⟩ (w1 := fun u13 => [((q 3), .inl (cI, 200, .inl (fun k => zI (g_now k)))), ((q 17), .inl (cI, 20, .inl (fun k => zI (g_rest k)))), (y, .inr (9, [.int (zI ((u13 0).1 0)), .ref (q 0), .int (zI ((u13 0).1 1)), .int (zI ((u13 0).1 2)), .int (zI ((u13 0).1 3)), .int (zI ((u13 0).1 4)), .int (zI ((u13 0).1 5)), .int (zI ((u13 0).1 6)), .int (zI ((u13 0).1 7)), .int (zI ((u13 0).1 8)), .int (zI ((u13 0).1 9)), .int (zI ((u13 0).1 10)), .ref (q 1), .int (zI ((u13 0).1 11)), .int (zI ((u13 0).1 12)), .ref (q 2), .ref (q 3), .ref (q 4), .ref (q 5), .ref (q 6), .ref (q 7), .ref (q 8), .ref (q 9), .ref (q 10), .ref (q 11), .ref (q 12), .ref (q 13), .ref (q 14), .ref (q 15), .ref (q 16), .int (zI ((u13 0).1 13)), .int (zI ((u13 0).1 14)), .int (zI ((u13 0).1 15)), .int (zI ((u13 0).1 16)), .int (zI ((u13 0).1 17)), .int (zI ((u13 0).1 18)), .ref (q 17), .ref (q 18), .ref (q 19), .ref (q 20)]))]) (fun _ => rfl) (fun r14 u13 H locs hp15 hP hD hS => ?_)
    obtain ⟨z16, rfl, h_z16⟩ := hp15
    have hf17 := h_z16.1.1
    exact ret (zI z16) (fun k => [((u13 0).1, fun _ _ => 0), (fun _ => 0, fun _ => g_rest)].getD k (fun _ => 0, fun _ _ => 0)) _ _ _ _ _ _ rfl ⟨z16, rfl, h_z16.1, hr_rest, (show ((u13 0).1) 1 = i 1 ∧ ((u13 0).1) 8 = i 8 ∧ ((u13 0).1) 9 = i 9 ∧ ((u13 0).1) 12 = i 12 ∧ ((u13 0).1) 13 = i 13 ∧ ((u13 0).1) 15 = i 15 ∧ ((u13 0).1) 17 = i 17 ∧ ((u13 0).1) 10 ≠ 4 from by omega)⟩ (bw_subP (isC := [2, 0, 1]) hP rfl) (hD.sub [2, 0, 1] (by decide) rfl) hS (Nat.le_of_ble_eq_true rfl) (Nat.le_of_ble_eq_true rfl) dX9_even_16
theorem dX9_degree_0 : decode cX9_degree 0 = .ok (.aload_n 0, 1) := bo_42 (by decide +kernel)
theorem dX9_degree_1 : decode cX9_degree 1 = .ok (.invokevirtual 197, 3) := bo_182 0 197 (by decide +kernel)
theorem dX9_degree_4 : decode cX9_degree 4 = .ok (.aload_n 0, 1) := bo_42 (by decide +kernel)
theorem dX9_degree_5 : decode cX9_degree 5 = .ok (.getfield 222, 3) := bo_180 0 222 (by decide +kernel)
theorem dX9_degree_8 : decode cX9_degree 8 = .ok (.ifCond .eq 17, 3) := bo_153 0 17 (by decide +kernel)
theorem dX9_degree_25 : decode cX9_degree 25 = .ok (.aload_n 0, 1) := bo_42 (by decide +kernel)
theorem dX9_degree_26 : decode cX9_degree 26 = .ok (.iconst 1, 1) := bo_4 (by decide +kernel)
theorem dX9_degree_27 : decode cX9_degree 27 = .ok (.putfield 80, 3) := bo_181 0 80 (by decide +kernel)
theorem dX9_degree_30 : decode cX9_degree 30 = .ok (.sipush (-1000), 3) := bo_17 252 24 (by decide +kernel)
theorem dX9_degree_33 : decode cX9_degree 33 = .ok (.ireturn, 1) := bo_172 (by decide +kernel)
theorem dX9_degree_11 : decode cX9_degree 11 = .ok (.iload_n 1, 1) := bo_27 (by decide +kernel)
theorem dX9_degree_12 : decode cX9_degree 12 = .ok (.iconst 0, 1) := bo_3 (by decide +kernel)
theorem dX9_degree_13 : decode cX9_degree 13 = .ok (.aload_n 0, 1) := bo_42 (by decide +kernel)
theorem dX9_degree_14 : decode cX9_degree 14 = .ok (.getfield 213, 3) := bo_180 0 213 (by decide +kernel)
theorem dX9_degree_17 : decode cX9_degree 17 = .ok (.iconst 1, 1) := bo_4 (by decide +kernel)
theorem dX9_degree_18 : decode cX9_degree 18 = .ok (.isub, 1) := bo_100 (by decide +kernel)
theorem dX9_degree_19 : decode cX9_degree 19 = .ok (.invokestatic 146, 3) := bo_184 0 146 (by decide +kernel)
theorem dX9_degree_22 : decode cX9_degree 22 = .ok (.ifCond .ne 12, 3) := bo_154 0 12 (by decide +kernel)
theorem dX9_degree_34 : decode cX9_degree 34 = .ok (.iconst 0, 1) := bo_3 (by decide +kernel)
theorem dX9_degree_35 : decode cX9_degree 35 = .ok (.istore_n 2, 1) := bo_61 (by decide +kernel)
theorem dX9_degree_36 : decode cX9_degree 36 = .ok (.iconst 0, 1) := bo_3 (by decide +kernel)
theorem dX9_degree_37 : decode cX9_degree 37 = .ok (.istore_n 3, 1) := bo_62 (by decide +kernel)
theorem dX9_degree_38 : decode cX9_degree 38 = .ok (.iload_n 3, 1) := bo_29 (by decide +kernel)
theorem dX9_degree_39 : decode cX9_degree 39 = .ok (.iconst 2, 1) := bo_5 (by decide +kernel)
theorem dX9_degree_40 : decode cX9_degree 40 = .ok (.aload_n 0, 1) := bo_42 (by decide +kernel)
theorem dX9_degree_41 : decode cX9_degree 41 = .ok (.getfield 213, 3) := bo_180 0 213 (by decide +kernel)
theorem dX9_degree_44 : decode cX9_degree 44 = .ok (.imul, 1) := bo_104 (by decide +kernel)
theorem dX9_degree_45 : decode cX9_degree 45 = .ok (.if_icmp .ge 61, 3) := bo_162 0 61 (by decide +kernel)
theorem dX9_degree_106 : decode cX9_degree 106 = .ok (.iload_n 2, 1) := bo_28 (by decide +kernel)
theorem dX9_degree_107 : decode cX9_degree 107 = .ok (.ireturn, 1) := bo_172 (by decide +kernel)
theorem dX9_degree_48 : decode cX9_degree 48 = .ok (.aload_n 0, 1) := bo_42 (by decide +kernel)
theorem dX9_degree_49 : decode cX9_degree 49 = .ok (.getfield 23, 3) := bo_180 0 23 (by decide +kernel)
theorem dX9_degree_52 : decode cX9_degree 52 = .ok (.iload_n 3, 1) := bo_29 (by decide +kernel)
theorem dX9_degree_53 : decode cX9_degree 53 = .ok (.invokestatic 297, 3) := bo_184 1 41 (by decide +kernel)
theorem dX9_degree_56 : decode cX9_degree 56 = .ok (.istore 4, 2) := bo_54 (by decide +kernel)
theorem dX9_degree_58 : decode cX9_degree 58 = .ok (.iload_n 2, 1) := bo_28 (by decide +kernel)
theorem dX9_degree_59 : decode cX9_degree 59 = .ok (.iload_n 3, 1) := bo_29 (by decide +kernel)
theorem dX9_degree_60 : decode cX9_degree 60 = .ok (.iconst 2, 1) := bo_5 (by decide +kernel)
theorem dX9_degree_61 : decode cX9_degree 61 = .ok (.idiv, 1) := bo_108 (by decide +kernel)
theorem dX9_degree_62 : decode cX9_degree 62 = .ok (.iload_n 1, 1) := bo_27 (by decide +kernel)
theorem dX9_degree_63 : decode cX9_degree 63 = .ok (.if_icmp .ne 8, 3) := bo_160 0 8 (by decide +kernel)
theorem dX9_degree_71 : decode cX9_degree 71 = .ok (.iconst 0, 1) := bo_3 (by decide +kernel)
theorem dX9_degree_72 : decode cX9_degree 72 = .ok (.iadd, 1) := bo_96 (by decide +kernel)
theorem dX9_degree_73 : decode cX9_degree 73 = .ok (.istore_n 2, 1) := bo_61 (by decide +kernel)
theorem dX9_degree_74 : decode cX9_degree 74 = .ok (.iload_n 2, 1) := bo_28 (by decide +kernel)
theorem dX9_degree_75 : decode cX9_degree 75 = .ok (.iload 4, 2) := bo_21 (by decide +kernel)
theorem dX9_degree_77 : decode cX9_degree 77 = .ok (.ifCond .le 20, 3) := bo_158 0 20 (by decide +kernel)
theorem dX9_degree_97 : decode cX9_degree 97 = .ok (.iconst 0, 1) := bo_3 (by decide +kernel)
theorem dX9_degree_98 : decode cX9_degree 98 = .ok (.isub, 1) := bo_100 (by decide +kernel)
theorem dX9_degree_99 : decode cX9_degree 99 = .ok (.istore_n 2, 1) := bo_61 (by decide +kernel)
theorem dX9_degree_100 : decode cX9_degree 100 = .ok (.iinc 3 1, 3) := bo_132 3 1 (by decide +kernel)
theorem dX9_degree_103 : decode cX9_degree 103 = .ok (.goto (-65), 3) := bo_167 255 191 (by decide +kernel)
theorem dX9_degree_80 : decode cX9_degree 80 = .ok (.aload_n 0, 1) := bo_42 (by decide +kernel)
theorem dX9_degree_81 : decode cX9_degree 81 = .ok (.getfield 23, 3) := bo_180 0 23 (by decide +kernel)
theorem dX9_degree_84 : decode cX9_degree 84 = .ok (.iload_n 3, 1) := bo_29 (by decide +kernel)
theorem dX9_degree_85 : decode cX9_degree 85 = .ok (.invokestatic 333, 3) := bo_184 1 77 (by decide +kernel)
theorem dX9_degree_88 : decode cX9_degree 88 = .ok (.iload_n 1, 1) := bo_27 (by decide +kernel)
theorem dX9_degree_89 : decode cX9_degree 89 = .ok (.if_icmp .ne 8, 3) := bo_160 0 8 (by decide +kernel)
theorem dX9_degree_92 : decode cX9_degree 92 = .ok (.iload 4, 2) := bo_21 (by decide +kernel)
theorem dX9_degree_94 : decode cX9_degree 94 = .ok (.goto 4, 3) := bo_167 0 4 (by decide +kernel)
theorem dX9_degree_66 : decode cX9_degree 66 = .ok (.iload 4, 2) := bo_21 (by decide +kernel)
theorem dX9_degree_68 : decode cX9_degree 68 = .ok (.goto 4, 3) := bo_167 0 4 (by decide +kernel)
abbrev rm_X9_degree : Room := { frames := 1, cells := 0, slots := 0, locals := 23 }
set_option maxRecDepth 100000 in
set_option maxHeartbeats 8000000 in
theorem c_X9_degree {l : Launch} {E : (Nat → Prop) → State → Prop} (hO : bw_Ok E) {G : va_G} {cI cB cJ cN cW : ClassId} (y : Nat) (q : Nat → Nat) (i : Nat → Int) (hM : ModOk i) (g_now : Nat → Int) (x : Int) (hx9 : zR x) (hpn : ProgOk g_now) : bw_Ci (S := zV) l yX9_degree (bw_ws (Cond.code yX9_degree cX9_degree 5 (some .int))) rm_X9_degree E G (bw_kt cI cB cJ cN cW) [.ref y, .int (zI x)] [(y, .inr (9, [.int (zI (i 0)), .ref (q 0), .int (zI (i 1)), .int (zI (i 2)), .int (zI (i 3)), .int (zI (i 4)), .int (zI (i 5)), .int (zI (i 6)), .int (zI (i 7)), .int (zI (i 8)), .int (zI (i 9)), .int (zI (i 10)), .ref (q 1), .int (zI (i 11)), .int (zI (i 12)), .ref (q 2), .ref (q 3), .ref (q 4), .ref (q 5), .ref (q 6), .ref (q 7), .ref (q 8), .ref (q 9), .ref (q 10), .ref (q 11), .ref (q 12), .ref (q 13), .ref (q 14), .ref (q 15), .ref (q 16), .int (zI (i 13)), .int (zI (i 14)), .int (zI (i 15)), .int (zI (i 16)), .int (zI (i 17)), .int (zI (i 18)), .ref (q 17), .ref (q 18), .ref (q 19), .ref (q 20)])), ((q 3), .inl (cI, 200, .inl (fun k => zI (g_now k))))] (fun r u => ∃ z : Int, r = zI z ∧ (ModOk (u 0).1) ∧ (((u 0).1 1 = i 1 ∧ (u 0).1 8 = i 8 ∧ (u 0).1 9 = i 9 ∧ (u 0).1 12 = i 12 ∧ (u 0).1 13 = i 13 ∧ (u 0).1 15 = i 15 ∧ (u 0).1 17 = i 17 ∧ (u 0).1 10 ≠ 4))) (fun u => [(y, .inr (9, [.int (zI ((u 0).1 0)), .ref (q 0), .int (zI ((u 0).1 1)), .int (zI ((u 0).1 2)), .int (zI ((u 0).1 3)), .int (zI ((u 0).1 4)), .int (zI ((u 0).1 5)), .int (zI ((u 0).1 6)), .int (zI ((u 0).1 7)), .int (zI ((u 0).1 8)), .int (zI ((u 0).1 9)), .int (zI ((u 0).1 10)), .ref (q 1), .int (zI ((u 0).1 11)), .int (zI ((u 0).1 12)), .ref (q 2), .ref (q 3), .ref (q 4), .ref (q 5), .ref (q 6), .ref (q 7), .ref (q 8), .ref (q 9), .ref (q 10), .ref (q 11), .ref (q 12), .ref (q 13), .ref (q 14), .ref (q 15), .ref (q 16), .int (zI ((u 0).1 13)), .int (zI ((u 0).1 14)), .int (zI ((u 0).1 15)), .int (zI ((u 0).1 16)), .int (zI ((u 0).1 17)), .int (zI ((u 0).1 18)), .ref (q 17), .ref (q 18), .ref (q 19), .ref (q 20)])), ((q 3), .inl (cI, 200, .inl (fun k => zI (g_now k))))]) := by
  refine bw_Ci.of (cc := cX9_degree) (maxL := 5) (ty := .int) (by decide) rfl (Nat.le_of_ble_eq_true rfl) ?_
  intro p e s m below meth c A Q hx hb hml hts hown hin hK hA hS hP hD hE ret ls hl
  have F : CallFix p m c cX9_degree 5 s ([.ref y, .int (zI x)] : List Value).toArray bw_T RX9 := ⟨hx, hb, hml, hown, fun w h => hts w (List.mem_cons_of_mem _ h)⟩
  replace hl : lv_has ls 5 [(0, .ref y), (1, .int (zI x))] := hl
  have hf1 := hM.1
  refine lv_aload_n hx hb dX9_degree_0 rfl (lv_at hl 0 rfl) ?_
  refine r_callVv (As := []) (rest := []) (wr := [((q 3), .inl (cI, 200, .inl (fun k => zI (g_now k))))]) F hK hP hD hS hA hO hE (c_X9_good hO y q i hM) k_1296 kv_X9_good 0 rfl (by decide +kernel) ⟨Nat.le_of_ble_eq_true rfl, Nat.le_of_ble_eq_true rfl⟩ [0] [1] rfl rfl (by decide) (by decide) (by decide) 0 9 rfl rfl rfl hl.1 rfl (Nat.le_of_ble_eq_true rfl) dX9_degree_1 ⟨Nat.le_of_ble_eq_true rfl, Nat.le_of_ble_eq_true rfl⟩ (w1 := fun u2 => [((q 3), .inl (cI, 200, .inl (fun k => zI (g_now k)))), (y, .inr (9, [.int (zI ((u2 0).1 0)), .ref (q 0), .int (zI ((u2 0).1 1)), .int (zI ((u2 0).1 2)), .int (zI ((u2 0).1 3)), .int (zI ((u2 0).1 4)), .int (zI ((u2 0).1 5)), .int (zI ((u2 0).1 6)), .int (zI ((u2 0).1 7)), .int (zI ((u2 0).1 8)), .int (zI ((u2 0).1 9)), .int (zI ((u2 0).1 10)), .ref (q 1), .int (zI ((u2 0).1 11)), .int (zI ((u2 0).1 12)), .ref (q 2), .ref (q 3), .ref (q 4), .ref (q 5), .ref (q 6), .ref (q 7), .ref (q 8), .ref (q 9), .ref (q 10), .ref (q 11), .ref (q 12), .ref (q 13), .ref (q 14), .ref (q 15), .ref (q 16), .int (zI ((u2 0).1 13)), .int (zI ((u2 0).1 14)), .int (zI ((u2 0).1 15)), .int (zI ((u2 0).1 16)), .int (zI ((u2 0).1 17)), .int (zI ((u2 0).1 18)), .ref (q 17), .ref (q 18), .ref (q 19), .ref (q 20)]))]) (fun _ => rfl) (fun  u2 H locs hp3 hP hD hS => ?_)
  have hf4 := hp3.1.1
  refine lv_aload_n hx hb dX9_degree_4 rfl (lv_at hl 0 rfl) ?_
  refine r_get F hK hP 1 14 rfl rfl in_X9 (by decide) k_1177 rfl dX9_degree_5 ?_
  refine rz_ifb_eq (tgt := 25) F (by omega) dX9_degree_8 (by decide) (fun h8_4 => ?_) (fun h8_4 => ?_)
  · refine lv_aload_n hx hb dX9_degree_25 rfl (lv_at hl 0 rfl) ?_
    refine lv_iconst (v := zI 1) hx hb dX9_degree_26 rfl ?_
    refine r_put F hK hP hD hS 1 11 rfl rfl in_X9 tyX9 tyX9_ok nmX9 (by decide) k_1174 rfl rfl rfl (Nat.le_of_ble_eq_true rfl) dX9_degree_27 (w1 := [((q 3), .inl (cI, 200, .inl (fun k => zI (g_now k)))), (y, .inr (9, [.int (zI ((u2 0).1 0)), .ref (q 0), .int (zI ((u2 0).1 1)), .int (zI ((u2 0).1 2)), .int (zI ((u2 0).1 3)), .int (zI ((u2 0).1 4)), .int (zI ((u2 0).1 5)), .int (zI ((u2 0).1 6)), .int (zI ((u2 0).1 7)), .int (zI ((u2 0).1 8)), .int (zI ((u2 0).1 9)), .int (zI 1), .ref (q 1), .int (zI ((u2 0).1 11)), .int (zI ((u2 0).1 12)), .ref (q 2), .ref (q 3), .ref (q 4), .ref (q 5), .ref (q 6), .ref (q 7), .ref (q 8), .ref (q 9), .ref (q 10), .ref (q 11), .ref (q 12), .ref (q 13), .ref (q 14), .ref (q 15), .ref (q 16), .int (zI ((u2 0).1 13)), .int (zI ((u2 0).1 14)), .int (zI ((u2 0).1 15)), .int (zI ((u2 0).1 16)), .int (zI ((u2 0).1 17)), .int (zI ((u2 0).1 18)), .ref (q 17), .ref (q 18), .ref (q 19), .ref (q 20)]))]) rfl (fun H locs hP hD hS => ?_)
    refine lv_sipush (v := zI (-1000)) hx hb dX9_degree_30 (by decide) ?_
    obtain ⟨i6, e_i6⟩ : ∃ i6 : Nat → Int, i6 = fun k => [((u2 0).1 0), ((u2 0).1 1), ((u2 0).1 2), ((u2 0).1 3), ((u2 0).1 4), ((u2 0).1 5), ((u2 0).1 6), ((u2 0).1 7), ((u2 0).1 8), ((u2 0).1 9), 1, ((u2 0).1 11), ((u2 0).1 12), ((u2 0).1 13), ((u2 0).1 14), ((u2 0).1 15), ((u2 0).1 16), ((u2 0).1 17), ((u2 0).1 18)].getD k 0 := ⟨_, rfl⟩
    have e_i6_0 : i6 0 = ((u2 0).1 0) := congrFun e_i6 0
    have e_i6_1 : i6 1 = ((u2 0).1 1) := congrFun e_i6 1
    have e_i6_2 : i6 2 = ((u2 0).1 2) := congrFun e_i6 2
    have e_i6_3 : i6 3 = ((u2 0).1 3) := congrFun e_i6 3
    have e_i6_4 : i6 4 = ((u2 0).1 4) := congrFun e_i6 4
    have e_i6_5 : i6 5 = ((u2 0).1 5) := congrFun e_i6 5
    have e_i6_6 : i6 6 = ((u2 0).1 6) := congrFun e_i6 6
    have e_i6_7 : i6 7 = ((u2 0).1 7) := congrFun e_i6 7
    have e_i6_8 : i6 8 = ((u2 0).1 8) := congrFun e_i6 8
    have e_i6_9 : i6 9 = ((u2 0).1 9) := congrFun e_i6 9
    have e_i6_10 : i6 10 = 1 := congrFun e_i6 10
    have e_i6_11 : i6 11 = ((u2 0).1 11) := congrFun e_i6 11
    have e_i6_12 : i6 12 = ((u2 0).1 12) := congrFun e_i6 12
    have e_i6_13 : i6 13 = ((u2 0).1 13) := congrFun e_i6 13
    have e_i6_14 : i6 14 = ((u2 0).1 14) := congrFun e_i6 14
    have e_i6_15 : i6 15 = ((u2 0).1 15) := congrFun e_i6 15
    have e_i6_16 : i6 16 = ((u2 0).1 16) := congrFun e_i6 16
    have e_i6_17 : i6 17 = ((u2 0).1 17) := congrFun e_i6 17
    have e_i6_18 : i6 18 = ((u2 0).1 18) := congrFun e_i6 18
    have hO7 : ModOk i6 := ⟨⟨⟨(by rw [e_i6_11]; exact hp3.1.1.1.1), (by rw [e_i6_14]; exact hp3.1.1.1.2.1), (by rw [e_i6_16]; exact hp3.1.1.1.2.2.1), (by rw [e_i6_7]; exact hp3.1.1.1.2.2.2.1), (by rw [e_i6_5]; exact hp3.1.1.1.2.2.2.2)⟩, ⟨(by rw [e_i6_1]; exact hp3.1.1.2.1.1), (by rw [e_i6_2]; exact hp3.1.1.2.1.2.1), (by rw [e_i6_3]; exact hp3.1.1.2.1.2.2.1), (by rw [e_i6_4]; exact hp3.1.1.2.1.2.2.2.1), (by rw [e_i6_6]; exact hp3.1.1.2.1.2.2.2.2.1), (by omega)⟩, ⟨(by rw [e_i6_12]; exact hp3.1.1.2.2.1), (by rw [e_i6_13]; exact hp3.1.1.2.2.2.1), (by rw [e_i6_15]; exact hp3.1.1.2.2.2.2.1), (by rw [e_i6_17]; exact hp3.1.1.2.2.2.2.2)⟩⟩, fun q5 => by rw [e_i6_7]; exact hp3.1.2 (by rw [← e_i6_5]; exact q5)⟩
    have hf8 := hO7.1
    have hP : va_P G vwCl [((q 3), .inl (cI, 200, .inl (fun k => zI (g_now k)))), (y, .inr (9, [.int (zI (i6 0)), .ref (q 0), .int (zI (i6 1)), .int (zI (i6 2)), .int (zI (i6 3)), .int (zI (i6 4)), .int (zI (i6 5)), .int (zI (i6 6)), .int (zI (i6 7)), .int (zI (i6 8)), .int (zI (i6 9)), .int (zI (i6 10)), .ref (q 1), .int (zI (i6 11)), .int (zI (i6 12)), .ref (q 2), .ref (q 3), .ref (q 4), .ref (q 5), .ref (q 6), .ref (q 7), .ref (q 8), .ref (q 9), .ref (q 10), .ref (q 11), .ref (q 12), .ref (q 13), .ref (q 14), .ref (q 15), .ref (q 16), .int (zI (i6 13)), .int (zI (i6 14)), .int (zI (i6 15)), .int (zI (i6 16)), .int (zI (i6 17)), .int (zI (i6 18)), .ref (q 17), .ref (q 18), .ref (q 19), .ref (q 20)]))] H := by subst e_i6; exact hP
    have hD : va_D A [((q 3), .inl (cI, 200, .inl (fun k => zI (g_now k)))), (y, .inr (9, [.int (zI (i6 0)), .ref (q 0), .int (zI (i6 1)), .int (zI (i6 2)), .int (zI (i6 3)), .int (zI (i6 4)), .int (zI (i6 5)), .int (zI (i6 6)), .int (zI (i6 7)), .int (zI (i6 8)), .int (zI (i6 9)), .int (zI (i6 10)), .ref (q 1), .int (zI (i6 11)), .int (zI (i6 12)), .ref (q 2), .ref (q 3), .ref (q 4), .ref (q 5), .ref (q 6), .ref (q 7), .ref (q 8), .ref (q 9), .ref (q 10), .ref (q 11), .ref (q 12), .ref (q 13), .ref (q 14), .ref (q 15), .ref (q 16), .int (zI (i6 13)), .int (zI (i6 14)), .int (zI (i6 15)), .int (zI (i6 16)), .int (zI (i6 17)), .int (zI (i6 18)), .ref (q 17), .ref (q 18), .ref (q 19), .ref (q 20)]))] := by subst e_i6; exact hD
    exact ret (zI (-1000)) (fun k => [(i6, fun _ _ => 0)].getD k (fun _ => 0, fun _ _ => 0)) _ _ _ _ _ _ rfl ⟨(-1000), rfl, hO7, (show i6 1 = i 1 ∧ i6 8 = i 8 ∧ i6 9 = i 9 ∧ i6 12 = i 12 ∧ i6 13 = i 13 ∧ i6 15 = i 15 ∧ i6 17 = i 17 ∧ i6 10 ≠ 4 from by omega)⟩ (bw_subP (isC := [1, 0]) hP rfl) (hD.sub [1, 0] (by decide) rfl) hS (Nat.le_of_ble_eq_true rfl) (Nat.le_of_ble_eq_true rfl) dX9_degree_33
  · refine lv_iload_n hx hb dX9_degree_11 rfl (lv_at hl 1 rfl) ?_
    refine lv_iconst (v := zI 0) hx hb dX9_degree_12 rfl ?_
    refine lv_aload_n hx hb dX9_degree_13 rfl (lv_at hl 0 rfl) ?_
    refine r_get F hK hP 1 30 rfl rfl in_X9 (by decide) k_1193 rfl dX9_degree_14 ?_
    refine lv_iconst (v := zI 1) hx hb dX9_degree_17 rfl ?_
    refine r_isub (v := zI (((u2 0).1 13) - 1)) F dX9_degree_18 (zI_sub _ _) ?_
    refine r_callSi (As := [.int (zI x), .int (zI 0), .int (zI (((u2 0).1 13) - 1))]) (rest := []) (wr := [((q 3), .inl (cI, 200, .inl (fun k => zI (g_now k)))), (y, .inr (9, [.int (zI ((u2 0).1 0)), .ref (q 0), .int (zI ((u2 0).1 1)), .int (zI ((u2 0).1 2)), .int (zI ((u2 0).1 3)), .int (zI ((u2 0).1 4)), .int (zI ((u2 0).1 5)), .int (zI ((u2 0).1 6)), .int (zI ((u2 0).1 7)), .int (zI ((u2 0).1 8)), .int (zI ((u2 0).1 9)), .int (zI ((u2 0).1 10)), .ref (q 1), .int (zI ((u2 0).1 11)), .int (zI ((u2 0).1 12)), .ref (q 2), .ref (q 3), .ref (q 4), .ref (q 5), .ref (q 6), .ref (q 7), .ref (q 8), .ref (q 9), .ref (q 10), .ref (q 11), .ref (q 12), .ref (q 13), .ref (q 14), .ref (q 15), .ref (q 16), .int (zI ((u2 0).1 13)), .int (zI ((u2 0).1 14)), .int (zI ((u2 0).1 15)), .int (zI ((u2 0).1 16)), .int (zI ((u2 0).1 17)), .int (zI ((u2 0).1 18)), .ref (q 17), .ref (q 18), .ref (q 19), .ref (q 20)]))]) F hK hP hD hS hA hO hE (c_X9_within hO x 0 (((u2 0).1 13) - 1) (by omega) (by omega) (by omega)) k_1300 ks_X9_within 3 rfl (by decide +kernel) ⟨Nat.le_of_ble_eq_true rfl, Nat.le_of_ble_eq_true rfl⟩ [] [0, 1] rfl rfl (by decide) (by decide) (by decide) hl.1 rfl (Nat.le_of_ble_eq_true rfl) dX9_degree_19 ⟨Nat.le_of_ble_eq_true rfl, Nat.le_of_ble_eq_true rfl⟩ (w1 := fun u9 => [((q 3), .inl (cI, 200, .inl (fun k => zI (g_now k)))), (y, .inr (9, [.int (zI ((u2 0).1 0)), .ref (q 0), .int (zI ((u2 0).1 1)), .int (zI ((u2 0).1 2)), .int (zI ((u2 0).1 3)), .int (zI ((u2 0).1 4)), .int (zI ((u2 0).1 5)), .int (zI ((u2 0).1 6)), .int (zI ((u2 0).1 7)), .int (zI ((u2 0).1 8)), .int (zI ((u2 0).1 9)), .int (zI ((u2 0).1 10)), .ref (q 1), .int (zI ((u2 0).1 11)), .int (zI ((u2 0).1 12)), .ref (q 2), .ref (q 3), .ref (q 4), .ref (q 5), .ref (q 6), .ref (q 7), .ref (q 8), .ref (q 9), .ref (q 10), .ref (q 11), .ref (q 12), .ref (q 13), .ref (q 14), .ref (q 15), .ref (q 16), .int (zI ((u2 0).1 13)), .int (zI ((u2 0).1 14)), .int (zI ((u2 0).1 15)), .int (zI ((u2 0).1 16)), .int (zI ((u2 0).1 17)), .int (zI ((u2 0).1 18)), .ref (q 17), .ref (q 18), .ref (q 19), .ref (q 20)]))]) (fun _ => rfl) (fun r10 u9 H locs hp11 hP hD hS => ?_)
    obtain ⟨z12, rfl, h_z12⟩ := hp11
    refine rz_ifb_ne (tgt := 34) F (by omega) dX9_degree_22 (by decide) (fun h22_12 => ?_) (fun h22_12 => ?_)
    · have hq14 := h_z12.2.1 (by omega)
      refine lv_iconst (v := zI 0) hx hb dX9_degree_34 rfl ?_
      refine lv_istore_n (lv' := [(2, .int (zI 0)), (0, .ref y), (1, .int (zI x))]) hx hb dX9_degree_35 rfl hl (by decide) rfl (fun ls hl => ?_)
      refine lv_iconst (v := zI 0) hx hb dX9_degree_36 rfl ?_
      refine lv_istore_n (lv' := [(3, .int (zI 0)), (2, .int (zI 0)), (0, .ref y), (1, .int (zI x))]) hx hb dX9_degree_37 rfl hl (by decide) rfl (fun ls hl => ?_)
      refine W.widen (k := 0) (n := 0) (Nat.le_of_ble_eq_true rfl) (Nat.le_of_ble_eq_true rfl) ?_
      refine (?_ : ∀ (n9_1 : Nat) (v2 : Int) (v3 : Int) (H : Heap) (locs : List Loc), (0 ≤ v3 ∧ v3 ≤ 20) → (20 - v3 : Int).toNat < n9_1 → va_P G vwCl [((q 3), .inl (cI, 200, .inl (fun k => zI (g_now k)))), (y, .inr (9, [.int (zI ((u2 0).1 0)), .ref (q 0), .int (zI ((u2 0).1 1)), .int (zI ((u2 0).1 2)), .int (zI ((u2 0).1 3)), .int (zI ((u2 0).1 4)), .int (zI ((u2 0).1 5)), .int (zI ((u2 0).1 6)), .int (zI ((u2 0).1 7)), .int (zI ((u2 0).1 8)), .int (zI ((u2 0).1 9)), .int (zI ((u2 0).1 10)), .ref (q 1), .int (zI ((u2 0).1 11)), .int (zI ((u2 0).1 12)), .ref (q 2), .ref (q 3), .ref (q 4), .ref (q 5), .ref (q 6), .ref (q 7), .ref (q 8), .ref (q 9), .ref (q 10), .ref (q 11), .ref (q 12), .ref (q 13), .ref (q 14), .ref (q 15), .ref (q 16), .int (zI ((u2 0).1 13)), .int (zI ((u2 0).1 14)), .int (zI ((u2 0).1 15)), .int (zI ((u2 0).1 16)), .int (zI ((u2 0).1 17)), .int (zI ((u2 0).1 18)), .ref (q 17), .ref (q 18), .ref (q 19), .ref (q 20)]))] H → va_D A [((q 3), .inl (cI, 200, .inl (fun k => zI (g_now k)))), (y, .inr (9, [.int (zI ((u2 0).1 0)), .ref (q 0), .int (zI ((u2 0).1 1)), .int (zI ((u2 0).1 2)), .int (zI ((u2 0).1 3)), .int (zI ((u2 0).1 4)), .int (zI ((u2 0).1 5)), .int (zI ((u2 0).1 6)), .int (zI ((u2 0).1 7)), .int (zI ((u2 0).1 8)), .int (zI ((u2 0).1 9)), .int (zI ((u2 0).1 10)), .ref (q 1), .int (zI ((u2 0).1 11)), .int (zI ((u2 0).1 12)), .ref (q 2), .ref (q 3), .ref (q 4), .ref (q 5), .ref (q 6), .ref (q 7), .ref (q 8), .ref (q 9), .ref (q 10), .ref (q 11), .ref (q 12), .ref (q 13), .ref (q 14), .ref (q 15), .ref (q 16), .int (zI ((u2 0).1 13)), .int (zI ((u2 0).1 14)), .int (zI ((u2 0).1 15)), .int (zI ((u2 0).1 16)), .int (zI ((u2 0).1 17)), .int (zI ((u2 0).1 18)), .ref (q 17), .ref (q 18), .ref (q 19), .ref (q 20)]))] → va_S A s.heap H locs → ∀ ls : Array Slot, lv_has ls 5 [(3, .int (zI v3)), (2, .int (zI v2)), (0, .ref y), (1, .int (zI x))] → W p l e rm_X9_degree s m ([.ref y, .int (zI x)] : List Value).toArray below meth c H locs 0 0 Q (F0 m 38 ls [])) ((20 - 0 : Int).toNat + 1) 0 0 _ _ (by omega) (by omega) hP hD hS ls hl
      clear hP hD hS hl ls
      intro n9_1
      induction n9_1 with
      | zero =>
        intro v2 v3 H locs hI hM
        exact absurd hM (by omega)
      | succ n9_1 ih1 =>
        intro v2 v3 H locs hI1 hM1  hP hD hS ls hl
        refine lv_iload_n hx hb dX9_degree_38 rfl (lv_at hl 0 rfl) ?_
        refine lv_iconst (v := zI 2) hx hb dX9_degree_39 rfl ?_
        refine lv_aload_n hx hb dX9_degree_40 rfl (lv_at hl 2 rfl) ?_
        refine r_get F hK hP 1 30 rfl rfl in_X9 (by decide) k_1193 rfl dX9_degree_41 ?_
        refine r_imul (v := zI (2 * ((u2 0).1 13))) F dX9_degree_44 (zI_mul _ _) ?_
        refine rz_icmp_ge (tgt := 106) F (by omega) (by omega) dX9_degree_45 (by decide) (fun h45_14 => ?_) (fun h45_14 => ?_)
        · refine lv_iload_n hx hb dX9_degree_106 rfl (lv_at hl 1 rfl) ?_
          exact ret (zI v2) (fun k => [((u2 0).1, fun _ _ => 0)].getD k (fun _ => 0, fun _ _ => 0)) _ _ _ _ _ _ rfl ⟨v2, rfl, hp3.1, (show ((u2 0).1) 1 = i 1 ∧ ((u2 0).1) 8 = i 8 ∧ ((u2 0).1) 9 = i 9 ∧ ((u2 0).1) 12 = i 12 ∧ ((u2 0).1) 13 = i 13 ∧ ((u2 0).1) 15 = i 15 ∧ ((u2 0).1) 17 = i 17 ∧ ((u2 0).1) 10 ≠ 4 from by omega)⟩ (bw_subP (isC := [1, 0]) hP rfl) (hD.sub [1, 0] (by decide) rfl) hS (Nat.le_of_ble_eq_true rfl) (Nat.le_of_ble_eq_true rfl) dX9_degree_107
        · refine lv_aload_n hx hb dX9_degree_48 rfl (lv_at hl 2 rfl) ?_
          refine r_get F hK hP 1 16 rfl rfl in_X9 (by decide) k_1179 rfl dX9_degree_49 ?_
          refine lv_iload_n hx hb dX9_degree_52 rfl (lv_at hl 0 rfl) ?_
          refine r_callSi (As := [.ref (q 3), .int (zI v3)]) (rest := []) (wr := [(y, .inr (9, [.int (zI ((u2 0).1 0)), .ref (q 0), .int (zI ((u2 0).1 1)), .int (zI ((u2 0).1 2)), .int (zI ((u2 0).1 3)), .int (zI ((u2 0).1 4)), .int (zI ((u2 0).1 5)), .int (zI ((u2 0).1 6)), .int (zI ((u2 0).1 7)), .int (zI ((u2 0).1 8)), .int (zI ((u2 0).1 9)), .int (zI ((u2 0).1 10)), .ref (q 1), .int (zI ((u2 0).1 11)), .int (zI ((u2 0).1 12)), .ref (q 2), .ref (q 3), .ref (q 4), .ref (q 5), .ref (q 6), .ref (q 7), .ref (q 8), .ref (q 9), .ref (q 10), .ref (q 11), .ref (q 12), .ref (q 13), .ref (q 14), .ref (q 15), .ref (q 16), .int (zI ((u2 0).1 13)), .int (zI ((u2 0).1 14)), .int (zI ((u2 0).1 15)), .int (zI ((u2 0).1 16)), .int (zI ((u2 0).1 17)), .int (zI ((u2 0).1 18)), .ref (q 17), .ref (q 18), .ref (q 19), .ref (q 20)]))]) F hK hP hD hS hA hO hE (c_X9_laid hO (q 3) g_now v3 (by omega) hpn (by omega)) k_1489 ks_X9_laid 2 rfl (by decide +kernel) ⟨Nat.le_of_ble_eq_true rfl, Nat.le_of_ble_eq_true rfl⟩ [0] [1] rfl rfl (by decide) (by decide) (by decide) hl.1 rfl (Nat.le_of_ble_eq_true rfl) dX9_degree_53 ⟨Nat.le_of_ble_eq_true rfl, Nat.le_of_ble_eq_true rfl⟩ (w1 := fun u16 => [(y, .inr (9, [.int (zI ((u2 0).1 0)), .ref (q 0), .int (zI ((u2 0).1 1)), .int (zI ((u2 0).1 2)), .int (zI ((u2 0).1 3)), .int (zI ((u2 0).1 4)), .int (zI ((u2 0).1 5)), .int (zI ((u2 0).1 6)), .int (zI ((u2 0).1 7)), .int (zI ((u2 0).1 8)), .int (zI ((u2 0).1 9)), .int (zI ((u2 0).1 10)), .ref (q 1), .int (zI ((u2 0).1 11)), .int (zI ((u2 0).1 12)), .ref (q 2), .ref (q 3), .ref (q 4), .ref (q 5), .ref (q 6), .ref (q 7), .ref (q 8), .ref (q 9), .ref (q 10), .ref (q 11), .ref (q 12), .ref (q 13), .ref (q 14), .ref (q 15), .ref (q 16), .int (zI ((u2 0).1 13)), .int (zI ((u2 0).1 14)), .int (zI ((u2 0).1 15)), .int (zI ((u2 0).1 16)), .int (zI ((u2 0).1 17)), .int (zI ((u2 0).1 18)), .ref (q 17), .ref (q 18), .ref (q 19), .ref (q 20)])), ((q 3), .inl (cI, 200, .inl (fun k => zI (g_now k))))]) (fun _ => rfl) (fun r17 u16 H locs hp18 hP hD hS => ?_)
          obtain ⟨z19, rfl, h_z19⟩ := hp18
          refine lv_istore (lv' := [(4, .int (zI z19)), (3, .int (zI v3)), (2, .int (zI v2)), (0, .ref y), (1, .int (zI x))]) hx hb dX9_degree_56 hl (by decide) rfl (fun ls hl => ?_)
          refine lv_iload_n hx hb dX9_degree_58 rfl (lv_at hl 2 rfl) ?_
          refine lv_iload_n hx hb dX9_degree_59 rfl (lv_at hl 1 rfl) ?_
          refine lv_iconst (v := zI 2) hx hb dX9_degree_60 rfl ?_
          refine rz_idiv F (by omega) (by omega) dX9_degree_61 (fun z20 h_z20 => ?_)
          refine lv_iload_n hx hb dX9_degree_62 rfl (lv_at hl 4 rfl) ?_
          refine rz_icmp_ne (tgt := 71) F (by omega) (by omega) dX9_degree_63 (by decide) (fun h63_20 => ?_) (fun h63_20 => ?_)
          · refine lv_iconst (v := zI 0) hx hb dX9_degree_71 rfl ?_
            refine r_iadd (v := zI (v2 + 0)) F dX9_degree_72 (zI_add _ _) ?_
            refine lv_istore_n (lv' := [(2, .int (zI (v2 + 0))), (4, .int (zI z19)), (3, .int (zI v3)), (0, .ref y), (1, .int (zI x))]) hx hb dX9_degree_73 rfl hl (by decide) rfl (fun ls hl => ?_)
            refine lv_iload_n hx hb dX9_degree_74 rfl (lv_at hl 0 rfl) ?_
            refine lv_iload hx hb dX9_degree_75 (lv_at hl 1 rfl) ?_
            refine rz_if_le (tgt := 97) F (by omega) dX9_degree_77 (by decide) (fun h77_21 => ?_) (fun h77_21 => ?_)
            · refine lv_iconst (v := zI 0) hx hb dX9_degree_97 rfl ?_
              refine r_isub (v := zI ((v2 + 0) - 0)) F dX9_degree_98 (zI_sub _ _) ?_
              refine lv_istore_n (lv' := [(2, .int (zI ((v2 + 0) - 0))), (4, .int (zI z19)), (3, .int (zI v3)), (0, .ref y), (1, .int (zI x))]) hx hb dX9_degree_99 rfl hl (by decide) rfl (fun ls hl => ?_)
              refine lv_iinc (v := zI (v3 + 1)) (lv' := [(3, .int (zI (v3 + 1))), (2, .int (zI ((v2 + 0) - 0))), (4, .int (zI z19)), (0, .ref y), (1, .int (zI x))]) hx hb dX9_degree_100 hl (k := 2) rfl (zI_add _ _) (by decide) rfl (fun ls hl => ?_)
              refine lv_goto (tgt := 38) hx hb dX9_degree_103 (by decide) ?_
              have hP := bw_subP (isC := [1, 0]) (wc := [((q 3), .inl (cI, 200, .inl (fun k => zI (g_now k)))), (y, .inr (9, [.int (zI ((u2 0).1 0)), .ref (q 0), .int (zI ((u2 0).1 1)), .int (zI ((u2 0).1 2)), .int (zI ((u2 0).1 3)), .int (zI ((u2 0).1 4)), .int (zI ((u2 0).1 5)), .int (zI ((u2 0).1 6)), .int (zI ((u2 0).1 7)), .int (zI ((u2 0).1 8)), .int (zI ((u2 0).1 9)), .int (zI ((u2 0).1 10)), .ref (q 1), .int (zI ((u2 0).1 11)), .int (zI ((u2 0).1 12)), .ref (q 2), .ref (q 3), .ref (q 4), .ref (q 5), .ref (q 6), .ref (q 7), .ref (q 8), .ref (q 9), .ref (q 10), .ref (q 11), .ref (q 12), .ref (q 13), .ref (q 14), .ref (q 15), .ref (q 16), .int (zI ((u2 0).1 13)), .int (zI ((u2 0).1 14)), .int (zI ((u2 0).1 15)), .int (zI ((u2 0).1 16)), .int (zI ((u2 0).1 17)), .int (zI ((u2 0).1 18)), .ref (q 17), .ref (q 18), .ref (q 19), .ref (q 20)]))]) hP rfl
              have hD := hD.sub (ws' := [((q 3), .inl (cI, 200, .inl (fun k => zI (g_now k)))), (y, .inr (9, [.int (zI ((u2 0).1 0)), .ref (q 0), .int (zI ((u2 0).1 1)), .int (zI ((u2 0).1 2)), .int (zI ((u2 0).1 3)), .int (zI ((u2 0).1 4)), .int (zI ((u2 0).1 5)), .int (zI ((u2 0).1 6)), .int (zI ((u2 0).1 7)), .int (zI ((u2 0).1 8)), .int (zI ((u2 0).1 9)), .int (zI ((u2 0).1 10)), .ref (q 1), .int (zI ((u2 0).1 11)), .int (zI ((u2 0).1 12)), .ref (q 2), .ref (q 3), .ref (q 4), .ref (q 5), .ref (q 6), .ref (q 7), .ref (q 8), .ref (q 9), .ref (q 10), .ref (q 11), .ref (q 12), .ref (q 13), .ref (q 14), .ref (q 15), .ref (q 16), .int (zI ((u2 0).1 13)), .int (zI ((u2 0).1 14)), .int (zI ((u2 0).1 15)), .int (zI ((u2 0).1 16)), .int (zI ((u2 0).1 17)), .int (zI ((u2 0).1 18)), .ref (q 17), .ref (q 18), .ref (q 19), .ref (q 20)]))]) [1, 0] (by decide) rfl
              exact ih1 ((v2 + 0) - 0) (v3 + 1) _ _ (by omega) (by omega) hP hD hS ls (lv_sub hl [0, 1, 3, 4] rfl)
            · refine lv_aload_n hx hb dX9_degree_80 rfl (lv_at hl 3 rfl) ?_
              refine r_get F hK hP 0 16 rfl rfl in_X9 (by decide) k_1179 rfl dX9_degree_81 ?_
              refine lv_iload_n hx hb dX9_degree_84 rfl (lv_at hl 2 rfl) ?_
              refine r_callSi (As := [.ref (q 3), .int (zI v3)]) (rest := [.int (zI (v2 + 0))]) (wr := [(y, .inr (9, [.int (zI ((u2 0).1 0)), .ref (q 0), .int (zI ((u2 0).1 1)), .int (zI ((u2 0).1 2)), .int (zI ((u2 0).1 3)), .int (zI ((u2 0).1 4)), .int (zI ((u2 0).1 5)), .int (zI ((u2 0).1 6)), .int (zI ((u2 0).1 7)), .int (zI ((u2 0).1 8)), .int (zI ((u2 0).1 9)), .int (zI ((u2 0).1 10)), .ref (q 1), .int (zI ((u2 0).1 11)), .int (zI ((u2 0).1 12)), .ref (q 2), .ref (q 3), .ref (q 4), .ref (q 5), .ref (q 6), .ref (q 7), .ref (q 8), .ref (q 9), .ref (q 10), .ref (q 11), .ref (q 12), .ref (q 13), .ref (q 14), .ref (q 15), .ref (q 16), .int (zI ((u2 0).1 13)), .int (zI ((u2 0).1 14)), .int (zI ((u2 0).1 15)), .int (zI ((u2 0).1 16)), .int (zI ((u2 0).1 17)), .int (zI ((u2 0).1 18)), .ref (q 17), .ref (q 18), .ref (q 19), .ref (q 20)]))]) F hK hP hD hS hA hO hE (c_X9_goesTo hO (q 3) g_now v3 (by omega) hpn (by omega)) k_1582 ks_X9_goesTo 2 rfl (by decide +kernel) ⟨Nat.le_of_ble_eq_true rfl, Nat.le_of_ble_eq_true rfl⟩ [1] [0] rfl rfl (by decide) (by decide) (by decide) hl.1 rfl (Nat.le_of_ble_eq_true rfl) dX9_degree_85 ⟨Nat.le_of_ble_eq_true rfl, Nat.le_of_ble_eq_true rfl⟩ (w1 := fun u23 => [(y, .inr (9, [.int (zI ((u2 0).1 0)), .ref (q 0), .int (zI ((u2 0).1 1)), .int (zI ((u2 0).1 2)), .int (zI ((u2 0).1 3)), .int (zI ((u2 0).1 4)), .int (zI ((u2 0).1 5)), .int (zI ((u2 0).1 6)), .int (zI ((u2 0).1 7)), .int (zI ((u2 0).1 8)), .int (zI ((u2 0).1 9)), .int (zI ((u2 0).1 10)), .ref (q 1), .int (zI ((u2 0).1 11)), .int (zI ((u2 0).1 12)), .ref (q 2), .ref (q 3), .ref (q 4), .ref (q 5), .ref (q 6), .ref (q 7), .ref (q 8), .ref (q 9), .ref (q 10), .ref (q 11), .ref (q 12), .ref (q 13), .ref (q 14), .ref (q 15), .ref (q 16), .int (zI ((u2 0).1 13)), .int (zI ((u2 0).1 14)), .int (zI ((u2 0).1 15)), .int (zI ((u2 0).1 16)), .int (zI ((u2 0).1 17)), .int (zI ((u2 0).1 18)), .ref (q 17), .ref (q 18), .ref (q 19), .ref (q 20)])), ((q 3), .inl (cI, 200, .inl (fun k => zI (g_now k))))]) (fun _ => rfl) (fun r24 u23 H locs hp25 hP hD hS => ?_)
              obtain ⟨z26, rfl, h_z26⟩ := hp25
              refine lv_iload_n hx hb dX9_degree_88 rfl (lv_at hl 4 rfl) ?_
              refine rz_icmp_ne (tgt := 97) F (by omega) (by omega) dX9_degree_89 (by decide) (fun h89_26 => ?_) (fun h89_26 => ?_)
              · refine lv_iconst (v := zI 0) hx hb dX9_degree_97 rfl ?_
                refine r_isub (v := zI ((v2 + 0) - 0)) F dX9_degree_98 (zI_sub _ _) ?_
                refine lv_istore_n (lv' := [(2, .int (zI ((v2 + 0) - 0))), (4, .int (zI z19)), (3, .int (zI v3)), (0, .ref y), (1, .int (zI x))]) hx hb dX9_degree_99 rfl hl (by decide) rfl (fun ls hl => ?_)
                refine lv_iinc (v := zI (v3 + 1)) (lv' := [(3, .int (zI (v3 + 1))), (2, .int (zI ((v2 + 0) - 0))), (4, .int (zI z19)), (0, .ref y), (1, .int (zI x))]) hx hb dX9_degree_100 hl (k := 2) rfl (zI_add _ _) (by decide) rfl (fun ls hl => ?_)
                refine lv_goto (tgt := 38) hx hb dX9_degree_103 (by decide) ?_
                have hP := bw_subP (isC := [1, 0]) (wc := [((q 3), .inl (cI, 200, .inl (fun k => zI (g_now k)))), (y, .inr (9, [.int (zI ((u2 0).1 0)), .ref (q 0), .int (zI ((u2 0).1 1)), .int (zI ((u2 0).1 2)), .int (zI ((u2 0).1 3)), .int (zI ((u2 0).1 4)), .int (zI ((u2 0).1 5)), .int (zI ((u2 0).1 6)), .int (zI ((u2 0).1 7)), .int (zI ((u2 0).1 8)), .int (zI ((u2 0).1 9)), .int (zI ((u2 0).1 10)), .ref (q 1), .int (zI ((u2 0).1 11)), .int (zI ((u2 0).1 12)), .ref (q 2), .ref (q 3), .ref (q 4), .ref (q 5), .ref (q 6), .ref (q 7), .ref (q 8), .ref (q 9), .ref (q 10), .ref (q 11), .ref (q 12), .ref (q 13), .ref (q 14), .ref (q 15), .ref (q 16), .int (zI ((u2 0).1 13)), .int (zI ((u2 0).1 14)), .int (zI ((u2 0).1 15)), .int (zI ((u2 0).1 16)), .int (zI ((u2 0).1 17)), .int (zI ((u2 0).1 18)), .ref (q 17), .ref (q 18), .ref (q 19), .ref (q 20)]))]) hP rfl
                have hD := hD.sub (ws' := [((q 3), .inl (cI, 200, .inl (fun k => zI (g_now k)))), (y, .inr (9, [.int (zI ((u2 0).1 0)), .ref (q 0), .int (zI ((u2 0).1 1)), .int (zI ((u2 0).1 2)), .int (zI ((u2 0).1 3)), .int (zI ((u2 0).1 4)), .int (zI ((u2 0).1 5)), .int (zI ((u2 0).1 6)), .int (zI ((u2 0).1 7)), .int (zI ((u2 0).1 8)), .int (zI ((u2 0).1 9)), .int (zI ((u2 0).1 10)), .ref (q 1), .int (zI ((u2 0).1 11)), .int (zI ((u2 0).1 12)), .ref (q 2), .ref (q 3), .ref (q 4), .ref (q 5), .ref (q 6), .ref (q 7), .ref (q 8), .ref (q 9), .ref (q 10), .ref (q 11), .ref (q 12), .ref (q 13), .ref (q 14), .ref (q 15), .ref (q 16), .int (zI ((u2 0).1 13)), .int (zI ((u2 0).1 14)), .int (zI ((u2 0).1 15)), .int (zI ((u2 0).1 16)), .int (zI ((u2 0).1 17)), .int (zI ((u2 0).1 18)), .ref (q 17), .ref (q 18), .ref (q 19), .ref (q 20)]))]) [1, 0] (by decide) rfl
                exact ih1 ((v2 + 0) - 0) (v3 + 1) _ _ (by omega) (by omega) hP hD hS ls (lv_sub hl [0, 1, 3, 4] rfl)
              · refine lv_iload hx hb dX9_degree_92 (lv_at hl 1 rfl) ?_
                refine lv_goto (tgt := 98) hx hb dX9_degree_94 (by decide) ?_
                refine r_isub (v := zI ((v2 + 0) - z19)) F dX9_degree_98 (zI_sub _ _) ?_
                refine lv_istore_n (lv' := [(2, .int (zI ((v2 + 0) - z19))), (4, .int (zI z19)), (3, .int (zI v3)), (0, .ref y), (1, .int (zI x))]) hx hb dX9_degree_99 rfl hl (by decide) rfl (fun ls hl => ?_)
                refine lv_iinc (v := zI (v3 + 1)) (lv' := [(3, .int (zI (v3 + 1))), (2, .int (zI ((v2 + 0) - z19))), (4, .int (zI z19)), (0, .ref y), (1, .int (zI x))]) hx hb dX9_degree_100 hl (k := 2) rfl (zI_add _ _) (by decide) rfl (fun ls hl => ?_)
                refine lv_goto (tgt := 38) hx hb dX9_degree_103 (by decide) ?_
                have hP := bw_subP (isC := [1, 0]) (wc := [((q 3), .inl (cI, 200, .inl (fun k => zI (g_now k)))), (y, .inr (9, [.int (zI ((u2 0).1 0)), .ref (q 0), .int (zI ((u2 0).1 1)), .int (zI ((u2 0).1 2)), .int (zI ((u2 0).1 3)), .int (zI ((u2 0).1 4)), .int (zI ((u2 0).1 5)), .int (zI ((u2 0).1 6)), .int (zI ((u2 0).1 7)), .int (zI ((u2 0).1 8)), .int (zI ((u2 0).1 9)), .int (zI ((u2 0).1 10)), .ref (q 1), .int (zI ((u2 0).1 11)), .int (zI ((u2 0).1 12)), .ref (q 2), .ref (q 3), .ref (q 4), .ref (q 5), .ref (q 6), .ref (q 7), .ref (q 8), .ref (q 9), .ref (q 10), .ref (q 11), .ref (q 12), .ref (q 13), .ref (q 14), .ref (q 15), .ref (q 16), .int (zI ((u2 0).1 13)), .int (zI ((u2 0).1 14)), .int (zI ((u2 0).1 15)), .int (zI ((u2 0).1 16)), .int (zI ((u2 0).1 17)), .int (zI ((u2 0).1 18)), .ref (q 17), .ref (q 18), .ref (q 19), .ref (q 20)]))]) hP rfl
                have hD := hD.sub (ws' := [((q 3), .inl (cI, 200, .inl (fun k => zI (g_now k)))), (y, .inr (9, [.int (zI ((u2 0).1 0)), .ref (q 0), .int (zI ((u2 0).1 1)), .int (zI ((u2 0).1 2)), .int (zI ((u2 0).1 3)), .int (zI ((u2 0).1 4)), .int (zI ((u2 0).1 5)), .int (zI ((u2 0).1 6)), .int (zI ((u2 0).1 7)), .int (zI ((u2 0).1 8)), .int (zI ((u2 0).1 9)), .int (zI ((u2 0).1 10)), .ref (q 1), .int (zI ((u2 0).1 11)), .int (zI ((u2 0).1 12)), .ref (q 2), .ref (q 3), .ref (q 4), .ref (q 5), .ref (q 6), .ref (q 7), .ref (q 8), .ref (q 9), .ref (q 10), .ref (q 11), .ref (q 12), .ref (q 13), .ref (q 14), .ref (q 15), .ref (q 16), .int (zI ((u2 0).1 13)), .int (zI ((u2 0).1 14)), .int (zI ((u2 0).1 15)), .int (zI ((u2 0).1 16)), .int (zI ((u2 0).1 17)), .int (zI ((u2 0).1 18)), .ref (q 17), .ref (q 18), .ref (q 19), .ref (q 20)]))]) [1, 0] (by decide) rfl
                exact ih1 ((v2 + 0) - z19) (v3 + 1) _ _ (by omega) (by omega) hP hD hS ls (lv_sub hl [0, 1, 3, 4] rfl)
          · refine lv_iload hx hb dX9_degree_66 (lv_at hl 0 rfl) ?_
            refine lv_goto (tgt := 72) hx hb dX9_degree_68 (by decide) ?_
            refine r_iadd (v := zI (v2 + z19)) F dX9_degree_72 (zI_add _ _) ?_
            refine lv_istore_n (lv' := [(2, .int (zI (v2 + z19))), (4, .int (zI z19)), (3, .int (zI v3)), (0, .ref y), (1, .int (zI x))]) hx hb dX9_degree_73 rfl hl (by decide) rfl (fun ls hl => ?_)
            refine lv_iload_n hx hb dX9_degree_74 rfl (lv_at hl 0 rfl) ?_
            refine lv_iload hx hb dX9_degree_75 (lv_at hl 1 rfl) ?_
            refine rz_if_le (tgt := 97) F (by omega) dX9_degree_77 (by decide) (fun h77_27 => ?_) (fun h77_27 => ?_)
            · refine lv_iconst (v := zI 0) hx hb dX9_degree_97 rfl ?_
              refine r_isub (v := zI ((v2 + z19) - 0)) F dX9_degree_98 (zI_sub _ _) ?_
              refine lv_istore_n (lv' := [(2, .int (zI ((v2 + z19) - 0))), (4, .int (zI z19)), (3, .int (zI v3)), (0, .ref y), (1, .int (zI x))]) hx hb dX9_degree_99 rfl hl (by decide) rfl (fun ls hl => ?_)
              refine lv_iinc (v := zI (v3 + 1)) (lv' := [(3, .int (zI (v3 + 1))), (2, .int (zI ((v2 + z19) - 0))), (4, .int (zI z19)), (0, .ref y), (1, .int (zI x))]) hx hb dX9_degree_100 hl (k := 2) rfl (zI_add _ _) (by decide) rfl (fun ls hl => ?_)
              refine lv_goto (tgt := 38) hx hb dX9_degree_103 (by decide) ?_
              have hP := bw_subP (isC := [1, 0]) (wc := [((q 3), .inl (cI, 200, .inl (fun k => zI (g_now k)))), (y, .inr (9, [.int (zI ((u2 0).1 0)), .ref (q 0), .int (zI ((u2 0).1 1)), .int (zI ((u2 0).1 2)), .int (zI ((u2 0).1 3)), .int (zI ((u2 0).1 4)), .int (zI ((u2 0).1 5)), .int (zI ((u2 0).1 6)), .int (zI ((u2 0).1 7)), .int (zI ((u2 0).1 8)), .int (zI ((u2 0).1 9)), .int (zI ((u2 0).1 10)), .ref (q 1), .int (zI ((u2 0).1 11)), .int (zI ((u2 0).1 12)), .ref (q 2), .ref (q 3), .ref (q 4), .ref (q 5), .ref (q 6), .ref (q 7), .ref (q 8), .ref (q 9), .ref (q 10), .ref (q 11), .ref (q 12), .ref (q 13), .ref (q 14), .ref (q 15), .ref (q 16), .int (zI ((u2 0).1 13)), .int (zI ((u2 0).1 14)), .int (zI ((u2 0).1 15)), .int (zI ((u2 0).1 16)), .int (zI ((u2 0).1 17)), .int (zI ((u2 0).1 18)), .ref (q 17), .ref (q 18), .ref (q 19), .ref (q 20)]))]) hP rfl
              have hD := hD.sub (ws' := [((q 3), .inl (cI, 200, .inl (fun k => zI (g_now k)))), (y, .inr (9, [.int (zI ((u2 0).1 0)), .ref (q 0), .int (zI ((u2 0).1 1)), .int (zI ((u2 0).1 2)), .int (zI ((u2 0).1 3)), .int (zI ((u2 0).1 4)), .int (zI ((u2 0).1 5)), .int (zI ((u2 0).1 6)), .int (zI ((u2 0).1 7)), .int (zI ((u2 0).1 8)), .int (zI ((u2 0).1 9)), .int (zI ((u2 0).1 10)), .ref (q 1), .int (zI ((u2 0).1 11)), .int (zI ((u2 0).1 12)), .ref (q 2), .ref (q 3), .ref (q 4), .ref (q 5), .ref (q 6), .ref (q 7), .ref (q 8), .ref (q 9), .ref (q 10), .ref (q 11), .ref (q 12), .ref (q 13), .ref (q 14), .ref (q 15), .ref (q 16), .int (zI ((u2 0).1 13)), .int (zI ((u2 0).1 14)), .int (zI ((u2 0).1 15)), .int (zI ((u2 0).1 16)), .int (zI ((u2 0).1 17)), .int (zI ((u2 0).1 18)), .ref (q 17), .ref (q 18), .ref (q 19), .ref (q 20)]))]) [1, 0] (by decide) rfl
              exact ih1 ((v2 + z19) - 0) (v3 + 1) _ _ (by omega) (by omega) hP hD hS ls (lv_sub hl [0, 1, 3, 4] rfl)
            · refine lv_aload_n hx hb dX9_degree_80 rfl (lv_at hl 3 rfl) ?_
              refine r_get F hK hP 0 16 rfl rfl in_X9 (by decide) k_1179 rfl dX9_degree_81 ?_
              refine lv_iload_n hx hb dX9_degree_84 rfl (lv_at hl 2 rfl) ?_
              refine r_callSi (As := [.ref (q 3), .int (zI v3)]) (rest := [.int (zI (v2 + z19))]) (wr := [(y, .inr (9, [.int (zI ((u2 0).1 0)), .ref (q 0), .int (zI ((u2 0).1 1)), .int (zI ((u2 0).1 2)), .int (zI ((u2 0).1 3)), .int (zI ((u2 0).1 4)), .int (zI ((u2 0).1 5)), .int (zI ((u2 0).1 6)), .int (zI ((u2 0).1 7)), .int (zI ((u2 0).1 8)), .int (zI ((u2 0).1 9)), .int (zI ((u2 0).1 10)), .ref (q 1), .int (zI ((u2 0).1 11)), .int (zI ((u2 0).1 12)), .ref (q 2), .ref (q 3), .ref (q 4), .ref (q 5), .ref (q 6), .ref (q 7), .ref (q 8), .ref (q 9), .ref (q 10), .ref (q 11), .ref (q 12), .ref (q 13), .ref (q 14), .ref (q 15), .ref (q 16), .int (zI ((u2 0).1 13)), .int (zI ((u2 0).1 14)), .int (zI ((u2 0).1 15)), .int (zI ((u2 0).1 16)), .int (zI ((u2 0).1 17)), .int (zI ((u2 0).1 18)), .ref (q 17), .ref (q 18), .ref (q 19), .ref (q 20)]))]) F hK hP hD hS hA hO hE (c_X9_goesTo hO (q 3) g_now v3 (by omega) hpn (by omega)) k_1582 ks_X9_goesTo 2 rfl (by decide +kernel) ⟨Nat.le_of_ble_eq_true rfl, Nat.le_of_ble_eq_true rfl⟩ [1] [0] rfl rfl (by decide) (by decide) (by decide) hl.1 rfl (Nat.le_of_ble_eq_true rfl) dX9_degree_85 ⟨Nat.le_of_ble_eq_true rfl, Nat.le_of_ble_eq_true rfl⟩ (w1 := fun u29 => [(y, .inr (9, [.int (zI ((u2 0).1 0)), .ref (q 0), .int (zI ((u2 0).1 1)), .int (zI ((u2 0).1 2)), .int (zI ((u2 0).1 3)), .int (zI ((u2 0).1 4)), .int (zI ((u2 0).1 5)), .int (zI ((u2 0).1 6)), .int (zI ((u2 0).1 7)), .int (zI ((u2 0).1 8)), .int (zI ((u2 0).1 9)), .int (zI ((u2 0).1 10)), .ref (q 1), .int (zI ((u2 0).1 11)), .int (zI ((u2 0).1 12)), .ref (q 2), .ref (q 3), .ref (q 4), .ref (q 5), .ref (q 6), .ref (q 7), .ref (q 8), .ref (q 9), .ref (q 10), .ref (q 11), .ref (q 12), .ref (q 13), .ref (q 14), .ref (q 15), .ref (q 16), .int (zI ((u2 0).1 13)), .int (zI ((u2 0).1 14)), .int (zI ((u2 0).1 15)), .int (zI ((u2 0).1 16)), .int (zI ((u2 0).1 17)), .int (zI ((u2 0).1 18)), .ref (q 17), .ref (q 18), .ref (q 19), .ref (q 20)])), ((q 3), .inl (cI, 200, .inl (fun k => zI (g_now k))))]) (fun _ => rfl) (fun r30 u29 H locs hp31 hP hD hS => ?_)
              obtain ⟨z32, rfl, h_z32⟩ := hp31
              refine lv_iload_n hx hb dX9_degree_88 rfl (lv_at hl 4 rfl) ?_
              refine rz_icmp_ne (tgt := 97) F (by omega) (by omega) dX9_degree_89 (by decide) (fun h89_32 => ?_) (fun h89_32 => ?_)
              · refine lv_iconst (v := zI 0) hx hb dX9_degree_97 rfl ?_
                refine r_isub (v := zI ((v2 + z19) - 0)) F dX9_degree_98 (zI_sub _ _) ?_
                refine lv_istore_n (lv' := [(2, .int (zI ((v2 + z19) - 0))), (4, .int (zI z19)), (3, .int (zI v3)), (0, .ref y), (1, .int (zI x))]) hx hb dX9_degree_99 rfl hl (by decide) rfl (fun ls hl => ?_)
                refine lv_iinc (v := zI (v3 + 1)) (lv' := [(3, .int (zI (v3 + 1))), (2, .int (zI ((v2 + z19) - 0))), (4, .int (zI z19)), (0, .ref y), (1, .int (zI x))]) hx hb dX9_degree_100 hl (k := 2) rfl (zI_add _ _) (by decide) rfl (fun ls hl => ?_)
                refine lv_goto (tgt := 38) hx hb dX9_degree_103 (by decide) ?_
                have hP := bw_subP (isC := [1, 0]) (wc := [((q 3), .inl (cI, 200, .inl (fun k => zI (g_now k)))), (y, .inr (9, [.int (zI ((u2 0).1 0)), .ref (q 0), .int (zI ((u2 0).1 1)), .int (zI ((u2 0).1 2)), .int (zI ((u2 0).1 3)), .int (zI ((u2 0).1 4)), .int (zI ((u2 0).1 5)), .int (zI ((u2 0).1 6)), .int (zI ((u2 0).1 7)), .int (zI ((u2 0).1 8)), .int (zI ((u2 0).1 9)), .int (zI ((u2 0).1 10)), .ref (q 1), .int (zI ((u2 0).1 11)), .int (zI ((u2 0).1 12)), .ref (q 2), .ref (q 3), .ref (q 4), .ref (q 5), .ref (q 6), .ref (q 7), .ref (q 8), .ref (q 9), .ref (q 10), .ref (q 11), .ref (q 12), .ref (q 13), .ref (q 14), .ref (q 15), .ref (q 16), .int (zI ((u2 0).1 13)), .int (zI ((u2 0).1 14)), .int (zI ((u2 0).1 15)), .int (zI ((u2 0).1 16)), .int (zI ((u2 0).1 17)), .int (zI ((u2 0).1 18)), .ref (q 17), .ref (q 18), .ref (q 19), .ref (q 20)]))]) hP rfl
                have hD := hD.sub (ws' := [((q 3), .inl (cI, 200, .inl (fun k => zI (g_now k)))), (y, .inr (9, [.int (zI ((u2 0).1 0)), .ref (q 0), .int (zI ((u2 0).1 1)), .int (zI ((u2 0).1 2)), .int (zI ((u2 0).1 3)), .int (zI ((u2 0).1 4)), .int (zI ((u2 0).1 5)), .int (zI ((u2 0).1 6)), .int (zI ((u2 0).1 7)), .int (zI ((u2 0).1 8)), .int (zI ((u2 0).1 9)), .int (zI ((u2 0).1 10)), .ref (q 1), .int (zI ((u2 0).1 11)), .int (zI ((u2 0).1 12)), .ref (q 2), .ref (q 3), .ref (q 4), .ref (q 5), .ref (q 6), .ref (q 7), .ref (q 8), .ref (q 9), .ref (q 10), .ref (q 11), .ref (q 12), .ref (q 13), .ref (q 14), .ref (q 15), .ref (q 16), .int (zI ((u2 0).1 13)), .int (zI ((u2 0).1 14)), .int (zI ((u2 0).1 15)), .int (zI ((u2 0).1 16)), .int (zI ((u2 0).1 17)), .int (zI ((u2 0).1 18)), .ref (q 17), .ref (q 18), .ref (q 19), .ref (q 20)]))]) [1, 0] (by decide) rfl
                exact ih1 ((v2 + z19) - 0) (v3 + 1) _ _ (by omega) (by omega) hP hD hS ls (lv_sub hl [0, 1, 3, 4] rfl)
              · refine lv_iload hx hb dX9_degree_92 (lv_at hl 1 rfl) ?_
                refine lv_goto (tgt := 98) hx hb dX9_degree_94 (by decide) ?_
                refine r_isub (v := zI ((v2 + z19) - z19)) F dX9_degree_98 (zI_sub _ _) ?_
                refine lv_istore_n (lv' := [(2, .int (zI ((v2 + z19) - z19))), (4, .int (zI z19)), (3, .int (zI v3)), (0, .ref y), (1, .int (zI x))]) hx hb dX9_degree_99 rfl hl (by decide) rfl (fun ls hl => ?_)
                refine lv_iinc (v := zI (v3 + 1)) (lv' := [(3, .int (zI (v3 + 1))), (2, .int (zI ((v2 + z19) - z19))), (4, .int (zI z19)), (0, .ref y), (1, .int (zI x))]) hx hb dX9_degree_100 hl (k := 2) rfl (zI_add _ _) (by decide) rfl (fun ls hl => ?_)
                refine lv_goto (tgt := 38) hx hb dX9_degree_103 (by decide) ?_
                have hP := bw_subP (isC := [1, 0]) (wc := [((q 3), .inl (cI, 200, .inl (fun k => zI (g_now k)))), (y, .inr (9, [.int (zI ((u2 0).1 0)), .ref (q 0), .int (zI ((u2 0).1 1)), .int (zI ((u2 0).1 2)), .int (zI ((u2 0).1 3)), .int (zI ((u2 0).1 4)), .int (zI ((u2 0).1 5)), .int (zI ((u2 0).1 6)), .int (zI ((u2 0).1 7)), .int (zI ((u2 0).1 8)), .int (zI ((u2 0).1 9)), .int (zI ((u2 0).1 10)), .ref (q 1), .int (zI ((u2 0).1 11)), .int (zI ((u2 0).1 12)), .ref (q 2), .ref (q 3), .ref (q 4), .ref (q 5), .ref (q 6), .ref (q 7), .ref (q 8), .ref (q 9), .ref (q 10), .ref (q 11), .ref (q 12), .ref (q 13), .ref (q 14), .ref (q 15), .ref (q 16), .int (zI ((u2 0).1 13)), .int (zI ((u2 0).1 14)), .int (zI ((u2 0).1 15)), .int (zI ((u2 0).1 16)), .int (zI ((u2 0).1 17)), .int (zI ((u2 0).1 18)), .ref (q 17), .ref (q 18), .ref (q 19), .ref (q 20)]))]) hP rfl
                have hD := hD.sub (ws' := [((q 3), .inl (cI, 200, .inl (fun k => zI (g_now k)))), (y, .inr (9, [.int (zI ((u2 0).1 0)), .ref (q 0), .int (zI ((u2 0).1 1)), .int (zI ((u2 0).1 2)), .int (zI ((u2 0).1 3)), .int (zI ((u2 0).1 4)), .int (zI ((u2 0).1 5)), .int (zI ((u2 0).1 6)), .int (zI ((u2 0).1 7)), .int (zI ((u2 0).1 8)), .int (zI ((u2 0).1 9)), .int (zI ((u2 0).1 10)), .ref (q 1), .int (zI ((u2 0).1 11)), .int (zI ((u2 0).1 12)), .ref (q 2), .ref (q 3), .ref (q 4), .ref (q 5), .ref (q 6), .ref (q 7), .ref (q 8), .ref (q 9), .ref (q 10), .ref (q 11), .ref (q 12), .ref (q 13), .ref (q 14), .ref (q 15), .ref (q 16), .int (zI ((u2 0).1 13)), .int (zI ((u2 0).1 14)), .int (zI ((u2 0).1 15)), .int (zI ((u2 0).1 16)), .int (zI ((u2 0).1 17)), .int (zI ((u2 0).1 18)), .ref (q 17), .ref (q 18), .ref (q 19), .ref (q 20)]))]) [1, 0] (by decide) rfl
                exact ih1 ((v2 + z19) - z19) (v3 + 1) _ _ (by omega) (by omega) hP hD hS ls (lv_sub hl [0, 1, 3, 4] rfl)
    · have hq34 := h_z12.2.2 (by omega)
      refine lv_aload_n hx hb dX9_degree_25 rfl (lv_at hl 0 rfl) ?_
      refine lv_iconst (v := zI 1) hx hb dX9_degree_26 rfl ?_
      refine r_put F hK hP hD hS 1 11 rfl rfl in_X9 tyX9 tyX9_ok nmX9 (by decide) k_1174 rfl rfl rfl (Nat.le_of_ble_eq_true rfl) dX9_degree_27 (w1 := [((q 3), .inl (cI, 200, .inl (fun k => zI (g_now k)))), (y, .inr (9, [.int (zI ((u2 0).1 0)), .ref (q 0), .int (zI ((u2 0).1 1)), .int (zI ((u2 0).1 2)), .int (zI ((u2 0).1 3)), .int (zI ((u2 0).1 4)), .int (zI ((u2 0).1 5)), .int (zI ((u2 0).1 6)), .int (zI ((u2 0).1 7)), .int (zI ((u2 0).1 8)), .int (zI ((u2 0).1 9)), .int (zI 1), .ref (q 1), .int (zI ((u2 0).1 11)), .int (zI ((u2 0).1 12)), .ref (q 2), .ref (q 3), .ref (q 4), .ref (q 5), .ref (q 6), .ref (q 7), .ref (q 8), .ref (q 9), .ref (q 10), .ref (q 11), .ref (q 12), .ref (q 13), .ref (q 14), .ref (q 15), .ref (q 16), .int (zI ((u2 0).1 13)), .int (zI ((u2 0).1 14)), .int (zI ((u2 0).1 15)), .int (zI ((u2 0).1 16)), .int (zI ((u2 0).1 17)), .int (zI ((u2 0).1 18)), .ref (q 17), .ref (q 18), .ref (q 19), .ref (q 20)]))]) rfl (fun H locs hP hD hS => ?_)
      refine lv_sipush (v := zI (-1000)) hx hb dX9_degree_30 (by decide) ?_
      obtain ⟨i35, e_i35⟩ : ∃ i35 : Nat → Int, i35 = fun k => [((u2 0).1 0), ((u2 0).1 1), ((u2 0).1 2), ((u2 0).1 3), ((u2 0).1 4), ((u2 0).1 5), ((u2 0).1 6), ((u2 0).1 7), ((u2 0).1 8), ((u2 0).1 9), 1, ((u2 0).1 11), ((u2 0).1 12), ((u2 0).1 13), ((u2 0).1 14), ((u2 0).1 15), ((u2 0).1 16), ((u2 0).1 17), ((u2 0).1 18)].getD k 0 := ⟨_, rfl⟩
      have e_i35_0 : i35 0 = ((u2 0).1 0) := congrFun e_i35 0
      have e_i35_1 : i35 1 = ((u2 0).1 1) := congrFun e_i35 1
      have e_i35_2 : i35 2 = ((u2 0).1 2) := congrFun e_i35 2
      have e_i35_3 : i35 3 = ((u2 0).1 3) := congrFun e_i35 3
      have e_i35_4 : i35 4 = ((u2 0).1 4) := congrFun e_i35 4
      have e_i35_5 : i35 5 = ((u2 0).1 5) := congrFun e_i35 5
      have e_i35_6 : i35 6 = ((u2 0).1 6) := congrFun e_i35 6
      have e_i35_7 : i35 7 = ((u2 0).1 7) := congrFun e_i35 7
      have e_i35_8 : i35 8 = ((u2 0).1 8) := congrFun e_i35 8
      have e_i35_9 : i35 9 = ((u2 0).1 9) := congrFun e_i35 9
      have e_i35_10 : i35 10 = 1 := congrFun e_i35 10
      have e_i35_11 : i35 11 = ((u2 0).1 11) := congrFun e_i35 11
      have e_i35_12 : i35 12 = ((u2 0).1 12) := congrFun e_i35 12
      have e_i35_13 : i35 13 = ((u2 0).1 13) := congrFun e_i35 13
      have e_i35_14 : i35 14 = ((u2 0).1 14) := congrFun e_i35 14
      have e_i35_15 : i35 15 = ((u2 0).1 15) := congrFun e_i35 15
      have e_i35_16 : i35 16 = ((u2 0).1 16) := congrFun e_i35 16
      have e_i35_17 : i35 17 = ((u2 0).1 17) := congrFun e_i35 17
      have e_i35_18 : i35 18 = ((u2 0).1 18) := congrFun e_i35 18
      have hO36 : ModOk i35 := ⟨⟨⟨(by rw [e_i35_11]; exact hp3.1.1.1.1), (by rw [e_i35_14]; exact hp3.1.1.1.2.1), (by rw [e_i35_16]; exact hp3.1.1.1.2.2.1), (by rw [e_i35_7]; exact hp3.1.1.1.2.2.2.1), (by rw [e_i35_5]; exact hp3.1.1.1.2.2.2.2)⟩, ⟨(by rw [e_i35_1]; exact hp3.1.1.2.1.1), (by rw [e_i35_2]; exact hp3.1.1.2.1.2.1), (by rw [e_i35_3]; exact hp3.1.1.2.1.2.2.1), (by rw [e_i35_4]; exact hp3.1.1.2.1.2.2.2.1), (by rw [e_i35_6]; exact hp3.1.1.2.1.2.2.2.2.1), (by omega)⟩, ⟨(by rw [e_i35_12]; exact hp3.1.1.2.2.1), (by rw [e_i35_13]; exact hp3.1.1.2.2.2.1), (by rw [e_i35_15]; exact hp3.1.1.2.2.2.2.1), (by rw [e_i35_17]; exact hp3.1.1.2.2.2.2.2)⟩⟩, fun q5 => by rw [e_i35_7]; exact hp3.1.2 (by rw [← e_i35_5]; exact q5)⟩
      have hf37 := hO36.1
      have hP : va_P G vwCl [((q 3), .inl (cI, 200, .inl (fun k => zI (g_now k)))), (y, .inr (9, [.int (zI (i35 0)), .ref (q 0), .int (zI (i35 1)), .int (zI (i35 2)), .int (zI (i35 3)), .int (zI (i35 4)), .int (zI (i35 5)), .int (zI (i35 6)), .int (zI (i35 7)), .int (zI (i35 8)), .int (zI (i35 9)), .int (zI (i35 10)), .ref (q 1), .int (zI (i35 11)), .int (zI (i35 12)), .ref (q 2), .ref (q 3), .ref (q 4), .ref (q 5), .ref (q 6), .ref (q 7), .ref (q 8), .ref (q 9), .ref (q 10), .ref (q 11), .ref (q 12), .ref (q 13), .ref (q 14), .ref (q 15), .ref (q 16), .int (zI (i35 13)), .int (zI (i35 14)), .int (zI (i35 15)), .int (zI (i35 16)), .int (zI (i35 17)), .int (zI (i35 18)), .ref (q 17), .ref (q 18), .ref (q 19), .ref (q 20)]))] H := by subst e_i35; exact hP
      have hD : va_D A [((q 3), .inl (cI, 200, .inl (fun k => zI (g_now k)))), (y, .inr (9, [.int (zI (i35 0)), .ref (q 0), .int (zI (i35 1)), .int (zI (i35 2)), .int (zI (i35 3)), .int (zI (i35 4)), .int (zI (i35 5)), .int (zI (i35 6)), .int (zI (i35 7)), .int (zI (i35 8)), .int (zI (i35 9)), .int (zI (i35 10)), .ref (q 1), .int (zI (i35 11)), .int (zI (i35 12)), .ref (q 2), .ref (q 3), .ref (q 4), .ref (q 5), .ref (q 6), .ref (q 7), .ref (q 8), .ref (q 9), .ref (q 10), .ref (q 11), .ref (q 12), .ref (q 13), .ref (q 14), .ref (q 15), .ref (q 16), .int (zI (i35 13)), .int (zI (i35 14)), .int (zI (i35 15)), .int (zI (i35 16)), .int (zI (i35 17)), .int (zI (i35 18)), .ref (q 17), .ref (q 18), .ref (q 19), .ref (q 20)]))] := by subst e_i35; exact hD
      exact ret (zI (-1000)) (fun k => [(i35, fun _ _ => 0)].getD k (fun _ => 0, fun _ _ => 0)) _ _ _ _ _ _ rfl ⟨(-1000), rfl, hO36, (show i35 1 = i 1 ∧ i35 8 = i 8 ∧ i35 9 = i 9 ∧ i35 12 = i 12 ∧ i35 13 = i 13 ∧ i35 15 = i 15 ∧ i35 17 = i 17 ∧ i35 10 ≠ 4 from by omega)⟩ (bw_subP (isC := [1, 0]) hP rfl) (hD.sub [1, 0] (by decide) rfl) hS (Nat.le_of_ble_eq_true rfl) (Nat.le_of_ble_eq_true rfl) dX9_degree_33
theorem dX9_goTrail_0 : decode cX9_goTrail 0 = .ok (.aload_n 0, 1) := bo_42 (by decide +kernel)
theorem dX9_goTrail_1 : decode cX9_goTrail 1 = .ok (.invokevirtual 339, 3) := bo_182 1 83 (by decide +kernel)
theorem dX9_goTrail_4 : decode cX9_goTrail 4 = .ok (.aload_n 0, 1) := bo_42 (by decide +kernel)
theorem dX9_goTrail_5 : decode cX9_goTrail 5 = .ok (.iconst 0, 1) := bo_3 (by decide +kernel)
theorem dX9_goTrail_6 : decode cX9_goTrail 6 = .ok (.invokevirtual 342, 3) := bo_182 1 86 (by decide +kernel)
theorem dX9_goTrail_9 : decode cX9_goTrail 9 = .ok (.ifCond .ne 6, 3) := bo_154 0 6 (by decide +kernel)
theorem dX9_goTrail_15 : decode cX9_goTrail 15 = .ok (.iconst 0, 1) := bo_3 (by decide +kernel)
theorem dX9_goTrail_16 : decode cX9_goTrail 16 = .ok (.istore_n 1, 1) := bo_60 (by decide +kernel)
theorem dX9_goTrail_17 : decode cX9_goTrail 17 = .ok (.iconst 0, 1) := bo_3 (by decide +kernel)
theorem dX9_goTrail_18 : decode cX9_goTrail 18 = .ok (.istore_n 2, 1) := bo_61 (by decide +kernel)
theorem dX9_goTrail_19 : decode cX9_goTrail 19 = .ok (.iconst 1, 1) := bo_4 (by decide +kernel)
theorem dX9_goTrail_20 : decode cX9_goTrail 20 = .ok (.istore_n 3, 1) := bo_62 (by decide +kernel)
theorem dX9_goTrail_21 : decode cX9_goTrail 21 = .ok (.iload_n 3, 1) := bo_29 (by decide +kernel)
theorem dX9_goTrail_22 : decode cX9_goTrail 22 = .ok (.ifCond .eq 120, 3) := bo_153 0 120 (by decide +kernel)
theorem dX9_goTrail_142 : decode cX9_goTrail 142 = .ok (.iload_n 1, 1) := bo_27 (by decide +kernel)
theorem dX9_goTrail_143 : decode cX9_goTrail 143 = .ok (.ireturn, 1) := bo_172 (by decide +kernel)
theorem dX9_goTrail_25 : decode cX9_goTrail 25 = .ok (.iconst 0, 1) := bo_3 (by decide +kernel)
theorem dX9_goTrail_26 : decode cX9_goTrail 26 = .ok (.istore_n 3, 1) := bo_62 (by decide +kernel)
theorem dX9_goTrail_27 : decode cX9_goTrail 27 = .ok (.iconst 2, 1) := bo_5 (by decide +kernel)
theorem dX9_goTrail_28 : decode cX9_goTrail 28 = .ok (.iload_n 2, 1) := bo_28 (by decide +kernel)
theorem dX9_goTrail_29 : decode cX9_goTrail 29 = .ok (.imul, 1) := bo_104 (by decide +kernel)
theorem dX9_goTrail_30 : decode cX9_goTrail 30 = .ok (.istore 4, 2) := bo_54 (by decide +kernel)
theorem dX9_goTrail_32 : decode cX9_goTrail 32 = .ok (.iload 4, 2) := bo_21 (by decide +kernel)
theorem dX9_goTrail_34 : decode cX9_goTrail 34 = .ok (.iconst 2, 1) := bo_5 (by decide +kernel)
theorem dX9_goTrail_35 : decode cX9_goTrail 35 = .ok (.iload_n 2, 1) := bo_28 (by decide +kernel)
theorem dX9_goTrail_36 : decode cX9_goTrail 36 = .ok (.imul, 1) := bo_104 (by decide +kernel)
theorem dX9_goTrail_37 : decode cX9_goTrail 37 = .ok (.iconst 2, 1) := bo_5 (by decide +kernel)
theorem dX9_goTrail_38 : decode cX9_goTrail 38 = .ok (.iadd, 1) := bo_96 (by decide +kernel)
theorem dX9_goTrail_39 : decode cX9_goTrail 39 = .ok (.if_icmp .ge 80, 3) := bo_162 0 80 (by decide +kernel)
theorem dX9_goTrail_119 : decode cX9_goTrail 119 = .ok (.iload_n 3, 1) := bo_29 (by decide +kernel)
theorem dX9_goTrail_120 : decode cX9_goTrail 120 = .ok (.ifCond .eq (-99), 3) := bo_153 255 157 (by decide +kernel)
theorem dX9_goTrail_123 : decode cX9_goTrail 123 = .ok (.aload_n 0, 1) := bo_42 (by decide +kernel)
theorem dX9_goTrail_124 : decode cX9_goTrail 124 = .ok (.getfield 23, 3) := bo_180 0 23 (by decide +kernel)
theorem dX9_goTrail_127 : decode cX9_goTrail 127 = .ok (.aload_n 0, 1) := bo_42 (by decide +kernel)
theorem dX9_goTrail_128 : decode cX9_goTrail 128 = .ok (.getfield 68, 3) := bo_180 0 68 (by decide +kernel)
theorem k_1200 : Cond.fieldLink RX9 68 "BurntWaysModel" "trail" "[I" ∈ bw_T := bw_m 1200 (by decide +kernel) rfl
theorem dX9_goTrail_131 : decode cX9_goTrail 131 = .ok (.iload_n 1, 1) := bo_27 (by decide +kernel)
theorem dX9_goTrail_132 : decode cX9_goTrail 132 = .ok (.iconst 1, 1) := bo_4 (by decide +kernel)
theorem dX9_goTrail_133 : decode cX9_goTrail 133 = .ok (.isub, 1) := bo_100 (by decide +kernel)
theorem dX9_goTrail_134 : decode cX9_goTrail 134 = .ok (.iaload, 1) := bo_46 (by decide +kernel)
theorem dX9_goTrail_135 : decode cX9_goTrail 135 = .ok (.invokestatic 333, 3) := bo_184 1 77 (by decide +kernel)
theorem dX9_goTrail_138 : decode cX9_goTrail 138 = .ok (.istore_n 2, 1) := bo_61 (by decide +kernel)
theorem dX9_goTrail_139 : decode cX9_goTrail 139 = .ok (.goto (-118), 3) := bo_167 255 138 (by decide +kernel)
theorem dX9_goTrail_42 : decode cX9_goTrail 42 = .ok (.iload_n 3, 1) := bo_29 (by decide +kernel)
theorem dX9_goTrail_43 : decode cX9_goTrail 43 = .ok (.ifCond .ne 76, 3) := bo_154 0 76 (by decide +kernel)
theorem dX9_goTrail_46 : decode cX9_goTrail 46 = .ok (.aload_n 0, 1) := bo_42 (by decide +kernel)
theorem dX9_goTrail_47 : decode cX9_goTrail 47 = .ok (.getfield 65, 3) := bo_180 0 65 (by decide +kernel)
theorem dX9_goTrail_50 : decode cX9_goTrail 50 = .ok (.iload 4, 2) := bo_21 (by decide +kernel)
theorem dX9_goTrail_52 : decode cX9_goTrail 52 = .ok (.iaload, 1) := bo_46 (by decide +kernel)
theorem dX9_goTrail_53 : decode cX9_goTrail 53 = .ok (.ifCond .ne 6, 3) := bo_154 0 6 (by decide +kernel)
theorem dX9_goTrail_59 : decode cX9_goTrail 59 = .ok (.aload_n 0, 1) := bo_42 (by decide +kernel)
theorem dX9_goTrail_60 : decode cX9_goTrail 60 = .ok (.getfield 65, 3) := bo_180 0 65 (by decide +kernel)
theorem dX9_goTrail_63 : decode cX9_goTrail 63 = .ok (.iload 4, 2) := bo_21 (by decide +kernel)
theorem dX9_goTrail_65 : decode cX9_goTrail 65 = .ok (.dup2, 1) := bo_92 (by decide +kernel)
theorem dX9_goTrail_66 : decode cX9_goTrail 66 = .ok (.iaload, 1) := bo_46 (by decide +kernel)
theorem dX9_goTrail_67 : decode cX9_goTrail 67 = .ok (.iconst 1, 1) := bo_4 (by decide +kernel)
theorem dX9_goTrail_68 : decode cX9_goTrail 68 = .ok (.isub, 1) := bo_100 (by decide +kernel)
theorem dX9_goTrail_69 : decode cX9_goTrail 69 = .ok (.iastore, 1) := bo_79 (by decide +kernel)
theorem dX9_goTrail_70 : decode cX9_goTrail 70 = .ok (.aload_n 0, 1) := bo_42 (by decide +kernel)
theorem dX9_goTrail_71 : decode cX9_goTrail 71 = .ok (.aload_n 0, 1) := bo_42 (by decide +kernel)
theorem dX9_goTrail_72 : decode cX9_goTrail 72 = .ok (.getfield 23, 3) := bo_180 0 23 (by decide +kernel)
theorem dX9_goTrail_75 : decode cX9_goTrail 75 = .ok (.iload 4, 2) := bo_21 (by decide +kernel)
theorem dX9_goTrail_77 : decode cX9_goTrail 77 = .ok (.invokestatic 333, 3) := bo_184 1 77 (by decide +kernel)
theorem dX9_goTrail_80 : decode cX9_goTrail 80 = .ok (.invokevirtual 342, 3) := bo_182 1 86 (by decide +kernel)
theorem dX9_goTrail_83 : decode cX9_goTrail 83 = .ok (.ifCond .ne 17, 3) := bo_154 0 17 (by decide +kernel)
theorem dX9_goTrail_100 : decode cX9_goTrail 100 = .ok (.aload_n 0, 1) := bo_42 (by decide +kernel)
theorem dX9_goTrail_101 : decode cX9_goTrail 101 = .ok (.getfield 68, 3) := bo_180 0 68 (by decide +kernel)
theorem dX9_goTrail_104 : decode cX9_goTrail 104 = .ok (.iload_n 1, 1) := bo_27 (by decide +kernel)
theorem dX9_goTrail_105 : decode cX9_goTrail 105 = .ok (.iload 4, 2) := bo_21 (by decide +kernel)
theorem dX9_goTrail_107 : decode cX9_goTrail 107 = .ok (.iastore, 1) := bo_79 (by decide +kernel)
theorem dX9_goTrail_108 : decode cX9_goTrail 108 = .ok (.iinc 1 1, 3) := bo_132 1 1 (by decide +kernel)
theorem dX9_goTrail_111 : decode cX9_goTrail 111 = .ok (.iconst 1, 1) := bo_4 (by decide +kernel)
theorem dX9_goTrail_112 : decode cX9_goTrail 112 = .ok (.istore_n 3, 1) := bo_62 (by decide +kernel)
theorem dX9_goTrail_113 : decode cX9_goTrail 113 = .ok (.iinc 4 1, 3) := bo_132 4 1 (by decide +kernel)
theorem dX9_goTrail_116 : decode cX9_goTrail 116 = .ok (.goto (-84), 3) := bo_167 255 172 (by decide +kernel)
theorem dX9_goTrail_86 : decode cX9_goTrail 86 = .ok (.aload_n 0, 1) := bo_42 (by decide +kernel)
theorem dX9_goTrail_87 : decode cX9_goTrail 87 = .ok (.getfield 65, 3) := bo_180 0 65 (by decide +kernel)
theorem dX9_goTrail_90 : decode cX9_goTrail 90 = .ok (.iload 4, 2) := bo_21 (by decide +kernel)
theorem dX9_goTrail_92 : decode cX9_goTrail 92 = .ok (.dup2, 1) := bo_92 (by decide +kernel)
theorem dX9_goTrail_93 : decode cX9_goTrail 93 = .ok (.iaload, 1) := bo_46 (by decide +kernel)
theorem dX9_goTrail_94 : decode cX9_goTrail 94 = .ok (.iconst 1, 1) := bo_4 (by decide +kernel)
theorem dX9_goTrail_95 : decode cX9_goTrail 95 = .ok (.iadd, 1) := bo_96 (by decide +kernel)
theorem dX9_goTrail_96 : decode cX9_goTrail 96 = .ok (.iastore, 1) := bo_79 (by decide +kernel)
theorem dX9_goTrail_97 : decode cX9_goTrail 97 = .ok (.goto 16, 3) := bo_167 0 16 (by decide +kernel)
theorem dX9_goTrail_56 : decode cX9_goTrail 56 = .ok (.goto 57, 3) := bo_167 0 57 (by decide +kernel)
theorem dX9_goTrail_12 : decode cX9_goTrail 12 = .ok (.bipush (-2), 2) := bo_16 254 (by decide +kernel)
theorem dX9_goTrail_14 : decode cX9_goTrail 14 = .ok (.ireturn, 1) := bo_172 (by decide +kernel)
abbrev rm_X9_goTrail : Room := { frames := 2, cells := 0, slots := 0, locals := 50 }
set_option maxRecDepth 100000 in
set_option maxHeartbeats 8000000 in
theorem c_X9_goTrail {l : Launch} {E : (Nat → Prop) → State → Prop} (hO : bw_Ok E) {G : va_G} {cI cB cJ cN cW : ClassId} (y : Nat) (q : Nat → Nat) (i : Nat → Int) (hM : ModOk i) (g_now : Nat → Int) (g_rest : Nat → Int) (hr_rest : ∀ k, k < 20 → 0 ≤ g_rest k ∧ g_rest k ≤ 9) (g_trail : Nat → Int) (hr_trail : ∀ k, k < 180 → 0 ≤ g_trail k ∧ g_trail k ≤ 19) (hpn : ProgOk g_now) : bw_Ci (S := zV) l yX9_goTrail (bw_ws (Cond.code yX9_goTrail cX9_goTrail 5 (some .int))) rm_X9_goTrail E G (bw_kt cI cB cJ cN cW) [.ref y] [(y, .inr (9, [.int (zI (i 0)), .ref (q 0), .int (zI (i 1)), .int (zI (i 2)), .int (zI (i 3)), .int (zI (i 4)), .int (zI (i 5)), .int (zI (i 6)), .int (zI (i 7)), .int (zI (i 8)), .int (zI (i 9)), .int (zI (i 10)), .ref (q 1), .int (zI (i 11)), .int (zI (i 12)), .ref (q 2), .ref (q 3), .ref (q 4), .ref (q 5), .ref (q 6), .ref (q 7), .ref (q 8), .ref (q 9), .ref (q 10), .ref (q 11), .ref (q 12), .ref (q 13), .ref (q 14), .ref (q 15), .ref (q 16), .int (zI (i 13)), .int (zI (i 14)), .int (zI (i 15)), .int (zI (i 16)), .int (zI (i 17)), .int (zI (i 18)), .ref (q 17), .ref (q 18), .ref (q 19), .ref (q 20)])), ((q 3), .inl (cI, 200, .inl (fun k => zI (g_now k)))), ((q 17), .inl (cI, 20, .inl (fun k => zI (g_rest k)))), ((q 18), .inl (cI, 180, .inl (fun k => zI (g_trail k))))] (fun r u => ∃ z : Int, r = zI z ∧ (∀ k, k < 20 → 0 ≤ ((u 1).2 0) k ∧ ((u 1).2 0) k ≤ 9) ∧ (∀ k, k < 180 → 0 ≤ ((u 2).2 0) k ∧ ((u 2).2 0) k ≤ 19) ∧ (-2 ≤ z ∧ z ≤ 180)) (fun u => [(y, .inr (9, [.int (zI (i 0)), .ref (q 0), .int (zI (i 1)), .int (zI (i 2)), .int (zI (i 3)), .int (zI (i 4)), .int (zI (i 5)), .int (zI (i 6)), .int (zI (i 7)), .int (zI (i 8)), .int (zI (i 9)), .int (zI (i 10)), .ref (q 1), .int (zI (i 11)), .int (zI (i 12)), .ref (q 2), .ref (q 3), .ref (q 4), .ref (q 5), .ref (q 6), .ref (q 7), .ref (q 8), .ref (q 9), .ref (q 10), .ref (q 11), .ref (q 12), .ref (q 13), .ref (q 14), .ref (q 15), .ref (q 16), .int (zI (i 13)), .int (zI (i 14)), .int (zI (i 15)), .int (zI (i 16)), .int (zI (i 17)), .int (zI (i 18)), .ref (q 17), .ref (q 18), .ref (q 19), .ref (q 20)])), ((q 3), .inl (cI, 200, .inl (fun k => zI (g_now k)))), ((q 17), .inl (cI, 20, .inl (fun k => zI (((u 1).2 0) k)))), ((q 18), .inl (cI, 180, .inl (fun k => zI (((u 2).2 0) k))))]) := by
  refine bw_Ci.of (cc := cX9_goTrail) (maxL := 5) (ty := .int) (by decide) rfl (Nat.le_of_ble_eq_true rfl) ?_
  intro p e s m below meth c A Q hx hb hml hts hown hin hK hA hS hP hD hE ret ls hl
  have F : CallFix p m c cX9_goTrail 5 s ([.ref y] : List Value).toArray bw_T RX9 := ⟨hx, hb, hml, hown, fun w h => hts w (List.mem_cons_of_mem _ h)⟩
  replace hl : lv_has ls 5 [(0, .ref y)] := hl
  have hf1 := hM.1
  refine lv_aload_n hx hb dX9_goTrail_0 rfl (lv_at hl 0 rfl) ?_
  refine r_callVv (As := []) (rest := []) (wr := [((q 18), .inl (cI, 180, .inl (fun k => zI (g_trail k))))]) F hK hP hD hS hA hO hE (c_X9_layRest hO y q i hM g_now g_rest hr_rest hpn) k_1589 kv_X9_layRest 0 rfl (by decide +kernel) ⟨Nat.le_of_ble_eq_true rfl, Nat.le_of_ble_eq_true rfl⟩ [0, 1, 2] [3] rfl rfl (by decide) (by decide) (by decide) 0 9 rfl rfl rfl hl.1 rfl (Nat.le_of_ble_eq_true rfl) dX9_goTrail_1 ⟨Nat.le_of_ble_eq_true rfl, Nat.le_of_ble_eq_true rfl⟩ (w1 := fun u2 => [((q 18), .inl (cI, 180, .inl (fun k => zI (g_trail k)))), (y, .inr (9, [.int (zI (i 0)), .ref (q 0), .int (zI (i 1)), .int (zI (i 2)), .int (zI (i 3)), .int (zI (i 4)), .int (zI (i 5)), .int (zI (i 6)), .int (zI (i 7)), .int (zI (i 8)), .int (zI (i 9)), .int (zI (i 10)), .ref (q 1), .int (zI (i 11)), .int (zI (i 12)), .ref (q 2), .ref (q 3), .ref (q 4), .ref (q 5), .ref (q 6), .ref (q 7), .ref (q 8), .ref (q 9), .ref (q 10), .ref (q 11), .ref (q 12), .ref (q 13), .ref (q 14), .ref (q 15), .ref (q 16), .int (zI (i 13)), .int (zI (i 14)), .int (zI (i 15)), .int (zI (i 16)), .int (zI (i 17)), .int (zI (i 18)), .ref (q 17), .ref (q 18), .ref (q 19), .ref (q 20)])), ((q 3), .inl (cI, 200, .inl (fun k => zI (g_now k)))), ((q 17), .inl (cI, 20, .inl (fun k => zI (((u2 1).2 0) k))))]) (fun _ => rfl) (fun  u2 H locs hp3 hP hD hS => ?_)
  have hc4 := sumZ_bd (n := 20) (c := 9) (fun k hk => (hp3.1 k hk).2)
  have hc5 := sumZ_pos (n := 20) (fun k hk => (hp3.1 k hk).1)
  refine lv_aload_n hx hb dX9_goTrail_4 rfl (lv_at hl 0 rfl) ?_
  refine lv_iconst (v := zI 0) hx hb dX9_goTrail_5 rfl ?_
  refine r_callVi (As := [.int (zI 0)]) (rest := []) (wr := [((q 18), .inl (cI, 180, .inl (fun k => zI (g_trail k))))]) F hK hP hD hS hA hO hE (c_X9_isEven hO y q i hM g_now ((u2 1).2 0) hp3.1 0 (by omega) hpn (by omega)) k_1593 kv_X9_isEven 1 rfl (by decide +kernel) ⟨Nat.le_of_ble_eq_true rfl, Nat.le_of_ble_eq_true rfl⟩ [1, 2, 3] [0] rfl rfl (by decide) (by decide) (by decide) 0 9 rfl rfl rfl hl.1 rfl (Nat.le_of_ble_eq_true rfl) dX9_goTrail_6 ⟨Nat.le_of_ble_eq_true rfl, Nat.le_of_ble_eq_true rfl⟩ (w1 := fun u6 => [((q 18), .inl (cI, 180, .inl (fun k => zI (g_trail k)))), (y, .inr (9, [.int (zI (i 0)), .ref (q 0), .int (zI (i 1)), .int (zI (i 2)), .int (zI (i 3)), .int (zI (i 4)), .int (zI (i 5)), .int (zI (i 6)), .int (zI (i 7)), .int (zI (i 8)), .int (zI (i 9)), .int (zI (i 10)), .ref (q 1), .int (zI (i 11)), .int (zI (i 12)), .ref (q 2), .ref (q 3), .ref (q 4), .ref (q 5), .ref (q 6), .ref (q 7), .ref (q 8), .ref (q 9), .ref (q 10), .ref (q 11), .ref (q 12), .ref (q 13), .ref (q 14), .ref (q 15), .ref (q 16), .int (zI (i 13)), .int (zI (i 14)), .int (zI (i 15)), .int (zI (i 16)), .int (zI (i 17)), .int (zI (i 18)), .ref (q 17), .ref (q 18), .ref (q 19), .ref (q 20)])), ((q 3), .inl (cI, 200, .inl (fun k => zI (g_now k)))), ((q 17), .inl (cI, 20, .inl (fun k => zI (((u2 1).2 0) k))))]) (fun _ => rfl) (fun r7 u6 H locs hp8 hP hD hS => ?_)
  obtain ⟨z9, rfl, h_z9⟩ := hp8
  refine rz_ifb_ne (tgt := 15) F (by omega) dX9_goTrail_9 (by decide) (fun h9_9 => ?_) (fun h9_9 => ?_)
  · refine lv_iconst (v := zI 0) hx hb dX9_goTrail_15 rfl ?_
    refine lv_istore_n (lv' := [(1, .int (zI 0)), (0, .ref y)]) hx hb dX9_goTrail_16 rfl hl (by decide) rfl (fun ls hl => ?_)
    refine lv_iconst (v := zI 0) hx hb dX9_goTrail_17 rfl ?_
    refine lv_istore_n (lv' := [(2, .int (zI 0)), (1, .int (zI 0)), (0, .ref y)]) hx hb dX9_goTrail_18 rfl hl (by decide) rfl (fun ls hl => ?_)
    refine lv_iconst (v := zI 1) hx hb dX9_goTrail_19 rfl ?_
    refine lv_istore_n (lv' := [(3, .int (zI 1)), (2, .int (zI 0)), (1, .int (zI 0)), (0, .ref y)]) hx hb dX9_goTrail_20 rfl hl (by decide) rfl (fun ls hl => ?_)
    refine W.widen (k := 0) (n := 0) (Nat.le_of_ble_eq_true rfl) (Nat.le_of_ble_eq_true rfl) ?_
    refine (?_ : ∀ (n9_1 : Nat) (v1 : Int) (v2 : Int) (v3 : Int) (gr9 : Nat → Int) (gt9 : Nat → Int) (H : Heap) (locs : List Loc), (0 ≤ v1 ∧ v1 + sumZ gr9 20 ≤ 180 ∧ 0 ≤ v2 ∧ v2 ≤ 9 ∧ 0 ≤ v3 ∧ v3 ≤ 1) → (2 * (181 - v1) + v3 : Int).toNat < n9_1 → (∀ k, k < 20 → 0 ≤ gr9 k ∧ gr9 k ≤ 9) → (∀ k, k < 180 → 0 ≤ gt9 k ∧ gt9 k ≤ 19) → va_P G vwCl [((q 18), .inl (cI, 180, .inl (fun k => zI (gt9 k)))), (y, .inr (9, [.int (zI (i 0)), .ref (q 0), .int (zI (i 1)), .int (zI (i 2)), .int (zI (i 3)), .int (zI (i 4)), .int (zI (i 5)), .int (zI (i 6)), .int (zI (i 7)), .int (zI (i 8)), .int (zI (i 9)), .int (zI (i 10)), .ref (q 1), .int (zI (i 11)), .int (zI (i 12)), .ref (q 2), .ref (q 3), .ref (q 4), .ref (q 5), .ref (q 6), .ref (q 7), .ref (q 8), .ref (q 9), .ref (q 10), .ref (q 11), .ref (q 12), .ref (q 13), .ref (q 14), .ref (q 15), .ref (q 16), .int (zI (i 13)), .int (zI (i 14)), .int (zI (i 15)), .int (zI (i 16)), .int (zI (i 17)), .int (zI (i 18)), .ref (q 17), .ref (q 18), .ref (q 19), .ref (q 20)])), ((q 3), .inl (cI, 200, .inl (fun k => zI (g_now k)))), ((q 17), .inl (cI, 20, .inl (fun k => zI (gr9 k))))] H → va_D A [((q 18), .inl (cI, 180, .inl (fun k => zI (gt9 k)))), (y, .inr (9, [.int (zI (i 0)), .ref (q 0), .int (zI (i 1)), .int (zI (i 2)), .int (zI (i 3)), .int (zI (i 4)), .int (zI (i 5)), .int (zI (i 6)), .int (zI (i 7)), .int (zI (i 8)), .int (zI (i 9)), .int (zI (i 10)), .ref (q 1), .int (zI (i 11)), .int (zI (i 12)), .ref (q 2), .ref (q 3), .ref (q 4), .ref (q 5), .ref (q 6), .ref (q 7), .ref (q 8), .ref (q 9), .ref (q 10), .ref (q 11), .ref (q 12), .ref (q 13), .ref (q 14), .ref (q 15), .ref (q 16), .int (zI (i 13)), .int (zI (i 14)), .int (zI (i 15)), .int (zI (i 16)), .int (zI (i 17)), .int (zI (i 18)), .ref (q 17), .ref (q 18), .ref (q 19), .ref (q 20)])), ((q 3), .inl (cI, 200, .inl (fun k => zI (g_now k)))), ((q 17), .inl (cI, 20, .inl (fun k => zI (gr9 k))))] → va_S A s.heap H locs → ∀ ls : Array Slot, lv_has ls 5 [(3, .int (zI v3)), (2, .int (zI v2)), (1, .int (zI v1)), (0, .ref y)] → W p l e rm_X9_goTrail s m ([.ref y] : List Value).toArray below meth c H locs 0 0 Q (F0 m 21 ls [])) ((2 * (181 - 0) + 1 : Int).toNat + 1) 0 0 1 ((u2 1).2 0) g_trail _ _ (by omega) (by omega) hp3.1 hr_trail hP hD hS ls hl
    clear hP hD hS hl ls
    intro n9_1
    induction n9_1 with
    | zero =>
      intro v1 v2 v3 gr9 gt9 H locs hI hM
      exact absurd hM (by omega)
    | succ n9_1 ih1 =>
      intro v1 v2 v3 gr9 gt9 H locs hI1 hM1 h_gr9 h_gt9 hP hD hS ls hl
      refine lv_iload_n hx hb dX9_goTrail_21 rfl (lv_at hl 0 rfl) ?_
      have hc11 := sumZ_pos (n := 20) (fun k hk => (h_gr9 k hk).1)
      refine rz_if_eq (tgt := 142) F (by omega) dX9_goTrail_22 (by decide) (fun h22_11 => ?_) (fun h22_11 => ?_)
      · refine lv_iload_n hx hb dX9_goTrail_142 rfl (lv_at hl 2 rfl) ?_
        exact ret (zI v1) (fun k => [((fun _ => 0), fun _ _ => 0), (fun _ => 0, fun _ => gr9), (fun _ => 0, fun _ => gt9)].getD k (fun _ => 0, fun _ _ => 0)) _ _ _ _ _ _ rfl ⟨v1, rfl, h_gr9, h_gt9, by omega⟩ (bw_subP (isC := [1, 2, 3, 0]) hP rfl) (hD.sub [1, 2, 3, 0] (by decide) rfl) hS (Nat.le_of_ble_eq_true rfl) (Nat.le_of_ble_eq_true rfl) dX9_goTrail_143
      · refine lv_iconst (v := zI 0) hx hb dX9_goTrail_25 rfl ?_
        refine lv_istore_n (lv' := [(3, .int (zI 0)), (2, .int (zI v2)), (1, .int (zI v1)), (0, .ref y)]) hx hb dX9_goTrail_26 rfl hl (by decide) rfl (fun ls hl => ?_)
        refine lv_iconst (v := zI 2) hx hb dX9_goTrail_27 rfl ?_
        refine lv_iload_n hx hb dX9_goTrail_28 rfl (lv_at hl 1 rfl) ?_
        refine r_imul (v := zI (2 * v2)) F dX9_goTrail_29 (zI_mul _ _) ?_
        refine lv_istore (lv' := [(4, .int (zI (2 * v2))), (3, .int (zI 0)), (2, .int (zI v2)), (1, .int (zI v1)), (0, .ref y)]) hx hb dX9_goTrail_30 hl (by decide) rfl (fun ls hl => ?_)
        refine W.widen (k := 0) (n := 0) (Nat.le_of_ble_eq_true rfl) (Nat.le_of_ble_eq_true rfl) ?_
        refine (?_ : ∀ (n9_2 : Nat) (w1 : Int) (w3 : Int) (w4 : Int) (gr8 : Nat → Int) (gt8 : Nat → Int) (H : Heap) (locs : List Loc), (0 ≤ w3 ∧ w3 ≤ 1 ∧ w1 = v1 + w3 ∧ w1 + sumZ gr8 20 ≤ 180 ∧ 2 * v2 ≤ w4 ∧ w4 ≤ 2 * v2 + 2) → (2 * v2 + 2 - w4 : Int).toNat < n9_2 → (∀ k, k < 20 → 0 ≤ gr8 k ∧ gr8 k ≤ 9) → (∀ k, k < 180 → 0 ≤ gt8 k ∧ gt8 k ≤ 19) → va_P G vwCl [((q 18), .inl (cI, 180, .inl (fun k => zI (gt8 k)))), (y, .inr (9, [.int (zI (i 0)), .ref (q 0), .int (zI (i 1)), .int (zI (i 2)), .int (zI (i 3)), .int (zI (i 4)), .int (zI (i 5)), .int (zI (i 6)), .int (zI (i 7)), .int (zI (i 8)), .int (zI (i 9)), .int (zI (i 10)), .ref (q 1), .int (zI (i 11)), .int (zI (i 12)), .ref (q 2), .ref (q 3), .ref (q 4), .ref (q 5), .ref (q 6), .ref (q 7), .ref (q 8), .ref (q 9), .ref (q 10), .ref (q 11), .ref (q 12), .ref (q 13), .ref (q 14), .ref (q 15), .ref (q 16), .int (zI (i 13)), .int (zI (i 14)), .int (zI (i 15)), .int (zI (i 16)), .int (zI (i 17)), .int (zI (i 18)), .ref (q 17), .ref (q 18), .ref (q 19), .ref (q 20)])), ((q 3), .inl (cI, 200, .inl (fun k => zI (g_now k)))), ((q 17), .inl (cI, 20, .inl (fun k => zI (gr8 k))))] H → va_D A [((q 18), .inl (cI, 180, .inl (fun k => zI (gt8 k)))), (y, .inr (9, [.int (zI (i 0)), .ref (q 0), .int (zI (i 1)), .int (zI (i 2)), .int (zI (i 3)), .int (zI (i 4)), .int (zI (i 5)), .int (zI (i 6)), .int (zI (i 7)), .int (zI (i 8)), .int (zI (i 9)), .int (zI (i 10)), .ref (q 1), .int (zI (i 11)), .int (zI (i 12)), .ref (q 2), .ref (q 3), .ref (q 4), .ref (q 5), .ref (q 6), .ref (q 7), .ref (q 8), .ref (q 9), .ref (q 10), .ref (q 11), .ref (q 12), .ref (q 13), .ref (q 14), .ref (q 15), .ref (q 16), .int (zI (i 13)), .int (zI (i 14)), .int (zI (i 15)), .int (zI (i 16)), .int (zI (i 17)), .int (zI (i 18)), .ref (q 17), .ref (q 18), .ref (q 19), .ref (q 20)])), ((q 3), .inl (cI, 200, .inl (fun k => zI (g_now k)))), ((q 17), .inl (cI, 20, .inl (fun k => zI (gr8 k))))] → va_S A s.heap H locs → ∀ ls : Array Slot, lv_has ls 5 [(4, .int (zI w4)), (3, .int (zI w3)), (2, .int (zI v2)), (1, .int (zI w1)), (0, .ref y)] → W p l e rm_X9_goTrail s m ([.ref y] : List Value).toArray below meth c H locs 0 0 Q (F0 m 32 ls [])) ((2 * v2 + 2 - (2 * v2) : Int).toNat + 1) v1 0 (2 * v2) gr9 gt9 _ _ (by omega) (by omega) h_gr9 h_gt9 hP hD hS ls hl
        clear hP hD hS hl ls
        intro n9_2
        induction n9_2 with
        | zero =>
          intro w1 w3 w4 gr8 gt8 H locs hI hM
          exact absurd hM (by omega)
        | succ n9_2 ih2 =>
          intro w1 w3 w4 gr8 gt8 H locs hI2 hM2 h_gr8 h_gt8 hP hD hS ls hl
          refine lv_iload hx hb dX9_goTrail_32 (lv_at hl 0 rfl) ?_
          have hc13 := sumZ_pos (n := 20) (fun k hk => (h_gr8 k hk).1)
          refine lv_iconst (v := zI 2) hx hb dX9_goTrail_34 rfl ?_
          refine lv_iload_n hx hb dX9_goTrail_35 rfl (lv_at hl 2 rfl) ?_
          refine r_imul (v := zI (2 * v2)) F dX9_goTrail_36 (zI_mul _ _) ?_
          refine lv_iconst (v := zI 2) hx hb dX9_goTrail_37 rfl ?_
          refine r_iadd (v := zI ((2 * v2) + 2)) F dX9_goTrail_38 (zI_add _ _) ?_
          refine rz_icmp_ge (tgt := 119) F (by omega) (by omega) dX9_goTrail_39 (by decide) (fun h39_13 => ?_) (fun h39_13 => ?_)
          · refine lv_iload_n hx hb dX9_goTrail_119 rfl (lv_at hl 1 rfl) ?_
            refine rz_if_eq (tgt := 21) F (by omega) dX9_goTrail_120 (by decide) (fun h120_14 => ?_) (fun h120_14 => ?_)
            · exact ih1 w1 v2 w3 gr8 gt8 _ _ (by omega) (by omega) h_gr8 h_gt8 hP hD hS ls (lv_sub hl [1, 2, 3, 4] rfl)
            · refine lv_aload_n hx hb dX9_goTrail_123 rfl (lv_at hl 4 rfl) ?_
              refine r_get F hK hP 1 16 rfl rfl in_X9 (by decide) k_1179 rfl dX9_goTrail_124 ?_
              refine lv_aload_n hx hb dX9_goTrail_127 rfl (lv_at hl 4 rfl) ?_
              refine r_get F hK hP 1 37 rfl rfl in_X9 (by decide) k_1200 rfl dX9_goTrail_128 ?_
              refine lv_iload_n hx hb dX9_goTrail_131 rfl (lv_at hl 3 rfl) ?_
              refine lv_iconst (v := zI 1) hx hb dX9_goTrail_132 rfl ?_
              refine r_isub (v := zI (w1 - 1)) F dX9_goTrail_133 (zI_sub _ _) ?_
              refine rz_iald F hK hP 0 0 rfl rfl (by omega) (by omega) dX9_goTrail_134 ?_
              have h_l134_15 := h_gt8 ((w1 - 1)).toNat (by omega)
              refine r_callSi (As := [.ref (q 3), .int (zI (gt8 ((w1 - 1)).toNat))]) (rest := []) (wr := [((q 18), .inl (cI, 180, .inl (fun k => zI (gt8 k)))), (y, .inr (9, [.int (zI (i 0)), .ref (q 0), .int (zI (i 1)), .int (zI (i 2)), .int (zI (i 3)), .int (zI (i 4)), .int (zI (i 5)), .int (zI (i 6)), .int (zI (i 7)), .int (zI (i 8)), .int (zI (i 9)), .int (zI (i 10)), .ref (q 1), .int (zI (i 11)), .int (zI (i 12)), .ref (q 2), .ref (q 3), .ref (q 4), .ref (q 5), .ref (q 6), .ref (q 7), .ref (q 8), .ref (q 9), .ref (q 10), .ref (q 11), .ref (q 12), .ref (q 13), .ref (q 14), .ref (q 15), .ref (q 16), .int (zI (i 13)), .int (zI (i 14)), .int (zI (i 15)), .int (zI (i 16)), .int (zI (i 17)), .int (zI (i 18)), .ref (q 17), .ref (q 18), .ref (q 19), .ref (q 20)])), ((q 17), .inl (cI, 20, .inl (fun k => zI (gr8 k))))]) F hK hP hD hS hA hO hE (c_X9_goesTo hO (q 3) g_now (gt8 ((w1 - 1)).toNat) (by omega) hpn (by omega)) k_1582 ks_X9_goesTo 2 rfl (by decide +kernel) ⟨Nat.le_of_ble_eq_true rfl, Nat.le_of_ble_eq_true rfl⟩ [2] [0, 1, 3] rfl rfl (by decide) (by decide) (by decide) hl.1 rfl (Nat.le_of_ble_eq_true rfl) dX9_goTrail_135 ⟨Nat.le_of_ble_eq_true rfl, Nat.le_of_ble_eq_true rfl⟩ (w1 := fun u17 => [((q 18), .inl (cI, 180, .inl (fun k => zI (gt8 k)))), (y, .inr (9, [.int (zI (i 0)), .ref (q 0), .int (zI (i 1)), .int (zI (i 2)), .int (zI (i 3)), .int (zI (i 4)), .int (zI (i 5)), .int (zI (i 6)), .int (zI (i 7)), .int (zI (i 8)), .int (zI (i 9)), .int (zI (i 10)), .ref (q 1), .int (zI (i 11)), .int (zI (i 12)), .ref (q 2), .ref (q 3), .ref (q 4), .ref (q 5), .ref (q 6), .ref (q 7), .ref (q 8), .ref (q 9), .ref (q 10), .ref (q 11), .ref (q 12), .ref (q 13), .ref (q 14), .ref (q 15), .ref (q 16), .int (zI (i 13)), .int (zI (i 14)), .int (zI (i 15)), .int (zI (i 16)), .int (zI (i 17)), .int (zI (i 18)), .ref (q 17), .ref (q 18), .ref (q 19), .ref (q 20)])), ((q 17), .inl (cI, 20, .inl (fun k => zI (gr8 k)))), ((q 3), .inl (cI, 200, .inl (fun k => zI (g_now k))))]) (fun _ => rfl) (fun r18 u17 H locs hp19 hP hD hS => ?_)
              obtain ⟨z20, rfl, h_z20⟩ := hp19
              refine lv_istore_n (lv' := [(2, .int (zI z20)), (4, .int (zI w4)), (3, .int (zI w3)), (1, .int (zI w1)), (0, .ref y)]) hx hb dX9_goTrail_138 rfl hl (by decide) rfl (fun ls hl => ?_)
              refine lv_goto (tgt := 21) hx hb dX9_goTrail_139 (by decide) ?_
              have hP := bw_subP (isC := [0, 1, 3, 2]) (wc := [((q 18), .inl (cI, 180, .inl (fun k => zI (gt8 k)))), (y, .inr (9, [.int (zI (i 0)), .ref (q 0), .int (zI (i 1)), .int (zI (i 2)), .int (zI (i 3)), .int (zI (i 4)), .int (zI (i 5)), .int (zI (i 6)), .int (zI (i 7)), .int (zI (i 8)), .int (zI (i 9)), .int (zI (i 10)), .ref (q 1), .int (zI (i 11)), .int (zI (i 12)), .ref (q 2), .ref (q 3), .ref (q 4), .ref (q 5), .ref (q 6), .ref (q 7), .ref (q 8), .ref (q 9), .ref (q 10), .ref (q 11), .ref (q 12), .ref (q 13), .ref (q 14), .ref (q 15), .ref (q 16), .int (zI (i 13)), .int (zI (i 14)), .int (zI (i 15)), .int (zI (i 16)), .int (zI (i 17)), .int (zI (i 18)), .ref (q 17), .ref (q 18), .ref (q 19), .ref (q 20)])), ((q 3), .inl (cI, 200, .inl (fun k => zI (g_now k)))), ((q 17), .inl (cI, 20, .inl (fun k => zI (gr8 k))))]) hP rfl
              have hD := hD.sub (ws' := [((q 18), .inl (cI, 180, .inl (fun k => zI (gt8 k)))), (y, .inr (9, [.int (zI (i 0)), .ref (q 0), .int (zI (i 1)), .int (zI (i 2)), .int (zI (i 3)), .int (zI (i 4)), .int (zI (i 5)), .int (zI (i 6)), .int (zI (i 7)), .int (zI (i 8)), .int (zI (i 9)), .int (zI (i 10)), .ref (q 1), .int (zI (i 11)), .int (zI (i 12)), .ref (q 2), .ref (q 3), .ref (q 4), .ref (q 5), .ref (q 6), .ref (q 7), .ref (q 8), .ref (q 9), .ref (q 10), .ref (q 11), .ref (q 12), .ref (q 13), .ref (q 14), .ref (q 15), .ref (q 16), .int (zI (i 13)), .int (zI (i 14)), .int (zI (i 15)), .int (zI (i 16)), .int (zI (i 17)), .int (zI (i 18)), .ref (q 17), .ref (q 18), .ref (q 19), .ref (q 20)])), ((q 3), .inl (cI, 200, .inl (fun k => zI (g_now k)))), ((q 17), .inl (cI, 20, .inl (fun k => zI (gr8 k))))]) [0, 1, 3, 2] (by decide) rfl
              exact ih1 w1 z20 w3 gr8 gt8 _ _ (by omega) (by omega) h_gr8 h_gt8 hP hD hS ls (lv_sub hl [2, 0, 3, 4] rfl)
          · refine lv_iload_n hx hb dX9_goTrail_42 rfl (lv_at hl 1 rfl) ?_
            refine rz_if_ne (tgt := 119) F (by omega) dX9_goTrail_43 (by decide) (fun h43_20 => ?_) (fun h43_20 => ?_)
            · refine lv_iload_n hx hb dX9_goTrail_119 rfl (lv_at hl 1 rfl) ?_
              refine rz_if_eq (tgt := 21) F (by omega) dX9_goTrail_120 (by decide) (fun h120_21 => by omega) (fun h120_21 => ?_)
              refine lv_aload_n hx hb dX9_goTrail_123 rfl (lv_at hl 4 rfl) ?_
              refine r_get F hK hP 1 16 rfl rfl in_X9 (by decide) k_1179 rfl dX9_goTrail_124 ?_
              refine lv_aload_n hx hb dX9_goTrail_127 rfl (lv_at hl 4 rfl) ?_
              refine r_get F hK hP 1 37 rfl rfl in_X9 (by decide) k_1200 rfl dX9_goTrail_128 ?_
              refine lv_iload_n hx hb dX9_goTrail_131 rfl (lv_at hl 3 rfl) ?_
              refine lv_iconst (v := zI 1) hx hb dX9_goTrail_132 rfl ?_
              refine r_isub (v := zI (w1 - 1)) F dX9_goTrail_133 (zI_sub _ _) ?_
              refine rz_iald F hK hP 0 0 rfl rfl (by omega) (by omega) dX9_goTrail_134 ?_
              have h_l134_22 := h_gt8 ((w1 - 1)).toNat (by omega)
              refine r_callSi (As := [.ref (q 3), .int (zI (gt8 ((w1 - 1)).toNat))]) (rest := []) (wr := [((q 18), .inl (cI, 180, .inl (fun k => zI (gt8 k)))), (y, .inr (9, [.int (zI (i 0)), .ref (q 0), .int (zI (i 1)), .int (zI (i 2)), .int (zI (i 3)), .int (zI (i 4)), .int (zI (i 5)), .int (zI (i 6)), .int (zI (i 7)), .int (zI (i 8)), .int (zI (i 9)), .int (zI (i 10)), .ref (q 1), .int (zI (i 11)), .int (zI (i 12)), .ref (q 2), .ref (q 3), .ref (q 4), .ref (q 5), .ref (q 6), .ref (q 7), .ref (q 8), .ref (q 9), .ref (q 10), .ref (q 11), .ref (q 12), .ref (q 13), .ref (q 14), .ref (q 15), .ref (q 16), .int (zI (i 13)), .int (zI (i 14)), .int (zI (i 15)), .int (zI (i 16)), .int (zI (i 17)), .int (zI (i 18)), .ref (q 17), .ref (q 18), .ref (q 19), .ref (q 20)])), ((q 17), .inl (cI, 20, .inl (fun k => zI (gr8 k))))]) F hK hP hD hS hA hO hE (c_X9_goesTo hO (q 3) g_now (gt8 ((w1 - 1)).toNat) (by omega) hpn (by omega)) k_1582 ks_X9_goesTo 2 rfl (by decide +kernel) ⟨Nat.le_of_ble_eq_true rfl, Nat.le_of_ble_eq_true rfl⟩ [2] [0, 1, 3] rfl rfl (by decide) (by decide) (by decide) hl.1 rfl (Nat.le_of_ble_eq_true rfl) dX9_goTrail_135 ⟨Nat.le_of_ble_eq_true rfl, Nat.le_of_ble_eq_true rfl⟩ (w1 := fun u24 => [((q 18), .inl (cI, 180, .inl (fun k => zI (gt8 k)))), (y, .inr (9, [.int (zI (i 0)), .ref (q 0), .int (zI (i 1)), .int (zI (i 2)), .int (zI (i 3)), .int (zI (i 4)), .int (zI (i 5)), .int (zI (i 6)), .int (zI (i 7)), .int (zI (i 8)), .int (zI (i 9)), .int (zI (i 10)), .ref (q 1), .int (zI (i 11)), .int (zI (i 12)), .ref (q 2), .ref (q 3), .ref (q 4), .ref (q 5), .ref (q 6), .ref (q 7), .ref (q 8), .ref (q 9), .ref (q 10), .ref (q 11), .ref (q 12), .ref (q 13), .ref (q 14), .ref (q 15), .ref (q 16), .int (zI (i 13)), .int (zI (i 14)), .int (zI (i 15)), .int (zI (i 16)), .int (zI (i 17)), .int (zI (i 18)), .ref (q 17), .ref (q 18), .ref (q 19), .ref (q 20)])), ((q 17), .inl (cI, 20, .inl (fun k => zI (gr8 k)))), ((q 3), .inl (cI, 200, .inl (fun k => zI (g_now k))))]) (fun _ => rfl) (fun r25 u24 H locs hp26 hP hD hS => ?_)
              obtain ⟨z27, rfl, h_z27⟩ := hp26
              refine lv_istore_n (lv' := [(2, .int (zI z27)), (4, .int (zI w4)), (3, .int (zI w3)), (1, .int (zI w1)), (0, .ref y)]) hx hb dX9_goTrail_138 rfl hl (by decide) rfl (fun ls hl => ?_)
              refine lv_goto (tgt := 21) hx hb dX9_goTrail_139 (by decide) ?_
              have hP := bw_subP (isC := [0, 1, 3, 2]) (wc := [((q 18), .inl (cI, 180, .inl (fun k => zI (gt8 k)))), (y, .inr (9, [.int (zI (i 0)), .ref (q 0), .int (zI (i 1)), .int (zI (i 2)), .int (zI (i 3)), .int (zI (i 4)), .int (zI (i 5)), .int (zI (i 6)), .int (zI (i 7)), .int (zI (i 8)), .int (zI (i 9)), .int (zI (i 10)), .ref (q 1), .int (zI (i 11)), .int (zI (i 12)), .ref (q 2), .ref (q 3), .ref (q 4), .ref (q 5), .ref (q 6), .ref (q 7), .ref (q 8), .ref (q 9), .ref (q 10), .ref (q 11), .ref (q 12), .ref (q 13), .ref (q 14), .ref (q 15), .ref (q 16), .int (zI (i 13)), .int (zI (i 14)), .int (zI (i 15)), .int (zI (i 16)), .int (zI (i 17)), .int (zI (i 18)), .ref (q 17), .ref (q 18), .ref (q 19), .ref (q 20)])), ((q 3), .inl (cI, 200, .inl (fun k => zI (g_now k)))), ((q 17), .inl (cI, 20, .inl (fun k => zI (gr8 k))))]) hP rfl
              have hD := hD.sub (ws' := [((q 18), .inl (cI, 180, .inl (fun k => zI (gt8 k)))), (y, .inr (9, [.int (zI (i 0)), .ref (q 0), .int (zI (i 1)), .int (zI (i 2)), .int (zI (i 3)), .int (zI (i 4)), .int (zI (i 5)), .int (zI (i 6)), .int (zI (i 7)), .int (zI (i 8)), .int (zI (i 9)), .int (zI (i 10)), .ref (q 1), .int (zI (i 11)), .int (zI (i 12)), .ref (q 2), .ref (q 3), .ref (q 4), .ref (q 5), .ref (q 6), .ref (q 7), .ref (q 8), .ref (q 9), .ref (q 10), .ref (q 11), .ref (q 12), .ref (q 13), .ref (q 14), .ref (q 15), .ref (q 16), .int (zI (i 13)), .int (zI (i 14)), .int (zI (i 15)), .int (zI (i 16)), .int (zI (i 17)), .int (zI (i 18)), .ref (q 17), .ref (q 18), .ref (q 19), .ref (q 20)])), ((q 3), .inl (cI, 200, .inl (fun k => zI (g_now k)))), ((q 17), .inl (cI, 20, .inl (fun k => zI (gr8 k))))]) [0, 1, 3, 2] (by decide) rfl
              exact ih1 w1 z27 w3 gr8 gt8 _ _ (by omega) (by omega) h_gr8 h_gt8 hP hD hS ls (lv_sub hl [2, 0, 3, 4] rfl)
            · refine lv_aload_n hx hb dX9_goTrail_46 rfl (lv_at hl 4 rfl) ?_
              refine r_get F hK hP 1 36 rfl rfl in_X9 (by decide) k_1199 rfl dX9_goTrail_47 ?_
              refine lv_iload hx hb dX9_goTrail_50 (lv_at hl 0 rfl) ?_
              refine rz_iald F hK hP 3 0 rfl rfl (by omega) (by omega) dX9_goTrail_52 ?_
              have h_l52_27 := h_gr8 (w4).toNat (by omega)
              refine rz_if_ne (tgt := 59) F (by omega) dX9_goTrail_53 (by decide) (fun h53_28 => ?_) (fun h53_28 => ?_)
              · refine lv_aload_n hx hb dX9_goTrail_59 rfl (lv_at hl 4 rfl) ?_
                refine r_get F hK hP 1 36 rfl rfl in_X9 (by decide) k_1199 rfl dX9_goTrail_60 ?_
                refine lv_iload hx hb dX9_goTrail_63 (lv_at hl 0 rfl) ?_
                refine lv_dup2_11 hx hb dX9_goTrail_65 rfl rfl ?_
                refine rz_iald F hK hP 3 0 rfl rfl (by omega) (by omega) dX9_goTrail_66 ?_
                have h_l66_29 := h_gr8 (w4).toNat (by omega)
                refine lv_iconst (v := zI 1) hx hb dX9_goTrail_67 rfl ?_
                refine r_isub (v := zI ((gr8 (w4).toNat) - 1)) F dX9_goTrail_68 (zI_sub _ _) ?_
                refine rz_iastG F hK hP hD hS 3 0 rfl rfl (by omega) (by omega) dX9_goTrail_69 (w1 := fun g31 => [((q 18), .inl (cI, 180, .inl (fun k => zI (gt8 k)))), (y, .inr (9, [.int (zI (i 0)), .ref (q 0), .int (zI (i 1)), .int (zI (i 2)), .int (zI (i 3)), .int (zI (i 4)), .int (zI (i 5)), .int (zI (i 6)), .int (zI (i 7)), .int (zI (i 8)), .int (zI (i 9)), .int (zI (i 10)), .ref (q 1), .int (zI (i 11)), .int (zI (i 12)), .ref (q 2), .ref (q 3), .ref (q 4), .ref (q 5), .ref (q 6), .ref (q 7), .ref (q 8), .ref (q 9), .ref (q 10), .ref (q 11), .ref (q 12), .ref (q 13), .ref (q 14), .ref (q 15), .ref (q 16), .int (zI (i 13)), .int (zI (i 14)), .int (zI (i 15)), .int (zI (i 16)), .int (zI (i 17)), .int (zI (i 18)), .ref (q 17), .ref (q 18), .ref (q 19), .ref (q 20)])), ((q 3), .inl (cI, 200, .inl (fun k => zI (g_now k)))), ((q 17), .inl (cI, 20, .inl (fun k => zI (g31 k))))]) (fun _ => rfl) (fun g31 e_g31 H locs hP hD hS => ?_)
                have h_g31 : ∀ k, k < 20 → 0 ≤ g31 k ∧ g31 k ≤ 9 := by rw [e_g31]; exact uZ_all (P := fun _ y9 => 0 ≤ y9 ∧ y9 ≤ 9) h_gr8 (fun _ => by omega)
                have hc32 : g31 (w4).toNat = ((gr8 (w4).toNat) - 1) := uZ_at e_g31 rfl
                have hc33 := sum_uZ e_g31 (by omega)
                have hc34 := sumZ_pos (n := 20) (fun k hk => (h_g31 k hk).1)
                refine lv_aload_n hx hb dX9_goTrail_70 rfl (lv_at hl 4 rfl) ?_
                refine lv_aload_n hx hb dX9_goTrail_71 rfl (lv_at hl 4 rfl) ?_
                refine r_get F hK hP 1 16 rfl rfl in_X9 (by decide) k_1179 rfl dX9_goTrail_72 ?_
                refine lv_iload hx hb dX9_goTrail_75 (lv_at hl 0 rfl) ?_
                refine r_callSi (As := [.ref (q 3), .int (zI w4)]) (rest := [.ref y]) (wr := [((q 18), .inl (cI, 180, .inl (fun k => zI (gt8 k)))), (y, .inr (9, [.int (zI (i 0)), .ref (q 0), .int (zI (i 1)), .int (zI (i 2)), .int (zI (i 3)), .int (zI (i 4)), .int (zI (i 5)), .int (zI (i 6)), .int (zI (i 7)), .int (zI (i 8)), .int (zI (i 9)), .int (zI (i 10)), .ref (q 1), .int (zI (i 11)), .int (zI (i 12)), .ref (q 2), .ref (q 3), .ref (q 4), .ref (q 5), .ref (q 6), .ref (q 7), .ref (q 8), .ref (q 9), .ref (q 10), .ref (q 11), .ref (q 12), .ref (q 13), .ref (q 14), .ref (q 15), .ref (q 16), .int (zI (i 13)), .int (zI (i 14)), .int (zI (i 15)), .int (zI (i 16)), .int (zI (i 17)), .int (zI (i 18)), .ref (q 17), .ref (q 18), .ref (q 19), .ref (q 20)])), ((q 17), .inl (cI, 20, .inl (fun k => zI (g31 k))))]) F hK hP hD hS hA hO hE (c_X9_goesTo hO (q 3) g_now w4 (by omega) hpn (by omega)) k_1582 ks_X9_goesTo 2 rfl (by decide +kernel) ⟨Nat.le_of_ble_eq_true rfl, Nat.le_of_ble_eq_true rfl⟩ [2] [0, 1, 3] rfl rfl (by decide) (by decide) (by decide) hl.1 rfl (Nat.le_of_ble_eq_true rfl) dX9_goTrail_77 ⟨Nat.le_of_ble_eq_true rfl, Nat.le_of_ble_eq_true rfl⟩ (w1 := fun u35 => [((q 18), .inl (cI, 180, .inl (fun k => zI (gt8 k)))), (y, .inr (9, [.int (zI (i 0)), .ref (q 0), .int (zI (i 1)), .int (zI (i 2)), .int (zI (i 3)), .int (zI (i 4)), .int (zI (i 5)), .int (zI (i 6)), .int (zI (i 7)), .int (zI (i 8)), .int (zI (i 9)), .int (zI (i 10)), .ref (q 1), .int (zI (i 11)), .int (zI (i 12)), .ref (q 2), .ref (q 3), .ref (q 4), .ref (q 5), .ref (q 6), .ref (q 7), .ref (q 8), .ref (q 9), .ref (q 10), .ref (q 11), .ref (q 12), .ref (q 13), .ref (q 14), .ref (q 15), .ref (q 16), .int (zI (i 13)), .int (zI (i 14)), .int (zI (i 15)), .int (zI (i 16)), .int (zI (i 17)), .int (zI (i 18)), .ref (q 17), .ref (q 18), .ref (q 19), .ref (q 20)])), ((q 17), .inl (cI, 20, .inl (fun k => zI (g31 k)))), ((q 3), .inl (cI, 200, .inl (fun k => zI (g_now k))))]) (fun _ => rfl) (fun r36 u35 H locs hp37 hP hD hS => ?_)
                obtain ⟨z38, rfl, h_z38⟩ := hp37
                refine r_callVi (As := [.int (zI z38)]) (rest := []) (wr := [((q 18), .inl (cI, 180, .inl (fun k => zI (gt8 k))))]) F hK hP hD hS hA hO hE (c_X9_isEven hO y q i hM g_now g31 h_g31 z38 (by omega) hpn (by omega)) k_1593 kv_X9_isEven 1 rfl (by decide +kernel) ⟨Nat.le_of_ble_eq_true rfl, Nat.le_of_ble_eq_true rfl⟩ [1, 3, 2] [0] rfl rfl (by decide) (by decide) (by decide) 0 9 rfl rfl rfl hl.1 rfl (Nat.le_of_ble_eq_true rfl) dX9_goTrail_80 ⟨Nat.le_of_ble_eq_true rfl, Nat.le_of_ble_eq_true rfl⟩ (w1 := fun u39 => [((q 18), .inl (cI, 180, .inl (fun k => zI (gt8 k)))), (y, .inr (9, [.int (zI (i 0)), .ref (q 0), .int (zI (i 1)), .int (zI (i 2)), .int (zI (i 3)), .int (zI (i 4)), .int (zI (i 5)), .int (zI (i 6)), .int (zI (i 7)), .int (zI (i 8)), .int (zI (i 9)), .int (zI (i 10)), .ref (q 1), .int (zI (i 11)), .int (zI (i 12)), .ref (q 2), .ref (q 3), .ref (q 4), .ref (q 5), .ref (q 6), .ref (q 7), .ref (q 8), .ref (q 9), .ref (q 10), .ref (q 11), .ref (q 12), .ref (q 13), .ref (q 14), .ref (q 15), .ref (q 16), .int (zI (i 13)), .int (zI (i 14)), .int (zI (i 15)), .int (zI (i 16)), .int (zI (i 17)), .int (zI (i 18)), .ref (q 17), .ref (q 18), .ref (q 19), .ref (q 20)])), ((q 3), .inl (cI, 200, .inl (fun k => zI (g_now k)))), ((q 17), .inl (cI, 20, .inl (fun k => zI (g31 k))))]) (fun _ => rfl) (fun r40 u39 H locs hp41 hP hD hS => ?_)
                obtain ⟨z42, rfl, h_z42⟩ := hp41
                refine rz_ifb_ne (tgt := 100) F (by omega) dX9_goTrail_83 (by decide) (fun h83_42 => ?_) (fun h83_42 => ?_)
                · refine lv_aload_n hx hb dX9_goTrail_100 rfl (lv_at hl 4 rfl) ?_
                  refine r_get F hK hP 1 37 rfl rfl in_X9 (by decide) k_1200 rfl dX9_goTrail_101 ?_
                  refine lv_iload_n hx hb dX9_goTrail_104 rfl (lv_at hl 3 rfl) ?_
                  refine lv_iload hx hb dX9_goTrail_105 (lv_at hl 0 rfl) ?_
                  refine rz_iastG F hK hP hD hS 0 0 rfl rfl (by omega) (by omega) dX9_goTrail_107 (w1 := fun g44 => [((q 18), .inl (cI, 180, .inl (fun k => zI (g44 k)))), (y, .inr (9, [.int (zI (i 0)), .ref (q 0), .int (zI (i 1)), .int (zI (i 2)), .int (zI (i 3)), .int (zI (i 4)), .int (zI (i 5)), .int (zI (i 6)), .int (zI (i 7)), .int (zI (i 8)), .int (zI (i 9)), .int (zI (i 10)), .ref (q 1), .int (zI (i 11)), .int (zI (i 12)), .ref (q 2), .ref (q 3), .ref (q 4), .ref (q 5), .ref (q 6), .ref (q 7), .ref (q 8), .ref (q 9), .ref (q 10), .ref (q 11), .ref (q 12), .ref (q 13), .ref (q 14), .ref (q 15), .ref (q 16), .int (zI (i 13)), .int (zI (i 14)), .int (zI (i 15)), .int (zI (i 16)), .int (zI (i 17)), .int (zI (i 18)), .ref (q 17), .ref (q 18), .ref (q 19), .ref (q 20)])), ((q 3), .inl (cI, 200, .inl (fun k => zI (g_now k)))), ((q 17), .inl (cI, 20, .inl (fun k => zI (g31 k))))]) (fun _ => rfl) (fun g44 e_g44 H locs hP hD hS => ?_)
                  have h_g44 : ∀ k, k < 180 → 0 ≤ g44 k ∧ g44 k ≤ 19 := by rw [e_g44]; exact uZ_all (P := fun _ y9 => 0 ≤ y9 ∧ y9 ≤ 19) h_gt8 (fun _ => by omega)
                  refine lv_iinc (v := zI (w1 + 1)) (lv' := [(1, .int (zI (w1 + 1))), (4, .int (zI w4)), (3, .int (zI w3)), (2, .int (zI v2)), (0, .ref y)]) hx hb dX9_goTrail_108 hl (k := 3) rfl (zI_add _ _) (by decide) rfl (fun ls hl => ?_)
                  refine lv_iconst (v := zI 1) hx hb dX9_goTrail_111 rfl ?_
                  refine lv_istore_n (lv' := [(3, .int (zI 1)), (1, .int (zI (w1 + 1))), (4, .int (zI w4)), (2, .int (zI v2)), (0, .ref y)]) hx hb dX9_goTrail_112 rfl hl (by decide) rfl (fun ls hl => ?_)
                  refine lv_iinc (v := zI (w4 + 1)) (lv' := [(4, .int (zI (w4 + 1))), (3, .int (zI 1)), (1, .int (zI (w1 + 1))), (2, .int (zI v2)), (0, .ref y)]) hx hb dX9_goTrail_113 hl (k := 2) rfl (zI_add _ _) (by decide) rfl (fun ls hl => ?_)
                  refine lv_goto (tgt := 32) hx hb dX9_goTrail_116 (by decide) ?_
                  exact ih2 (w1 + 1) 1 (w4 + 1) g31 g44 _ _ (by omega) (by omega) h_g31 h_g44 hP hD hS ls (lv_sub hl [0, 1, 3, 2, 4] rfl)
                · refine lv_aload_n hx hb dX9_goTrail_86 rfl (lv_at hl 4 rfl) ?_
                  refine r_get F hK hP 1 36 rfl rfl in_X9 (by decide) k_1199 rfl dX9_goTrail_87 ?_
                  refine lv_iload hx hb dX9_goTrail_90 (lv_at hl 0 rfl) ?_
                  refine lv_dup2_11 hx hb dX9_goTrail_92 rfl rfl ?_
                  refine rz_iald F hK hP 3 0 rfl rfl (by omega) (by omega) dX9_goTrail_93 ?_
                  have h_l93_44 := h_g31 (w4).toNat (by omega)
                  refine lv_iconst (v := zI 1) hx hb dX9_goTrail_94 rfl ?_
                  refine r_iadd (v := zI ((g31 (w4).toNat) + 1)) F dX9_goTrail_95 (zI_add _ _) ?_
                  refine rz_iastG F hK hP hD hS 3 0 rfl rfl (by omega) (by omega) dX9_goTrail_96 (w1 := fun g46 => [((q 18), .inl (cI, 180, .inl (fun k => zI (gt8 k)))), (y, .inr (9, [.int (zI (i 0)), .ref (q 0), .int (zI (i 1)), .int (zI (i 2)), .int (zI (i 3)), .int (zI (i 4)), .int (zI (i 5)), .int (zI (i 6)), .int (zI (i 7)), .int (zI (i 8)), .int (zI (i 9)), .int (zI (i 10)), .ref (q 1), .int (zI (i 11)), .int (zI (i 12)), .ref (q 2), .ref (q 3), .ref (q 4), .ref (q 5), .ref (q 6), .ref (q 7), .ref (q 8), .ref (q 9), .ref (q 10), .ref (q 11), .ref (q 12), .ref (q 13), .ref (q 14), .ref (q 15), .ref (q 16), .int (zI (i 13)), .int (zI (i 14)), .int (zI (i 15)), .int (zI (i 16)), .int (zI (i 17)), .int (zI (i 18)), .ref (q 17), .ref (q 18), .ref (q 19), .ref (q 20)])), ((q 3), .inl (cI, 200, .inl (fun k => zI (g_now k)))), ((q 17), .inl (cI, 20, .inl (fun k => zI (g46 k))))]) (fun _ => rfl) (fun g46 e_g46 H locs hP hD hS => ?_)
                  have h_g46 : ∀ k, k < 20 → 0 ≤ g46 k ∧ g46 k ≤ 9 := by rw [e_g46]; exact uZ_all (P := fun _ y9 => 0 ≤ y9 ∧ y9 ≤ 9) h_g31 (fun _ => by omega)
                  have hc47 : g46 (w4).toNat = ((g31 (w4).toNat) + 1) := uZ_at e_g46 rfl
                  have hc48 := sum_uZ e_g46 (by omega)
                  have hc49 := sumZ_pos (n := 20) (fun k hk => (h_g46 k hk).1)
                  refine lv_goto (tgt := 113) hx hb dX9_goTrail_97 (by decide) ?_
                  refine lv_iinc (v := zI (w4 + 1)) (lv' := [(4, .int (zI (w4 + 1))), (3, .int (zI w3)), (2, .int (zI v2)), (1, .int (zI w1)), (0, .ref y)]) hx hb dX9_goTrail_113 hl (k := 0) rfl (zI_add _ _) (by decide) rfl (fun ls hl => ?_)
                  refine lv_goto (tgt := 32) hx hb dX9_goTrail_116 (by decide) ?_
                  exact ih2 w1 w3 (w4 + 1) g46 gt8 _ _ (by omega) (by omega) h_g46 h_gt8 hP hD hS ls (lv_sub hl [0, 1, 2, 3, 4] rfl)
              · refine lv_goto (tgt := 113) hx hb dX9_goTrail_56 (by decide) ?_
                refine lv_iinc (v := zI (w4 + 1)) (lv' := [(4, .int (zI (w4 + 1))), (3, .int (zI w3)), (2, .int (zI v2)), (1, .int (zI w1)), (0, .ref y)]) hx hb dX9_goTrail_113 hl (k := 0) rfl (zI_add _ _) (by decide) rfl (fun ls hl => ?_)
                refine lv_goto (tgt := 32) hx hb dX9_goTrail_116 (by decide) ?_
                exact ih2 w1 w3 (w4 + 1) gr8 gt8 _ _ (by omega) (by omega) h_gr8 h_gt8 hP hD hS ls (lv_sub hl [0, 1, 2, 3, 4] rfl)
  · refine lv_bipush (v := zI (-2)) hx hb dX9_goTrail_12 (by decide) ?_
    exact ret (zI (-2)) (fun k => [((fun _ => 0), fun _ _ => 0), (fun _ => 0, fun _ => ((u2 1).2 0)), (fun _ => 0, fun _ => g_trail)].getD k (fun _ => 0, fun _ _ => 0)) _ _ _ _ _ _ rfl ⟨(-2), rfl, hp3.1, hr_trail, by omega⟩ (bw_subP (isC := [1, 2, 3, 0]) hP rfl) (hD.sub [1, 2, 3, 0] (by decide) rfl) hS (Nat.le_of_ble_eq_true rfl) (Nat.le_of_ble_eq_true rfl) dX9_goTrail_14
theorem dX9_trails_0 : decode cX9_trails 0 = .ok (.aload_n 0, 1) := bo_42 (by decide +kernel)
theorem dX9_trails_1 : decode cX9_trails 1 = .ok (.invokevirtual 197, 3) := bo_182 0 197 (by decide +kernel)
theorem dX9_trails_4 : decode cX9_trails 4 = .ok (.aload_n 0, 1) := bo_42 (by decide +kernel)
theorem dX9_trails_5 : decode cX9_trails 5 = .ok (.getfield 222, 3) := bo_180 0 222 (by decide +kernel)
theorem dX9_trails_8 : decode cX9_trails 8 = .ok (.ifCond .eq 10, 3) := bo_153 0 10 (by decide +kernel)
theorem dX9_trails_18 : decode cX9_trails 18 = .ok (.aload_n 0, 1) := bo_42 (by decide +kernel)
theorem dX9_trails_19 : decode cX9_trails 19 = .ok (.iconst 1, 1) := bo_4 (by decide +kernel)
theorem dX9_trails_20 : decode cX9_trails 20 = .ok (.invokevirtual 200, 3) := bo_182 0 200 (by decide +kernel)
theorem dX9_trails_23 : decode cX9_trails 23 = .ok (.ireturn, 1) := bo_172 (by decide +kernel)
theorem dX9_trails_11 : decode cX9_trails 11 = .ok (.aload_n 0, 1) := bo_42 (by decide +kernel)
theorem dX9_trails_12 : decode cX9_trails 12 = .ok (.invokevirtual 345, 3) := bo_182 1 89 (by decide +kernel)
theorem k_1605 : Cond.methodLink RX9 345 yX9_goTrail ∈ bw_T := bw_m 1605 (by decide +kernel) rfl
theorem kv_X9_goTrail : bw_KV RX9 yX9_goTrail (Cond.code yX9_goTrail cX9_goTrail 5 (some .int)) := ⟨bw_m 1607 (by decide +kernel) rfl, bw_m 80 (by decide +kernel) rfl, bw_m 107 (by decide +kernel) rfl, bw_m 1608 (by decide +kernel) rfl⟩
theorem dX9_trails_15 : decode cX9_trails 15 = .ok (.goto 8, 3) := bo_167 0 8 (by decide +kernel)
abbrev rm_X9_trails : Room := { frames := 3, cells := 0, slots := 0, locals := 74 }
set_option maxRecDepth 100000 in
set_option maxHeartbeats 8000000 in
theorem c_X9_trails {l : Launch} {E : (Nat → Prop) → State → Prop} (hO : bw_Ok E) {G : va_G} {cI cB cJ cN cW : ClassId} (y : Nat) (q : Nat → Nat) (i : Nat → Int) (hM : ModOk i) (g_now : Nat → Int) (g_rest : Nat → Int) (hr_rest : ∀ k, k < 20 → 0 ≤ g_rest k ∧ g_rest k ≤ 9) (g_trail : Nat → Int) (hr_trail : ∀ k, k < 180 → 0 ≤ g_trail k ∧ g_trail k ≤ 19) (hpn : ProgOk g_now) : bw_Ci (S := zV) l yX9_trails (bw_ws (Cond.code yX9_trails cX9_trails 1 (some .int))) rm_X9_trails E G (bw_kt cI cB cJ cN cW) [.ref y] [(y, .inr (9, [.int (zI (i 0)), .ref (q 0), .int (zI (i 1)), .int (zI (i 2)), .int (zI (i 3)), .int (zI (i 4)), .int (zI (i 5)), .int (zI (i 6)), .int (zI (i 7)), .int (zI (i 8)), .int (zI (i 9)), .int (zI (i 10)), .ref (q 1), .int (zI (i 11)), .int (zI (i 12)), .ref (q 2), .ref (q 3), .ref (q 4), .ref (q 5), .ref (q 6), .ref (q 7), .ref (q 8), .ref (q 9), .ref (q 10), .ref (q 11), .ref (q 12), .ref (q 13), .ref (q 14), .ref (q 15), .ref (q 16), .int (zI (i 13)), .int (zI (i 14)), .int (zI (i 15)), .int (zI (i 16)), .int (zI (i 17)), .int (zI (i 18)), .ref (q 17), .ref (q 18), .ref (q 19), .ref (q 20)])), ((q 3), .inl (cI, 200, .inl (fun k => zI (g_now k)))), ((q 17), .inl (cI, 20, .inl (fun k => zI (g_rest k)))), ((q 18), .inl (cI, 180, .inl (fun k => zI (g_trail k))))] (fun r u => ∃ z : Int, r = zI z ∧ (ModOk (u 0).1) ∧ (∀ k, k < 20 → 0 ≤ ((u 1).2 0) k ∧ ((u 1).2 0) k ≤ 9) ∧ (∀ k, k < 180 → 0 ≤ ((u 2).2 0) k ∧ ((u 2).2 0) k ≤ 19) ∧ (((u 0).1 1 = i 1 ∧ (u 0).1 8 = i 8 ∧ (u 0).1 9 = i 9 ∧ (u 0).1 12 = i 12 ∧ (u 0).1 13 = i 13 ∧ (u 0).1 15 = i 15 ∧ (u 0).1 17 = i 17 ∧ (u 0).1 10 ≠ 4))) (fun u => [(y, .inr (9, [.int (zI ((u 0).1 0)), .ref (q 0), .int (zI ((u 0).1 1)), .int (zI ((u 0).1 2)), .int (zI ((u 0).1 3)), .int (zI ((u 0).1 4)), .int (zI ((u 0).1 5)), .int (zI ((u 0).1 6)), .int (zI ((u 0).1 7)), .int (zI ((u 0).1 8)), .int (zI ((u 0).1 9)), .int (zI ((u 0).1 10)), .ref (q 1), .int (zI ((u 0).1 11)), .int (zI ((u 0).1 12)), .ref (q 2), .ref (q 3), .ref (q 4), .ref (q 5), .ref (q 6), .ref (q 7), .ref (q 8), .ref (q 9), .ref (q 10), .ref (q 11), .ref (q 12), .ref (q 13), .ref (q 14), .ref (q 15), .ref (q 16), .int (zI ((u 0).1 13)), .int (zI ((u 0).1 14)), .int (zI ((u 0).1 15)), .int (zI ((u 0).1 16)), .int (zI ((u 0).1 17)), .int (zI ((u 0).1 18)), .ref (q 17), .ref (q 18), .ref (q 19), .ref (q 20)])), ((q 3), .inl (cI, 200, .inl (fun k => zI (g_now k)))), ((q 17), .inl (cI, 20, .inl (fun k => zI (((u 1).2 0) k)))), ((q 18), .inl (cI, 180, .inl (fun k => zI (((u 2).2 0) k))))]) := by
  refine bw_Ci.of (cc := cX9_trails) (maxL := 1) (ty := .int) (by decide) rfl (Nat.le_of_ble_eq_true rfl) ?_
  intro p e s m below meth c A Q hx hb hml hts hown hin hK hA hS hP hD hE ret ls hl
  have F : CallFix p m c cX9_trails 1 s ([.ref y] : List Value).toArray bw_T RX9 := ⟨hx, hb, hml, hown, fun w h => hts w (List.mem_cons_of_mem _ h)⟩
  replace hl : lv_has ls 1 [(0, .ref y)] := hl
  have hf1 := hM.1
  refine lv_aload_n hx hb dX9_trails_0 rfl (lv_at hl 0 rfl) ?_
  refine r_callVv (As := []) (rest := []) (wr := [((q 3), .inl (cI, 200, .inl (fun k => zI (g_now k)))), ((q 17), .inl (cI, 20, .inl (fun k => zI (g_rest k)))), ((q 18), .inl (cI, 180, .inl (fun k => zI (g_trail k))))]) F hK hP hD hS hA hO hE (c_X9_good hO y q i hM) k_1296 kv_X9_good 0 rfl (by decide +kernel) ⟨Nat.le_of_ble_eq_true rfl, Nat.le_of_ble_eq_true rfl⟩ [0] [1, 2, 3] rfl rfl (by decide) (by decide) (by decide) 0 9 rfl rfl rfl hl.1 rfl (Nat.le_of_ble_eq_true rfl) dX9_trails_1 ⟨Nat.le_of_ble_eq_true rfl, Nat.le_of_ble_eq_true rfl⟩ (w1 := fun u2 => [((q 3), .inl (cI, 200, .inl (fun k => zI (g_now k)))), ((q 17), .inl (cI, 20, .inl (fun k => zI (g_rest k)))), ((q 18), .inl (cI, 180, .inl (fun k => zI (g_trail k)))), (y, .inr (9, [.int (zI ((u2 0).1 0)), .ref (q 0), .int (zI ((u2 0).1 1)), .int (zI ((u2 0).1 2)), .int (zI ((u2 0).1 3)), .int (zI ((u2 0).1 4)), .int (zI ((u2 0).1 5)), .int (zI ((u2 0).1 6)), .int (zI ((u2 0).1 7)), .int (zI ((u2 0).1 8)), .int (zI ((u2 0).1 9)), .int (zI ((u2 0).1 10)), .ref (q 1), .int (zI ((u2 0).1 11)), .int (zI ((u2 0).1 12)), .ref (q 2), .ref (q 3), .ref (q 4), .ref (q 5), .ref (q 6), .ref (q 7), .ref (q 8), .ref (q 9), .ref (q 10), .ref (q 11), .ref (q 12), .ref (q 13), .ref (q 14), .ref (q 15), .ref (q 16), .int (zI ((u2 0).1 13)), .int (zI ((u2 0).1 14)), .int (zI ((u2 0).1 15)), .int (zI ((u2 0).1 16)), .int (zI ((u2 0).1 17)), .int (zI ((u2 0).1 18)), .ref (q 17), .ref (q 18), .ref (q 19), .ref (q 20)]))]) (fun _ => rfl) (fun  u2 H locs hp3 hP hD hS => ?_)
  have hf4 := hp3.1.1
  refine lv_aload_n hx hb dX9_trails_4 rfl (lv_at hl 0 rfl) ?_
  refine r_get F hK hP 3 14 rfl rfl in_X9 (by decide) k_1177 rfl dX9_trails_5 ?_
  refine rz_ifb_eq (tgt := 18) F (by omega) dX9_trails_8 (by decide) (fun h8_4 => ?_) (fun h8_4 => ?_)
  · refine lv_aload_n hx hb dX9_trails_18 rfl (lv_at hl 0 rfl) ?_
    refine lv_iconst (v := zI 1) hx hb dX9_trails_19 rfl ?_
    refine r_callVi (As := [.int (zI 1)]) (rest := []) (wr := [((q 3), .inl (cI, 200, .inl (fun k => zI (g_now k)))), ((q 17), .inl (cI, 20, .inl (fun k => zI (g_rest k)))), ((q 18), .inl (cI, 180, .inl (fun k => zI (g_trail k))))]) F hK hP hD hS hA hO hE (c_X9_no hO y q ((u2 0).1) hp3.1 1 (by omega) (by omega)) k_1303 kv_X9_no 1 rfl (by decide +kernel) ⟨Nat.le_of_ble_eq_true rfl, Nat.le_of_ble_eq_true rfl⟩ [3] [0, 1, 2] rfl rfl (by decide) (by decide) (by decide) 0 9 rfl rfl rfl hl.1 rfl (Nat.le_of_ble_eq_true rfl) dX9_trails_20 ⟨Nat.le_of_ble_eq_true rfl, Nat.le_of_ble_eq_true rfl⟩ (w1 := fun u6 => [((q 3), .inl (cI, 200, .inl (fun k => zI (g_now k)))), ((q 17), .inl (cI, 20, .inl (fun k => zI (g_rest k)))), ((q 18), .inl (cI, 180, .inl (fun k => zI (g_trail k)))), (y, .inr (9, [.int (zI ((u6 0).1 0)), .ref (q 0), .int (zI ((u6 0).1 1)), .int (zI ((u6 0).1 2)), .int (zI ((u6 0).1 3)), .int (zI ((u6 0).1 4)), .int (zI ((u6 0).1 5)), .int (zI ((u6 0).1 6)), .int (zI ((u6 0).1 7)), .int (zI ((u6 0).1 8)), .int (zI ((u6 0).1 9)), .int (zI ((u6 0).1 10)), .ref (q 1), .int (zI ((u6 0).1 11)), .int (zI ((u6 0).1 12)), .ref (q 2), .ref (q 3), .ref (q 4), .ref (q 5), .ref (q 6), .ref (q 7), .ref (q 8), .ref (q 9), .ref (q 10), .ref (q 11), .ref (q 12), .ref (q 13), .ref (q 14), .ref (q 15), .ref (q 16), .int (zI ((u6 0).1 13)), .int (zI ((u6 0).1 14)), .int (zI ((u6 0).1 15)), .int (zI ((u6 0).1 16)), .int (zI ((u6 0).1 17)), .int (zI ((u6 0).1 18)), .ref (q 17), .ref (q 18), .ref (q 19), .ref (q 20)]))]) (fun _ => rfl) (fun r7 u6 H locs hp8 hP hD hS => ?_)
    obtain ⟨z9, rfl, h_z9⟩ := hp8
    have hf10 := h_z9.1.1
    exact ret (zI z9) (fun k => [((u6 0).1, fun _ _ => 0), (fun _ => 0, fun _ => g_rest), (fun _ => 0, fun _ => g_trail)].getD k (fun _ => 0, fun _ _ => 0)) _ _ _ _ _ _ rfl ⟨z9, rfl, h_z9.1, hr_rest, hr_trail, (show ((u6 0).1) 1 = i 1 ∧ ((u6 0).1) 8 = i 8 ∧ ((u6 0).1) 9 = i 9 ∧ ((u6 0).1) 12 = i 12 ∧ ((u6 0).1) 13 = i 13 ∧ ((u6 0).1) 15 = i 15 ∧ ((u6 0).1) 17 = i 17 ∧ ((u6 0).1) 10 ≠ 4 from by omega)⟩ (bw_subP (isC := [3, 0, 1, 2]) hP rfl) (hD.sub [3, 0, 1, 2] (by decide) rfl) hS (Nat.le_of_ble_eq_true rfl) (Nat.le_of_ble_eq_true rfl) dX9_trails_23
  · refine lv_aload_n hx hb dX9_trails_11 rfl (lv_at hl 0 rfl) ?_
    refine r_callVi (As := []) (rest := []) (wr := []) F hK hP hD hS hA hO hE (c_X9_goTrail hO y q ((u2 0).1) hp3.1 g_now g_rest hr_rest g_trail hr_trail hpn) k_1605 kv_X9_goTrail 0 rfl (by decide +kernel) ⟨Nat.le_of_ble_eq_true rfl, Nat.le_of_ble_eq_true rfl⟩ [3, 0, 1, 2] [] rfl rfl (by decide) (by decide) (by decide) 0 9 rfl rfl rfl hl.1 rfl (Nat.le_of_ble_eq_true rfl) dX9_trails_12 ⟨Nat.le_of_ble_eq_true rfl, Nat.le_of_ble_eq_true rfl⟩ (w1 := fun u11 => [(y, .inr (9, [.int (zI ((u2 0).1 0)), .ref (q 0), .int (zI ((u2 0).1 1)), .int (zI ((u2 0).1 2)), .int (zI ((u2 0).1 3)), .int (zI ((u2 0).1 4)), .int (zI ((u2 0).1 5)), .int (zI ((u2 0).1 6)), .int (zI ((u2 0).1 7)), .int (zI ((u2 0).1 8)), .int (zI ((u2 0).1 9)), .int (zI ((u2 0).1 10)), .ref (q 1), .int (zI ((u2 0).1 11)), .int (zI ((u2 0).1 12)), .ref (q 2), .ref (q 3), .ref (q 4), .ref (q 5), .ref (q 6), .ref (q 7), .ref (q 8), .ref (q 9), .ref (q 10), .ref (q 11), .ref (q 12), .ref (q 13), .ref (q 14), .ref (q 15), .ref (q 16), .int (zI ((u2 0).1 13)), .int (zI ((u2 0).1 14)), .int (zI ((u2 0).1 15)), .int (zI ((u2 0).1 16)), .int (zI ((u2 0).1 17)), .int (zI ((u2 0).1 18)), .ref (q 17), .ref (q 18), .ref (q 19), .ref (q 20)])), ((q 3), .inl (cI, 200, .inl (fun k => zI (g_now k)))), ((q 17), .inl (cI, 20, .inl (fun k => zI (((u11 1).2 0) k)))), ((q 18), .inl (cI, 180, .inl (fun k => zI (((u11 2).2 0) k))))]) (fun _ => rfl) (fun r12 u11 H locs hp13 hP hD hS => ?_)
    obtain ⟨z14, rfl, h_z14⟩ := hp13
    refine lv_goto (tgt := 23) hx hb dX9_trails_15 (by decide) ?_
    exact ret (zI z14) (fun k => [((u2 0).1, fun _ _ => 0), (fun _ => 0, fun _ => ((u11 1).2 0)), (fun _ => 0, fun _ => ((u11 2).2 0))].getD k (fun _ => 0, fun _ _ => 0)) _ _ _ _ _ _ rfl ⟨z14, rfl, hp3.1, h_z14.1, h_z14.2.1, (show ((u2 0).1) 1 = i 1 ∧ ((u2 0).1) 8 = i 8 ∧ ((u2 0).1) 9 = i 9 ∧ ((u2 0).1) 12 = i 12 ∧ ((u2 0).1) 13 = i 13 ∧ ((u2 0).1) 15 = i 15 ∧ ((u2 0).1) 17 = i 17 ∧ ((u2 0).1) 10 ≠ 4 from by omega)⟩ (bw_subP (isC := [0, 1, 2, 3]) hP rfl) (hD.sub [0, 1, 2, 3] (by decide) rfl) hS (Nat.le_of_ble_eq_true rfl) (Nat.le_of_ble_eq_true rfl) dX9_trails_23
theorem dX9_trail_0 : decode cX9_trail 0 = .ok (.aload_n 0, 1) := bo_42 (by decide +kernel)
theorem dX9_trail_1 : decode cX9_trail 1 = .ok (.invokevirtual 197, 3) := bo_182 0 197 (by decide +kernel)
theorem dX9_trail_4 : decode cX9_trail 4 = .ok (.aload_n 0, 1) := bo_42 (by decide +kernel)
theorem dX9_trail_5 : decode cX9_trail 5 = .ok (.getfield 222, 3) := bo_180 0 222 (by decide +kernel)
theorem dX9_trail_8 : decode cX9_trail 8 = .ok (.ifCond .eq 7, 3) := bo_153 0 7 (by decide +kernel)
theorem dX9_trail_15 : decode cX9_trail 15 = .ok (.aload_n 0, 1) := bo_42 (by decide +kernel)
theorem dX9_trail_16 : decode cX9_trail 16 = .ok (.iconst 1, 1) := bo_4 (by decide +kernel)
theorem dX9_trail_17 : decode cX9_trail 17 = .ok (.invokevirtual 200, 3) := bo_182 0 200 (by decide +kernel)
theorem dX9_trail_20 : decode cX9_trail 20 = .ok (.ireturn, 1) := bo_172 (by decide +kernel)
theorem dX9_trail_11 : decode cX9_trail 11 = .ok (.iload_n 1, 1) := bo_27 (by decide +kernel)
theorem dX9_trail_12 : decode cX9_trail 12 = .ok (.ifCond .ge 9, 3) := bo_156 0 9 (by decide +kernel)
theorem dX9_trail_21 : decode cX9_trail 21 = .ok (.aload_n 0, 1) := bo_42 (by decide +kernel)
theorem dX9_trail_22 : decode cX9_trail 22 = .ok (.invokevirtual 345, 3) := bo_182 1 89 (by decide +kernel)
theorem dX9_trail_25 : decode cX9_trail 25 = .ok (.istore_n 2, 1) := bo_61 (by decide +kernel)
theorem dX9_trail_26 : decode cX9_trail 26 = .ok (.iload_n 2, 1) := bo_28 (by decide +kernel)
theorem dX9_trail_27 : decode cX9_trail 27 = .ok (.bipush (-2), 2) := bo_16 254 (by decide +kernel)
theorem dX9_trail_29 : decode cX9_trail 29 = .ok (.if_icmp .ne 10, 3) := bo_160 0 10 (by decide +kernel)
theorem dX9_trail_39 : decode cX9_trail 39 = .ok (.iload_n 1, 1) := bo_27 (by decide +kernel)
theorem dX9_trail_40 : decode cX9_trail 40 = .ok (.iload_n 2, 1) := bo_28 (by decide +kernel)
theorem dX9_trail_41 : decode cX9_trail 41 = .ok (.if_icmp .ge 12, 3) := bo_162 0 12 (by decide +kernel)
theorem dX9_trail_53 : decode cX9_trail 53 = .ok (.aload_n 0, 1) := bo_42 (by decide +kernel)
theorem dX9_trail_54 : decode cX9_trail 54 = .ok (.iconst 1, 1) := bo_4 (by decide +kernel)
theorem dX9_trail_55 : decode cX9_trail 55 = .ok (.invokevirtual 200, 3) := bo_182 0 200 (by decide +kernel)
theorem dX9_trail_58 : decode cX9_trail 58 = .ok (.ireturn, 1) := bo_172 (by decide +kernel)
theorem dX9_trail_44 : decode cX9_trail 44 = .ok (.aload_n 0, 1) := bo_42 (by decide +kernel)
theorem dX9_trail_45 : decode cX9_trail 45 = .ok (.getfield 68, 3) := bo_180 0 68 (by decide +kernel)
theorem dX9_trail_48 : decode cX9_trail 48 = .ok (.iload_n 1, 1) := bo_27 (by decide +kernel)
theorem dX9_trail_49 : decode cX9_trail 49 = .ok (.iaload, 1) := bo_46 (by decide +kernel)
theorem dX9_trail_50 : decode cX9_trail 50 = .ok (.goto 8, 3) := bo_167 0 8 (by decide +kernel)
theorem dX9_trail_32 : decode cX9_trail 32 = .ok (.aload_n 0, 1) := bo_42 (by decide +kernel)
theorem dX9_trail_33 : decode cX9_trail 33 = .ok (.bipush 6, 2) := bo_16 6 (by decide +kernel)
theorem dX9_trail_35 : decode cX9_trail 35 = .ok (.invokevirtual 200, 3) := bo_182 0 200 (by decide +kernel)
theorem dX9_trail_38 : decode cX9_trail 38 = .ok (.ireturn, 1) := bo_172 (by decide +kernel)
abbrev rm_X9_trail : Room := { frames := 3, cells := 0, slots := 0, locals := 74 }
set_option maxRecDepth 100000 in
set_option maxHeartbeats 8000000 in
theorem c_X9_trail {l : Launch} {E : (Nat → Prop) → State → Prop} (hO : bw_Ok E) {G : va_G} {cI cB cJ cN cW : ClassId} (y : Nat) (q : Nat → Nat) (i : Nat → Int) (hM : ModOk i) (g_now : Nat → Int) (g_rest : Nat → Int) (hr_rest : ∀ k, k < 20 → 0 ≤ g_rest k ∧ g_rest k ≤ 9) (g_trail : Nat → Int) (hr_trail : ∀ k, k < 180 → 0 ≤ g_trail k ∧ g_trail k ≤ 19) (x : Int) (hx9 : zR x) (hpn : ProgOk g_now) : bw_Ci (S := zV) l yX9_trail (bw_ws (Cond.code yX9_trail cX9_trail 3 (some .int))) rm_X9_trail E G (bw_kt cI cB cJ cN cW) [.ref y, .int (zI x)] [(y, .inr (9, [.int (zI (i 0)), .ref (q 0), .int (zI (i 1)), .int (zI (i 2)), .int (zI (i 3)), .int (zI (i 4)), .int (zI (i 5)), .int (zI (i 6)), .int (zI (i 7)), .int (zI (i 8)), .int (zI (i 9)), .int (zI (i 10)), .ref (q 1), .int (zI (i 11)), .int (zI (i 12)), .ref (q 2), .ref (q 3), .ref (q 4), .ref (q 5), .ref (q 6), .ref (q 7), .ref (q 8), .ref (q 9), .ref (q 10), .ref (q 11), .ref (q 12), .ref (q 13), .ref (q 14), .ref (q 15), .ref (q 16), .int (zI (i 13)), .int (zI (i 14)), .int (zI (i 15)), .int (zI (i 16)), .int (zI (i 17)), .int (zI (i 18)), .ref (q 17), .ref (q 18), .ref (q 19), .ref (q 20)])), ((q 3), .inl (cI, 200, .inl (fun k => zI (g_now k)))), ((q 17), .inl (cI, 20, .inl (fun k => zI (g_rest k)))), ((q 18), .inl (cI, 180, .inl (fun k => zI (g_trail k))))] (fun r u => ∃ z : Int, r = zI z ∧ (ModOk (u 0).1) ∧ (∀ k, k < 20 → 0 ≤ ((u 1).2 0) k ∧ ((u 1).2 0) k ≤ 9) ∧ (∀ k, k < 180 → 0 ≤ ((u 2).2 0) k ∧ ((u 2).2 0) k ≤ 19) ∧ (((u 0).1 1 = i 1 ∧ (u 0).1 8 = i 8 ∧ (u 0).1 9 = i 9 ∧ (u 0).1 12 = i 12 ∧ (u 0).1 13 = i 13 ∧ (u 0).1 15 = i 15 ∧ (u 0).1 17 = i 17 ∧ (u 0).1 10 ≠ 4))) (fun u => [(y, .inr (9, [.int (zI ((u 0).1 0)), .ref (q 0), .int (zI ((u 0).1 1)), .int (zI ((u 0).1 2)), .int (zI ((u 0).1 3)), .int (zI ((u 0).1 4)), .int (zI ((u 0).1 5)), .int (zI ((u 0).1 6)), .int (zI ((u 0).1 7)), .int (zI ((u 0).1 8)), .int (zI ((u 0).1 9)), .int (zI ((u 0).1 10)), .ref (q 1), .int (zI ((u 0).1 11)), .int (zI ((u 0).1 12)), .ref (q 2), .ref (q 3), .ref (q 4), .ref (q 5), .ref (q 6), .ref (q 7), .ref (q 8), .ref (q 9), .ref (q 10), .ref (q 11), .ref (q 12), .ref (q 13), .ref (q 14), .ref (q 15), .ref (q 16), .int (zI ((u 0).1 13)), .int (zI ((u 0).1 14)), .int (zI ((u 0).1 15)), .int (zI ((u 0).1 16)), .int (zI ((u 0).1 17)), .int (zI ((u 0).1 18)), .ref (q 17), .ref (q 18), .ref (q 19), .ref (q 20)])), ((q 3), .inl (cI, 200, .inl (fun k => zI (g_now k)))), ((q 17), .inl (cI, 20, .inl (fun k => zI (((u 1).2 0) k)))), ((q 18), .inl (cI, 180, .inl (fun k => zI (((u 2).2 0) k))))]) := by
  refine bw_Ci.of (cc := cX9_trail) (maxL := 3) (ty := .int) (by decide) rfl (Nat.le_of_ble_eq_true rfl) ?_
  intro p e s m below meth c A Q hx hb hml hts hown hin hK hA hS hP hD hE ret ls hl
  have F : CallFix p m c cX9_trail 3 s ([.ref y, .int (zI x)] : List Value).toArray bw_T RX9 := ⟨hx, hb, hml, hown, fun w h => hts w (List.mem_cons_of_mem _ h)⟩
  replace hl : lv_has ls 3 [(0, .ref y), (1, .int (zI x))] := hl
  have hf1 := hM.1
  refine lv_aload_n hx hb dX9_trail_0 rfl (lv_at hl 0 rfl) ?_
  refine r_callVv (As := []) (rest := []) (wr := [((q 3), .inl (cI, 200, .inl (fun k => zI (g_now k)))), ((q 17), .inl (cI, 20, .inl (fun k => zI (g_rest k)))), ((q 18), .inl (cI, 180, .inl (fun k => zI (g_trail k))))]) F hK hP hD hS hA hO hE (c_X9_good hO y q i hM) k_1296 kv_X9_good 0 rfl (by decide +kernel) ⟨Nat.le_of_ble_eq_true rfl, Nat.le_of_ble_eq_true rfl⟩ [0] [1, 2, 3] rfl rfl (by decide) (by decide) (by decide) 0 9 rfl rfl rfl hl.1 rfl (Nat.le_of_ble_eq_true rfl) dX9_trail_1 ⟨Nat.le_of_ble_eq_true rfl, Nat.le_of_ble_eq_true rfl⟩ (w1 := fun u2 => [((q 3), .inl (cI, 200, .inl (fun k => zI (g_now k)))), ((q 17), .inl (cI, 20, .inl (fun k => zI (g_rest k)))), ((q 18), .inl (cI, 180, .inl (fun k => zI (g_trail k)))), (y, .inr (9, [.int (zI ((u2 0).1 0)), .ref (q 0), .int (zI ((u2 0).1 1)), .int (zI ((u2 0).1 2)), .int (zI ((u2 0).1 3)), .int (zI ((u2 0).1 4)), .int (zI ((u2 0).1 5)), .int (zI ((u2 0).1 6)), .int (zI ((u2 0).1 7)), .int (zI ((u2 0).1 8)), .int (zI ((u2 0).1 9)), .int (zI ((u2 0).1 10)), .ref (q 1), .int (zI ((u2 0).1 11)), .int (zI ((u2 0).1 12)), .ref (q 2), .ref (q 3), .ref (q 4), .ref (q 5), .ref (q 6), .ref (q 7), .ref (q 8), .ref (q 9), .ref (q 10), .ref (q 11), .ref (q 12), .ref (q 13), .ref (q 14), .ref (q 15), .ref (q 16), .int (zI ((u2 0).1 13)), .int (zI ((u2 0).1 14)), .int (zI ((u2 0).1 15)), .int (zI ((u2 0).1 16)), .int (zI ((u2 0).1 17)), .int (zI ((u2 0).1 18)), .ref (q 17), .ref (q 18), .ref (q 19), .ref (q 20)]))]) (fun _ => rfl) (fun  u2 H locs hp3 hP hD hS => ?_)
  have hf4 := hp3.1.1
  refine lv_aload_n hx hb dX9_trail_4 rfl (lv_at hl 0 rfl) ?_
  refine r_get F hK hP 3 14 rfl rfl in_X9 (by decide) k_1177 rfl dX9_trail_5 ?_
  refine rz_ifb_eq (tgt := 15) F (by omega) dX9_trail_8 (by decide) (fun h8_4 => ?_) (fun h8_4 => ?_)
  · refine lv_aload_n hx hb dX9_trail_15 rfl (lv_at hl 0 rfl) ?_
    refine lv_iconst (v := zI 1) hx hb dX9_trail_16 rfl ?_
    refine r_callVi (As := [.int (zI 1)]) (rest := []) (wr := [((q 3), .inl (cI, 200, .inl (fun k => zI (g_now k)))), ((q 17), .inl (cI, 20, .inl (fun k => zI (g_rest k)))), ((q 18), .inl (cI, 180, .inl (fun k => zI (g_trail k))))]) F hK hP hD hS hA hO hE (c_X9_no hO y q ((u2 0).1) hp3.1 1 (by omega) (by omega)) k_1303 kv_X9_no 1 rfl (by decide +kernel) ⟨Nat.le_of_ble_eq_true rfl, Nat.le_of_ble_eq_true rfl⟩ [3] [0, 1, 2] rfl rfl (by decide) (by decide) (by decide) 0 9 rfl rfl rfl hl.1 rfl (Nat.le_of_ble_eq_true rfl) dX9_trail_17 ⟨Nat.le_of_ble_eq_true rfl, Nat.le_of_ble_eq_true rfl⟩ (w1 := fun u6 => [((q 3), .inl (cI, 200, .inl (fun k => zI (g_now k)))), ((q 17), .inl (cI, 20, .inl (fun k => zI (g_rest k)))), ((q 18), .inl (cI, 180, .inl (fun k => zI (g_trail k)))), (y, .inr (9, [.int (zI ((u6 0).1 0)), .ref (q 0), .int (zI ((u6 0).1 1)), .int (zI ((u6 0).1 2)), .int (zI ((u6 0).1 3)), .int (zI ((u6 0).1 4)), .int (zI ((u6 0).1 5)), .int (zI ((u6 0).1 6)), .int (zI ((u6 0).1 7)), .int (zI ((u6 0).1 8)), .int (zI ((u6 0).1 9)), .int (zI ((u6 0).1 10)), .ref (q 1), .int (zI ((u6 0).1 11)), .int (zI ((u6 0).1 12)), .ref (q 2), .ref (q 3), .ref (q 4), .ref (q 5), .ref (q 6), .ref (q 7), .ref (q 8), .ref (q 9), .ref (q 10), .ref (q 11), .ref (q 12), .ref (q 13), .ref (q 14), .ref (q 15), .ref (q 16), .int (zI ((u6 0).1 13)), .int (zI ((u6 0).1 14)), .int (zI ((u6 0).1 15)), .int (zI ((u6 0).1 16)), .int (zI ((u6 0).1 17)), .int (zI ((u6 0).1 18)), .ref (q 17), .ref (q 18), .ref (q 19), .ref (q 20)]))]) (fun _ => rfl) (fun r7 u6 H locs hp8 hP hD hS => ?_)
    obtain ⟨z9, rfl, h_z9⟩ := hp8
    have hf10 := h_z9.1.1
    exact ret (zI z9) (fun k => [((u6 0).1, fun _ _ => 0), (fun _ => 0, fun _ => g_rest), (fun _ => 0, fun _ => g_trail)].getD k (fun _ => 0, fun _ _ => 0)) _ _ _ _ _ _ rfl ⟨z9, rfl, h_z9.1, hr_rest, hr_trail, (show ((u6 0).1) 1 = i 1 ∧ ((u6 0).1) 8 = i 8 ∧ ((u6 0).1) 9 = i 9 ∧ ((u6 0).1) 12 = i 12 ∧ ((u6 0).1) 13 = i 13 ∧ ((u6 0).1) 15 = i 15 ∧ ((u6 0).1) 17 = i 17 ∧ ((u6 0).1) 10 ≠ 4 from by omega)⟩ (bw_subP (isC := [3, 0, 1, 2]) hP rfl) (hD.sub [3, 0, 1, 2] (by decide) rfl) hS (Nat.le_of_ble_eq_true rfl) (Nat.le_of_ble_eq_true rfl) dX9_trail_20
  · refine lv_iload_n hx hb dX9_trail_11 rfl (lv_at hl 1 rfl) ?_
    refine rz_if_ge (tgt := 21) F (by omega) dX9_trail_12 (by decide) (fun h12_10 => ?_) (fun h12_10 => ?_)
    · refine lv_aload_n hx hb dX9_trail_21 rfl (lv_at hl 0 rfl) ?_
      refine r_callVi (As := []) (rest := []) (wr := []) F hK hP hD hS hA hO hE (c_X9_goTrail hO y q ((u2 0).1) hp3.1 g_now g_rest hr_rest g_trail hr_trail hpn) k_1605 kv_X9_goTrail 0 rfl (by decide +kernel) ⟨Nat.le_of_ble_eq_true rfl, Nat.le_of_ble_eq_true rfl⟩ [3, 0, 1, 2] [] rfl rfl (by decide) (by decide) (by decide) 0 9 rfl rfl rfl hl.1 rfl (Nat.le_of_ble_eq_true rfl) dX9_trail_22 ⟨Nat.le_of_ble_eq_true rfl, Nat.le_of_ble_eq_true rfl⟩ (w1 := fun u12 => [(y, .inr (9, [.int (zI ((u2 0).1 0)), .ref (q 0), .int (zI ((u2 0).1 1)), .int (zI ((u2 0).1 2)), .int (zI ((u2 0).1 3)), .int (zI ((u2 0).1 4)), .int (zI ((u2 0).1 5)), .int (zI ((u2 0).1 6)), .int (zI ((u2 0).1 7)), .int (zI ((u2 0).1 8)), .int (zI ((u2 0).1 9)), .int (zI ((u2 0).1 10)), .ref (q 1), .int (zI ((u2 0).1 11)), .int (zI ((u2 0).1 12)), .ref (q 2), .ref (q 3), .ref (q 4), .ref (q 5), .ref (q 6), .ref (q 7), .ref (q 8), .ref (q 9), .ref (q 10), .ref (q 11), .ref (q 12), .ref (q 13), .ref (q 14), .ref (q 15), .ref (q 16), .int (zI ((u2 0).1 13)), .int (zI ((u2 0).1 14)), .int (zI ((u2 0).1 15)), .int (zI ((u2 0).1 16)), .int (zI ((u2 0).1 17)), .int (zI ((u2 0).1 18)), .ref (q 17), .ref (q 18), .ref (q 19), .ref (q 20)])), ((q 3), .inl (cI, 200, .inl (fun k => zI (g_now k)))), ((q 17), .inl (cI, 20, .inl (fun k => zI (((u12 1).2 0) k)))), ((q 18), .inl (cI, 180, .inl (fun k => zI (((u12 2).2 0) k))))]) (fun _ => rfl) (fun r13 u12 H locs hp14 hP hD hS => ?_)
      obtain ⟨z15, rfl, h_z15⟩ := hp14
      refine lv_istore_n (lv' := [(2, .int (zI z15)), (0, .ref y), (1, .int (zI x))]) hx hb dX9_trail_25 rfl hl (by decide) rfl (fun ls hl => ?_)
      refine lv_iload_n hx hb dX9_trail_26 rfl (lv_at hl 0 rfl) ?_
      refine lv_bipush (v := zI (-2)) hx hb dX9_trail_27 (by decide) ?_
      refine rz_icmp_ne (tgt := 39) F (by omega) (by omega) dX9_trail_29 (by decide) (fun h29_15 => ?_) (fun h29_15 => ?_)
      · refine lv_iload_n hx hb dX9_trail_39 rfl (lv_at hl 2 rfl) ?_
        refine lv_iload_n hx hb dX9_trail_40 rfl (lv_at hl 0 rfl) ?_
        refine rz_icmp_ge (tgt := 53) F (by omega) (by omega) dX9_trail_41 (by decide) (fun h41_16 => ?_) (fun h41_16 => ?_)
        · refine lv_aload_n hx hb dX9_trail_53 rfl (lv_at hl 1 rfl) ?_
          refine lv_iconst (v := zI 1) hx hb dX9_trail_54 rfl ?_
          refine r_callVi (As := [.int (zI 1)]) (rest := []) (wr := [((q 3), .inl (cI, 200, .inl (fun k => zI (g_now k)))), ((q 17), .inl (cI, 20, .inl (fun k => zI (((u12 1).2 0) k)))), ((q 18), .inl (cI, 180, .inl (fun k => zI (((u12 2).2 0) k))))]) F hK hP hD hS hA hO hE (c_X9_no hO y q ((u2 0).1) hp3.1 1 (by omega) (by omega)) k_1303 kv_X9_no 1 rfl (by decide +kernel) ⟨Nat.le_of_ble_eq_true rfl, Nat.le_of_ble_eq_true rfl⟩ [0] [1, 2, 3] rfl rfl (by decide) (by decide) (by decide) 0 9 rfl rfl rfl hl.1 rfl (Nat.le_of_ble_eq_true rfl) dX9_trail_55 ⟨Nat.le_of_ble_eq_true rfl, Nat.le_of_ble_eq_true rfl⟩ (w1 := fun u18 => [((q 3), .inl (cI, 200, .inl (fun k => zI (g_now k)))), ((q 17), .inl (cI, 20, .inl (fun k => zI (((u12 1).2 0) k)))), ((q 18), .inl (cI, 180, .inl (fun k => zI (((u12 2).2 0) k)))), (y, .inr (9, [.int (zI ((u18 0).1 0)), .ref (q 0), .int (zI ((u18 0).1 1)), .int (zI ((u18 0).1 2)), .int (zI ((u18 0).1 3)), .int (zI ((u18 0).1 4)), .int (zI ((u18 0).1 5)), .int (zI ((u18 0).1 6)), .int (zI ((u18 0).1 7)), .int (zI ((u18 0).1 8)), .int (zI ((u18 0).1 9)), .int (zI ((u18 0).1 10)), .ref (q 1), .int (zI ((u18 0).1 11)), .int (zI ((u18 0).1 12)), .ref (q 2), .ref (q 3), .ref (q 4), .ref (q 5), .ref (q 6), .ref (q 7), .ref (q 8), .ref (q 9), .ref (q 10), .ref (q 11), .ref (q 12), .ref (q 13), .ref (q 14), .ref (q 15), .ref (q 16), .int (zI ((u18 0).1 13)), .int (zI ((u18 0).1 14)), .int (zI ((u18 0).1 15)), .int (zI ((u18 0).1 16)), .int (zI ((u18 0).1 17)), .int (zI ((u18 0).1 18)), .ref (q 17), .ref (q 18), .ref (q 19), .ref (q 20)]))]) (fun _ => rfl) (fun r19 u18 H locs hp20 hP hD hS => ?_)
          obtain ⟨z21, rfl, h_z21⟩ := hp20
          have hf22 := h_z21.1.1
          exact ret (zI z21) (fun k => [((u18 0).1, fun _ _ => 0), (fun _ => 0, fun _ => ((u12 1).2 0)), (fun _ => 0, fun _ => ((u12 2).2 0))].getD k (fun _ => 0, fun _ _ => 0)) _ _ _ _ _ _ rfl ⟨z21, rfl, h_z21.1, h_z15.1, h_z15.2.1, (show ((u18 0).1) 1 = i 1 ∧ ((u18 0).1) 8 = i 8 ∧ ((u18 0).1) 9 = i 9 ∧ ((u18 0).1) 12 = i 12 ∧ ((u18 0).1) 13 = i 13 ∧ ((u18 0).1) 15 = i 15 ∧ ((u18 0).1) 17 = i 17 ∧ ((u18 0).1) 10 ≠ 4 from by omega)⟩ (bw_subP (isC := [3, 0, 1, 2]) hP rfl) (hD.sub [3, 0, 1, 2] (by decide) rfl) hS (Nat.le_of_ble_eq_true rfl) (Nat.le_of_ble_eq_true rfl) dX9_trail_58
        · refine lv_aload_n hx hb dX9_trail_44 rfl (lv_at hl 1 rfl) ?_
          refine r_get F hK hP 0 37 rfl rfl in_X9 (by decide) k_1200 rfl dX9_trail_45 ?_
          refine lv_iload_n hx hb dX9_trail_48 rfl (lv_at hl 2 rfl) ?_
          refine rz_iald F hK hP 3 0 rfl rfl (by omega) (by omega) dX9_trail_49 ?_
          have h_l49_22 := h_z15.2.1 (x).toNat (by omega)
          refine lv_goto (tgt := 58) hx hb dX9_trail_50 (by decide) ?_
          exact ret (zI (((u12 2).2 0) (x).toNat)) (fun k => [((u2 0).1, fun _ _ => 0), (fun _ => 0, fun _ => ((u12 1).2 0)), (fun _ => 0, fun _ => ((u12 2).2 0))].getD k (fun _ => 0, fun _ _ => 0)) _ _ _ _ _ _ rfl ⟨(((u12 2).2 0) (x).toNat), rfl, hp3.1, h_z15.1, h_z15.2.1, (show ((u2 0).1) 1 = i 1 ∧ ((u2 0).1) 8 = i 8 ∧ ((u2 0).1) 9 = i 9 ∧ ((u2 0).1) 12 = i 12 ∧ ((u2 0).1) 13 = i 13 ∧ ((u2 0).1) 15 = i 15 ∧ ((u2 0).1) 17 = i 17 ∧ ((u2 0).1) 10 ≠ 4 from by omega)⟩ (bw_subP (isC := [0, 1, 2, 3]) hP rfl) (hD.sub [0, 1, 2, 3] (by decide) rfl) hS (Nat.le_of_ble_eq_true rfl) (Nat.le_of_ble_eq_true rfl) dX9_trail_58
      · refine lv_aload_n hx hb dX9_trail_32 rfl (lv_at hl 1 rfl) ?_
        refine lv_bipush (v := zI 6) hx hb dX9_trail_33 (by decide) ?_
        refine r_callVi (As := [.int (zI 6)]) (rest := []) (wr := [((q 3), .inl (cI, 200, .inl (fun k => zI (g_now k)))), ((q 17), .inl (cI, 20, .inl (fun k => zI (((u12 1).2 0) k)))), ((q 18), .inl (cI, 180, .inl (fun k => zI (((u12 2).2 0) k))))]) F hK hP hD hS hA hO hE (c_X9_no hO y q ((u2 0).1) hp3.1 6 (by omega) (by omega)) k_1303 kv_X9_no 1 rfl (by decide +kernel) ⟨Nat.le_of_ble_eq_true rfl, Nat.le_of_ble_eq_true rfl⟩ [0] [1, 2, 3] rfl rfl (by decide) (by decide) (by decide) 0 9 rfl rfl rfl hl.1 rfl (Nat.le_of_ble_eq_true rfl) dX9_trail_35 ⟨Nat.le_of_ble_eq_true rfl, Nat.le_of_ble_eq_true rfl⟩ (w1 := fun u24 => [((q 3), .inl (cI, 200, .inl (fun k => zI (g_now k)))), ((q 17), .inl (cI, 20, .inl (fun k => zI (((u12 1).2 0) k)))), ((q 18), .inl (cI, 180, .inl (fun k => zI (((u12 2).2 0) k)))), (y, .inr (9, [.int (zI ((u24 0).1 0)), .ref (q 0), .int (zI ((u24 0).1 1)), .int (zI ((u24 0).1 2)), .int (zI ((u24 0).1 3)), .int (zI ((u24 0).1 4)), .int (zI ((u24 0).1 5)), .int (zI ((u24 0).1 6)), .int (zI ((u24 0).1 7)), .int (zI ((u24 0).1 8)), .int (zI ((u24 0).1 9)), .int (zI ((u24 0).1 10)), .ref (q 1), .int (zI ((u24 0).1 11)), .int (zI ((u24 0).1 12)), .ref (q 2), .ref (q 3), .ref (q 4), .ref (q 5), .ref (q 6), .ref (q 7), .ref (q 8), .ref (q 9), .ref (q 10), .ref (q 11), .ref (q 12), .ref (q 13), .ref (q 14), .ref (q 15), .ref (q 16), .int (zI ((u24 0).1 13)), .int (zI ((u24 0).1 14)), .int (zI ((u24 0).1 15)), .int (zI ((u24 0).1 16)), .int (zI ((u24 0).1 17)), .int (zI ((u24 0).1 18)), .ref (q 17), .ref (q 18), .ref (q 19), .ref (q 20)]))]) (fun _ => rfl) (fun r25 u24 H locs hp26 hP hD hS => ?_)
        obtain ⟨z27, rfl, h_z27⟩ := hp26
        have hf28 := h_z27.1.1
        exact ret (zI z27) (fun k => [((u24 0).1, fun _ _ => 0), (fun _ => 0, fun _ => ((u12 1).2 0)), (fun _ => 0, fun _ => ((u12 2).2 0))].getD k (fun _ => 0, fun _ _ => 0)) _ _ _ _ _ _ rfl ⟨z27, rfl, h_z27.1, h_z15.1, h_z15.2.1, (show ((u24 0).1) 1 = i 1 ∧ ((u24 0).1) 8 = i 8 ∧ ((u24 0).1) 9 = i 9 ∧ ((u24 0).1) 12 = i 12 ∧ ((u24 0).1) 13 = i 13 ∧ ((u24 0).1) 15 = i 15 ∧ ((u24 0).1) 17 = i 17 ∧ ((u24 0).1) 10 ≠ 4 from by omega)⟩ (bw_subP (isC := [3, 0, 1, 2]) hP rfl) (hD.sub [3, 0, 1, 2] (by decide) rfl) hS (Nat.le_of_ble_eq_true rfl) (Nat.le_of_ble_eq_true rfl) dX9_trail_38
    · refine lv_aload_n hx hb dX9_trail_15 rfl (lv_at hl 0 rfl) ?_
      refine lv_iconst (v := zI 1) hx hb dX9_trail_16 rfl ?_
      refine r_callVi (As := [.int (zI 1)]) (rest := []) (wr := [((q 3), .inl (cI, 200, .inl (fun k => zI (g_now k)))), ((q 17), .inl (cI, 20, .inl (fun k => zI (g_rest k)))), ((q 18), .inl (cI, 180, .inl (fun k => zI (g_trail k))))]) F hK hP hD hS hA hO hE (c_X9_no hO y q ((u2 0).1) hp3.1 1 (by omega) (by omega)) k_1303 kv_X9_no 1 rfl (by decide +kernel) ⟨Nat.le_of_ble_eq_true rfl, Nat.le_of_ble_eq_true rfl⟩ [3] [0, 1, 2] rfl rfl (by decide) (by decide) (by decide) 0 9 rfl rfl rfl hl.1 rfl (Nat.le_of_ble_eq_true rfl) dX9_trail_17 ⟨Nat.le_of_ble_eq_true rfl, Nat.le_of_ble_eq_true rfl⟩ (w1 := fun u29 => [((q 3), .inl (cI, 200, .inl (fun k => zI (g_now k)))), ((q 17), .inl (cI, 20, .inl (fun k => zI (g_rest k)))), ((q 18), .inl (cI, 180, .inl (fun k => zI (g_trail k)))), (y, .inr (9, [.int (zI ((u29 0).1 0)), .ref (q 0), .int (zI ((u29 0).1 1)), .int (zI ((u29 0).1 2)), .int (zI ((u29 0).1 3)), .int (zI ((u29 0).1 4)), .int (zI ((u29 0).1 5)), .int (zI ((u29 0).1 6)), .int (zI ((u29 0).1 7)), .int (zI ((u29 0).1 8)), .int (zI ((u29 0).1 9)), .int (zI ((u29 0).1 10)), .ref (q 1), .int (zI ((u29 0).1 11)), .int (zI ((u29 0).1 12)), .ref (q 2), .ref (q 3), .ref (q 4), .ref (q 5), .ref (q 6), .ref (q 7), .ref (q 8), .ref (q 9), .ref (q 10), .ref (q 11), .ref (q 12), .ref (q 13), .ref (q 14), .ref (q 15), .ref (q 16), .int (zI ((u29 0).1 13)), .int (zI ((u29 0).1 14)), .int (zI ((u29 0).1 15)), .int (zI ((u29 0).1 16)), .int (zI ((u29 0).1 17)), .int (zI ((u29 0).1 18)), .ref (q 17), .ref (q 18), .ref (q 19), .ref (q 20)]))]) (fun _ => rfl) (fun r30 u29 H locs hp31 hP hD hS => ?_)
      obtain ⟨z32, rfl, h_z32⟩ := hp31
      have hf33 := h_z32.1.1
      exact ret (zI z32) (fun k => [((u29 0).1, fun _ _ => 0), (fun _ => 0, fun _ => g_rest), (fun _ => 0, fun _ => g_trail)].getD k (fun _ => 0, fun _ _ => 0)) _ _ _ _ _ _ rfl ⟨z32, rfl, h_z32.1, hr_rest, hr_trail, (show ((u29 0).1) 1 = i 1 ∧ ((u29 0).1) 8 = i 8 ∧ ((u29 0).1) 9 = i 9 ∧ ((u29 0).1) 12 = i 12 ∧ ((u29 0).1) 13 = i 13 ∧ ((u29 0).1) 15 = i 15 ∧ ((u29 0).1) 17 = i 17 ∧ ((u29 0).1) 10 ≠ 4 from by omega)⟩ (bw_subP (isC := [3, 0, 1, 2]) hP rfl) (hD.sub [3, 0, 1, 2] (by decide) rfl) hS (Nat.le_of_ble_eq_true rfl) (Nat.le_of_ble_eq_true rfl) dX9_trail_20
